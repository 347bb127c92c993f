abbrev q_G : Type := va_G × (ClassId × ClassId × (Nat × Nat × (Nat → Int32)) × ClassId) × Nat × Nat × Nat
abbrev q_cI (g : q_G) : ClassId := g.2.1.1
abbrev q_cJ (g : q_G) : ClassId := g.2.1.2.1
abbrev q_sc (g : q_G) : Nat × Nat × (Nat → Int32) := g.2.1.2.2.1
abbrev q_cO (g : q_G) : ClassId := g.2.1.2.2.2
abbrev q_tys (g : q_G) : List (ClassId × FieldType) := [(g.2.1.1, .int), (g.2.1.2.1, .long), (g.2.1.1, .int), (g.2.1.2.2.2, .object "java/lang/Object")]
def q_A (g : q_G) : Nat → Prop := fun q => g.2.2.1 ≤ q
def STR : List (Nat × String) := [(162, "no such word or place"), (102, "no such word"), (106, "no such interview"), (160, "no such rule"), (203, "no such quote"), (199, "no such school"), (77, "no such year"), (63, "no such sound"), (70, "the draft has 8 sounds"), (73, "no such informant, place or word"), (84, "the draft is empty, or there are 40 interviews"), (104, "the draft is empty"), (133, "no such rule or interview"), (146, "the rule cannot rest on the interview, or does so"), (201, "the interview is forgotten, or there are 20 quotes"), (116, "no such sound, or no such place"), (122, "the sound cannot become that, or not before that"), (124, "no such range of places, or no such year"), (126, "there are 20 rules"), (187, "no such informant")]
def NCP : List (String × String) := []
def q_env (g : q_G) (U : State) : Prop :=
  g.2.2.1 ≤ U.heap.size ∧ va_K g.1 vwCl (q_tys g) U ∧ (∀ w ∈ NGW, va_Nw w U) ∧ (∀ q ∈ STR, ∃ sa, vk_R RX3 q.1 q.2 sa U) ∧ (∀ q ∈ NCP, va_Nc q.1 q.2 U) ∧
  vx_Zq Bundle.tN "UNASSIGNED_STACK" Bundle.steD (q_A g) U U.heap ∧ vx_Zq Bundle.tN "SUPPRESSED_SENTINEL" Bundle.listD (q_A g) U U.heap ∧
  va_Z "java/util/ArrayList" "DEFAULTCAPACITY_EMPTY_ELEMENTDATA" "[Ljava/lang/Object;" (.ref g.2.2.2.1) (q_A g) U U.heap ∧ va_T (.object "java/lang/Object") g.2.2.2.1 0 (fun _ => .null) (q_A g) U U.heap ∧ va_AO "java/lang/Object" U ∧ va_Mi "[Ljava/lang/Object;" g.2.2.2.2 U ∧ va_X (q_sc g).1 (q_sc g).2.1 (q_sc g).2.2 U U.heap ∧ (q_sc g).1 < g.2.2.1
theorem ng_warm {w : Cond} (hw : ngk w = true) {s U : State} (hW : s.WarmedH U.vm) (h : va_Nw w s) : va_Nw w U := by
  cases w <;> first | exact va_Nw.warmF hW h | exact va_Nw.warmM hW h | exact va_Nw.warmC hW h | exact va_Nw.warmD hW h | (cases hw; done)
theorem ng_tab {w : Cond} (hw : ngk w = true) : w.onTables = true := by
  cases w <;> first | rfl | (cases hw; done)
theorem ng_ng {w : Cond} (hw : w ∈ NGW) : ngk w = true := (List.mem_filter.mp hw).2
theorem q_env.go {g : q_G} {s U : State} {H : Heap} {locs : List Loc} (h : q_env g s) (hU : U.heap = H) (hW : s.WarmedH U.vm) (hS : va_S (q_A g) s.heap H locs) : q_env g U := by
  obtain ⟨h1, h2, h3, h4, h5, h6, h7, h8, h9, h10, h11, h12, h13⟩ := h
  have ha := hW.alike
  have hk : ∀ a : Nat, a < s.heap.size → ¬ q_A g a → U.heap[a]? = s.heap[a]? := fun a z1 z2 => by rw [hU]; exact hS.2.1 a z1 z2
  exact ⟨Nat.le_trans h1 (by rw [hU]; exact hS.1), va_K.moved ha h2, fun w hw => ng_warm (ng_ng hw) hW (h3 w hw), fun q hq => (h4 q hq).elim (fun sa z => ⟨sa, vk_R.warm hW z⟩), fun q hq => va_Nc.moved ha (h5 q hq),
    vx_Zq.kept (vx_Zq.moved ha h6) hk, vx_Zq.kept (vx_Zq.moved ha h7) hk, va_Z.kept (va_Z.moved ha h8) hk, va_T.kept (va_T.moved ha h9) hk, va_AO.moved ha h10, va_Mi.moved ha h11, va_X.kept (va_X.moved ha h12) (hk _ (Nat.lt_of_lt_of_le h13 h1) (fun z => Nat.not_le.mpr h13 z)), h13⟩
theorem q_env.calling {g : q_G} {U : State} (h : q_env g U) (gf : JFrame) (mk : MethodId) (a : Array Value) : q_env g (U.calling gf mk a) :=
  h.go (H := U.heap) (locs := []) rfl (State.WarmedH.refl U) va_S.rf
def q_in (g : q_G) (ws : va_W) (H : Heap) : Prop := va_P g.1 vwCl ws H ∧ va_D (q_A g) ws
def q_Pc (g : q_G) (av : List Value) (ws : va_W) : Array Value → State → Prop := va_Pc av (fun U => q_env g U ∧ q_in g ws U.heap)
theorem q_Pc.blind {g : q_G} {av : List Value} {ws : va_W} : FrameBlind (q_Pc g av ws) := fun a U gf mk h => ⟨h.1, h.2.1.calling gf mk a, h.2.2⟩
def q_B (g : q_G) : va_W → State → Prop := fun w t => q_in g w t.heap
abbrev q_Qi (g : q_G) (post : Int32 → va_W → Prop) : Array Value → State → Outcome → State → Prop := va_Qi post (q_B g) (q_A g)
abbrev q_Ql (g : q_G) (post : Int64 → va_W → Prop) : Array Value → State → Outcome → State → Prop := va_Ql post (q_B g) (q_A g)
abbrev q_Qv (g : q_G) (post : va_W → Prop) : Array Value → State → Outcome → State → Prop := va_Qv post (q_B g) (q_A g)
abbrev q_Qq (g : q_G) (post : Option Nat → va_W → Prop) : Array Value → State → Outcome → State → Prop := va_Qq post (q_B g) (q_A g)
abbrev q_XC (g : q_G) (pe : String → va_W → Prop) : String → State → State → Prop := vx_X (fun _ : va_W => True) (fun E w t => pe E w ∧ q_in g w t.heap) (q_A g)
abbrev MetW (l : Launch) (g : q_G) (y : MethodName) (bytes : ByteArray) (maxL : Nat) (ret : Option FieldType) (rm : Room) (av : List Value) (ws : va_W) (Qc : Array Value → State → Outcome → State → Prop) : Prop := Met l y (Cond.code y bytes maxL ret :: WS) rm (q_Pc g av ws) Qc rm.cells rm.slots (q_A g)
abbrev MetX (l : Launch) (g : q_G) (y : MethodName) (bytes : ByteArray) (maxL : Nat) (ret : Option FieldType) (rm : Room) (av : List Value) (ws : va_W) (Qc : Array Value → State → Outcome → State → Prop) (pe : String → va_W → Prop) : Prop := vx_Met l y (Cond.code y bytes maxL ret :: WS) rm (q_Pc g av ws) Qc (q_XC g pe) rm.cells rm.slots (q_A g)
abbrev MetH (l : Launch) (g : q_G) (y : MethodName) (bytes : ByteArray) (maxL : Nat) (ret : Option FieldType) (hh : List (Nat × Nat × Nat × Nat)) (rm : Room) (av : List Value) (ws : va_W) (Qc : Array Value → State → Outcome → State → Prop) : Prop := Met l y (Cond.codeWith y bytes maxL ret hh :: WS) rm (q_Pc g av ws) Qc rm.cells rm.slots (q_A g)
theorem ws_good {w : Cond} (h : w ∈ WS) : goodWord w = true := (List.mem_filter.mp h).2
theorem gi_ws {ws : List Cond} (h : ∀ w ∈ ws, w ∈ WS) : GoodIn WS ws := fun w hw => ⟨h w hw, good_of_word (ws_good (h w hw))⟩
theorem gi_code {c : Cond} (h : c ∈ WS) : GoodIn WS (c :: WS) := gi_ws (fun w hw => (List.mem_cons.mp hw).elim (fun e => e ▸ h) id)
theorem gi_V {own C : String} {idx : Nat} {y : MethodName} {c : Cond} (m1 : Cond.methodLink own idx y ∈ WS) (m2 : Cond.instanceMethod y ∈ WS) (m3 : Cond.selects C y y ∈ WS) (m4 : Cond.initialized C ∈ WS) (m5 : c ∈ WS) : GoodIn WS (wsV own idx C y (c :: WS)) := gi_ws (fun w hw => by
  simp only [wsV, List.cons_append, List.nil_append, List.mem_cons] at hw
  rcases hw with rfl | rfl | rfl | rfl | rfl | hw
  · exact m1
  · exact m2
  · exact m3
  · exact m4
  · exact m5
  · exact hw)
theorem gi_S {own : String} {idx : Nat} {y : MethodName} {c : Cond} (m1 : Cond.methodLink own idx y ∈ WS) (m2 : Cond.static y ∈ WS) (m4 : Cond.initialized y.cls ∈ WS) (m5 : c ∈ WS) : GoodIn WS (va_wsS own idx y (c :: WS)) := gi_ws (fun w hw => by
  simp only [va_wsS, List.cons_append, List.nil_append, List.mem_cons] at hw
  rcases hw with rfl | rfl | rfl | rfl | hw
  · exact m1
  · exact m2
  · exact m4
  · exact m5
  · exact hw)
def bI : Bool → Int32
  | true => 1
  | false => 0
theorem bI_f : bI false = 0 := rfl
theorem bI_t : bI true = 1 := rfl
theorem bI_z (b : Bool) : bI b = 0 ↔ b = false := by cases b <;> decide
theorem bI_nar (b : Bool) : narrow .boolean (.int (bI b)) = .int (bI b) := by cases b <;> rfl
theorem bI_vnar (b : Bool) : vp_nar .boolean (bI b) = bI b := by cases b <;> rfl
theorem q_lkm {i : Nat} {v : Value} : ∀ {lv : List (Nat × Value)}, lv.lookup i = some v → (i, v) ∈ lv
  | [], h => by simp at h
  | (k, b) :: xs, h => by
    rw [List.lookup_cons] at h
    by_cases hk : (i == k) = true
    · rw [hk] at h
      have e : i = k := by simpa using hk
      have e2 : b = v := by simpa using h
      subst e; subst e2
      exact List.mem_cons_self
    · rw [Bool.eq_false_iff.mpr hk] at h
      exact List.mem_cons_of_mem _ (q_lkm h)
theorem q_lk {ls : Array Slot} {nL : Nat} {lv : List (Nat × Value)} {i : Nat} {v : Value} (h : lv_has ls nL lv) (hk : lv.lookup i = some v) : ls[i]? = some (.val v) := h.2.2 (i, v) (q_lkm hk)
theorem q_lks {ls : Array Slot} {nL : Nat} {lv lv' : List (Nat × Value)} (h : lv_has ls nL lv) (hs : ∀ q ∈ lv', q ∈ lv) : lv_has ls nL lv' := ⟨h.1, h.2.1, fun q hq => h.2.2 q (hs q hq)⟩
/-- two worlds of the same cells -/
theorem q_P_perm {D : va_G} {cl : List vw_C} {a b : va_W} {H : Heap} (hp : a.Perm b) (h : va_P D cl a H) : va_P D cl b H := fun k q hq => by
  obtain ⟨i, hi⟩ := List.getElem?_of_mem (hp.mem_iff.mpr (List.mem_of_getElem? hq))
  exact h i q hi
theorem q_D_nd {A : Nat → Prop} {a : va_W} : va_D A a ↔ (a.map Prod.fst).Nodup ∧ ∀ q ∈ a, A q.1 := by
  constructor
  · intro h
    refine ⟨?_, fun q hq => ?_⟩
    · rw [List.Nodup, List.pairwise_iff_getElem]
      intro i j hi hj hij he
      have hi' : i < a.length := by simpa using hi
      have hj' : j < a.length := by simpa using hj
      have e1 : a[i]? = some a[i] := List.getElem?_eq_getElem hi'
      have e2 : a[j]? = some a[j] := List.getElem?_eq_getElem hj'
      have := h.1 i j _ _ e1 e2 (by simpa using he)
      omega
    · obtain ⟨k, hk⟩ := List.getElem?_of_mem hq
      exact h.2 k q hk
  · intro h
    refine ⟨fun i j p q hi hj he => ?_, fun k q hk => h.2 q (List.mem_of_getElem? hk)⟩
    have hn := List.pairwise_iff_getElem.mp h.1
    obtain ⟨li, ei⟩ := List.getElem?_eq_some_iff.mp hi
    obtain ⟨lj, ej⟩ := List.getElem?_eq_some_iff.mp hj
    rcases Nat.lt_trichotomy i j with z | z | z
    · exact absurd (show (a.map Prod.fst)[i]'(by simpa using li) = (a.map Prod.fst)[j]'(by simpa using lj) by rw [List.getElem_map, List.getElem_map, ei, ej]; exact he) (hn i j _ _ z)
    · exact z
    · exact absurd (show (a.map Prod.fst)[j]'(by simpa using lj) = (a.map Prod.fst)[i]'(by simpa using li) by rw [List.getElem_map, List.getElem_map, ei, ej]; exact he.symm) (hn j i _ _ z)
theorem q_D_perm {A : Nat → Prop} {a b : va_W} (hp : a.Perm b) (h : va_D A a) : va_D A b := by
  rw [q_D_nd] at h ⊢
  exact ⟨(hp.map Prod.fst).nodup_iff.mp h.1, fun q hq => h.2 q (hp.mem_iff.mpr hq)⟩
theorem q_in.perm {g : q_G} {a b : va_W} {H : Heap} (hp : a.Perm b) (h : q_in g a H) : q_in g b H := ⟨q_P_perm hp h.1, q_D_perm hp h.2⟩
