section
-- ===== PART A: goes FIRST, ahead of the names: the tables' words, and 'selects' of the private methods out of them =====
/-- a private method of a class that the tables say can be made, by its rows of tables_1 -/
def lw_okq (q : MethodName × Nat) : Prop := (q.1.cls ≠ "java/lang/invoke/MethodHandle" ∧ q.1.cls ≠ "java/lang/invoke/VarHandle") ∧ Cond.instantiable q.1.cls q.2 ∈ tables_1 ∧ Cond.privateMethod q.1 ∈ tables_1 ∧ Cond.instanceMethod q.1 ∈ tables_1
theorem lw_p0 : lw_okq (⟨"java/lang/Throwable", "fillInStackTrace", "(I)Ljava/lang/Throwable;"⟩, 6) := ⟨⟨by decide +kernel, by decide +kernel⟩, List.mem_of_getElem? (i := 168) (by decide +kernel), List.mem_of_getElem? (i := 166) (by decide +kernel), List.mem_of_getElem? (i := 167) (by decide +kernel)⟩
theorem lw_p1 : lw_okq (⟨"DialectAtlas", "mostToldForm", "(II)I"⟩, 10) := ⟨⟨by decide +kernel, by decide +kernel⟩, List.mem_of_getElem? (i := 22) (by decide +kernel), List.mem_of_getElem? (i := 198) (by decide +kernel), List.mem_of_getElem? (i := 199) (by decide +kernel)⟩
theorem lw_p2 : lw_okq (⟨"DialectAtlas", "isThere", "(LDialectAtlas$Interview;)Z"⟩, 10) := ⟨⟨by decide +kernel, by decide +kernel⟩, List.mem_of_getElem? (i := 22) (by decide +kernel), List.mem_of_getElem? (i := 221) (by decide +kernel), List.mem_of_getElem? (i := 222) (by decide +kernel)⟩
theorem lw_p3 : lw_okq (⟨"DialectAtlas$Interview", "isFor", "(II)Z"⟩, 6) := ⟨⟨by decide +kernel, by decide +kernel⟩, List.mem_of_getElem? (i := 227) (by decide +kernel), List.mem_of_getElem? (i := 225) (by decide +kernel), List.mem_of_getElem? (i := 226) (by decide +kernel)⟩
theorem lw_p4 : lw_okq (⟨"DialectAtlas", "countLike", "(LDialectAtlas$Interview;)I"⟩, 10) := ⟨⟨by decide +kernel, by decide +kernel⟩, List.mem_of_getElem? (i := 22) (by decide +kernel), List.mem_of_getElem? (i := 230) (by decide +kernel), List.mem_of_getElem? (i := 231) (by decide +kernel)⟩
theorem lw_p5 : lw_okq (⟨"DialectAtlas", "drawLines", "(I)I"⟩, 10) := ⟨⟨by decide +kernel, by decide +kernel⟩, List.mem_of_getElem? (i := 22) (by decide +kernel), List.mem_of_getElem? (i := 243) (by decide +kernel), List.mem_of_getElem? (i := 244) (by decide +kernel)⟩
theorem lw_p6 : lw_okq (⟨"DialectAtlas", "formIfThere", "(LDialectAtlas$Interview;)I"⟩, 10) := ⟨⟨by decide +kernel, by decide +kernel⟩, List.mem_of_getElem? (i := 22) (by decide +kernel), List.mem_of_getElem? (i := 252) (by decide +kernel), List.mem_of_getElem? (i := 253) (by decide +kernel)⟩
theorem lw_p7 : lw_okq (⟨"DialectAtlas", "applyRules", "(III)I"⟩, 10) := ⟨⟨by decide +kernel, by decide +kernel⟩, List.mem_of_getElem? (i := 22) (by decide +kernel), List.mem_of_getElem? (i := 260) (by decide +kernel), List.mem_of_getElem? (i := 261) (by decide +kernel)⟩
theorem lw_p8 : lw_okq (⟨"DialectAtlas$Rule", "goesAt", "(II)Z"⟩, 8) := ⟨⟨by decide +kernel, by decide +kernel⟩, List.mem_of_getElem? (i := 267) (by decide +kernel), List.mem_of_getElem? (i := 265) (by decide +kernel), List.mem_of_getElem? (i := 266) (by decide +kernel)⟩
theorem lw_p9 : lw_okq (⟨"DialectAtlas$Rule", "applyTo", "(I)I"⟩, 8) := ⟨⟨by decide +kernel, by decide +kernel⟩, List.mem_of_getElem? (i := 267) (by decide +kernel), List.mem_of_getElem? (i := 270) (by decide +kernel), List.mem_of_getElem? (i := 271) (by decide +kernel)⟩
theorem lw_p10 : lw_okq (⟨"DialectAtlas$Rule", "changes", "(II)Z"⟩, 8) := ⟨⟨by decide +kernel, by decide +kernel⟩, List.mem_of_getElem? (i := 267) (by decide +kernel), List.mem_of_getElem? (i := 274) (by decide +kernel), List.mem_of_getElem? (i := 275) (by decide +kernel)⟩
theorem lw_p11 : lw_okq (⟨"DialectAtlas$StepCounter", "countSteps", "(II)I"⟩, 1) := ⟨⟨by decide +kernel, by decide +kernel⟩, List.mem_of_getElem? (i := 56) (by decide +kernel), List.mem_of_getElem? (i := 278) (by decide +kernel), List.mem_of_getElem? (i := 279) (by decide +kernel)⟩
theorem lw_p12 : lw_okq (⟨"DialectAtlas$StepCounter", "goThrough", "(II)I"⟩, 1) := ⟨⟨by decide +kernel, by decide +kernel⟩, List.mem_of_getElem? (i := 56) (by decide +kernel), List.mem_of_getElem? (i := 282) (by decide +kernel), List.mem_of_getElem? (i := 283) (by decide +kernel)⟩
theorem lw_p13 : lw_okq (⟨"DialectAtlas", "takeDraft", "()I"⟩, 10) := ⟨⟨by decide +kernel, by decide +kernel⟩, List.mem_of_getElem? (i := 22) (by decide +kernel), List.mem_of_getElem? (i := 380) (by decide +kernel), List.mem_of_getElem? (i := 381) (by decide +kernel)⟩
theorem lw_p14 : lw_okq (⟨"java/util/ArrayList", "add", "(Ljava/lang/Object;[Ljava/lang/Object;I)V"⟩, 3) := ⟨⟨by decide +kernel, by decide +kernel⟩, List.mem_of_getElem? (i := 30) (by decide +kernel), List.mem_of_getElem? (i := 418) (by decide +kernel), List.mem_of_getElem? (i := 419) (by decide +kernel)⟩
theorem lw_p15 : lw_okq (⟨"java/util/ArrayList", "grow", "()[Ljava/lang/Object;"⟩, 3) := ⟨⟨by decide +kernel, by decide +kernel⟩, List.mem_of_getElem? (i := 30) (by decide +kernel), List.mem_of_getElem? (i := 422) (by decide +kernel), List.mem_of_getElem? (i := 423) (by decide +kernel)⟩
def lw_privs_1 : List (MethodName × Nat) := [(⟨"java/lang/Throwable", "fillInStackTrace", "(I)Ljava/lang/Throwable;"⟩, 6), (⟨"DialectAtlas", "mostToldForm", "(II)I"⟩, 10), (⟨"DialectAtlas", "isThere", "(LDialectAtlas$Interview;)Z"⟩, 10), (⟨"DialectAtlas$Interview", "isFor", "(II)Z"⟩, 6), (⟨"DialectAtlas", "countLike", "(LDialectAtlas$Interview;)I"⟩, 10), (⟨"DialectAtlas", "drawLines", "(I)I"⟩, 10), (⟨"DialectAtlas", "formIfThere", "(LDialectAtlas$Interview;)I"⟩, 10), (⟨"DialectAtlas", "applyRules", "(III)I"⟩, 10), (⟨"DialectAtlas$Rule", "goesAt", "(II)Z"⟩, 8), (⟨"DialectAtlas$Rule", "applyTo", "(I)I"⟩, 8), (⟨"DialectAtlas$Rule", "changes", "(II)Z"⟩, 8), (⟨"DialectAtlas$StepCounter", "countSteps", "(II)I"⟩, 1), (⟨"DialectAtlas$StepCounter", "goThrough", "(II)I"⟩, 1), (⟨"DialectAtlas", "takeDraft", "()I"⟩, 10), (⟨"java/util/ArrayList", "add", "(Ljava/lang/Object;[Ljava/lang/Object;I)V"⟩, 3), (⟨"java/util/ArrayList", "grow", "()[Ljava/lang/Object;"⟩, 3)]
theorem lw_r1 : ∀ q ∈ lw_privs_1, lw_okq q := List.forall_mem_cons.mpr ⟨lw_p0, List.forall_mem_cons.mpr ⟨lw_p1, List.forall_mem_cons.mpr ⟨lw_p2, List.forall_mem_cons.mpr ⟨lw_p3, List.forall_mem_cons.mpr ⟨lw_p4, List.forall_mem_cons.mpr ⟨lw_p5, List.forall_mem_cons.mpr ⟨lw_p6, List.forall_mem_cons.mpr ⟨lw_p7, List.forall_mem_cons.mpr ⟨lw_p8, List.forall_mem_cons.mpr ⟨lw_p9, List.forall_mem_cons.mpr ⟨lw_p10, List.forall_mem_cons.mpr ⟨lw_p11, List.forall_mem_cons.mpr ⟨lw_p12, List.forall_mem_cons.mpr ⟨lw_p13, List.forall_mem_cons.mpr ⟨lw_p14, List.forall_mem_cons.mpr ⟨lw_p15, fun _ h => absurd h List.not_mem_nil⟩⟩⟩⟩⟩⟩⟩⟩⟩⟩⟩⟩⟩⟩⟩⟩
theorem lw_p16 : lw_okq (⟨"java/util/ArrayList", "grow", "(I)[Ljava/lang/Object;"⟩, 3) := ⟨⟨by decide +kernel, by decide +kernel⟩, List.mem_of_getElem? (i := 30) (by decide +kernel), List.mem_of_getElem? (i := 426) (by decide +kernel), List.mem_of_getElem? (i := 427) (by decide +kernel)⟩
theorem lw_p17 : lw_okq (⟨"DialectAtlas$Rule", "restsOn", "(LDialectAtlas$Interview;)Z"⟩, 8) := ⟨⟨by decide +kernel, by decide +kernel⟩, List.mem_of_getElem? (i := 267) (by decide +kernel), List.mem_of_getElem? (i := 477) (by decide +kernel), List.mem_of_getElem? (i := 478) (by decide +kernel)⟩
theorem lw_p18 : lw_okq (⟨"DialectAtlas", "interviewsOf", "(I)J"⟩, 10) := ⟨⟨by decide +kernel, by decide +kernel⟩, List.mem_of_getElem? (i := 22) (by decide +kernel), List.mem_of_getElem? (i := 537) (by decide +kernel), List.mem_of_getElem? (i := 538) (by decide +kernel)⟩
theorem lw_p19 : lw_okq (⟨"DialectAtlas$Rule", "restNoMoreOn", "(J)V"⟩, 8) := ⟨⟨by decide +kernel, by decide +kernel⟩, List.mem_of_getElem? (i := 267) (by decide +kernel), List.mem_of_getElem? (i := 541) (by decide +kernel), List.mem_of_getElem? (i := 542) (by decide +kernel)⟩
def lw_privs_2 : List (MethodName × Nat) := [(⟨"java/util/ArrayList", "grow", "(I)[Ljava/lang/Object;"⟩, 3), (⟨"DialectAtlas$Rule", "restsOn", "(LDialectAtlas$Interview;)Z"⟩, 8), (⟨"DialectAtlas", "interviewsOf", "(I)J"⟩, 10), (⟨"DialectAtlas$Rule", "restNoMoreOn", "(J)V"⟩, 8)]
theorem lw_r2 : ∀ q ∈ lw_privs_2, lw_okq q := List.forall_mem_cons.mpr ⟨lw_p16, List.forall_mem_cons.mpr ⟨lw_p17, List.forall_mem_cons.mpr ⟨lw_p18, List.forall_mem_cons.mpr ⟨lw_p19, fun _ h => absurd h List.not_mem_nil⟩⟩⟩⟩
def lw_privs : List (MethodName × Nat) := lw_privs_1 ++ (lw_privs_2)
def lw_tbl : List Cond := k2_sels lw_privs ++ tables_1
theorem lw_privs_ok : ∀ q ∈ lw_privs, lw_okq q := by
  show ∀ q ∈ lw_privs_1 ++ (lw_privs_2), lw_okq q
  exact List.forall_mem_append.mpr ⟨lw_r1, lw_r2⟩
end
section
/-! ===== BEGIN words of one list among another's, by their places ===== -/
theorem goodIn_r {big : List Cond} (ws : List Cond) (ps : List Nat) (hp : ws = ps.filterMap (fun i => big[i]?)) (h : ws.all goodWord = true) : GoodIn big ws := by
  intro w hw
  have h1 := List.all_eq_true.mp h w hw
  rw [hp] at hw
  obtain ⟨i, -, hi⟩ := List.mem_filterMap.mp hw
  have hm : w ∈ big := by first | exact List.mem_of_getElem? hi | exact List.getElem?_mem hi
  exact ⟨hm, good_of_word h1⟩
theorem goodIn_app {big a b : List Cond} (ha : GoodIn big a) (hb : GoodIn big b) : GoodIn big (a ++ b) := fun w h => (List.mem_append.mp h).elim (ha w) (hb w)
theorem goodIn_ca {big a b : List Cond} {c : Cond} (ha : GoodIn big (c :: a)) (hb : GoodIn big b) : GoodIn big (c :: (a ++ b)) := fun w h => (List.mem_cons.mp h).elim (fun e => ha w (List.mem_cons.mpr (Or.inl e))) (fun h => (List.mem_append.mp h).elim (fun h => ha w (List.mem_cons.mpr (Or.inr h))) (hb w))
theorem goodIn_sub {big ws : List Cond} (hm : ∀ w ∈ ws, w ∈ big) (h : ws.all goodWord = true) : GoodIn big ws := fun w hw => ⟨hm w hw, good_of_word (List.all_eq_true.mp h w hw)⟩
/-! ===== END ===== -/

/-! ===== BEGIN exceptions that leave a method, and their catching by the caller (launches without stack traces) ===== -/
section VXA
/-! The laws vx_back, vx_callV, vx_callS, vx_callSW, vx_throw0, vx_throwS follow proofs of the library, with one case more: JvmDerived/Free/Laws.lean (Back.of_free), Shelf42/LK1.lean (callV, callS), Shelf/KitTraced.lean (throwNew0V, throwNewS). -/
/-- where a method has thrown q: the class by its name, the cell, what was written, the world -/
def vx_T (XC : String → State → State → Prop) (st : State) (q : Addr) (t : State) (mc ms : Nat) (free : Addr → Prop) : Prop :=
  ∃ (E : String) (ce : Cell) (L : List Loc), XC E st t ∧ t.heap[q]? = some ce ∧ ce.vm = .none ∧ st.vm.findClass E = some ce.cls ∧ st.WarmedH t.vm ∧ st.sameButNew ({ t with vm := st.vm } : State) L mc ms ∧ ∀ z ∈ L, free z.base
def vx_Q (Qc : Array Value → State → Outcome → State → Prop) (XC : String → State → State → Prop) (mc ms : Nat) (free : Addr → Prop) : Array Value → State → Outcome → State → Prop := fun a st o t =>
  (Qc a st o t ∧ ∃ L, FrameEnd st o t L mc ms ∧ ∀ q ∈ L, free q.base) ∨ ∃ q, o = .threw q ∧ vx_T XC st q t mc ms free
/-- a callee that returns or throws -/
def vx_Met (l : Launch) (y : MethodName) (ws : List Cond) (rm : Room) (Pc : Array Value → State → Prop) (Qc : Array Value → State → Outcome → State → Prop) (XC : String → State → State → Prop) (mc ms : Nat) (free : Addr → Prop) : Prop :=
  MetFree l y (headSpec ws rm) Pc (fun _ _ _ _ _ => True) (vx_Q Qc XC mc ms free)
def vx_Post (XC : String → State → State → Prop) (mc ms : Nat) (free : Addr → Prop) : Pt → Array Value → Addr → Pt → Prop := fun A a q B =>
  ∃ (g : JFrame) (mk : MethodId) (t : State) (L : List Loc) (E : String) (ce : Cell), B.U.heap = t.heap ∧ B.U.vm = t.vm ∧ XC E (A.U.calling g mk a) t ∧ t.heap[q]? = some ce ∧ ce.vm = .none ∧ A.U.vm.findClass E = some ce.cls ∧ B.locs = A.locs ++ L ∧ (∀ z ∈ L, free z.base) ∧ B.cells = A.cells + mc ∧ B.slots = A.slots + ms
def vx_Back (l : Launch) (R : Room) (p : Program) (e : Env) (below : List Frame) (s : State) (sargs : Array Value) (y : MethodName) (len W9 : Nat)
    (Pre : Pt → Array Value → Prop) (Post : Pt → Array Value → Option Value → Pt → Prop) (PostX : Pt → Array Value → Addr → Pt → Prop) : Prop :=
  ∀ (m : MethodId) (meth : Method) (c : Code) (A : Pt) (g : JFrame) (ig : Instr) (mk : MethodId) (a : Array Value),
    Stand p l e R s m sargs below meth c A.U A.locs A.cells A.slots → g.method = m → g.locals.size = c.maxLocals → decode c.code g.pc = .ok (ig, len) →
    2 * g.monitorRoom + (g.stack.map fun v => v.category).sum ≤ W9 → A.U.methodNamed? y = some mk → Pre A a →
    (∃ (v : Option Value) (B : Pt), Stand p l e R s m sargs below meth c B.U B.locs B.cells B.slots ∧ Post A a v B ∧
      Steps p.tables e below (doInvoke e (A.U.setTop g) [] mk a).1 (B.U.setTop { g with pc := g.pc + len, stack := v.toList ++ g.stack })) ∨
    (∃ (q : Addr) (B : Pt), Stand p l e R s m sargs below meth c B.U B.locs B.cells B.slots ∧ PostX A a q B ∧
      Steps p.tables e below (doInvoke e (A.U.setTop g) [] mk a).1 ((B.U.setTop g).pushFrame (.throwing q)))
section Payer
variable {l : Launch} {R : Room} {p : Program} {e : Env} {below : List Frame} {s : State} {sargs : Array Value} {y : MethodName} {len W9 : Nat}
theorem vx_back {ws : List Cond} {rm : Room} {Pc : Array Value → State → Prop} {Qc : Array Value → State → Outcome → State → Prop} {XC : String → State → State → Prop} {mc ms : Nat} {free : Addr → Prop} {bytes : ByteArray} {maxL : Nat} {ret : Option FieldType}
    (hM : vx_Met l y ws rm Pc Qc XC mc ms free) (hblind : FrameBlind Pc) (hrc : rm.cells = mc) (hrs : rm.slots = ms)
    (hframes : rm.frames + 1 ≤ R.frames) (hlocals : W9 + (maxL + 11) + rm.locals ≤ R.locals)
    (hws : ∀ w ∈ ws, ∀ a' U, s.WarmedH U.vm → w.before a' U = true) (hcode : Cond.code y bytes maxL ret ∈ ws) (hinit : ∀ a' U, s.WarmedH U.vm → (Cond.initialized y.cls).before a' U = true) :
    vx_Back l R p e below s sargs y len W9 (PreOf R mc ms Pc) (PostOf Qc mc ms free) (vx_Post XC mc ms free) := by
  intro m meth c A g ig mk a X hg hsize hdg hW hn hp
  have h1 : (headSpec ws rm).pre.before a A.U = true := atoms_intro fun w hw => hws w hw _ _ X.warmed
  have h2 : (Cond.code y bytes maxL ret).before a A.U = true := hws _ hcode _ _ X.warmed
  have h3 : (Cond.initialized y.cls).before a A.U = true := hinit _ _ X.warmed
  have h4 : A.cells + (headSpec ws rm).room.cells ≤ R.cells := by rw [show (headSpec ws rm).room.cells = mc from hrc]; exact hp.1
  have h5 : A.slots + (headSpec ws rm).room.slots ≤ R.slots := by rw [show (headSpec ws rm).room.slots = ms from hrs]; exact hp.2.1
  have hPc : Pc a (A.U.calling g mk a) := hblind _ _ _ _ hp.2.2
  obtain ⟨U, Ls, c0, s0⟩ := A
  dsimp only [Pt.U, Pt.locs, Pt.cells, Pt.slots] at h1 h2 h3 h4 h5 X hn hPc ⊢
  obtain ⟨methY, cY, hmY, hcY, -, hlY, -, -, -, -⟩ := Cond.code_spec hn h2
  obtain ⟨kY, hkY, -⟩ := className_of_methodNamed hn
  have hinitY : kY.init = .initialized := Cond.initialized_spec (findClass_of_methodNamed hn) hkY h3
  have h : At U g.method c below := by rw [hg]; exact X.here
  have hlocals9 : W9 + (maxL + 11) + (headSpec ws rm).room.locals ≤ R.locals := hlocals
  have happ : (headSpec ws rm).appliesLoose y e.platform (U.calling g mk a) = true :=
    Spec.appliesLoose_calling (g := g) h hdg hn hkY hinitY
      (X.room_calling (g := g) (R' := (headSpec ws rm).room) hsize hmY hcY hframes (by rw [hlY]; omega) h4 h5) h1
  obtain ⟨mid, hmid⟩ := h.above
  have hfr : (U.setTop g).frames = (.java g :: mid) ++ below := by rw [State.frames_setTop' g h.top, hmid]; rfl
  obtain ⟨o, s₂, hsteps, -, hend, hq⟩ := Steps.callFree hM p X.admits X.cas X.clock (acts := []) hfr happ hPc trivial
  have hq' : vx_Q Qc XC mc ms free a (U.calling g mk a) o s₂ := hq
  rw [State.frames_setTop' g h.top] at hend
  obtain ⟨g₀, hg0⟩ := Option.isSome_iff_exists.mp h.top
  obtain ⟨r, hr⟩ := State.topJava?_eq_some.mp hg0
  have hr' : (({ U with heap := s₂.heap, slotsUsed := s₂.slotsUsed } : State).setVm s₂.vm).frames = .java g₀ :: r := hr
  rcases hq' with ⟨hqc, L, hfe, hL⟩ | ⟨q, rfl, E, ce, L, hx, hce, hcv, hcl, hW₂, hsm, hL⟩
  · obtain ⟨⟨v, rfl⟩, hW₂, e2, q2, q3, q4, q5, q6⟩ := id hfe
    have e3 : s₂ = ({ (U.calling g mk a).setFrames s₂.frames with heap := s₂.heap, slotsUsed := s₂.slotsUsed } : State).setVm s₂.vm := by
      have : s₂ = ({ s₂ with vm := (U.calling g mk a).vm } : State).setVm s₂.vm := rfl
      rw [e2] at this
      exact this
    obtain ⟨c₂, i₂, len₂, hc₂, hd₂, hf₂⟩ := hend
    have hW' : U.WarmedH s₂.vm := hW₂
    have hcc : c₂ = c := by
      have h1 : s₂.code? g.method = U.code? g.method := by
        rw [State.code?_eq, State.code?_eq, hW'.alike.method?]
      exact Option.some.inj (hc₂.symm.trans (h1.trans h.code))
    subst hcc
    have hlen : len₂ = len := by rw [hdg] at hd₂; cases hd₂; rfl
    subst hlen
    have hs₂ : s₂ = (({ U with heap := s₂.heap, slotsUsed := s₂.slotsUsed } : State).setVm s₂.vm).setTop { g with pc := g.pc + len₂, stack := v.toList ++ g.stack } := by
      refine e3.trans ?_
      rw [hf₂, State.calling_eq h.top, State.setFrames_setFrames, State.setTop_of_frames _ hr', hr]
      rfl
    have hsame : U.sameButNew ({ U with heap := s₂.heap, slotsUsed := s₂.slotsUsed } : State) L mc ms := by
      refine ⟨?_, q2, q3, q4, q5, q6⟩
      obtain ⟨t, ht, -⟩ := State.frames_cons hr
      show ({ U with heap := s₂.heap, slotsUsed := s₂.slotsUsed } : State) = { U.setFrames U.frames with heap := s₂.heap, slotsUsed := s₂.slotsUsed }
      rw [State.setFrames_self ht]
    subst hg
    refine Or.inl ⟨v, ⟨(({ U with heap := s₂.heap, slotsUsed := s₂.slotsUsed } : State).setVm s₂.vm), Ls ++ L, c0 + mc, s0 + ms⟩,
      ⟨X.admits, X.cas, X.clock, X.frames, X.room, X.hears, X.method, X.code, (X.here.setHeapUsed s₂.heap s₂.slotsUsed).setVm hW'.alike, X.tail, State.WarmedH.trans X.warmed hW', X.limits, X.bytes, X.same.trans (hsame.setVm s.vm)⟩,
      ⟨g, mk, s₂, L, rfl, rfl, hqc, rfl, hL, rfl, rfl⟩, ?_⟩
    show Steps p.tables e below _ ((({ U with heap := s₂.heap, slotsUsed := s₂.slotsUsed } : State).setVm s₂.vm).setTop { g with pc := g.pc + len₂, stack := v.toList ++ g.stack })
    rw [← hs₂]
    exact hsteps
  · obtain ⟨e2, q2, q3, q4, q5, q6⟩ := id hsm
    have e3 : s₂ = ({ (U.calling g mk a).setFrames s₂.frames with heap := s₂.heap, slotsUsed := s₂.slotsUsed } : State).setVm s₂.vm := by
      have : s₂ = ({ s₂ with vm := (U.calling g mk a).vm } : State).setVm s₂.vm := rfl
      rw [e2] at this
      exact this
    have hf₂ : s₂.frames = .throwing q :: .java g :: U.frames.tail := hend
    have hW' : U.WarmedH s₂.vm := hW₂
    have hs₂ : s₂ = ((({ U with heap := s₂.heap, slotsUsed := s₂.slotsUsed } : State).setVm s₂.vm).setTop g).pushFrame (.throwing q) := by
      refine e3.trans ?_
      rw [hf₂, State.calling_eq h.top, State.setFrames_setFrames, State.pushFrame, State.frames_setTop _ hr', State.setTop_of_frames _ hr', State.setFrames_setFrames, hr]
      rfl
    have hsame : U.sameButNew ({ U with heap := s₂.heap, slotsUsed := s₂.slotsUsed } : State) L mc ms := by
      refine ⟨?_, q2, q3, q4, q5, q6⟩
      obtain ⟨t, ht, -⟩ := State.frames_cons hr
      show ({ U with heap := s₂.heap, slotsUsed := s₂.slotsUsed } : State) = { U.setFrames U.frames with heap := s₂.heap, slotsUsed := s₂.slotsUsed }
      rw [State.setFrames_self ht]
    subst hg
    refine Or.inr ⟨q, ⟨(({ U with heap := s₂.heap, slotsUsed := s₂.slotsUsed } : State).setVm s₂.vm), Ls ++ L, c0 + mc, s0 + ms⟩,
      ⟨X.admits, X.cas, X.clock, X.frames, X.room, X.hears, X.method, X.code, (X.here.setHeapUsed s₂.heap s₂.slotsUsed).setVm hW'.alike, X.tail, State.WarmedH.trans X.warmed hW', X.limits, X.bytes, X.same.trans (hsame.setVm s.vm)⟩,
      ⟨g, mk, s₂, L, E, ce, rfl, rfl, hx, hce, hcv, hcl, rfl, hL, rfl, rfl⟩, ?_⟩
    show Steps p.tables e below _ (((({ U with heap := s₂.heap, slotsUsed := s₂.slotsUsed } : State).setVm s₂.vm).setTop g).pushFrame (.throwing q))
    rw [← hs₂]
    exact hsteps
end Payer
section Calls
variable {p : Program} {l : Launch} {e : Env} {R : Room} {s : State} {m : MethodId} {args : Array Value} {below : List Frame} {meth : Method} {c : Code} {T : State} {locs : List Loc} {cells slots : Nat}
theorem vx_callV (X : Stand p l e R s m args below meth c T locs cells slots) (hexec : p.tables.exec = Jvm.exec) {own C : String} {index : Nat} {y : MethodName} {bytes : ByteArray} {maxL : Nat} {ret : Option FieldType}
    (hown : s.vm.findClass own = some m.cls) (hlink : (Cond.methodLink own index y).before args s = true) (hinst : (Cond.instanceMethod y).before args s = true) (hsel : (Cond.selects C y y).before args s = true)
    (hcode : (Cond.code y bytes maxL ret).before args s = true) (hy : y.cls ≠ "java/lang/invoke/MethodHandle" ∧ y.cls ≠ "java/lang/invoke/VarHandle")
    {W9 : Nat} {Pre : Pt → Array Value → Prop} {Post : Pt → Array Value → Option Value → Pt → Prop} {PostX : Pt → Array Value → Addr → Pt → Prop} (hK : vx_Back l R p e below s args y 3 W9 Pre Post PostX)
    {b : Addr} {cellB : Cell} (hcell : T.heap[b]? = some cellB) (hobj : cellB.vm.isStatics = false) (hcls : s.vm.findClass C = some cellB.cls)
    {g : JFrame} (hg : g.method = m) (hsize : g.locals.size = c.maxLocals) {argsL rest : List Value} (hlen : ∀ sig, parseMethodDescriptor y.desc = some sig → argsL.length = sig.parameters.length)
    (hstack : g.stack = argsL.reverse ++ .ref b :: rest) (hW : 2 * g.monitorRoom + (rest.map fun v => v.category).sum ≤ W9) (hdg : decode c.code g.pc = .ok (.invokevirtual index, 3))
    (hpre : ∀ vm₁, s.WarmedH vm₁ → Pre ⟨T.setVm vm₁, locs, cells, slots⟩ (Value.ref b :: argsL).toArray) :
    (∃ (v : Option Value) (vm₁ : Vm) (B : Pt), s.WarmedH vm₁ ∧ Stand p l e R s m args below meth c B.U B.locs B.cells B.slots ∧ Post ⟨T.setVm vm₁, locs, cells, slots⟩ (Value.ref b :: argsL).toArray v B ∧
      ∀ target, Steps p.tables e below (B.U.setTop { g with pc := g.pc + 3, stack := v.toList ++ rest }) target → Steps p.tables e below (T.setTop g) target) ∨
    (∃ (q : Addr) (vm₁ : Vm) (B : Pt), s.WarmedH vm₁ ∧ Stand p l e R s m args below meth c B.U B.locs B.cells B.slots ∧ PostX ⟨T.setVm vm₁, locs, cells, slots⟩ (Value.ref b :: argsL).toArray q B ∧
      Steps p.tables e below (T.setTop g) ((B.U.setTop { g with stack := rest }).pushFrame (.throwing q))) := by
  obtain ⟨mk, methM, hnamed, hmethM, hstM, habM⟩ := Cond.instanceMethod_spec hinst
  obtain ⟨methM', cM, hmethM', -, -, -, -, -, -, hsigM⟩ := Cond.code_spec hnamed hcode
  cases hmethM.symm.trans hmethM'
  obtain ⟨c2, r2, m2, q1, q2, q3, q4, kP, hkP, hkPi⟩ := Cond.selects_spec hsel
  cases hcls.symm.trans q1
  cases (State.methodFound?_of_named hnamed hy).symm.trans q2
  cases hnamed.symm.trans q3
  have hselP : selectMethod e.platform s.vm cellB.cls mk = .method mk := by rw [Launch.admits_selectMethod X.admits]; exact q4
  obtain ⟨vm₁, X₁, hstep₁⟩ := X.invokevirtual hexec hown hlink hnamed hmethM hstM hkP hkPi hy (a := b) (cell := cellB) hcell
    (fun z h => by rw [h] at hobj; cases hobj) hselP hmethM habM hkP hkPi (g := g) hg (argsL := argsL) (rest := rest) (hlen _ hsigM) hstack hdg
  rcases hK m meth c ⟨T.setVm vm₁, locs, cells, slots⟩ { g with stack := rest } (.invokevirtual index) mk (Value.ref b :: argsL).toArray X₁ hg hsize hdg hW (X₁.named hnamed) (hpre vm₁ X₁.warmed) with ⟨v, B, X', hpost, hsteps⟩ | ⟨q, B, X', hpost, hsteps⟩
  · exact Or.inl ⟨v, vm₁, B, X₁.warmed, X', hpost, fun target h => hstep₁ _ fun acts => by rw [doInvoke_state]; exact hsteps.trans h⟩
  · exact Or.inr ⟨q, vm₁, B, X₁.warmed, X', hpost, hstep₁ _ fun acts => by rw [doInvoke_state]; exact hsteps⟩
theorem vx_callS (X : Stand p l e R s m args below meth c T locs cells slots) (hexec : p.tables.exec = Jvm.exec) {own : String} {index : Nat} {y : MethodName} {bytes : ByteArray} {maxL : Nat} {ret : Option FieldType}
    (hown : s.vm.findClass own = some m.cls) (hlink : (Cond.methodLink own index y).before args s = true) (hstat : (Cond.static y).before args s = true) (hinit : (Cond.initialized y.cls).before args s = true)
    (hcode : (Cond.code y bytes maxL ret).before args s = true) (hy : y.cls ≠ "java/lang/invoke/MethodHandle" ∧ y.cls ≠ "java/lang/invoke/VarHandle")
    {W9 : Nat} {Pre : Pt → Array Value → Prop} {Post : Pt → Array Value → Option Value → Pt → Prop} {PostX : Pt → Array Value → Addr → Pt → Prop} (hK : vx_Back l R p e below s args y 3 W9 Pre Post PostX)
    {g : JFrame} (hg : g.method = m) (hsize : g.locals.size = c.maxLocals) {argsL rest : List Value} (hlen : ∀ sig, parseMethodDescriptor y.desc = some sig → argsL.length = sig.parameters.length)
    (hstack : g.stack = argsL.reverse ++ rest) (hW : 2 * g.monitorRoom + (rest.map fun v => v.category).sum ≤ W9) (hdg : decode c.code g.pc = .ok (.invokestatic index, 3))
    (hpre : ∀ vm₁, s.WarmedH vm₁ → Pre ⟨T.setVm vm₁, locs, cells, slots⟩ argsL.toArray) :
    (∃ (v : Option Value) (vm₁ : Vm) (B : Pt), s.WarmedH vm₁ ∧ Stand p l e R s m args below meth c B.U B.locs B.cells B.slots ∧ Post ⟨T.setVm vm₁, locs, cells, slots⟩ argsL.toArray v B ∧
      ∀ target, Steps p.tables e below (B.U.setTop { g with pc := g.pc + 3, stack := v.toList ++ rest }) target → Steps p.tables e below (T.setTop g) target) ∨
    (∃ (q : Addr) (vm₁ : Vm) (B : Pt), s.WarmedH vm₁ ∧ Stand p l e R s m args below meth c B.U B.locs B.cells B.slots ∧ PostX ⟨T.setVm vm₁, locs, cells, slots⟩ argsL.toArray q B ∧
      Steps p.tables e below (T.setTop g) ((B.U.setTop { g with stack := rest }).pushFrame (.throwing q))) := by
  obtain ⟨mk, hnamed⟩ := Cond.code_named hcode
  obtain ⟨methM, cM, hmethM, -, -, -, -, -, -, hsigM⟩ := Cond.code_spec hnamed hcode
  have hstatic : methM.isStatic = true := Cond.static_spec hnamed hmethM hstat
  obtain ⟨kP, hkP, -⟩ := className_of_methodNamed hnamed
  have hinitP : kP.init = .initialized := Cond.initialized_spec (findClass_of_methodNamed hnamed) hkP hinit
  obtain ⟨vm₁, X₁, hstep₁⟩ := X.invokestatic hexec hown hlink hnamed hmethM hstatic hkP hinitP hy (g := g) hg (argsL := argsL) (rest := rest) (hlen _ hsigM) hstack hdg
  rcases hK m meth c ⟨T.setVm vm₁, locs, cells, slots⟩ { g with stack := rest } (.invokestatic index) mk argsL.toArray X₁ hg hsize hdg hW (X₁.named hnamed) (hpre vm₁ X₁.warmed) with ⟨v, B, X', hpost, hsteps⟩ | ⟨q, B, X', hpost, hsteps⟩
  · exact Or.inl ⟨v, vm₁, B, X₁.warmed, X', hpost, fun target h => hstep₁ _ fun acts => by rw [doInvoke_state]; exact hsteps.trans h⟩
  · exact Or.inr ⟨q, vm₁, B, X₁.warmed, X', hpost, hstep₁ _ fun acts => by rw [doInvoke_state]; exact hsteps⟩
end Calls
theorem vx_cls {s : State} {T : State} {vm₁ : Vm} {E : String} {k : ClassId} (hW : s.WarmedH vm₁) (h : (T.setVm vm₁).vm.findClass E = some k) : s.vm.findClass E = some k := by
  have h1 : vm₁.findClass E = some k := h
  rw [hW.alike.findClass] at h1
  exact h1
/-- the method's frame g, with q thrown over it -/
def vx_W (p : Program) (l : Launch) (e : Env) (R : Room) (s : State) (m : MethodId) (args : Array Value) (below : List Frame) (meth : Method) (c : Code) (H : Heap) (locs : List Loc) (cells slots : Nat) (Q : State → Prop) (g : JFrame) (q : Addr) : Prop :=
  ∀ T : State, T.heap = H → Stand p l e R s m args below meth c T locs cells slots → ∃ t, Steps p.tables e below ((T.setTop g).pushFrame (.throwing q)) t ∧ Q t
def vx_Run (p : Program) (l : Launch) (e : Env) (R : Room) (s : State) (m : MethodId) (args : Array Value) (below : List Frame) (meth : Method) (c : Code) (H : Heap) (locs : List Loc) (cells slots mc ms : Nat) (g : JFrame) (rest : List Value) (Qa : State → Outcome → State → Prop) (XC : String → State → State → Prop) (free : Addr → Prop) : Prop :=
  ∀ T : State, T.heap = H → Stand p l e R s m args below meth c T locs cells slots →
    (∃ (v : Option Value) (st₀ t T' : State) (L : List Loc), st₀.heap = H ∧ Stand p l e R s m args below meth c T' (locs ++ L) (cells + mc) (slots + ms) ∧ (∀ q ∈ L, free q.base) ∧ T'.heap = t.heap ∧ T'.vm = t.vm ∧ Qa st₀ (.returned v) t ∧
      Goes p e below T g T' { g with pc := g.pc + 3, stack := v.toList ++ rest }) ∨
    (∃ (q : Addr) (st₀ t T' : State) (L : List Loc) (E : String) (ce : Cell), st₀.heap = H ∧ Stand p l e R s m args below meth c T' (locs ++ L) (cells + mc) (slots + ms) ∧ (∀ z ∈ L, free z.base) ∧ T'.heap = t.heap ∧ T'.vm = t.vm ∧ XC E st₀ t ∧ t.heap[q]? = some ce ∧ ce.vm = .none ∧ s.vm.findClass E = some ce.cls ∧
      Steps p.tables e below (T.setTop g) ((T'.setTop { g with stack := rest }).pushFrame (.throwing q)))
def vx_X {S : Type} (px : S → Prop) (B : String → S → State → Prop) (A : Nat → Prop) : String → State → State → Prop := fun E st t => ∃ u : S, px u ∧ B E u t ∧ va_F A st t
section Runs
variable {p : Program} {l : Launch} {e : Env} {R : Room} {s : State} {m : MethodId} {args : Array Value} {below : List Frame} {meth : Method} {c : Code} {H : Heap} {locs : List Loc} {cells slots : Nat}
variable {y : MethodName} {bytes cc : ByteArray} {maxL nL mc ms n index : Nat} {ret : Option FieldType} {ws : List Cond} {rm : Room} {Pc : Array Value → State → Prop} {Qc : Array Value → State → Outcome → State → Prop} {XC : String → State → State → Prop} {free : Addr → Prop} {Ts : List Cond} {own C : String} {b : Addr} {As rest : List Value} {g : JFrame}
theorem vx_callBack (cb : CallB R s args own index y bytes maxL ret ws rm mc ms n) (hM : vx_Met l y ws rm Pc Qc XC mc ms free) (hbl : FrameBlind Pc) : vx_Back l R p e below s args y 3 8 (PreOf R mc ms Pc) (PostOf Qc mc ms free) (vx_Post XC mc ms free) := by
  obtain ⟨hrc, hrs, hfr, hlo, hws, hcw, -, hini, -⟩ := cb
  exact vx_back (bytes := bytes) (maxL := maxL) (ret := ret) hM hbl hrc hrs hfr hlo hws hcw (fun a' U hW => word_at hW (Or.inl (by first | rfl | simp [Cond.onTables, Cond.keeps, Cond.steady])) hini)
theorem vx_runV (S : CallFix p m c cc nL s args Ts own) (hM : vx_Met l y ws rm Pc Qc XC mc ms free) (cw : CallW R s args own C index y bytes maxL ret ws rm mc ms n) (hp : PreV s H C b Pc As)
    (hg : g.method = m) (hn : As.length = n) (hsize : g.locals.size = nL) (hstack : g.stack = As.reverse ++ .ref b :: rest) (hW : 2 * g.monitorRoom + (rest.map fun v => v.category).sum ≤ 8) (hdg : decode cc g.pc = .ok (.invokevirtual index, 3)) (hf : cells + mc ≤ R.cells ∧ slots + ms ≤ R.slots) :
    vx_Run p l e R s m args below meth c H locs cells slots mc ms g rest (Qc (Value.ref b :: As).toArray) XC free := by
  have hK : vx_Back l R p e below s args y 3 8 (PreOf R mc ms Pc) (PostOf Qc mc ms free) (vx_Post XC mc ms free) := vx_callBack cw.1 hM hp.1
  obtain ⟨⟨-, -, -, -, -, -, hcode, -, hy, hlen, hl⟩, hin, hse⟩ := cw
  obtain ⟨hx, hb, hml, ho, -⟩ := S
  obtain ⟨-, ⟨cellB, hcB, hoB, hclB⟩, hPc⟩ := hp
  intro T hT X
  rcases vx_callV X hx (C := C) (bytes := bytes) (maxL := maxL) (ret := ret) ho hl hin hse hcode hy hK (by rw [hT]; exact hcB) hoB hclB hg (hsize.trans hml.symm) (argsL := As) (rest := rest) (fun sig h => hn.trans (hlen sig h)) hstack hW (by rw [hb]; exact hdg)
    (fun vm₁ hW₁ => ⟨hf.1, hf.2, hPc (T.setVm vm₁) hT hW₁⟩) with ⟨v, vm₁, ⟨U', l2, c2, s2⟩, hW₁, X', ⟨g', mk, t, L, e1, e2, hq, h1, hL, h2, h3⟩, st⟩ | ⟨q, vm₁, ⟨U', l2, c2, s2⟩, hW₁, X', ⟨g', mk, t, L, E, ce, e1, e2, hq, hce, hcv, hcl, h1, hL, h2, h3⟩, st⟩
  · dsimp only [Pt.U, Pt.locs, Pt.cells, Pt.slots] at X' e1 e2 h1 h2 h3 st
    subst h1; subst h2; subst h3
    exact Or.inl ⟨v, (T.setVm vm₁).calling g' mk (Value.ref b :: As).toArray, t, U', L, hT, X', hL, e1, e2, hq, st⟩
  · dsimp only [Pt.U, Pt.locs, Pt.cells, Pt.slots] at X' e1 e2 h1 h2 h3 st hcl
    subst h1; subst h2; subst h3
    exact Or.inr ⟨q, (T.setVm vm₁).calling g' mk (Value.ref b :: As).toArray, t, U', L, E, ce, hT, X', hL, e1, e2, hq, hce, hcv, vx_cls hW₁ hcl, st⟩
theorem vx_runS (S : CallFix p m c cc nL s args Ts own) (hM : vx_Met l y ws rm Pc Qc XC mc ms free) (cw : CallB R s args own index y bytes maxL ret ws rm mc ms n ∧ (Cond.static y).before args s = true) (hp : PreS s H Pc As)
    (hg : g.method = m) (hn : As.length = n) (hsize : g.locals.size = nL) (hstack : g.stack = As.reverse ++ rest) (hW : 2 * g.monitorRoom + (rest.map fun v => v.category).sum ≤ 8) (hdg : decode cc g.pc = .ok (.invokestatic index, 3)) (hf : cells + mc ≤ R.cells ∧ slots + ms ≤ R.slots) :
    vx_Run p l e R s m args below meth c H locs cells slots mc ms g rest (Qc As.toArray) XC free := by
  have hK : vx_Back l R p e below s args y 3 8 (PreOf R mc ms Pc) (PostOf Qc mc ms free) (vx_Post XC mc ms free) := vx_callBack cw.1 hM hp.1
  obtain ⟨⟨-, -, -, -, -, -, hcode, hini, hy, hlen, hl⟩, hstt⟩ := cw
  obtain ⟨hx, hb, hml, ho, -⟩ := S
  intro T hT X
  rcases vx_callS X hx (bytes := bytes) (maxL := maxL) (ret := ret) ho hl hstt hini hcode hy hK hg (hsize.trans hml.symm) (argsL := As) (rest := rest) (fun sig h => hn.trans (hlen sig h)) hstack hW (by rw [hb]; exact hdg)
    (fun vm₁ hW₁ => ⟨hf.1, hf.2, hp.2 (T.setVm vm₁) hT hW₁⟩) with ⟨v, vm₁, ⟨U', l2, c2, s2⟩, hW₁, X', ⟨g', mk, t, L, e1, e2, hq, h1, hL, h2, h3⟩, st⟩ | ⟨q, vm₁, ⟨U', l2, c2, s2⟩, hW₁, X', ⟨g', mk, t, L, E, ce, e1, e2, hq, hce, hcv, hcl, h1, hL, h2, h3⟩, st⟩
  · dsimp only [Pt.U, Pt.locs, Pt.cells, Pt.slots] at X' e1 e2 h1 h2 h3 st
    subst h1; subst h2; subst h3
    exact Or.inl ⟨v, (T.setVm vm₁).calling g' mk As.toArray, t, U', L, hT, X', hL, e1, e2, hq, st⟩
  · dsimp only [Pt.U, Pt.locs, Pt.cells, Pt.slots] at X' e1 e2 h1 h2 h3 st hcl
    subst h1; subst h2; subst h3
    exact Or.inr ⟨q, (T.setVm vm₁).calling g' mk As.toArray, t, U', L, E, ce, hT, X', hL, e1, e2, hq, hce, hcv, vx_cls hW₁ hcl, st⟩
end Runs
section Rows
variable {p : Program} {l : Launch} {e : Env} {R : Room} {s : State} {m : MethodId} {args : Array Value} {below : List Frame} {meth : Method} {c : Code} {H : Heap} {locs : List Loc} {cells slots : Nat} {Q : State → Prop}
variable {mc ms : Nat} {free : Addr → Prop} {A0 A1 : Nat → Prop} {H0 : Heap} {a : Array Value} {pc : Nat} {ls : Array Slot} {st0 rest : List Value}
theorem vx_keep {st₀ t T' : State} {L : List Loc} (h0 : st₀.heap = H) (e1 : T'.heap = t.heap) (hS : va_S A0 H0 H locs) (hA : ∀ q, q < H.size → A1 q → A0 q) (hf : ∀ q, free q → A0 q) (hL : ∀ q ∈ L, free q.base) (hF : va_F A1 st₀ t) :
    H.size ≤ T'.heap.size ∧ (∀ q : Nat, q < H.size → ¬ A1 q → T'.heap[q]? = H[q]?) ∧ va_S A0 H0 T'.heap (locs ++ L) := by
  obtain ⟨hz, hk⟩ := hF
  rw [h0] at hz hk
  exact ⟨by rw [e1]; exact hz, fun q h1 h2 => by rw [e1]; exact hk q h1 h2,
    ⟨Nat.le_trans hS.1 (by rw [e1]; exact hz), fun q h1 h2 => by rw [e1, hk q (Nat.lt_of_lt_of_le h1 hS.1) (fun z => h2 (hA q (Nat.lt_of_lt_of_le h1 hS.1) z))]; exact hS.2.1 q h1 h2, fun q hq => by
      rcases List.mem_append.mp hq with h | h
      · exact hS.2.2 q h
      · exact hf _ (hL q h)⟩⟩
theorem vx_calli {S SX : Type} {post : Int32 → S → Prop} {px : SX → Prop} {B : S → State → Prop} {BX : String → SX → State → Prop} {AX : Nat → Prop} (hr : vx_Run p l e R s m args below meth c H locs cells slots mc ms (F0 m pc ls st0) rest (va_Qi post B A1 a) (vx_X px BX AX) free) (hS : va_S A0 H0 H locs) (hA : ∀ q, q < H.size → A1 q → A0 q) (hf : ∀ q, free q → A0 q) (hAX : ∀ q, q < H.size → AX q → A0 q)
    (kx : ∀ (E : String) (ce : Cell) (q9 : Addr) (u : SX) (t : State) (H1 : Heap) (locs1 : List Loc), t.heap = H1 → s.vm.Alike t.vm → px u → BX E u t → H.size ≤ H1.size → (∀ q : Nat, q < H.size → ¬ AX q → H1[q]? = H[q]?) → va_S A0 H0 H1 locs1 → H1[q9]? = some ce → ce.vm = .none → s.vm.findClass E = some ce.cls → vx_W p l e R s m args below meth c H1 locs1 (cells + mc) (slots + ms) Q (F0 m pc ls rest) q9)
    (kk : ∀ (r : Int32) (u : S) (t : State) (H1 : Heap) (locs1 : List Loc), t.heap = H1 → s.vm.Alike t.vm → post r u → B u t → H.size ≤ H1.size → (∀ q : Nat, q < H.size → ¬ A1 q → H1[q]? = H[q]?) → va_S A0 H0 H1 locs1 → W p l e R s m args below meth c H1 locs1 (cells + mc) (slots + ms) Q (F0 m (pc + 3) ls (.int r :: rest))) : W p l e R s m args below meth c H locs cells slots Q (F0 m pc ls st0) := by
  intro T hT X
  rcases hr T hT X with ⟨v, st₀, t, T', L, h0, X', hL, e1, e2, ⟨⟨r, u, hv, hp, hb⟩, hF⟩, st⟩ | ⟨q, st₀, t, T', L, E, ce, h0, X', hL, e1, e2, ⟨u, hp, hb, hF⟩, hce, hcv, hcl, st⟩
  · cases hv
    obtain ⟨k1, k2, k3⟩ := vx_keep h0 e1 hS hA hf hL hF
    obtain ⟨t2, a1, b1⟩ := kk r u t T'.heap (locs ++ L) e1.symm (by rw [← e2]; exact X'.warmed.alike) hp hb k1 k2 k3 T' rfl X'
    exact ⟨t2, st t2 a1, b1⟩
  · obtain ⟨k1, k2, k3⟩ := vx_keep h0 e1 hS hAX hf hL hF
    obtain ⟨t2, a1, b1⟩ := kx E ce q u t T'.heap (locs ++ L) e1.symm (by rw [← e2]; exact X'.warmed.alike) hp hb k1 k2 k3 (by rw [e1]; exact hce) hcv hcl T' rfl X'
    exact ⟨t2, st.trans a1, b1⟩
theorem vx_calll {S SX : Type} {post : Int64 → S → Prop} {px : SX → Prop} {B : S → State → Prop} {BX : String → SX → State → Prop} {AX : Nat → Prop} (hr : vx_Run p l e R s m args below meth c H locs cells slots mc ms (F0 m pc ls st0) rest (va_Ql post B A1 a) (vx_X px BX AX) free) (hS : va_S A0 H0 H locs) (hA : ∀ q, q < H.size → A1 q → A0 q) (hf : ∀ q, free q → A0 q) (hAX : ∀ q, q < H.size → AX q → A0 q)
    (kx : ∀ (E : String) (ce : Cell) (q9 : Addr) (u : SX) (t : State) (H1 : Heap) (locs1 : List Loc), t.heap = H1 → s.vm.Alike t.vm → px u → BX E u t → H.size ≤ H1.size → (∀ q : Nat, q < H.size → ¬ AX q → H1[q]? = H[q]?) → va_S A0 H0 H1 locs1 → H1[q9]? = some ce → ce.vm = .none → s.vm.findClass E = some ce.cls → vx_W p l e R s m args below meth c H1 locs1 (cells + mc) (slots + ms) Q (F0 m pc ls rest) q9)
    (kk : ∀ (r : Int64) (u : S) (t : State) (H1 : Heap) (locs1 : List Loc), t.heap = H1 → s.vm.Alike t.vm → post r u → B u t → H.size ≤ H1.size → (∀ q : Nat, q < H.size → ¬ A1 q → H1[q]? = H[q]?) → va_S A0 H0 H1 locs1 → W p l e R s m args below meth c H1 locs1 (cells + mc) (slots + ms) Q (F0 m (pc + 3) ls (.long r :: rest))) : W p l e R s m args below meth c H locs cells slots Q (F0 m pc ls st0) := by
  intro T hT X
  rcases hr T hT X with ⟨v, st₀, t, T', L, h0, X', hL, e1, e2, ⟨⟨r, u, hv, hp, hb⟩, hF⟩, st⟩ | ⟨q, st₀, t, T', L, E, ce, h0, X', hL, e1, e2, ⟨u, hp, hb, hF⟩, hce, hcv, hcl, st⟩
  · cases hv
    obtain ⟨k1, k2, k3⟩ := vx_keep h0 e1 hS hA hf hL hF
    obtain ⟨t2, a1, b1⟩ := kk r u t T'.heap (locs ++ L) e1.symm (by rw [← e2]; exact X'.warmed.alike) hp hb k1 k2 k3 T' rfl X'
    exact ⟨t2, st t2 a1, b1⟩
  · obtain ⟨k1, k2, k3⟩ := vx_keep h0 e1 hS hAX hf hL hF
    obtain ⟨t2, a1, b1⟩ := kx E ce q u t T'.heap (locs ++ L) e1.symm (by rw [← e2]; exact X'.warmed.alike) hp hb k1 k2 k3 (by rw [e1]; exact hce) hcv hcl T' rfl X'
    exact ⟨t2, st.trans a1, b1⟩
theorem vx_callf {S SX : Type} {post : UInt32 → S → Prop} {px : SX → Prop} {B : S → State → Prop} {BX : String → SX → State → Prop} {AX : Nat → Prop} (hr : vx_Run p l e R s m args below meth c H locs cells slots mc ms (F0 m pc ls st0) rest (va_Qf post B A1 a) (vx_X px BX AX) free) (hS : va_S A0 H0 H locs) (hA : ∀ q, q < H.size → A1 q → A0 q) (hf : ∀ q, free q → A0 q) (hAX : ∀ q, q < H.size → AX q → A0 q)
    (kx : ∀ (E : String) (ce : Cell) (q9 : Addr) (u : SX) (t : State) (H1 : Heap) (locs1 : List Loc), t.heap = H1 → s.vm.Alike t.vm → px u → BX E u t → H.size ≤ H1.size → (∀ q : Nat, q < H.size → ¬ AX q → H1[q]? = H[q]?) → va_S A0 H0 H1 locs1 → H1[q9]? = some ce → ce.vm = .none → s.vm.findClass E = some ce.cls → vx_W p l e R s m args below meth c H1 locs1 (cells + mc) (slots + ms) Q (F0 m pc ls rest) q9)
    (kk : ∀ (r : UInt32) (u : S) (t : State) (H1 : Heap) (locs1 : List Loc), t.heap = H1 → s.vm.Alike t.vm → post r u → B u t → H.size ≤ H1.size → (∀ q : Nat, q < H.size → ¬ A1 q → H1[q]? = H[q]?) → va_S A0 H0 H1 locs1 → W p l e R s m args below meth c H1 locs1 (cells + mc) (slots + ms) Q (F0 m (pc + 3) ls (.float r :: rest))) : W p l e R s m args below meth c H locs cells slots Q (F0 m pc ls st0) := by
  intro T hT X
  rcases hr T hT X with ⟨v, st₀, t, T', L, h0, X', hL, e1, e2, ⟨⟨r, u, hv, hp, hb⟩, hF⟩, st⟩ | ⟨q, st₀, t, T', L, E, ce, h0, X', hL, e1, e2, ⟨u, hp, hb, hF⟩, hce, hcv, hcl, st⟩
  · cases hv
    obtain ⟨k1, k2, k3⟩ := vx_keep h0 e1 hS hA hf hL hF
    obtain ⟨t2, a1, b1⟩ := kk r u t T'.heap (locs ++ L) e1.symm (by rw [← e2]; exact X'.warmed.alike) hp hb k1 k2 k3 T' rfl X'
    exact ⟨t2, st t2 a1, b1⟩
  · obtain ⟨k1, k2, k3⟩ := vx_keep h0 e1 hS hAX hf hL hF
    obtain ⟨t2, a1, b1⟩ := kx E ce q u t T'.heap (locs ++ L) e1.symm (by rw [← e2]; exact X'.warmed.alike) hp hb k1 k2 k3 (by rw [e1]; exact hce) hcv hcl T' rfl X'
    exact ⟨t2, st.trans a1, b1⟩
theorem vx_calld {S SX : Type} {post : UInt64 → S → Prop} {px : SX → Prop} {B : S → State → Prop} {BX : String → SX → State → Prop} {AX : Nat → Prop} (hr : vx_Run p l e R s m args below meth c H locs cells slots mc ms (F0 m pc ls st0) rest (va_Qd post B A1 a) (vx_X px BX AX) free) (hS : va_S A0 H0 H locs) (hA : ∀ q, q < H.size → A1 q → A0 q) (hf : ∀ q, free q → A0 q) (hAX : ∀ q, q < H.size → AX q → A0 q)
    (kx : ∀ (E : String) (ce : Cell) (q9 : Addr) (u : SX) (t : State) (H1 : Heap) (locs1 : List Loc), t.heap = H1 → s.vm.Alike t.vm → px u → BX E u t → H.size ≤ H1.size → (∀ q : Nat, q < H.size → ¬ AX q → H1[q]? = H[q]?) → va_S A0 H0 H1 locs1 → H1[q9]? = some ce → ce.vm = .none → s.vm.findClass E = some ce.cls → vx_W p l e R s m args below meth c H1 locs1 (cells + mc) (slots + ms) Q (F0 m pc ls rest) q9)
    (kk : ∀ (r : UInt64) (u : S) (t : State) (H1 : Heap) (locs1 : List Loc), t.heap = H1 → s.vm.Alike t.vm → post r u → B u t → H.size ≤ H1.size → (∀ q : Nat, q < H.size → ¬ A1 q → H1[q]? = H[q]?) → va_S A0 H0 H1 locs1 → W p l e R s m args below meth c H1 locs1 (cells + mc) (slots + ms) Q (F0 m (pc + 3) ls (.double r :: rest))) : W p l e R s m args below meth c H locs cells slots Q (F0 m pc ls st0) := by
  intro T hT X
  rcases hr T hT X with ⟨v, st₀, t, T', L, h0, X', hL, e1, e2, ⟨⟨r, u, hv, hp, hb⟩, hF⟩, st⟩ | ⟨q, st₀, t, T', L, E, ce, h0, X', hL, e1, e2, ⟨u, hp, hb, hF⟩, hce, hcv, hcl, st⟩
  · cases hv
    obtain ⟨k1, k2, k3⟩ := vx_keep h0 e1 hS hA hf hL hF
    obtain ⟨t2, a1, b1⟩ := kk r u t T'.heap (locs ++ L) e1.symm (by rw [← e2]; exact X'.warmed.alike) hp hb k1 k2 k3 T' rfl X'
    exact ⟨t2, st t2 a1, b1⟩
  · obtain ⟨k1, k2, k3⟩ := vx_keep h0 e1 hS hAX hf hL hF
    obtain ⟨t2, a1, b1⟩ := kx E ce q u t T'.heap (locs ++ L) e1.symm (by rw [← e2]; exact X'.warmed.alike) hp hb k1 k2 k3 (by rw [e1]; exact hce) hcv hcl T' rfl X'
    exact ⟨t2, st.trans a1, b1⟩
theorem vx_callv {S SX : Type} {post : S → Prop} {px : SX → Prop} {B : S → State → Prop} {BX : String → SX → State → Prop} {AX : Nat → Prop} (hr : vx_Run p l e R s m args below meth c H locs cells slots mc ms (F0 m pc ls st0) rest (va_Qv post B A1 a) (vx_X px BX AX) free) (hS : va_S A0 H0 H locs) (hA : ∀ q, q < H.size → A1 q → A0 q) (hf : ∀ q, free q → A0 q) (hAX : ∀ q, q < H.size → AX q → A0 q)
    (kx : ∀ (E : String) (ce : Cell) (q9 : Addr) (u : SX) (t : State) (H1 : Heap) (locs1 : List Loc), t.heap = H1 → s.vm.Alike t.vm → px u → BX E u t → H.size ≤ H1.size → (∀ q : Nat, q < H.size → ¬ AX q → H1[q]? = H[q]?) → va_S A0 H0 H1 locs1 → H1[q9]? = some ce → ce.vm = .none → s.vm.findClass E = some ce.cls → vx_W p l e R s m args below meth c H1 locs1 (cells + mc) (slots + ms) Q (F0 m pc ls rest) q9)
    (kk : ∀ (u : S) (t : State) (H1 : Heap) (locs1 : List Loc), t.heap = H1 → s.vm.Alike t.vm → post u → B u t → H.size ≤ H1.size → (∀ q : Nat, q < H.size → ¬ A1 q → H1[q]? = H[q]?) → va_S A0 H0 H1 locs1 → W p l e R s m args below meth c H1 locs1 (cells + mc) (slots + ms) Q (F0 m (pc + 3) ls (rest))) : W p l e R s m args below meth c H locs cells slots Q (F0 m pc ls st0) := by
  intro T hT X
  rcases hr T hT X with ⟨v, st₀, t, T', L, h0, X', hL, e1, e2, ⟨⟨u, hv, hp, hb⟩, hF⟩, st⟩ | ⟨q, st₀, t, T', L, E, ce, h0, X', hL, e1, e2, ⟨u, hp, hb, hF⟩, hce, hcv, hcl, st⟩
  · cases hv
    obtain ⟨k1, k2, k3⟩ := vx_keep h0 e1 hS hA hf hL hF
    obtain ⟨t2, a1, b1⟩ := kk u t T'.heap (locs ++ L) e1.symm (by rw [← e2]; exact X'.warmed.alike) hp hb k1 k2 k3 T' rfl X'
    exact ⟨t2, st t2 a1, b1⟩
  · obtain ⟨k1, k2, k3⟩ := vx_keep h0 e1 hS hAX hf hL hF
    obtain ⟨t2, a1, b1⟩ := kx E ce q u t T'.heap (locs ++ L) e1.symm (by rw [← e2]; exact X'.warmed.alike) hp hb k1 k2 k3 (by rw [e1]; exact hce) hcv hcl T' rfl X'
    exact ⟨t2, st.trans a1, b1⟩
/-- caught by the row x of this method's table; the rows ahead don't take it -/
theorem vx_catch {own name : String} {E : String} {ce : Cell} {q : Addr} (hown : s.vm.findClass own = some m.cls) (pre : List ExceptionTableEntry) (x : ExceptionTableEntry) (suf : List ExceptionTableEntry) (hsplit : c.exceptionTable.toList = pre ++ x :: suf)
    (hpass : ∀ z ∈ pre, covers z pc = false ∨ (z.catchType ≠ 0 ∧ ∃ nm : String, (Cond.classLink own z.catchType nm).before args s = true ∧ va_Nc E nm s)) (hx : covers x pc = true) (h0 : x.catchType ≠ 0)
    (hlink : (Cond.classLink own x.catchType name).before args s = true) (hcast : (Cond.castable E name).before args s = true) (hcell : H[q]? = some ce) (hv : ce.vm = .none) (hcl : s.vm.findClass E = some ce.cls)
    (kk : W p l e R s m args below meth c H locs cells slots Q (F0 m x.handlerPc ls [.ref q])) : vx_W p l e R s m args below meth c H locs cells slots Q (F0 m pc ls rest) q := by
  intro T hT X
  have hpl : e.platform.magicAccessors = ({} : Platform).magicAccessors := by rw [X.admits.platform]
  obtain ⟨c3, c4, hc3, hc4, hasg⟩ := Cond.castable_spec hcast
  cases Option.some.inj (hc3.symm.trans hcl)
  obtain ⟨c5, hc5, hcl5⟩ := Cond.classLink_spec hown hlink e.platform hpl
  cases Option.some.inj (hc4.symm.trans hc5)
  obtain ⟨vm', X', st⟩ := X.thenCaughtThrough q (g := F0 m pc ls rest) rfl (Steps.refl _) (by rw [hT]; exact hcell) (by rw [hv]; rfl) (by obtain ⟨k9, h9, -⟩ := Vm.findClass_spec hcl; exact ⟨k9, h9⟩) pre x suf hsplit
    (fun z hz => by
      rcases hpass z hz with h | ⟨hz0, nm, hl1, hn1⟩
      · exact Or.inl h
      · obtain ⟨c6, hc6, hcl6⟩ := Cond.classLink_spec hown hl1 e.platform hpl
        obtain ⟨a8, b8, h1, h2, h3⟩ := hn1
        cases Option.some.inj (h1.symm.trans hcl)
        cases Option.some.inj (h2.symm.trans hc6)
        exact Or.inr ⟨hz0, _, hcl6, h3⟩) hx (Or.inr ⟨h0, c4, hcl5, hasg⟩)
  obtain ⟨t, a1, b1⟩ := kk (T.setVm vm') hT X'
  exact ⟨t, st.trans a1, b1⟩
end Rows
section Ends
variable {p : Program} {l : Launch} {e : Env} {R : Room} {s : State} {m : MethodId} {args : Array Value} {below : List Frame} {meth : Method} {c : Code} {H : Heap} {locs : List Loc} {cells slots : Nat} {Q : State → Prop}
variable {mc ms : Nat} {free : Addr → Prop} {A0 A1 : Nat → Prop} {H0 : Heap} {a : Array Value} {ls : Array Slot} {st0 rest : List Value}
variable {Qc : Array Value → State → Outcome → State → Prop} {XC : String → State → State → Prop}
/-- what a body that may throw owes at its end -/
def vx_MQ (below : List Frame) (Qc : Array Value → State → Outcome → State → Prop) (XC : String → State → State → Prop) (a : Array Value) (s : State) (mc ms : Nat) (free : Addr → Prop) : State → Prop := fun t =>
  ∃ o, t.status = .running ∧ Ended t below o ∧ vx_Q Qc XC mc ms free a s o t
theorem vx_ret {g : JFrame} {mc ms : Nat} (k : W p l e R s m args below meth c H locs cells slots (MQ below Qc args s mc ms free) g) : W p l e R s m args below meth c H locs cells slots (vx_MQ below Qc XC args s mc ms free) g := by
  intro T hT X
  obtain ⟨t, a1, o, b1, b2, b3, b4⟩ := k T hT X
  exact ⟨t, a1, o, b1, b2, Or.inl ⟨b3, b4⟩⟩
/-- not caught here: it goes on to the caller -/
theorem vx_widen {g : JFrame} {q : Addr} {k n : Nat} (h1 : cells ≤ k) (h2 : slots ≤ n) (kk : vx_W p l e R s m args below meth c H locs k n Q g q) : vx_W p l e R s m args below meth c H locs cells slots Q g q := fun T hT X => kk T hT (stand_widen X h1 h2)
theorem vx_out {pc : Nat} {E : String} {ce : Cell} {q : Addr} {mc ms : Nat} (hout : ∀ x ∈ c.exceptionTable.toList, covers x pc = false) (hlocks : meth.locks = false) (hcell : H[q]? = some ce) (hv : ce.vm = .none) (hcl : s.vm.findClass E = some ce.cls)
    (hx : ∀ t : State, t.heap = H → s.vm.Alike t.vm → XC E s t) (hf : ∀ z ∈ locs, free z.base) (hc : cells ≤ mc) (hs : slots ≤ ms) :
    vx_W p l e R s m args below meth c H locs cells slots (vx_MQ below Qc XC args s mc ms free) (F0 m pc ls rest) q := by
  intro T hT X
  obtain ⟨st1, hrun, hend, hW, hsm⟩ := X.leaveThrown q (g := F0 m pc ls rest) rfl rfl rfl hout hlocks
  have hcell9 : (T.setFrames (.throwing q :: below)).heap[q]? = some ce := by
    show T.heap[q]? = some ce
    rw [hT]; exact hcell
  exact ⟨_, st1, .threw q, hrun, hend, Or.inr ⟨q, rfl, E, ce, locs, hx _ hT hW.alike, hcell9, hv, hcl, hW, hsm.mono hc hs, hf⟩⟩
theorem vx_frame {U : State} {k n : Nat} (h : s.sameButNew ({ U with vm := s.vm } : State) locs k n) : s.heap.size ≤ U.heap.size ∧ ∀ q : Nat, q < s.heap.size → (∀ z ∈ locs, z.base ≠ q) → U.heap[q]? = s.heap[q]? := by
  obtain ⟨-, h2, -, -, -, h6⟩ := h
  refine ⟨h2, fun q hq hz => ?_⟩
  obtain ⟨c9, e1, e2, e3, e4⟩ := h6 q _ (Array.getElem?_eq_getElem hq)
  have hs : c9.slots = (s.heap[q]).slots := Array.ext_getElem? fun i => e4 i fun hm => hz _ hm rfl
  have h9 : c9 = s.heap[q] := by
    rw [hs] at e2
    exact e2
  have e5 : U.heap[q]? = some c9 := e1
  rw [e5, h9, Array.getElem?_eq_getElem hq]
/-- the words of a throw but the four that speak of the heap -/
def vx_no (w : Cond) : Bool := decide (w ≠ .isRef (.static Bundle.tN "UNASSIGNED_STACK" Bundle.steD)) && decide (w ≠ .isRef (.static Bundle.tN "SUPPRESSED_SENTINEL" Bundle.listD)) && decide (w ≠ .laysStatic Bundle.tN "UNASSIGNED_STACK" Bundle.steD) && decide (w ≠ .laysStatic Bundle.tN "SUPPRESSED_SENTINEL" Bundle.listD)
def vx_at0 (own : String) (ic : Nat) (X : String) (names : List String) : List Cond := (Bundle.ownAtoms0 own ic X names).filter vx_no
def vx_atS (own : String) (ic : Nat) (X : String) (names : List String) : List Cond := (Bundle.ownAtoms own ic X names).filter vx_no
/-- a word that the tables alone decide, or a good one -/
def vx_ot (w : Cond) : Bool := w.onTables || goodWord w
theorem vx_ot_at {args a' : Array Value} {s U : State} {w : Cond} (hW : s.WarmedH U.vm) (hvm : s.vm = U.vm) (hg : vx_ot w = true) (h : w.before args s = true) : w.before a' U = true := by
  simp only [vx_ot, Bool.or_eq_true] at hg
  rcases hg with hg | hg
  · exact va_tabs hg hvm h
  · exact word_at hW (good_of_word hg) h
/-- a list's words: the good ones out of the method's own list, the others by premises of their own -/
theorem vx_hat {args : Array Value} {s : State} {L B : List Cond} (h1 : ∀ w ∈ L.filter goodWord, w.before args s = true) (h2 : ∀ w ∈ L.filter (fun w => !goodWord w), w ∈ B) (h3 : ∀ w ∈ B, w.before args s = true) : ∀ w ∈ L, w.before args s = true := by
  intro w hw
  by_cases g : goodWord w = true
  · exact h1 w (List.mem_filter.mpr ⟨hw, g⟩)
  · refine h3 w (h2 w (List.mem_filter.mpr ⟨hw, ?_⟩))
    show (!goodWord w) = true
    cases hgw : goodWord w
    · rfl
    · exact absurd hgw g
theorem vx_c {args : Array Value} {s : State} {w : Cond} {B : List Cond} (h : w.before args s = true) (t : ∀ w ∈ B, w.before args s = true) : ∀ w' ∈ w :: B, w'.before args s = true := fun w' h' => (List.mem_cons.mp h').elim (fun e => by rw [e]; exact h) (t w')
theorem vx_n {args : Array Value} {s : State} : ∀ w ∈ ([] : List Cond), w.before args s = true := fun _ h => nomatch h
theorem vx_own {args : Array Value} {s : State} {L : List Cond} (h1 : ∀ w ∈ L.filter vx_no, w.before args s = true)
    (hU : (Cond.isRef (.static Bundle.tN "UNASSIGNED_STACK" Bundle.steD)).before args s = true) (hN : (Cond.isRef (.static Bundle.tN "SUPPRESSED_SENTINEL" Bundle.listD)).before args s = true)
    (lU : (Cond.laysStatic Bundle.tN "UNASSIGNED_STACK" Bundle.steD).before args s = true) (lN : (Cond.laysStatic Bundle.tN "SUPPRESSED_SENTINEL" Bundle.listD).before args s = true) : ∀ w ∈ L, w.before args s = true := by
  intro w hw
  by_cases e1 : w = .isRef (.static Bundle.tN "UNASSIGNED_STACK" Bundle.steD)
  · rw [e1]; exact hU
  · by_cases e2 : w = .isRef (.static Bundle.tN "SUPPRESSED_SENTINEL" Bundle.listD)
    · rw [e2]; exact hN
    · by_cases e3 : w = .laysStatic Bundle.tN "UNASSIGNED_STACK" Bundle.steD
      · rw [e3]; exact lU
      · by_cases e4 : w = .laysStatic Bundle.tN "SUPPRESSED_SENTINEL" Bundle.listD
        · rw [e4]; exact lN
        · exact h1 w (List.mem_filter.mpr ⟨hw, by unfold vx_no; rw [decide_eq_true e1, decide_eq_true e2, decide_eq_true e3, decide_eq_true e4]; rfl⟩)
/-- where a static field lies, its class's statics cell in H -/
def vx_L (C n d : String) (A : Nat → Prop) (U : State) (H : Heap) : Prop := ∃ (c : ClassId) (k : Class) (i : Nat) (f : Field) (a : Nat) (cell : Cell), U.vm.findClass C = some c ∧ U.fieldFound? C n d = some (c, k, i, f) ∧ f.isStatic = true ∧ k.statics = some a ∧ H[a]? = some cell ∧ cell.vm.isStatics = true ∧ cell.cls = c ∧ f.slot < cell.slots.size ∧ k.staticTypes[f.slot]? = some f.type ∧ ¬ A a
theorem vx_L.moved {C n d : String} {A : Nat → Prop} {u U : State} {H : Heap} (hvm : u.vm.Alike U.vm) (h : vx_L C n d A u H) : vx_L C n d A U H := by
  obtain ⟨c, k, i, f, a, cell, h1, h2, h3, h4, h5, h6, h7, h8, h9, h10⟩ := h
  obtain ⟨k', hi', he⟩ := State.fieldFound?_setVm hvm h2
  exact ⟨c, k', i, f, a, cell, by rw [hvm.findClass]; exact h1, hi', h3, by rw [he]; exact h4, h5, h6, h7, h8, by rw [he]; exact h9, h10⟩
theorem vx_L.kept {C n d : String} {A : Nat → Prop} {U : State} {H H1 : Heap} (h : vx_L C n d A U H) (hq : ∀ a : Nat, a < H.size → ¬ A a → H1[a]? = H[a]?) : vx_L C n d A U H1 := by
  obtain ⟨c, k, i, f, a, cell, h1, h2, h3, h4, h5, h6, h7, h8, h9, h10⟩ := h
  exact ⟨c, k, i, f, a, cell, h1, h2, h3, h4, by rw [hq a (Array.getElem?_eq_some_iff.mp h5).1 h10]; exact h5, h6, h7, h8, h9, h10⟩
theorem vx_L.narrow {C n d : String} {A B : Nat → Prop} {U : State} {H : Heap} (h : vx_L C n d A U H) (hAB : ∀ q, B q → A q) : vx_L C n d B U H := by
  obtain ⟨c, k, i, f, a, cell, h1, h2, h3, h4, h5, h6, h7, h8, h9, h10⟩ := h
  exact ⟨c, k, i, f, a, cell, h1, h2, h3, h4, h5, h6, h7, h8, h9, fun z => h10 (hAB _ z)⟩
theorem vx_L.word {C n d : String} {A : Nat → Prop} {s : State} {args : Array Value} (h : vx_L C n d A s s.heap) : (Cond.laysStatic C n d).before args s = true := by
  obtain ⟨c, k, i, f, a, cell, h1, h2, h3, h4, h5, h6, h7, h8, h9, -⟩ := h
  show (Cond.laysStatic C n d).holds args s none s [] = true
  exact Cond.laysStatic_of h1 h2 h3 h4 h5 h6 h7 h8 h9
/-- .. and what it holds: null or some reference -/
def vx_Zq (C n d : String) (A : Nat → Prop) (U : State) (H : Heap) : Prop := va_Zq C n d A U H ∧ vx_L C n d A U H
theorem vx_Zq.moved {C n d : String} {A : Nat → Prop} {u U : State} {H : Heap} (hvm : u.vm.Alike U.vm) (h : vx_Zq C n d A u H) : vx_Zq C n d A U H := ⟨va_Zq.moved hvm h.1, vx_L.moved hvm h.2⟩
theorem vx_Zq.kept {C n d : String} {A : Nat → Prop} {U : State} {H H1 : Heap} (h : vx_Zq C n d A U H) (hq : ∀ a : Nat, a < H.size → ¬ A a → H1[a]? = H[a]?) : vx_Zq C n d A U H1 := ⟨va_Zq.kept h.1 hq, vx_L.kept h.2 hq⟩
theorem vx_Zq.narrow {C n d : String} {A B : Nat → Prop} {U : State} {H : Heap} (h : vx_Zq C n d A U H) (hAB : ∀ q, B q → A q) : vx_Zq C n d B U H := ⟨va_Zq.narrow h.1 hAB, vx_L.narrow h.2 hAB⟩
theorem vx_Zqof {args : Array Value} {s : State} {C n d : String} {A : Nat → Prop} (hl : (Cond.laysStatic C n d).before args s = true) (hini : (Cond.initialized C).before args s = true) (h : (Cond.isRef (.static C n d)).before args s = true) (hA : ∀ a : Nat, a < s.heap.size → ¬ A a) : vx_Zq C n d A s s.heap := by
  refine ⟨va_Zqof hl hini h hA, ?_⟩
  obtain ⟨c, k, i, f, a, cell, h1, h2, h3, h4, h5, h6, h7, h8, h9⟩ := Cond.laysStatic_spec hl
  exact ⟨c, k, i, f, a, cell, h1, h2, h3, h4, h5, h6, h7, h8, h9, hA a (Array.getElem?_eq_some_iff.mp h5).1⟩
theorem vx_isRef {C n d : String} {v : Value} {A : Nat → Prop} {s : State} {args : Array Value} (h : va_Z C n d v A s s.heap) (hv : v.isRef = true) : (Cond.isRef (.static C n d)).before args s = true := by
  obtain ⟨cf, kf, fi, f, a, cell, h1, h2, h3, h4, h5, h6, h7, -⟩ := h
  have he : (Term.static C n d).eval args s none [] s = some v := by
    simp [Term.eval, State.fieldNamed?, h1, h2, h4, h5, h6, h7]
  simp only [Cond.before, Cond.holds, Cond.value, he]
  cases v <;> simp_all [Value.isRef]
theorem vx_isRefq {C n d : String} {A : Nat → Prop} {s : State} {args : Array Value} (h : va_Zq C n d A s s.heap) : (Cond.isRef (.static C n d)).before args s = true := by
  rcases h with h | ⟨t, h⟩
  · exact vx_isRef h rfl
  · exact vx_isRef h rfl
/-- the same frame, seen from here: as if the method were called anew in this heap -/
theorem vx_rebase {T : State} (X : Stand p l e R s m args below meth c T locs cells slots) {R' : Room} (hf : R'.frames ≤ R.frames) (hl : R'.locals ≤ R.locals) (hc : cells + R'.cells ≤ R.cells) (hs : slots + R'.slots ≤ R.slots) :
    Stand p l e R' ((T.setVm s.vm).setFrames (.invoking m args :: below)) m args below meth c T [] 0 0 := by
  have htop : (T.setVm s.vm).topJava?.isSome := X.here.top
  have hF : ((T.setVm s.vm).setFrames (.invoking m args :: below)).frames = .invoking m args :: below := State.frames_setFrames _ (State.cur_lt_of_top htop)
  obtain ⟨g₀, hg0⟩ := Option.isSome_iff_exists.mp htop
  obtain ⟨r, hr⟩ := State.topJava?_eq_some.mp hg0
  have hl9 : e.platform.stackLimits (T.setVm s.vm).me = e.platform.stackLimits s.me := X.limits
  have hb9 : (T.setVm s.vm).me.stackBytes = s.me.stackBytes := X.bytes
  refine ⟨X.admits, X.cas, X.clock, hF, ?_, X.hears, X.method, X.code, X.here, X.tail, X.warmed, ?_, ?_, ?_⟩
  · have h := X.room
    have hU : ((T.setVm s.vm).setFrames (.invoking m args :: below)).localsInUse = s.localsInUse := by
      rw [State.localsInUse_invoking hF (meth := meth) (c := c) X.method X.code, State.localsInUse_invoking X.frames X.method X.code]
    simp only [State.hasRoom, Bool.and_eq_true, decide_eq_true_eq] at h ⊢
    obtain ⟨⟨⟨⟨h1, h2, h3, h4, h5, h6⟩, h7⟩, h8⟩, h9⟩ := h
    rw [X.frames, List.length_cons] at h2 h3
    have q1 := X.heapSize
    have q2 := X.used
    simp only [hF, hU, List.length_cons, State.stackLimits_setFrames, State.stackBytes_setFrames, hl9, hb9]
    refine ⟨⟨⟨⟨by omega, by omega, by omega, by omega, by omega, h6⟩, ?_⟩, ?_⟩, X.book⟩
    · show T.heap.size + R'.cells ≤ e.platform.maxCells
      omega
    · show T.slotsUsed + R'.slots ≤ e.platform.maxSlots
      omega
  · rw [State.stackLimits_setFrames]; rfl
  · rw [State.stackBytes_setFrames]; rfl
  · refine ⟨?_, Nat.le_refl _, Nat.le_refl _, ?_, ?_, fun a c9 h9 => ⟨c9, h9, rfl, rfl, fun _ _ => rfl⟩⟩
    · obtain ⟨t, ht, -⟩ := State.frames_cons hr
      show T.setVm s.vm = { ((T.setVm s.vm).setFrames (.invoking m args :: below)).setFrames (T.setVm s.vm).frames with heap := T.heap, slotsUsed := T.slotsUsed }
      rw [State.setFrames_setFrames, State.setFrames_self ht]
      rfl
    · show T.slotsUsed = T.slotsUsed + ((T.heap.toList.drop T.heap.size).map (·.slots.size)).sum
      rw [List.drop_eq_nil_of_le (Nat.le_of_eq Array.length_toList)]
      rfl
    · show ((T.heap.toList.drop T.heap.size).map (·.slots.size)).sum ≤ 0
      rw [List.drop_eq_nil_of_le (Nat.le_of_eq Array.length_toList)]
      exact Nat.le_refl _
/-- 'throw new E()': new; dup; invokespecial; athrow -/
theorem vx_throw0 {cc : ByteArray} {pc : Nat} (hexec : p.tables.exec = Jvm.exec) (hb : c.code = cc) (hl : l.stackTraces = false) {own cls : String} {names : List String} {ik ic mc ms : Nat} {A : Nat → Prop}
    (hown : s.vm.findClass own = some m.cls) (hcls : Bundle.fit cls = true) (hnames : ∀ n ∈ names, Bundle.fit n = true)
    (hk : (Cond.classLink own ik cls).before args s = true) (hini : (Cond.initialized cls).before args s = true) (hat : ∀ w ∈ vx_at0 own ic cls names, w.before args s = true)
    (hgood : ∀ w ∈ Cond.classLink own ik cls :: Cond.initialized cls :: vx_at0 own ic cls names, vx_ot w = true)
    (hU : vx_Zq Bundle.tN "UNASSIGNED_STACK" Bundle.steD A s s.heap) (hN : vx_Zq Bundle.tN "SUPPRESSED_SENTINEL" Bundle.listD A s s.heap) (hS : va_S A s.heap H locs) (hsize : ls.size = c.maxLocals)
    (d0 : decode cc pc = .ok (.new ik, 3)) (d3 : decode cc (pc + 3) = .ok (.dup, 1)) (d4 : decode cc (pc + 4) = .ok (.invokespecial ic, 3)) (d7 : decode cc (pc + 7) = .ok (.athrow, 1))
    (hout : ∀ x ∈ c.exceptionTable.toList, covers x (pc + 7) = false)
    (hRframes : names.length + 3 < R.frames) (hRlocals : (rest.map fun v => v.category).sum + (13 * (names.length + 1) + 42) ≤ R.locals) (hRcells : cells + 1 ≤ R.cells) (hRslots : slots + 6 ≤ R.slots) (hlocks : meth.locks = false)
    (hx : ∀ t : State, s.vm.Alike t.vm → H.size ≤ t.heap.size → (∀ q : Nat, q < H.size → t.heap[q]? = H[q]?) → XC cls s t)
    (hf : ∀ z ∈ locs, free z.base) (hc : cells + 1 ≤ mc) (hs : slots + 6 ≤ ms) :
    W p l e R s m args below meth c H locs cells slots (vx_MQ below Qc XC args s mc ms free) (F0 m pc ls rest) := by
  intro T hT X
  have htr : e.platform.stackTraces = false := (show e.platform.stackTraces = l.stackTraces by rw [X.admits.platform]).trans hl
  have Y := vx_rebase X (R' := { frames := R.frames, locals := R.locals, cells := 1, slots := 6 }) (Nat.le_refl _) (Nat.le_refl _) hRcells hRslots
  obtain ⟨s', hA⟩ : ∃ z, z = (T.setVm s.vm).setFrames (.invoking m args :: below) := ⟨_, rfl⟩
  rw [← hA] at Y
  have hvm : s'.vm = s.vm := by rw [hA]; rfl
  have hhp : s'.heap = H := by rw [hA]; exact hT
  have hW0 : s.WarmedH s'.vm := by rw [hvm]; exact State.WarmedH.refl s
  have hat' : ∀ w ∈ vx_at0 own ic cls names, w.before args s' = true := fun w hw => vx_ot_at hW0 hvm.symm (hgood w (List.mem_cons_of_mem _ (List.mem_cons_of_mem _ hw))) (hat w hw)
  have hk' : (Cond.classLink own ik cls).before args s' = true := vx_ot_at hW0 hvm.symm (hgood _ List.mem_cons_self) hk
  have hini' : (Cond.initialized cls).before args s' = true := vx_ot_at hW0 hvm.symm (hgood _ (List.mem_cons_of_mem _ List.mem_cons_self)) hini
  have hU' : vx_Zq Bundle.tN "UNASSIGNED_STACK" Bundle.steD A s' s'.heap := by rw [hhp]; exact vx_Zq.moved hW0.alike (hU.kept hS.2.1)
  have hN' : vx_Zq Bundle.tN "SUPPRESSED_SENTINEL" Bundle.listD A s' s'.heap := by rw [hhp]; exact vx_Zq.moved hW0.alike (hN.kept hS.2.1)
  have h : ∀ w ∈ Bundle.ownAtoms0 own ic cls names, w.before args s' = true := vx_own hat' (vx_isRefq hU'.1) (vx_isRefq hN'.1) hU'.2.word hN'.2.word
  have hown' : s'.vm.findClass own = some m.cls := by rw [hvm]; exact hown
  have hins : (Cond.instantiable cls 6).before args s' = true := h _ (by simp [Bundle.ownAtoms0])
  obtain ⟨vm₁, cX, kX, hfX, hkX, -, -, X₁, st1⟩ := Y.newCold hexec (own := own) (C := cls) (index := ik) (n := 6) hown' hk' hins hini'
    (g := F0 m pc ls rest) rfl (by rw [hb]; exact d0) (Nat.le_refl _) (Nat.le_refl _)
  generalize hT1 : (T.setVm vm₁).pushCell { cls := cX, slots := kX.instanceTypes.map defaultValue, vm := .none } = T1 at X₁ st1
  have hcat : (Value.ref T.heap.size).category = 1 := rfl
  have hcellA : T1.heap[T.heap.size]? = some (freshCell cX kX) := by rw [← hT1]; exact State.heap_pushCell_size _ _
  have d3' : decode c.code (pc + 3) = .ok (.dup, 1) := by rw [hb]; exact d3
  obtain ⟨U, hsteps, hrun, hend, hW, hsame, ce, hce, hO⟩ := X₁.ctorThrow0 hexec htr (own := own) (cls := cls) (names := names) (ic := ic) hown' hcls hnames h (fun x hx => nomatch hx) hfX hkX hcellA (by rw [hhp, hT]; exact Nat.le_refl _)
    (g := { method := m, pc := pc + 4, locals := ls, stack := .ref T.heap.size :: .ref T.heap.size :: rest, locked := none }) rfl hsize rfl rfl (rest := rest) rfl
    (by rw [hb]; exact d4) (by rw [hb]; exact d7) hout hRframes (by simp only [List.map_cons, List.sum_cons, hcat]; omega) hlocks
  obtain ⟨f1, f2⟩ := vx_frame hsame
  rw [hhp] at f1 f2
  have hWs : s.WarmedH U.vm := State.WarmedH.trans hW0 hW
  have hcl : s.vm.findClass cls = some ce.cls := by
    have h9 := hO.cls
    rw [hvm] at h9
    exact h9
  have hall : s.sameButNew ({ U with vm := s.vm } : State) locs mc ms := by
    subst hA
    obtain ⟨e1, e2⟩ := hsame
    rw [State.setFrames_setFrames] at e1
    have h2 : (T.setVm s.vm).sameButNew ({ U with vm := s.vm } : State) [] (0 + 1) (0 + 6) := ⟨e1, e2⟩
    have h3 := X.same.trans h2
    rw [List.append_nil] at h3
    exact h3.mono hc hs
  refine ⟨U, ?_, .threw T.heap.size, hrun, hend, Or.inr ⟨T.heap.size, rfl, cls, ce, locs, hx U hWs.alike f1 (fun q hq => f2 q hq (fun z hz => nomatch hz)), hce, hO.vm, hcl, hWs, hall, hf⟩⟩
  refine st1 _ ?_
  show Steps p.tables e below (T1.setTop { method := m, pc := pc + 3, locals := ls, stack := .ref T.heap.size :: rest, locked := none }) _
  jvm_step X₁.here [X₁.here.top, hexec, d3', Value.category]
  exact hsteps
/-- 'throw new E("text")': new; dup; ldc; invokespecial; athrow -/
theorem vx_throwS {cc : ByteArray} {pc : Nat} (hexec : p.tables.exec = Jvm.exec) (hb : c.code = cc) (hl : l.stackTraces = false) {own cls text : String} {names : List String} {ik is ic mc ms sa : Nat} {A : Nat → Prop}
    (hown : s.vm.findClass own = some m.cls) (hcls : Bundle.fit cls = true) (hnames : ∀ n ∈ names, Bundle.fit n = true)
    (hk : (Cond.classLink own ik cls).before args s = true) (hini : (Cond.initialized cls).before args s = true) (hstr : vk_R own is text sa s) (hat : ∀ w ∈ vx_atS own ic cls names, w.before args s = true)
    (hgood : ∀ w ∈ Cond.classLink own ik cls :: Cond.initialized cls :: vx_atS own ic cls names, vx_ot w = true)
    (hU : vx_Zq Bundle.tN "UNASSIGNED_STACK" Bundle.steD A s s.heap) (hN : vx_Zq Bundle.tN "SUPPRESSED_SENTINEL" Bundle.listD A s s.heap) (hS : va_S A s.heap H locs) (hsize : ls.size = c.maxLocals)
    (d0 : decode cc pc = .ok (.new ik, 3)) (d3 : decode cc (pc + 3) = .ok (.dup, 1)) (d4 : decode cc (pc + 4) = .ok (.ldc is, 2)) (d6 : decode cc (pc + 6) = .ok (.invokespecial ic, 3)) (d9 : decode cc (pc + 9) = .ok (.athrow, 1))
    (hout : ∀ x ∈ c.exceptionTable.toList, covers x (pc + 9) = false)
    (hRframes : names.length + 3 < R.frames) (hRlocals : (rest.map fun v => v.category).sum + (13 * (names.length + 1) + 43) ≤ R.locals) (hRcells : cells + 1 ≤ R.cells) (hRslots : slots + 6 ≤ R.slots) (hlocks : meth.locks = false)
    (hx : ∀ t : State, s.vm.Alike t.vm → H.size ≤ t.heap.size → (∀ q : Nat, q < H.size → t.heap[q]? = H[q]?) → XC cls s t)
    (hf : ∀ z ∈ locs, free z.base) (hc : cells + 1 ≤ mc) (hs : slots + 6 ≤ ms) :
    W p l e R s m args below meth c H locs cells slots (vx_MQ below Qc XC args s mc ms free) (F0 m pc ls rest) := by
  intro T hT X
  have htr : e.platform.stackTraces = false := (show e.platform.stackTraces = l.stackTraces by rw [X.admits.platform]).trans hl
  have Y := vx_rebase X (R' := { frames := R.frames, locals := R.locals, cells := 1, slots := 6 }) (Nat.le_refl _) (Nat.le_refl _) hRcells hRslots
  obtain ⟨s', hA⟩ : ∃ z, z = (T.setVm s.vm).setFrames (.invoking m args :: below) := ⟨_, rfl⟩
  rw [← hA] at Y
  have hvm : s'.vm = s.vm := by rw [hA]; rfl
  have hhp : s'.heap = H := by rw [hA]; exact hT
  have hW0 : s.WarmedH s'.vm := by rw [hvm]; exact State.WarmedH.refl s
  have hat' : ∀ w ∈ vx_atS own ic cls names, w.before args s' = true := fun w hw => vx_ot_at hW0 hvm.symm (hgood w (List.mem_cons_of_mem _ (List.mem_cons_of_mem _ hw))) (hat w hw)
  have hk' : (Cond.classLink own ik cls).before args s' = true := vx_ot_at hW0 hvm.symm (hgood _ List.mem_cons_self) hk
  have hini' : (Cond.initialized cls).before args s' = true := vx_ot_at hW0 hvm.symm (hgood _ (List.mem_cons_of_mem _ List.mem_cons_self)) hini
  have hU' : vx_Zq Bundle.tN "UNASSIGNED_STACK" Bundle.steD A s' s'.heap := by rw [hhp]; exact vx_Zq.moved hW0.alike (hU.kept hS.2.1)
  have hN' : vx_Zq Bundle.tN "SUPPRESSED_SENTINEL" Bundle.listD A s' s'.heap := by rw [hhp]; exact vx_Zq.moved hW0.alike (hN.kept hS.2.1)
  have h : ∀ w ∈ Bundle.ownAtoms own ic cls names, w.before args s' = true := vx_own hat' (vx_isRefq hU'.1) (vx_isRefq hN'.1) hU'.2.word hN'.2.word
  have hown' : s'.vm.findClass own = some m.cls := by rw [hvm]; exact hown
  have hins : (Cond.instantiable cls 6).before args s' = true := h _ (by simp [Bundle.ownAtoms])
  obtain ⟨vm₁, cX, kX, hfX, hkX, -, -, X₁, st1⟩ := Y.newCold hexec (own := own) (C := cls) (index := ik) (n := 6) hown' hk' hins hini'
    (g := F0 m pc ls rest) rfl (by rw [hb]; exact d0) (Nat.le_refl _) (Nat.le_refl _)
  generalize hT1 : (T.setVm vm₁).pushCell { cls := cX, slots := kX.instanceTypes.map defaultValue, vm := .none } = T1 at X₁ st1
  have hcat : (Value.ref T.heap.size).category = 1 := rfl
  have hcellA : T1.heap[T.heap.size]? = some (freshCell cX kX) := by rw [← hT1]; exact State.heap_pushCell_size _ _
  have d3' : decode c.code (pc + 3) = .ok (.dup, 1) := by rw [hb]; exact d3
  have d4' : decode c.code (pc + 4) = .ok (.ldc is, 2) := by rw [hb]; exact d4
  have hstr' : vk_R own is text sa s' := vk_R.warm hW0 hstr
  obtain ⟨U, hsteps, hrun, hend, hW, hsame, ce, hce, hO⟩ := X₁.ctorThrowS hexec htr (own := own) (cls := cls) (names := names) (ic := ic) hown' hcls hnames h (fun x hx => nomatch hx) hfX hkX hcellA (by rw [hhp, hT]; exact Nat.le_refl _) (msg := .ref sa) rfl
    (g := { method := m, pc := pc + 6, locals := ls, stack := .ref sa :: .ref T.heap.size :: .ref T.heap.size :: rest, locked := none }) rfl hsize rfl rfl (rest := rest) rfl
    (by rw [hb]; exact d6) (by rw [hb]; exact d9) hout hRframes (by simp only [List.map_cons, List.sum_cons, hcat]; omega) hlocks
  obtain ⟨f1, f2⟩ := vx_frame hsame
  rw [hhp] at f1 f2
  have hWs : s.WarmedH U.vm := State.WarmedH.trans hW0 hW
  have hcl : s.vm.findClass cls = some ce.cls := by
    have h9 := hO.cls
    rw [hvm] at h9
    exact h9
  have hall : s.sameButNew ({ U with vm := s.vm } : State) locs mc ms := by
    subst hA
    obtain ⟨e1, e2⟩ := hsame
    rw [State.setFrames_setFrames] at e1
    have h2 : (T.setVm s.vm).sameButNew ({ U with vm := s.vm } : State) [] (0 + 1) (0 + 6) := ⟨e1, e2⟩
    have h3 := X.same.trans h2
    rw [List.append_nil] at h3
    exact h3.mono hc hs
  refine ⟨U, ?_, .threw T.heap.size, hrun, hend, Or.inr ⟨T.heap.size, rfl, cls, ce, locs, hx U hWs.alike f1 (fun q hq => f2 q hq (fun z hz => nomatch hz)), hce, hO.vm, hcl, hWs, hall, hf⟩⟩
  refine st1 _ ?_
  show Steps p.tables e below (T1.setTop { method := m, pc := pc + 3, locals := ls, stack := .ref T.heap.size :: rest, locked := none }) _
  jvm_step X₁.here [X₁.here.top, hexec, d3', Value.category]
  exact X₁.ldcString hexec (own := own) (text := text) (index := is) (a := sa) hown' hstr'.1 hstr'.2
    (g := { method := m, pc := pc + 4, locals := ls, stack := .ref T.heap.size :: .ref T.heap.size :: rest, locked := none }) rfl d4' _ hsteps
/-- 'throw new E("text")', the text by a wide index -/
theorem vx_throwSW {cc : ByteArray} {pc : Nat} (hexec : p.tables.exec = Jvm.exec) (hb : c.code = cc) (hl : l.stackTraces = false) {own cls text : String} {names : List String} {ik is ic mc ms sa : Nat} {A : Nat → Prop}
    (hown : s.vm.findClass own = some m.cls) (hcls : Bundle.fit cls = true) (hnames : ∀ n ∈ names, Bundle.fit n = true)
    (hk : (Cond.classLink own ik cls).before args s = true) (hini : (Cond.initialized cls).before args s = true) (hstr : vk_R own is text sa s) (hat : ∀ w ∈ vx_atS own ic cls names, w.before args s = true)
    (hgood : ∀ w ∈ Cond.classLink own ik cls :: Cond.initialized cls :: vx_atS own ic cls names, vx_ot w = true)
    (hU : vx_Zq Bundle.tN "UNASSIGNED_STACK" Bundle.steD A s s.heap) (hN : vx_Zq Bundle.tN "SUPPRESSED_SENTINEL" Bundle.listD A s s.heap) (hS : va_S A s.heap H locs) (hsize : ls.size = c.maxLocals)
    (d0 : decode cc pc = .ok (.new ik, 3)) (d3 : decode cc (pc + 3) = .ok (.dup, 1)) (d4 : decode cc (pc + 4) = .ok (.ldc_w is, 3)) (d7 : decode cc (pc + 7) = .ok (.invokespecial ic, 3)) (d10 : decode cc (pc + 10) = .ok (.athrow, 1))
    (hout : ∀ x ∈ c.exceptionTable.toList, covers x (pc + 10) = false)
    (hRframes : names.length + 3 < R.frames) (hRlocals : (rest.map fun v => v.category).sum + (13 * (names.length + 1) + 43) ≤ R.locals) (hRcells : cells + 1 ≤ R.cells) (hRslots : slots + 6 ≤ R.slots) (hlocks : meth.locks = false)
    (hx : ∀ t : State, s.vm.Alike t.vm → H.size ≤ t.heap.size → (∀ q : Nat, q < H.size → t.heap[q]? = H[q]?) → XC cls s t)
    (hf : ∀ z ∈ locs, free z.base) (hc : cells + 1 ≤ mc) (hs : slots + 6 ≤ ms) :
    W p l e R s m args below meth c H locs cells slots (vx_MQ below Qc XC args s mc ms free) (F0 m pc ls rest) := by
  intro T hT X
  have htr : e.platform.stackTraces = false := (show e.platform.stackTraces = l.stackTraces by rw [X.admits.platform]).trans hl
  have Y := vx_rebase X (R' := { frames := R.frames, locals := R.locals, cells := 1, slots := 6 }) (Nat.le_refl _) (Nat.le_refl _) hRcells hRslots
  obtain ⟨s', hA⟩ : ∃ z, z = (T.setVm s.vm).setFrames (.invoking m args :: below) := ⟨_, rfl⟩
  rw [← hA] at Y
  have hvm : s'.vm = s.vm := by rw [hA]; rfl
  have hhp : s'.heap = H := by rw [hA]; exact hT
  have hW0 : s.WarmedH s'.vm := by rw [hvm]; exact State.WarmedH.refl s
  have hat' : ∀ w ∈ vx_atS own ic cls names, w.before args s' = true := fun w hw => vx_ot_at hW0 hvm.symm (hgood w (List.mem_cons_of_mem _ (List.mem_cons_of_mem _ hw))) (hat w hw)
  have hk' : (Cond.classLink own ik cls).before args s' = true := vx_ot_at hW0 hvm.symm (hgood _ List.mem_cons_self) hk
  have hini' : (Cond.initialized cls).before args s' = true := vx_ot_at hW0 hvm.symm (hgood _ (List.mem_cons_of_mem _ List.mem_cons_self)) hini
  have hU' : vx_Zq Bundle.tN "UNASSIGNED_STACK" Bundle.steD A s' s'.heap := by rw [hhp]; exact vx_Zq.moved hW0.alike (hU.kept hS.2.1)
  have hN' : vx_Zq Bundle.tN "SUPPRESSED_SENTINEL" Bundle.listD A s' s'.heap := by rw [hhp]; exact vx_Zq.moved hW0.alike (hN.kept hS.2.1)
  have h : ∀ w ∈ Bundle.ownAtoms own ic cls names, w.before args s' = true := vx_own hat' (vx_isRefq hU'.1) (vx_isRefq hN'.1) hU'.2.word hN'.2.word
  have hown' : s'.vm.findClass own = some m.cls := by rw [hvm]; exact hown
  have hins : (Cond.instantiable cls 6).before args s' = true := h _ (by simp [Bundle.ownAtoms])
  obtain ⟨vm₁, cX, kX, hfX, hkX, -, -, X₁, st1⟩ := Y.newCold hexec (own := own) (C := cls) (index := ik) (n := 6) hown' hk' hins hini'
    (g := F0 m pc ls rest) rfl (by rw [hb]; exact d0) (Nat.le_refl _) (Nat.le_refl _)
  generalize hT1 : (T.setVm vm₁).pushCell { cls := cX, slots := kX.instanceTypes.map defaultValue, vm := .none } = T1 at X₁ st1
  have hcat : (Value.ref T.heap.size).category = 1 := rfl
  have hcellA : T1.heap[T.heap.size]? = some (freshCell cX kX) := by rw [← hT1]; exact State.heap_pushCell_size _ _
  have d3' : decode c.code (pc + 3) = .ok (.dup, 1) := by rw [hb]; exact d3
  have d4' : decode c.code (pc + 4) = .ok (.ldc_w is, 3) := by rw [hb]; exact d4
  have hstr' : vk_R own is text sa s' := vk_R.warm hW0 hstr
  obtain ⟨U, hsteps, hrun, hend, hW, hsame, ce, hce, hO⟩ := X₁.ctorThrowS hexec htr (own := own) (cls := cls) (names := names) (ic := ic) hown' hcls hnames h (fun x hx => nomatch hx) hfX hkX hcellA (by rw [hhp, hT]; exact Nat.le_refl _) (msg := .ref sa) rfl
    (g := { method := m, pc := pc + 7, locals := ls, stack := .ref sa :: .ref T.heap.size :: .ref T.heap.size :: rest, locked := none }) rfl hsize rfl rfl (rest := rest) rfl
    (by rw [hb]; exact d7) (by rw [hb]; exact d10) hout hRframes (by simp only [List.map_cons, List.sum_cons, hcat]; omega) hlocks
  obtain ⟨f1, f2⟩ := vx_frame hsame
  rw [hhp] at f1 f2
  have hWs : s.WarmedH U.vm := State.WarmedH.trans hW0 hW
  have hcl : s.vm.findClass cls = some ce.cls := by
    have h9 := hO.cls
    rw [hvm] at h9
    exact h9
  have hall : s.sameButNew ({ U with vm := s.vm } : State) locs mc ms := by
    subst hA
    obtain ⟨e1, e2⟩ := hsame
    rw [State.setFrames_setFrames] at e1
    have h2 : (T.setVm s.vm).sameButNew ({ U with vm := s.vm } : State) [] (0 + 1) (0 + 6) := ⟨e1, e2⟩
    have h3 := X.same.trans h2
    rw [List.append_nil] at h3
    exact h3.mono hc hs
  refine ⟨U, ?_, .threw T.heap.size, hrun, hend, Or.inr ⟨T.heap.size, rfl, cls, ce, locs, hx U hWs.alike f1 (fun q hq => f2 q hq (fun z hz => nomatch hz)), hce, hO.vm, hcl, hWs, hall, hf⟩⟩
  refine st1 _ ?_
  show Steps p.tables e below (T1.setTop { method := m, pc := pc + 3, locals := ls, stack := .ref T.heap.size :: rest, locked := none }) _
  jvm_step X₁.here [X₁.here.top, hexec, d3', Value.category]
  exact X₁.ldcStringW hexec (own := own) (text := text) (index := is) (a := sa) hown' hstr'.1 hstr'.2
    (g := { method := m, pc := pc + 4, locals := ls, stack := .ref T.heap.size :: .ref T.heap.size :: rest, locked := none }) rfl d4' _ hsteps
end Ends
section Bodies
variable {l : Launch}
theorem vx_ofW {y : MethodName} {ws ws' : List Cond} {rm : Room} {Pc : Array Value → State → Prop} {Qc : Array Value → State → Outcome → State → Prop} {XC : String → State → State → Prop} {mc ms : Nat} {free : Addr → Prop} {cc : ByteArray} {maxL : Nat} {ret : Option FieldType}
    (hy : plainName y.cls = true) (hw : ws = Cond.code y cc maxL ret :: ws')
    (body : ∀ p e s m args below meth c s₁, BodyLoose p l y (headSpec ws rm) cc maxL ret e s m args below meth c s₁ → c.maxLocals = maxL → (∀ x ∈ c.exceptionTable.toList, False) → Pc args s →
      W p l e (headSpec ws rm).room s m args below meth c s.heap [] 0 0 (vx_MQ below Qc XC args s mc ms free) (entryFrame m args maxL)) : vx_Met l y ws rm Pc Qc XC mc ms free := by
  refine MetFree.of_bodyS (code := cc) (maxLocals := maxL) (ret := ret) hy ?_ ?_
  · intro args s m h hn
    obtain ⟨meth, c, h1, h2, h3, h4, h5, h6, -, -⟩ := Cond.code_spec hn (atoms_spec (ws := ws) h _ (by rw [hw]; exact List.mem_cons_self))
    exact ⟨meth, c, h1, h2, h3, h4, h5, h6⟩
  · intro p e s m args below meth c s₁ B hml hP _
    have hh0 : s₁.heap = s.heap := by rw [B.state]; rfl
    have ht : ∀ x ∈ c.exceptionTable.toList, False := by
      obtain ⟨meth9, c9, h1, h2, -, -, -, -, h7, -⟩ := Cond.code_spec B.named (atoms_spec (ws := ws) B.pre _ (by rw [hw]; exact List.mem_cons_self))
      cases Option.some.inj (h1.symm.trans B.method)
      cases Option.some.inj (h2.symm.trans (Stand.of_body B).code)
      intro x hx
      rw [Array.isEmpty_iff.mp h7] at hx
      cases hx
    obtain ⟨t, a1, o, b1, b2, b3⟩ := body p e s m args below meth c s₁ B hml ht hP s₁ hh0 (Stand.of_body B)
    exact ⟨t, o, a1, b1, b2, b3⟩
/-- the table of a body with handlers -/
theorem vx_table {p : Program} {x y : MethodName} {S : Spec} {cc bytes : ByteArray} {maxL maxL' : Nat} {ret ret' : Option FieldType} {e : Env} {s s₁ : State} {m : MethodId} {args : Array Value} {below : List Frame} {meth : Method} {c : Code} {hh : List (Nat × Nat × Nat × Nat)}
    (B : BodyLoose p l y S cc maxL ret e s m args below meth c s₁) (h : (Cond.codeWith y bytes maxL' ret' hh).before args s = true) : c.exceptionTable.toList = tableOf hh := by
  obtain ⟨m9, meth9, c9, hn9, h1, h2, -, -, h6, -⟩ := Cond.codeWith_spec h
  cases Option.some.inj (hn9.symm.trans B.named)
  cases Option.some.inj (h1.symm.trans B.method)
  cases Option.some.inj (h2.symm.trans (Stand.of_body B).code)
  rw [← h6, table_eq]
end Bodies
end VXA
/-! ===== END ===== -/
/-! ===== BEGIN a static call of a method with an exception table ===== -/
section VXS
variable {p : Program} {l : Launch} {e : Env} {R : Room} {s : State} {m : MethodId} {args : Array Value} {below : List Frame} {meth : Method} {c : Code} {T : State} {H : Heap} {locs : List Loc} {cells slots : Nat}
abbrev vx_CSW (R : Room) (s : State) (args : Array Value) (own : String) (index : Nat) (y : MethodName) (bytes : ByteArray) (maxL : Nat) (ret : Option FieldType) (hh : List (Nat × Nat × Nat × Nat)) (ws : List Cond) (rm : Room) (mc ms n : Nat) : Prop :=
  (rm.cells = mc ∧ rm.slots = ms ∧ rm.frames + 1 ≤ R.frames ∧ 8 + (maxL + 11) + rm.locals ≤ R.locals ∧ (∀ w ∈ ws, ∀ (a' : Array Value) (U : State), s.WarmedH U.vm → w.before a' U = true) ∧ Cond.codeWith y bytes maxL ret hh ∈ ws) ∧
  (Cond.codeWith y bytes maxL ret hh).before args s = true ∧ (Cond.initialized y.cls).before args s = true ∧ (y.cls ≠ "java/lang/invoke/MethodHandle" ∧ y.cls ≠ "java/lang/invoke/VarHandle") ∧
  (∀ sig, parseMethodDescriptor y.desc = some sig → n = sig.parameters.length) ∧ (Cond.methodLink own index y).before args s = true ∧ (Cond.static y).before args s = true
theorem vx_cwSW {own : String} {index maxL mc ms : Nat} {y : MethodName} {bytes : ByteArray} {ret : Option FieldType} {hh : List (Nat × Nat × Nat × Nat)} {Ts ws ws' : List Cond} {rm : Room} (n : Nat) (ht : ∀ w ∈ Ts, w.before args s = true) (hT : GoodIn Ts (va_wsS own index y ws)) (hw : ws = Cond.codeWith y bytes maxL ret hh :: ws') (hrc : rm.cells = mc) (hrs : rm.slots = ms)
    (hd : y.cls ≠ "java/lang/invoke/MethodHandle" ∧ y.cls ≠ "java/lang/invoke/VarHandle" ∧ (parseMethodDescriptor y.desc).map (fun d => d.parameters.length) = some n) (hR : rm.frames + 1 ≤ R.frames ∧ 8 + (maxL + 11) + rm.locals ≤ R.locals) :
    vx_CSW R s args own index y bytes maxL ret hh ws rm mc ms n := by
  have ok : ∀ w ∈ va_wsS own index y ws, w.before args s = true := fun w h => ht w (hT w h).1
  have hG : GoodIn Ts ws := fun w h => hT w (by unfold va_wsS; exact List.mem_append_right _ h)
  have hc : Cond.codeWith y bytes maxL ret hh ∈ ws := by rw [hw]; exact List.mem_cons_self
  refine ⟨⟨hrc, hrs, hR.1, hR.2, pay_in ht hG, hc⟩, ht _ (hG _ hc).1, ok _ (by simp [va_wsS]), ⟨hd.1, hd.2.1⟩, fun sig h => ?_, ok _ (by simp [va_wsS]), ok _ (by simp [va_wsS])⟩
  have h2 := hd.2.2
  rw [h] at h2
  exact (Option.some.inj h2).symm
theorem vx_callSW (X : Stand p l e R s m args below meth c T locs cells slots) (hexec : p.tables.exec = Jvm.exec) {own : String} {index : Nat} {y : MethodName} {bytes : ByteArray} {maxL : Nat} {ret : Option FieldType} {hh : List (Nat × Nat × Nat × Nat)}
    (hown : s.vm.findClass own = some m.cls) (hlink : (Cond.methodLink own index y).before args s = true) (hstat : (Cond.static y).before args s = true) (hinit : (Cond.initialized y.cls).before args s = true)
    (hcode : (Cond.codeWith y bytes maxL ret hh).before args s = true) (hy : y.cls ≠ "java/lang/invoke/MethodHandle" ∧ y.cls ≠ "java/lang/invoke/VarHandle")
    {W9 : Nat} {Pre : Pt → Array Value → Prop} {Post : Pt → Array Value → Option Value → Pt → Prop} (hK : Back l R p e below s args y 3 W9 Pre Post)
    {g : JFrame} (hg : g.method = m) (hsize : g.locals.size = c.maxLocals) {argsL rest : List Value} (hlen : ∀ sig, parseMethodDescriptor y.desc = some sig → argsL.length = sig.parameters.length)
    (hstack : g.stack = argsL.reverse ++ rest) (hW : 2 * g.monitorRoom + (rest.map fun v => v.category).sum ≤ W9) (hdg : decode c.code g.pc = .ok (.invokestatic index, 3))
    (hpre : ∀ vm₁, s.WarmedH vm₁ → Pre ⟨T.setVm vm₁, locs, cells, slots⟩ argsL.toArray) :
    ∃ (v : Option Value) (vm₁ : Vm) (B : Pt), s.WarmedH vm₁ ∧ Stand p l e R s m args below meth c B.U B.locs B.cells B.slots ∧ Post ⟨T.setVm vm₁, locs, cells, slots⟩ argsL.toArray v B ∧
      ∀ target, Steps p.tables e below (B.U.setTop { g with pc := g.pc + 3, stack := v.toList ++ rest }) target → Steps p.tables e below (T.setTop g) target := by
  obtain ⟨mk, methM, cM, hnamed, hmethM, -, -, -, -, -, -, hsigM⟩ := Cond.codeWith_spec hcode
  have hstatic : methM.isStatic = true := Cond.static_spec hnamed hmethM hstat
  obtain ⟨kP, hkP, -⟩ := className_of_methodNamed hnamed
  have hinitP : kP.init = .initialized := Cond.initialized_spec (findClass_of_methodNamed hnamed) hkP hinit
  obtain ⟨vm₁, X₁, hstep₁⟩ := X.invokestatic hexec hown hlink hnamed hmethM hstatic hkP hinitP hy (g := g) hg (argsL := argsL) (rest := rest) (hlen _ hsigM) hstack hdg
  obtain ⟨v, B, X', hpost, hsteps⟩ := hK m meth c ⟨T.setVm vm₁, locs, cells, slots⟩ { g with stack := rest } (.invokestatic index) mk argsL.toArray X₁ hg hsize hdg hW (X₁.named hnamed) (hpre vm₁ X₁.warmed)
  exact ⟨v, vm₁, B, X₁.warmed, X', hpost, fun target h => hstep₁ _ fun acts => by rw [doInvoke_state]; exact hsteps.trans h⟩
theorem vx_runSW {y : MethodName} {bytes cc : ByteArray} {maxL nL mc ms n index : Nat} {ret : Option FieldType} {hh : List (Nat × Nat × Nat × Nat)} {ws : List Cond} {rm : Room} {Pc : Array Value → State → Prop} {Qc : Array Value → State → Outcome → State → Prop} {free : Addr → Prop} {Ts : List Cond} {own : String} {As rest : List Value} {g : JFrame}
    (S : CallFix p m c cc nL s args Ts own) (hM : Met l y ws rm Pc Qc mc ms free) (cw : vx_CSW R s args own index y bytes maxL ret hh ws rm mc ms n) (hp : PreS s H Pc As)
    (hg : g.method = m) (hn : As.length = n) (hsize : g.locals.size = nL) (hstack : g.stack = As.reverse ++ rest) (hW : 2 * g.monitorRoom + (rest.map fun v => v.category).sum ≤ 8) (hdg : decode cc g.pc = .ok (.invokestatic index, 3)) (hf : cells + mc ≤ R.cells ∧ slots + ms ≤ R.slots) :
    va_Run p l e R s m args below meth c H locs cells slots mc ms g rest (Qc As.toArray) (free) := by
  obtain ⟨⟨hrc, hrs, hfr, hlo, hws, hcw⟩, hcode, hini, hy, hlen, hl, hstt⟩ := cw
  have hK : Back l R p e below s args y 3 8 (PreOf R mc ms Pc) (PostOf Qc mc ms free) := va_backW (hh := hh) (bytes := bytes) (maxL := maxL) (ret := ret) hM hp.1 hrc hrs hfr hlo hws hcw (fun a' U hW => word_at hW (Or.inl (by first | rfl | simp [Cond.onTables, Cond.keeps, Cond.steady])) hini)
  obtain ⟨hx, hb, hml, ho, -⟩ := S
  intro T hT X
  obtain ⟨v, vm₁, ⟨U', l2, c2, s2⟩, hW₁, X', ⟨g', mk, t, L, e1, e2, hq, h1, hL, h2, h3⟩, st⟩ := vx_callSW X hx (hh := hh) (bytes := bytes) (maxL := maxL) (ret := ret) ho hl hstt hini hcode hy hK hg (hsize.trans hml.symm) (argsL := As) (rest := rest) (fun sig h => hn.trans (hlen sig h)) hstack hW (by rw [hb]; exact hdg)
    (fun vm₁ hW₁ => ⟨hf.1, hf.2, hp.2 (T.setVm vm₁) hT hW₁⟩)
  dsimp only [Pt.U, Pt.locs, Pt.cells, Pt.slots] at X' e1 e2 h1 h2 h3 st
  subst h1; subst h2; subst h3
  exact ⟨v, (T.setVm vm₁).calling g' mk As.toArray, t, U', L, hT, X', hL, e1, e2, hq, st⟩
/-- not caught here, past rows that name other classes: it goes on to the caller -/
theorem vx_outP {p : Program} {l : Launch} {e : Env} {R : Room} {s : State} {m : MethodId} {args : Array Value} {below : List Frame} {meth : Method} {c : Code} {H : Heap} {locs : List Loc} {cells slots : Nat} {free : Addr → Prop} {ls : Array Slot} {rest : List Value} {Qc : Array Value → State → Outcome → State → Prop} {XC : String → State → State → Prop}
    {pc : Nat} {own E : String} {ce : Cell} {q : Addr} {mc ms : Nat} (hown : s.vm.findClass own = some m.cls) (hlocks : meth.locks = false)
    (hpass : ∀ z ∈ c.exceptionTable.toList, covers z pc = false ∨ (z.catchType ≠ 0 ∧ ∃ nm : String, (Cond.classLink own z.catchType nm).before args s = true ∧ va_Nc E nm s)) (hcell : H[q]? = some ce) (hv : ce.vm = .none) (hcl : s.vm.findClass E = some ce.cls)
    (hx : ∀ t : State, t.heap = H → s.vm.Alike t.vm → XC E s t) (hf : ∀ z ∈ locs, free z.base) (hc : cells ≤ mc) (hs : slots ≤ ms) :
    vx_W p l e R s m args below meth c H locs cells slots (vx_MQ below Qc XC args s mc ms free) (F0 m pc ls rest) q := by
  intro T hT X
  have hpl : e.platform.magicAccessors = ({} : Platform).magicAccessors := by rw [X.admits.platform]
  obtain ⟨vm', hW', X', st⟩ := X.outThrough hlocks q (g := F0 m pc ls rest) rfl rfl rfl (cell := ce) (by rw [hT]; exact hcell) (by rw [hv]; rfl)
    (by obtain ⟨k9, h9, -⟩ := Vm.findClass_spec hcl; exact ⟨k9, h9⟩) (fun z hz => by
      rcases hpass z hz with h | ⟨hz0, nm, hl1, hn1⟩
      · exact Or.inl h
      · obtain ⟨c6, hc6, hcl6⟩ := Cond.classLink_spec hown hl1 e.platform hpl
        obtain ⟨a8, b8, h1, h2, h3⟩ := hn1
        cases Option.some.inj (h1.symm.trans hcl)
        cases Option.some.inj (h2.symm.trans hc6)
        exact Or.inr ⟨hz0, _, hcl6, h3⟩)
  obtain ⟨g₀, hfr⟩ := X'.frames_eq
  have hcell9 : ((T.setVm vm').setFrames (.throwing q :: below)).heap[q]? = some ce := by
    show T.heap[q]? = some ce
    rw [hT]; exact hcell
  have hend : Ended ((T.setVm vm').setFrames (.throwing q :: below)) below (.threw q) := State.frames_setFrames _ (State.cur_lt_of_frames hfr)
  refine ⟨(T.setVm vm').setFrames (.throwing q :: below), ?_, .threw q, X'.here.running, hend, Or.inr ⟨q, rfl, E, ce, locs, hx _ hT (X'.ends _).1.alike, hcell9, hv, hcl, (X'.ends _).1, (X'.ends _).2.mono hc hs, hf⟩⟩
  rw [X.pushThrowing_eq]
  exact st
/-- a thing of a world lies in the heap -/
theorem vx_lt {D : va_G} {cl : List vw_C} {ws : va_W} {H1 : Heap} (h : va_P D cl ws H1) {k : Nat} {q : Nat × va_E} (hk : ws[k]? = some q) : q.1 < H1.size := (h k q hk).lt
end VXS
/-! ===== END ===== -/
/-! ===== BEGIN methods with a table of their own: called by a name, returning or throwing ===== -/
section VXH
/-! vx_backW, vx_callVX, vx_callSX, vx_callVW, vx_runVW, vx_runVX, vx_runSX, vx_ofWH follow the same proofs as their sisters above (Free/Laws.lean, Shelf42/LK1.lean); vx_outP calls Shelf42/NT130.lean (outThrough). -/
section
variable {l : Launch} {R : Room} {p : Program} {e : Env} {below : List Frame} {s : State} {sargs : Array Value} {y : MethodName} {len W9 : Nat}
theorem vx_backW {ws : List Cond} {rm : Room} {Pc : Array Value → State → Prop} {Qc : Array Value → State → Outcome → State → Prop} {XC : String → State → State → Prop} {mc ms : Nat} {free : Addr → Prop} {bytes : ByteArray} {maxL : Nat} {ret : Option FieldType} {hh : List (Nat × Nat × Nat × Nat)}
    (hM : vx_Met l y ws rm Pc Qc XC mc ms free) (hblind : FrameBlind Pc) (hrc : rm.cells = mc) (hrs : rm.slots = ms)
    (hframes : rm.frames + 1 ≤ R.frames) (hlocals : W9 + (maxL + 11) + rm.locals ≤ R.locals)
    (hws : ∀ w ∈ ws, ∀ a' U, s.WarmedH U.vm → w.before a' U = true) (hcode : Cond.codeWith y bytes maxL ret hh ∈ ws) (hinit : ∀ a' U, s.WarmedH U.vm → (Cond.initialized y.cls).before a' U = true) :
    vx_Back l R p e below s sargs y len W9 (PreOf R mc ms Pc) (PostOf Qc mc ms free) (vx_Post XC mc ms free) := by
  intro m meth c A g ig mk a X hg hsize hdg hW hn hp
  have h1 : (headSpec ws rm).pre.before a A.U = true := atoms_intro fun w hw => hws w hw _ _ X.warmed
  have h2 : (Cond.codeWith y bytes maxL ret hh).before a A.U = true := hws _ hcode _ _ X.warmed
  have h3 : (Cond.initialized y.cls).before a A.U = true := hinit _ _ X.warmed
  have h4 : A.cells + (headSpec ws rm).room.cells ≤ R.cells := by rw [show (headSpec ws rm).room.cells = mc from hrc]; exact hp.1
  have h5 : A.slots + (headSpec ws rm).room.slots ≤ R.slots := by rw [show (headSpec ws rm).room.slots = ms from hrs]; exact hp.2.1
  have hPc : Pc a (A.U.calling g mk a) := hblind _ _ _ _ hp.2.2
  obtain ⟨U, Ls, c0, s0⟩ := A
  dsimp only [Pt.U, Pt.locs, Pt.cells, Pt.slots] at h1 h2 h3 h4 h5 X hn hPc ⊢
  obtain ⟨m9, methY, cY, hn9, hmY, hcY, -, hlY, -⟩ := Cond.codeWith_spec h2
  cases Option.some.inj (hn9.symm.trans hn)
  obtain ⟨kY, hkY, -⟩ := className_of_methodNamed hn
  have hinitY : kY.init = .initialized := Cond.initialized_spec (findClass_of_methodNamed hn) hkY h3
  have h : At U g.method c below := by rw [hg]; exact X.here
  have hlocals9 : W9 + (maxL + 11) + (headSpec ws rm).room.locals ≤ R.locals := hlocals
  have happ : (headSpec ws rm).appliesLoose y e.platform (U.calling g mk a) = true :=
    Spec.appliesLoose_calling (g := g) h hdg hn hkY hinitY
      (X.room_calling (g := g) (R' := (headSpec ws rm).room) hsize hmY hcY hframes (by rw [hlY]; omega) h4 h5) h1
  obtain ⟨mid, hmid⟩ := h.above
  have hfr : (U.setTop g).frames = (.java g :: mid) ++ below := by rw [State.frames_setTop' g h.top, hmid]; rfl
  obtain ⟨o, s₂, hsteps, -, hend, hq⟩ := Steps.callFree hM p X.admits X.cas X.clock (acts := []) hfr happ hPc trivial
  have hq' : vx_Q Qc XC mc ms free a (U.calling g mk a) o s₂ := hq
  rw [State.frames_setTop' g h.top] at hend
  obtain ⟨g₀, hg0⟩ := Option.isSome_iff_exists.mp h.top
  obtain ⟨r, hr⟩ := State.topJava?_eq_some.mp hg0
  have hr' : (({ U with heap := s₂.heap, slotsUsed := s₂.slotsUsed } : State).setVm s₂.vm).frames = .java g₀ :: r := hr
  rcases hq' with ⟨hqc, L, hfe, hL⟩ | ⟨q, rfl, E, ce, L, hx, hce, hcv, hcl, hW₂, hsm, hL⟩
  · obtain ⟨⟨v, rfl⟩, hW₂, e2, q2, q3, q4, q5, q6⟩ := id hfe
    have e3 : s₂ = ({ (U.calling g mk a).setFrames s₂.frames with heap := s₂.heap, slotsUsed := s₂.slotsUsed } : State).setVm s₂.vm := by
      have : s₂ = ({ s₂ with vm := (U.calling g mk a).vm } : State).setVm s₂.vm := rfl
      rw [e2] at this
      exact this
    obtain ⟨c₂, i₂, len₂, hc₂, hd₂, hf₂⟩ := hend
    have hW' : U.WarmedH s₂.vm := hW₂
    have hcc : c₂ = c := by
      have h1 : s₂.code? g.method = U.code? g.method := by
        rw [State.code?_eq, State.code?_eq, hW'.alike.method?]
      exact Option.some.inj (hc₂.symm.trans (h1.trans h.code))
    subst hcc
    have hlen : len₂ = len := by rw [hdg] at hd₂; cases hd₂; rfl
    subst hlen
    have hs₂ : s₂ = (({ U with heap := s₂.heap, slotsUsed := s₂.slotsUsed } : State).setVm s₂.vm).setTop { g with pc := g.pc + len₂, stack := v.toList ++ g.stack } := by
      refine e3.trans ?_
      rw [hf₂, State.calling_eq h.top, State.setFrames_setFrames, State.setTop_of_frames _ hr', hr]
      rfl
    have hsame : U.sameButNew ({ U with heap := s₂.heap, slotsUsed := s₂.slotsUsed } : State) L mc ms := by
      refine ⟨?_, q2, q3, q4, q5, q6⟩
      obtain ⟨t, ht, -⟩ := State.frames_cons hr
      show ({ U with heap := s₂.heap, slotsUsed := s₂.slotsUsed } : State) = { U.setFrames U.frames with heap := s₂.heap, slotsUsed := s₂.slotsUsed }
      rw [State.setFrames_self ht]
    subst hg
    refine Or.inl ⟨v, ⟨(({ U with heap := s₂.heap, slotsUsed := s₂.slotsUsed } : State).setVm s₂.vm), Ls ++ L, c0 + mc, s0 + ms⟩,
      ⟨X.admits, X.cas, X.clock, X.frames, X.room, X.hears, X.method, X.code, (X.here.setHeapUsed s₂.heap s₂.slotsUsed).setVm hW'.alike, X.tail, State.WarmedH.trans X.warmed hW', X.limits, X.bytes, X.same.trans (hsame.setVm s.vm)⟩,
      ⟨g, mk, s₂, L, rfl, rfl, hqc, rfl, hL, rfl, rfl⟩, ?_⟩
    show Steps p.tables e below _ ((({ U with heap := s₂.heap, slotsUsed := s₂.slotsUsed } : State).setVm s₂.vm).setTop { g with pc := g.pc + len₂, stack := v.toList ++ g.stack })
    rw [← hs₂]
    exact hsteps
  · obtain ⟨e2, q2, q3, q4, q5, q6⟩ := id hsm
    have e3 : s₂ = ({ (U.calling g mk a).setFrames s₂.frames with heap := s₂.heap, slotsUsed := s₂.slotsUsed } : State).setVm s₂.vm := by
      have : s₂ = ({ s₂ with vm := (U.calling g mk a).vm } : State).setVm s₂.vm := rfl
      rw [e2] at this
      exact this
    have hf₂ : s₂.frames = .throwing q :: .java g :: U.frames.tail := hend
    have hW' : U.WarmedH s₂.vm := hW₂
    have hs₂ : s₂ = ((({ U with heap := s₂.heap, slotsUsed := s₂.slotsUsed } : State).setVm s₂.vm).setTop g).pushFrame (.throwing q) := by
      refine e3.trans ?_
      rw [hf₂, State.calling_eq h.top, State.setFrames_setFrames, State.pushFrame, State.frames_setTop _ hr', State.setTop_of_frames _ hr', State.setFrames_setFrames, hr]
      rfl
    have hsame : U.sameButNew ({ U with heap := s₂.heap, slotsUsed := s₂.slotsUsed } : State) L mc ms := by
      refine ⟨?_, q2, q3, q4, q5, q6⟩
      obtain ⟨t, ht, -⟩ := State.frames_cons hr
      show ({ U with heap := s₂.heap, slotsUsed := s₂.slotsUsed } : State) = { U.setFrames U.frames with heap := s₂.heap, slotsUsed := s₂.slotsUsed }
      rw [State.setFrames_self ht]
    subst hg
    refine Or.inr ⟨q, ⟨(({ U with heap := s₂.heap, slotsUsed := s₂.slotsUsed } : State).setVm s₂.vm), Ls ++ L, c0 + mc, s0 + ms⟩,
      ⟨X.admits, X.cas, X.clock, X.frames, X.room, X.hears, X.method, X.code, (X.here.setHeapUsed s₂.heap s₂.slotsUsed).setVm hW'.alike, X.tail, State.WarmedH.trans X.warmed hW', X.limits, X.bytes, X.same.trans (hsame.setVm s.vm)⟩,
      ⟨g, mk, s₂, L, E, ce, rfl, rfl, hx, hce, hcv, hcl, rfl, hL, rfl, rfl⟩, ?_⟩
    show Steps p.tables e below _ (((({ U with heap := s₂.heap, slotsUsed := s₂.slotsUsed } : State).setVm s₂.vm).setTop g).pushFrame (.throwing q))
    rw [← hs₂]
    exact hsteps
end
variable {p : Program} {l : Launch} {e : Env} {R : Room} {s : State} {m : MethodId} {args : Array Value} {below : List Frame} {meth : Method} {c : Code} {T : State} {H : Heap} {locs : List Loc} {cells slots : Nat}
theorem vx_callVX (X : Stand p l e R s m args below meth c T locs cells slots) (hexec : p.tables.exec = Jvm.exec) {own C : String} {index : Nat} {y : MethodName} {bytes : ByteArray} {maxL : Nat} {ret : Option FieldType} {hh : List (Nat × Nat × Nat × Nat)}
    (hown : s.vm.findClass own = some m.cls) (hlink : (Cond.methodLink own index y).before args s = true) (hinst : (Cond.instanceMethod y).before args s = true) (hsel : (Cond.selects C y y).before args s = true)
    (hcode : (Cond.codeWith y bytes maxL ret hh).before args s = true) (hy : y.cls ≠ "java/lang/invoke/MethodHandle" ∧ y.cls ≠ "java/lang/invoke/VarHandle")
    {W9 : Nat} {Pre : Pt → Array Value → Prop} {Post : Pt → Array Value → Option Value → Pt → Prop} {PostX : Pt → Array Value → Addr → Pt → Prop} (hK : vx_Back l R p e below s args y 3 W9 Pre Post PostX)
    {b : Addr} {cellB : Cell} (hcell : T.heap[b]? = some cellB) (hobj : cellB.vm.isStatics = false) (hcls : s.vm.findClass C = some cellB.cls)
    {g : JFrame} (hg : g.method = m) (hsize : g.locals.size = c.maxLocals) {argsL rest : List Value} (hlen : ∀ sig, parseMethodDescriptor y.desc = some sig → argsL.length = sig.parameters.length)
    (hstack : g.stack = argsL.reverse ++ .ref b :: rest) (hW : 2 * g.monitorRoom + (rest.map fun v => v.category).sum ≤ W9) (hdg : decode c.code g.pc = .ok (.invokevirtual index, 3))
    (hpre : ∀ vm₁, s.WarmedH vm₁ → Pre ⟨T.setVm vm₁, locs, cells, slots⟩ (Value.ref b :: argsL).toArray) :
    (∃ (v : Option Value) (vm₁ : Vm) (B : Pt), s.WarmedH vm₁ ∧ Stand p l e R s m args below meth c B.U B.locs B.cells B.slots ∧ Post ⟨T.setVm vm₁, locs, cells, slots⟩ (Value.ref b :: argsL).toArray v B ∧
      ∀ target, Steps p.tables e below (B.U.setTop { g with pc := g.pc + 3, stack := v.toList ++ rest }) target → Steps p.tables e below (T.setTop g) target) ∨
    (∃ (q : Addr) (vm₁ : Vm) (B : Pt), s.WarmedH vm₁ ∧ Stand p l e R s m args below meth c B.U B.locs B.cells B.slots ∧ PostX ⟨T.setVm vm₁, locs, cells, slots⟩ (Value.ref b :: argsL).toArray q B ∧
      Steps p.tables e below (T.setTop g) ((B.U.setTop { g with stack := rest }).pushFrame (.throwing q))) := by
  obtain ⟨mk, methM, hnamed, hmethM, hstM, habM⟩ := Cond.instanceMethod_spec hinst
  obtain ⟨m8, methM', cM, hn8, hmethM', -, -, -, -, -, -, hsigM⟩ := Cond.codeWith_spec hcode
  cases Option.some.inj (hn8.symm.trans hnamed)
  cases hmethM.symm.trans hmethM'
  obtain ⟨c2, r2, m2, q1, q2, q3, q4, kP, hkP, hkPi⟩ := Cond.selects_spec hsel
  cases hcls.symm.trans q1
  cases (State.methodFound?_of_named hnamed hy).symm.trans q2
  cases hnamed.symm.trans q3
  have hselP : selectMethod e.platform s.vm cellB.cls mk = .method mk := by rw [Launch.admits_selectMethod X.admits]; exact q4
  obtain ⟨vm₁, X₁, hstep₁⟩ := X.invokevirtual hexec hown hlink hnamed hmethM hstM hkP hkPi hy (a := b) (cell := cellB) hcell
    (fun z h => by rw [h] at hobj; cases hobj) hselP hmethM habM hkP hkPi (g := g) hg (argsL := argsL) (rest := rest) (hlen _ hsigM) hstack hdg
  rcases hK m meth c ⟨T.setVm vm₁, locs, cells, slots⟩ { g with stack := rest } (.invokevirtual index) mk (Value.ref b :: argsL).toArray X₁ hg hsize hdg hW (X₁.named hnamed) (hpre vm₁ X₁.warmed) with ⟨v, B, X', hpost, hsteps⟩ | ⟨q, B, X', hpost, hsteps⟩
  · exact Or.inl ⟨v, vm₁, B, X₁.warmed, X', hpost, fun target h => hstep₁ _ fun acts => by rw [doInvoke_state]; exact hsteps.trans h⟩
  · exact Or.inr ⟨q, vm₁, B, X₁.warmed, X', hpost, hstep₁ _ fun acts => by rw [doInvoke_state]; exact hsteps⟩
theorem vx_callSX (X : Stand p l e R s m args below meth c T locs cells slots) (hexec : p.tables.exec = Jvm.exec) {own : String} {index : Nat} {y : MethodName} {bytes : ByteArray} {maxL : Nat} {ret : Option FieldType} {hh : List (Nat × Nat × Nat × Nat)}
    (hown : s.vm.findClass own = some m.cls) (hlink : (Cond.methodLink own index y).before args s = true) (hstat : (Cond.static y).before args s = true) (hinit : (Cond.initialized y.cls).before args s = true)
    (hcode : (Cond.codeWith y bytes maxL ret hh).before args s = true) (hy : y.cls ≠ "java/lang/invoke/MethodHandle" ∧ y.cls ≠ "java/lang/invoke/VarHandle")
    {W9 : Nat} {Pre : Pt → Array Value → Prop} {Post : Pt → Array Value → Option Value → Pt → Prop} {PostX : Pt → Array Value → Addr → Pt → Prop} (hK : vx_Back l R p e below s args y 3 W9 Pre Post PostX)
    {g : JFrame} (hg : g.method = m) (hsize : g.locals.size = c.maxLocals) {argsL rest : List Value} (hlen : ∀ sig, parseMethodDescriptor y.desc = some sig → argsL.length = sig.parameters.length)
    (hstack : g.stack = argsL.reverse ++ rest) (hW : 2 * g.monitorRoom + (rest.map fun v => v.category).sum ≤ W9) (hdg : decode c.code g.pc = .ok (.invokestatic index, 3))
    (hpre : ∀ vm₁, s.WarmedH vm₁ → Pre ⟨T.setVm vm₁, locs, cells, slots⟩ argsL.toArray) :
    (∃ (v : Option Value) (vm₁ : Vm) (B : Pt), s.WarmedH vm₁ ∧ Stand p l e R s m args below meth c B.U B.locs B.cells B.slots ∧ Post ⟨T.setVm vm₁, locs, cells, slots⟩ argsL.toArray v B ∧
      ∀ target, Steps p.tables e below (B.U.setTop { g with pc := g.pc + 3, stack := v.toList ++ rest }) target → Steps p.tables e below (T.setTop g) target) ∨
    (∃ (q : Addr) (vm₁ : Vm) (B : Pt), s.WarmedH vm₁ ∧ Stand p l e R s m args below meth c B.U B.locs B.cells B.slots ∧ PostX ⟨T.setVm vm₁, locs, cells, slots⟩ argsL.toArray q B ∧
      Steps p.tables e below (T.setTop g) ((B.U.setTop { g with stack := rest }).pushFrame (.throwing q))) := by
  obtain ⟨mk, methM, cM, hnamed, hmethM, -, -, -, -, -, -, hsigM⟩ := Cond.codeWith_spec hcode
  have hstatic : methM.isStatic = true := Cond.static_spec hnamed hmethM hstat
  obtain ⟨kP, hkP, -⟩ := className_of_methodNamed hnamed
  have hinitP : kP.init = .initialized := Cond.initialized_spec (findClass_of_methodNamed hnamed) hkP hinit
  obtain ⟨vm₁, X₁, hstep₁⟩ := X.invokestatic hexec hown hlink hnamed hmethM hstatic hkP hinitP hy (g := g) hg (argsL := argsL) (rest := rest) (hlen _ hsigM) hstack hdg
  rcases hK m meth c ⟨T.setVm vm₁, locs, cells, slots⟩ { g with stack := rest } (.invokestatic index) mk argsL.toArray X₁ hg hsize hdg hW (X₁.named hnamed) (hpre vm₁ X₁.warmed) with ⟨v, B, X', hpost, hsteps⟩ | ⟨q, B, X', hpost, hsteps⟩
  · exact Or.inl ⟨v, vm₁, B, X₁.warmed, X', hpost, fun target h => hstep₁ _ fun acts => by rw [doInvoke_state]; exact hsteps.trans h⟩
  · exact Or.inr ⟨q, vm₁, B, X₁.warmed, X', hpost, hstep₁ _ fun acts => by rw [doInvoke_state]; exact hsteps⟩
theorem vx_callVW (X : Stand p l e R s m args below meth c T locs cells slots) (hexec : p.tables.exec = Jvm.exec) {own C : String} {index : Nat} {y : MethodName} {bytes : ByteArray} {maxL : Nat} {ret : Option FieldType} {hh : List (Nat × Nat × Nat × Nat)}
    (hown : s.vm.findClass own = some m.cls) (hlink : (Cond.methodLink own index y).before args s = true) (hinst : (Cond.instanceMethod y).before args s = true) (hsel : (Cond.selects C y y).before args s = true)
    (hcode : (Cond.codeWith y bytes maxL ret hh).before args s = true) (hy : y.cls ≠ "java/lang/invoke/MethodHandle" ∧ y.cls ≠ "java/lang/invoke/VarHandle")
    {W9 : Nat} {Pre : Pt → Array Value → Prop} {Post : Pt → Array Value → Option Value → Pt → Prop} (hK : Back l R p e below s args y 3 W9 Pre Post)
    {b : Addr} {cellB : Cell} (hcell : T.heap[b]? = some cellB) (hobj : cellB.vm.isStatics = false) (hcls : s.vm.findClass C = some cellB.cls)
    {g : JFrame} (hg : g.method = m) (hsize : g.locals.size = c.maxLocals) {argsL rest : List Value} (hlen : ∀ sig, parseMethodDescriptor y.desc = some sig → argsL.length = sig.parameters.length)
    (hstack : g.stack = argsL.reverse ++ .ref b :: rest) (hW : 2 * g.monitorRoom + (rest.map fun v => v.category).sum ≤ W9) (hdg : decode c.code g.pc = .ok (.invokevirtual index, 3))
    (hpre : ∀ vm₁, s.WarmedH vm₁ → Pre ⟨T.setVm vm₁, locs, cells, slots⟩ (Value.ref b :: argsL).toArray) :
    ∃ (v : Option Value) (vm₁ : Vm) (B : Pt), s.WarmedH vm₁ ∧ Stand p l e R s m args below meth c B.U B.locs B.cells B.slots ∧ Post ⟨T.setVm vm₁, locs, cells, slots⟩ (Value.ref b :: argsL).toArray v B ∧
      ∀ target, Steps p.tables e below (B.U.setTop { g with pc := g.pc + 3, stack := v.toList ++ rest }) target → Steps p.tables e below (T.setTop g) target := by
  obtain ⟨mk, methM, hnamed, hmethM, hstM, habM⟩ := Cond.instanceMethod_spec hinst
  obtain ⟨m8, methM', cM, hn8, hmethM', -, -, -, -, -, -, hsigM⟩ := Cond.codeWith_spec hcode
  cases Option.some.inj (hn8.symm.trans hnamed)
  cases hmethM.symm.trans hmethM'
  obtain ⟨c2, r2, m2, q1, q2, q3, q4, kP, hkP, hkPi⟩ := Cond.selects_spec hsel
  cases hcls.symm.trans q1
  cases (State.methodFound?_of_named hnamed hy).symm.trans q2
  cases hnamed.symm.trans q3
  have hselP : selectMethod e.platform s.vm cellB.cls mk = .method mk := by rw [Launch.admits_selectMethod X.admits]; exact q4
  obtain ⟨vm₁, X₁, hstep₁⟩ := X.invokevirtual hexec hown hlink hnamed hmethM hstM hkP hkPi hy (a := b) (cell := cellB) hcell
    (fun z h => by rw [h] at hobj; cases hobj) hselP hmethM habM hkP hkPi (g := g) hg (argsL := argsL) (rest := rest) (hlen _ hsigM) hstack hdg
  obtain ⟨v, B, X', hpost, hsteps⟩ := hK m meth c ⟨T.setVm vm₁, locs, cells, slots⟩ { g with stack := rest } (.invokevirtual index) mk (Value.ref b :: argsL).toArray X₁ hg hsize hdg hW (X₁.named hnamed) (hpre vm₁ X₁.warmed)
  exact ⟨v, vm₁, B, X₁.warmed, X', hpost, fun target h => hstep₁ _ fun acts => by rw [doInvoke_state]; exact hsteps.trans h⟩
abbrev vx_CVW (R : Room) (s : State) (args : Array Value) (own C : String) (index : Nat) (y : MethodName) (bytes : ByteArray) (maxL : Nat) (ret : Option FieldType) (hh : List (Nat × Nat × Nat × Nat)) (ws : List Cond) (rm : Room) (mc ms n : Nat) : Prop :=
  (rm.cells = mc ∧ rm.slots = ms ∧ rm.frames + 1 ≤ R.frames ∧ 8 + (maxL + 11) + rm.locals ≤ R.locals ∧ (∀ w ∈ ws, ∀ (a' : Array Value) (U : State), s.WarmedH U.vm → w.before a' U = true) ∧ Cond.codeWith y bytes maxL ret hh ∈ ws) ∧
  (Cond.codeWith y bytes maxL ret hh).before args s = true ∧ (Cond.initialized y.cls).before args s = true ∧ (y.cls ≠ "java/lang/invoke/MethodHandle" ∧ y.cls ≠ "java/lang/invoke/VarHandle") ∧
  (∀ sig, parseMethodDescriptor y.desc = some sig → n = sig.parameters.length) ∧ (Cond.methodLink own index y).before args s = true ∧ (Cond.instanceMethod y).before args s = true ∧ (Cond.selects C y y).before args s = true
theorem vx_cwVW {own C : String} {index maxL mc ms : Nat} {y : MethodName} {bytes : ByteArray} {ret : Option FieldType} {hh : List (Nat × Nat × Nat × Nat)} {Ts ws ws' : List Cond} {rm : Room} (n : Nat) (ht : ∀ w ∈ Ts, w.before args s = true) (hT : GoodIn Ts (wsV own index C y ws)) (hw : ws = Cond.codeWith y bytes maxL ret hh :: ws') (hrc : rm.cells = mc) (hrs : rm.slots = ms)
    (hd : y.cls = C ∧ y.cls ≠ "java/lang/invoke/MethodHandle" ∧ y.cls ≠ "java/lang/invoke/VarHandle" ∧ (parseMethodDescriptor y.desc).map (fun d => d.parameters.length) = some n) (hR : rm.frames + 1 ≤ R.frames ∧ 8 + (maxL + 11) + rm.locals ≤ R.locals) :
    vx_CVW R s args own C index y bytes maxL ret hh ws rm mc ms n := by
  obtain ⟨hC, hd⟩ := hd
  subst hC
  have ok : ∀ w ∈ wsV own index y.cls y ws, w.before args s = true := fun w h => ht w (hT w h).1
  have hG : GoodIn Ts ws := fun w h => hT w (by unfold wsV; exact List.mem_append_right _ h)
  have hc : Cond.codeWith y bytes maxL ret hh ∈ ws := by rw [hw]; exact List.mem_cons_self
  refine ⟨⟨hrc, hrs, hR.1, hR.2, pay_in ht hG, hc⟩, ht _ (hG _ hc).1, ok _ (by simp [wsV]), ⟨hd.1, hd.2.1⟩, fun sig h => ?_, ok _ (by simp [wsV]), ok _ (by simp [wsV]), ok _ (by simp [wsV])⟩
  have h2 := hd.2.2
  rw [h] at h2
  exact (Option.some.inj h2).symm
theorem vx_runVW {y : MethodName} {bytes cc : ByteArray} {maxL nL mc ms n index : Nat} {ret : Option FieldType} {hh : List (Nat × Nat × Nat × Nat)} {ws : List Cond} {rm : Room} {Pc : Array Value → State → Prop} {Qc : Array Value → State → Outcome → State → Prop} {free : Addr → Prop} {Ts : List Cond} {own C : String} {b : Addr} {As rest : List Value} {g : JFrame}
    (S : CallFix p m c cc nL s args Ts own) (hM : Met l y ws rm Pc Qc mc ms free) (cw : vx_CVW R s args own C index y bytes maxL ret hh ws rm mc ms n) (hp : PreV s H C b Pc As)
    (hg : g.method = m) (hn : As.length = n) (hsize : g.locals.size = nL) (hstack : g.stack = As.reverse ++ .ref b :: rest) (hW : 2 * g.monitorRoom + (rest.map fun v => v.category).sum ≤ 8) (hdg : decode cc g.pc = .ok (.invokevirtual index, 3)) (hf : cells + mc ≤ R.cells ∧ slots + ms ≤ R.slots) :
    va_Run p l e R s m args below meth c H locs cells slots mc ms g rest (Qc (Value.ref b :: As).toArray) free := by
  obtain ⟨⟨hrc, hrs, hfr, hlo, hws, hcw⟩, hcode, hini, hy, hlen, hl, hin, hse⟩ := cw
  have hK : Back l R p e below s args y 3 8 (PreOf R mc ms Pc) (PostOf Qc mc ms free) := va_backW (hh := hh) (bytes := bytes) (maxL := maxL) (ret := ret) hM hp.1 hrc hrs hfr hlo hws hcw (fun a' U hW => word_at hW (Or.inl (by first | rfl | simp [Cond.onTables, Cond.keeps, Cond.steady])) hini)
  obtain ⟨hx, hb, hml, ho, -⟩ := S
  obtain ⟨-, ⟨cellB, hcB, hoB, hclB⟩, hPc⟩ := hp
  intro T hT X
  obtain ⟨v, vm₁, ⟨U', l2, c2, s2⟩, hW₁, X', ⟨g', mk, t, L, e1, e2, hq, h1, hL, h2, h3⟩, st⟩ := vx_callVW X hx (C := C) (hh := hh) (bytes := bytes) (maxL := maxL) (ret := ret) ho hl hin hse hcode hy hK (by rw [hT]; exact hcB) hoB hclB hg (hsize.trans hml.symm) (argsL := As) (rest := rest) (fun sig h => hn.trans (hlen sig h)) hstack hW (by rw [hb]; exact hdg)
    (fun vm₁ hW₁ => ⟨hf.1, hf.2, hPc (T.setVm vm₁) hT hW₁⟩)
  dsimp only [Pt.U, Pt.locs, Pt.cells, Pt.slots] at X' e1 e2 h1 h2 h3 st
  subst h1; subst h2; subst h3
  exact ⟨v, (T.setVm vm₁).calling g' mk (Value.ref b :: As).toArray, t, U', L, hT, X', hL, e1, e2, hq, st⟩
section
variable {y : MethodName} {bytes cc : ByteArray} {maxL nL mc ms n index : Nat} {ret : Option FieldType} {ws : List Cond} {rm : Room} {Pc : Array Value → State → Prop} {Qc : Array Value → State → Outcome → State → Prop} {XC : String → State → State → Prop} {free : Addr → Prop} {Ts : List Cond} {own C : String} {b : Addr} {As rest : List Value} {g : JFrame}
theorem vx_runVX {hh : List (Nat × Nat × Nat × Nat)} (S : CallFix p m c cc nL s args Ts own) (hM : vx_Met l y ws rm Pc Qc XC mc ms free) (cw : vx_CVW R s args own C index y bytes maxL ret hh ws rm mc ms n) (hp : PreV s H C b Pc As)
    (hg : g.method = m) (hn : As.length = n) (hsize : g.locals.size = nL) (hstack : g.stack = As.reverse ++ .ref b :: rest) (hW : 2 * g.monitorRoom + (rest.map fun v => v.category).sum ≤ 8) (hdg : decode cc g.pc = .ok (.invokevirtual index, 3)) (hf : cells + mc ≤ R.cells ∧ slots + ms ≤ R.slots) :
    vx_Run p l e R s m args below meth c H locs cells slots mc ms g rest (Qc (Value.ref b :: As).toArray) XC free := by
  obtain ⟨⟨hrc, hrs, hfr, hlo, hws, hcw⟩, hcode, hini, hy, hlen, hl, hin, hse⟩ := cw
  have hK : vx_Back l R p e below s args y 3 8 (PreOf R mc ms Pc) (PostOf Qc mc ms free) (vx_Post XC mc ms free) := vx_backW (hh := hh) (bytes := bytes) (maxL := maxL) (ret := ret) hM hp.1 hrc hrs hfr hlo hws hcw (fun a' U hW => word_at hW (Or.inl (by first | rfl | simp [Cond.onTables, Cond.keeps, Cond.steady])) hini)
  obtain ⟨hx, hb, hml, ho, -⟩ := S
  obtain ⟨-, ⟨cellB, hcB, hoB, hclB⟩, hPc⟩ := hp
  intro T hT X
  rcases vx_callVX X hx (C := C) (hh := hh) (bytes := bytes) (maxL := maxL) (ret := ret) ho hl hin hse hcode hy hK (by rw [hT]; exact hcB) hoB hclB hg (hsize.trans hml.symm) (argsL := As) (rest := rest) (fun sig h => hn.trans (hlen sig h)) hstack hW (by rw [hb]; exact hdg)
    (fun vm₁ hW₁ => ⟨hf.1, hf.2, hPc (T.setVm vm₁) hT hW₁⟩) with ⟨v, vm₁, ⟨U', l2, c2, s2⟩, hW₁, X', ⟨g', mk, t, L, e1, e2, hq, h1, hL, h2, h3⟩, st⟩ | ⟨q, vm₁, ⟨U', l2, c2, s2⟩, hW₁, X', ⟨g', mk, t, L, E, ce, e1, e2, hq, hce, hcv, hcl, h1, hL, h2, h3⟩, st⟩
  · dsimp only [Pt.U, Pt.locs, Pt.cells, Pt.slots] at X' e1 e2 h1 h2 h3 st
    subst h1; subst h2; subst h3
    exact Or.inl ⟨v, (T.setVm vm₁).calling g' mk (Value.ref b :: As).toArray, t, U', L, hT, X', hL, e1, e2, hq, st⟩
  · dsimp only [Pt.U, Pt.locs, Pt.cells, Pt.slots] at X' e1 e2 h1 h2 h3 st hcl
    subst h1; subst h2; subst h3
    exact Or.inr ⟨q, (T.setVm vm₁).calling g' mk (Value.ref b :: As).toArray, t, U', L, E, ce, hT, X', hL, e1, e2, hq, hce, hcv, vx_cls hW₁ hcl, st⟩
theorem vx_runSX {hh : List (Nat × Nat × Nat × Nat)} (S : CallFix p m c cc nL s args Ts own) (hM : vx_Met l y ws rm Pc Qc XC mc ms free) (cw : vx_CSW R s args own index y bytes maxL ret hh ws rm mc ms n) (hp : PreS s H Pc As)
    (hg : g.method = m) (hn : As.length = n) (hsize : g.locals.size = nL) (hstack : g.stack = As.reverse ++ rest) (hW : 2 * g.monitorRoom + (rest.map fun v => v.category).sum ≤ 8) (hdg : decode cc g.pc = .ok (.invokestatic index, 3)) (hf : cells + mc ≤ R.cells ∧ slots + ms ≤ R.slots) :
    vx_Run p l e R s m args below meth c H locs cells slots mc ms g rest (Qc As.toArray) XC free := by
  obtain ⟨⟨hrc, hrs, hfr, hlo, hws, hcw⟩, hcode, hini, hy, hlen, hl, hstt⟩ := cw
  have hK : vx_Back l R p e below s args y 3 8 (PreOf R mc ms Pc) (PostOf Qc mc ms free) (vx_Post XC mc ms free) := vx_backW (hh := hh) (bytes := bytes) (maxL := maxL) (ret := ret) hM hp.1 hrc hrs hfr hlo hws hcw (fun a' U hW => word_at hW (Or.inl (by first | rfl | simp [Cond.onTables, Cond.keeps, Cond.steady])) hini)
  obtain ⟨hx, hb, hml, ho, -⟩ := S
  intro T hT X
  rcases vx_callSX X hx (hh := hh) (bytes := bytes) (maxL := maxL) (ret := ret) ho hl hstt hini hcode hy hK hg (hsize.trans hml.symm) (argsL := As) (rest := rest) (fun sig h => hn.trans (hlen sig h)) hstack hW (by rw [hb]; exact hdg)
    (fun vm₁ hW₁ => ⟨hf.1, hf.2, hp.2 (T.setVm vm₁) hT hW₁⟩) with ⟨v, vm₁, ⟨U', l2, c2, s2⟩, hW₁, X', ⟨g', mk, t, L, e1, e2, hq, h1, hL, h2, h3⟩, st⟩ | ⟨q, vm₁, ⟨U', l2, c2, s2⟩, hW₁, X', ⟨g', mk, t, L, E, ce, e1, e2, hq, hce, hcv, hcl, h1, hL, h2, h3⟩, st⟩
  · dsimp only [Pt.U, Pt.locs, Pt.cells, Pt.slots] at X' e1 e2 h1 h2 h3 st
    subst h1; subst h2; subst h3
    exact Or.inl ⟨v, (T.setVm vm₁).calling g' mk As.toArray, t, U', L, hT, X', hL, e1, e2, hq, st⟩
  · dsimp only [Pt.U, Pt.locs, Pt.cells, Pt.slots] at X' e1 e2 h1 h2 h3 st hcl
    subst h1; subst h2; subst h3
    exact Or.inr ⟨q, (T.setVm vm₁).calling g' mk As.toArray, t, U', L, E, ce, hT, X', hL, e1, e2, hq, hce, hcv, vx_cls hW₁ hcl, st⟩
end
end VXH
theorem vx_ofWH {l : Launch} {y : MethodName} {ws ws' : List Cond} {rm : Room} {Pc : Array Value → State → Prop} {Qc : Array Value → State → Outcome → State → Prop} {XC : String → State → State → Prop} {mc ms : Nat} {free : Addr → Prop} {cc : ByteArray} {maxL : Nat} {ret : Option FieldType} {hh : List (Nat × Nat × Nat × Nat)}
    (hy : plainName y.cls = true) (hw : ws = Cond.codeWith y cc maxL ret hh :: ws')
    (body : ∀ p e s m args below meth c s₁, BodyLoose p l y (headSpec ws rm) cc maxL ret e s m args below meth c s₁ → c.maxLocals = maxL → Pc args s →
      W p l e (headSpec ws rm).room s m args below meth c s.heap [] 0 0 (vx_MQ below Qc XC args s mc ms free) (entryFrame m args maxL)) : vx_Met l y ws rm Pc Qc XC mc ms free := by
  refine MetFree.of_bodyS (code := cc) (maxLocals := maxL) (ret := ret) hy ?_ ?_
  · intro args s m h hn
    obtain ⟨m9, meth, c, hn9, h1, h2, h3, h4, -, h5, h6, -⟩ := Cond.codeWith_spec (atoms_spec (ws := ws) h _ (by rw [hw]; exact List.mem_cons_self))
    cases hn.symm.trans hn9
    exact ⟨meth, c, h1, h2, h3, h4, h5, h6⟩
  · intro p e s m args below meth c s₁ B hml hP _
    have hh0 : s₁.heap = s.heap := by rw [B.state]; rfl
    obtain ⟨t, a1, o, b1, b2, b3⟩ := body p e s m args below meth c s₁ B hml hP s₁ hh0 (Stand.of_body B)
    exact ⟨t, o, a1, b1, b2, b3⟩
/-! ===== END ===== -/
end
section
def RX0 : String := "DialectAtlas$Interview"
def TX0 : u_T := fun k => match k with
  | 0 => ("DialectAtlas$Interview", "bit", "J", true)
  | 1 => ("DialectAtlas$Interview", "informant", "I", true)
  | 2 => ("DialectAtlas$Interview", "place", "I", true)
  | 3 => ("DialectAtlas$Interview", "year", "I", true)
  | 4 => ("DialectAtlas$Interview", "word", "I", true)
  | _ => ("DialectAtlas$Interview", "form", "I", true)
def tyX0 : Nat → FieldType := fun k => match k with
  | 0 => .long
  | 1 => .int
  | 2 => .int
  | 3 => .int
  | 4 => .int
  | _ => .int
theorem nmX0 : ∀ a, a < 6 → ∀ b, b < 6 → a ≠ b → (TX0 a).2.1 ≠ (TX0 b).2.1 := by decide +kernel
theorem tyX0_ok : ∀ k, k < 6 → parseFieldDescriptor (TX0 k).2.2.1 = some (tyX0 k) := by decide +kernel
abbrev cX0_init : ByteArray := prog_2_method_1_code
def yX0_init : MethodName := ⟨RX0, "<init>", "(JIIIII)V"⟩
abbrev cX0_isFor : ByteArray := prog_2_method_2_code
def yX0_isFor : MethodName := ⟨RX0, "isFor", "(II)Z"⟩
def RX1 : String := "DialectAtlas$Rule"
def TX1 : u_T := fun k => match k with
  | 0 => ("DialectAtlas$Rule", "sound", "I", true)
  | 1 => ("DialectAtlas$Rule", "to", "I", true)
  | 2 => ("DialectAtlas$Rule", "behind", "I", true)
  | 3 => ("DialectAtlas$Rule", "first", "I", true)
  | 4 => ("DialectAtlas$Rule", "last", "I", true)
  | 5 => ("DialectAtlas$Rule", "year", "I", true)
  | 6 => ("DialectAtlas$Rule", "grounds", "J", false)
  | _ => ("DialectAtlas$Rule", "fallen", "Z", false)
def tyX1 : Nat → FieldType := fun k => match k with
  | 0 => .int
  | 1 => .int
  | 2 => .int
  | 3 => .int
  | 4 => .int
  | 5 => .int
  | 6 => .long
  | _ => .boolean
theorem nmX1 : ∀ a, a < 8 → ∀ b, b < 8 → a ≠ b → (TX1 a).2.1 ≠ (TX1 b).2.1 := by decide +kernel
theorem tyX1_ok : ∀ k, k < 8 → parseFieldDescriptor (TX1 k).2.2.1 = some (tyX1 k) := by decide +kernel
abbrev cX1_init : ByteArray := prog_3_method_1_code
def yX1_init : MethodName := ⟨RX1, "<init>", "(IIIIII)V"⟩
abbrev cX1_restsOn : ByteArray := prog_3_method_2_code
def yX1_restsOn : MethodName := ⟨RX1, "restsOn", "(LDialectAtlas$Interview;)Z"⟩
abbrev cX1_restNoMoreOn : ByteArray := prog_3_method_3_code
def yX1_restNoMoreOn : MethodName := ⟨RX1, "restNoMoreOn", "(J)V"⟩
abbrev cX1_goesAt : ByteArray := prog_3_method_4_code
def yX1_goesAt : MethodName := ⟨RX1, "goesAt", "(II)Z"⟩
abbrev cX1_changes : ByteArray := prog_3_method_5_code
def yX1_changes : MethodName := ⟨RX1, "changes", "(II)Z"⟩
abbrev cX1_applyTo : ByteArray := prog_3_method_6_code
def yX1_applyTo : MethodName := ⟨RX1, "applyTo", "(I)I"⟩
def RX2 : String := "DialectAtlas$StepCounter"
def TX2 : u_T := fun k => match k with
  | _ => ("DialectAtlas$StepCounter", "row", "[I", true)
def tyX2 : Nat → FieldType := fun k => match k with
  | _ => .array .int
theorem nmX2 : ∀ a, a < 1 → ∀ b, b < 1 → a ≠ b → (TX2 a).2.1 ≠ (TX2 b).2.1 := by decide +kernel
theorem tyX2_ok : ∀ k, k < 1 → parseFieldDescriptor (TX2 k).2.2.1 = some (tyX2 k) := by decide +kernel
abbrev cX2_init : ByteArray := prog_4_method_1_code
def yX2_init : MethodName := ⟨RX2, "<init>", "()V"⟩
abbrev cX2_countSteps : ByteArray := prog_4_method_2_code
def yX2_countSteps : MethodName := ⟨RX2, "countSteps", "(II)I"⟩
abbrev cX2_goThrough : ByteArray := prog_4_method_3_code
def yX2_goThrough : MethodName := ⟨RX2, "goThrough", "(II)I"⟩
def RX3 : String := "DialectAtlas"
def TX3 : u_T := fun k => match k with
  | 0 => ("DialectAtlas", "interviews", "Ljava/util/ArrayList;", true)
  | 1 => ("DialectAtlas", "rules", "Ljava/util/ArrayList;", true)
  | 2 => ("DialectAtlas", "quotes", "Ljava/util/ArrayList;", true)
  | 3 => ("DialectAtlas", "roots", "[I", true)
  | 4 => ("DialectAtlas", "keptLines", "[I", true)
  | 5 => ("DialectAtlas", "knownAt", "[J", true)
  | 6 => ("DialectAtlas", "stepCounter", "LDialectAtlas$StepCounter;", true)
  | 7 => ("DialectAtlas", "there", "J", false)
  | 8 => ("DialectAtlas", "draft", "I", false)
  | _ => ("DialectAtlas", "draftLength", "I", false)
def tyX3 : Nat → FieldType := fun k => match k with
  | 0 => .object "java/util/ArrayList"
  | 1 => .object "java/util/ArrayList"
  | 2 => .object "java/util/ArrayList"
  | 3 => .array .int
  | 4 => .array .int
  | 5 => .array .long
  | 6 => .object "DialectAtlas$StepCounter"
  | 7 => .long
  | 8 => .int
  | _ => .int
theorem nmX3 : ∀ a, a < 10 → ∀ b, b < 10 → a ≠ b → (TX3 a).2.1 ≠ (TX3 b).2.1 := by decide +kernel
theorem tyX3_ok : ∀ k, k < 10 → parseFieldDescriptor (TX3 k).2.2.1 = some (tyX3 k) := by decide +kernel
abbrev cX3_init : ByteArray := prog_1_method_1_code
def yX3_init : MethodName := ⟨RX3, "<init>", "()V"⟩
abbrev cX3_sound : ByteArray := prog_1_method_2_code
def yX3_sound : MethodName := ⟨RX3, "sound", "(I)I"⟩
abbrev cX3_interview : ByteArray := prog_1_method_3_code
def yX3_interview : MethodName := ⟨RX3, "interview", "(IIII)I"⟩
abbrev cX3_setRoot : ByteArray := prog_1_method_4_code
def yX3_setRoot : MethodName := ⟨RX3, "setRoot", "(I)I"⟩
abbrev cX3_form : ByteArray := prog_1_method_5_code
def yX3_form : MethodName := ⟨RX3, "form", "(I)I"⟩
abbrev cX3_rule : ByteArray := prog_1_method_6_code
def yX3_rule : MethodName := ⟨RX3, "rule", "(IIIIII)I"⟩
abbrev cX3_rest : ByteArray := prog_1_method_7_code
def yX3_rest : MethodName := ⟨RX3, "rest", "(II)I"⟩
abbrev cX3_stands : ByteArray := prog_1_method_8_code
def yX3_stands : MethodName := ⟨RX3, "stands", "(I)Z"⟩
abbrev cX3_expected : ByteArray := prog_1_method_9_code
def yX3_expected : MethodName := ⟨RX3, "expected", "(III)I"⟩
abbrev cX3_far : ByteArray := prog_1_method_10_code
def yX3_far : MethodName := ⟨RX3, "far", "(I)I"⟩
abbrev cX3_formAt : ByteArray := prog_1_method_11_code
def yX3_formAt : MethodName := ⟨RX3, "formAt", "(II)I"⟩
abbrev cX3_lines : ByteArray := prog_1_method_12_code
def yX3_lines : MethodName := ⟨RX3, "lines", "(I)I"⟩
abbrev cX3_linesByForms : ByteArray := prog_1_method_13_code
def yX3_linesByForms : MethodName := ⟨RX3, "linesByForms", "(I)I"⟩
abbrev cX3_forget : ByteArray := prog_1_method_14_code
def yX3_forget : MethodName := ⟨RX3, "forget", "(I)I"⟩
abbrev cX3_copy : ByteArray := prog_1_method_15_code
def yX3_copy : MethodName := ⟨RX3, "copy", "(I)I"⟩
abbrev cX3_tell : ByteArray := prog_1_method_16_code
def yX3_tell : MethodName := ⟨RX3, "tell", "(I)I"⟩
abbrev cX3_owed : ByteArray := prog_1_method_17_code
def yX3_owed : MethodName := ⟨RX3, "owed", "(I)I"⟩
abbrev cX3_quote : ByteArray := prog_1_method_18_code
def yX3_quote : MethodName := ⟨RX3, "quote", "(I)I"⟩
abbrev cX3_quoted : ByteArray := prog_1_method_19_code
def yX3_quoted : MethodName := ⟨RX3, "quoted", "(I)I"⟩
abbrev cX3_isOutside : ByteArray := prog_1_method_20_code
def yX3_isOutside : MethodName := ⟨RX3, "isOutside", "(II)Z"⟩
abbrev cX3_canStandBehind : ByteArray := prog_1_method_21_code
def yX3_canStandBehind : MethodName := ⟨RX3, "canStandBehind", "(I)Z"⟩
abbrev cX3_takeDraft : ByteArray := prog_1_method_22_code
def yX3_takeDraft : MethodName := ⟨RX3, "takeDraft", "()I"⟩
abbrev cX3_isThere : ByteArray := prog_1_method_23_code
def yX3_isThere : MethodName := ⟨RX3, "isThere", "(LDialectAtlas$Interview;)Z"⟩
abbrev cX3_formIfThere : ByteArray := prog_1_method_24_code
def yX3_formIfThere : MethodName := ⟨RX3, "formIfThere", "(LDialectAtlas$Interview;)I"⟩
abbrev cX3_interviewsOf : ByteArray := prog_1_method_25_code
def yX3_interviewsOf : MethodName := ⟨RX3, "interviewsOf", "(I)J"⟩
abbrev cX3_applyRules : ByteArray := prog_1_method_26_code
def yX3_applyRules : MethodName := ⟨RX3, "applyRules", "(III)I"⟩
abbrev cX3_mostToldForm : ByteArray := prog_1_method_27_code
def yX3_mostToldForm : MethodName := ⟨RX3, "mostToldForm", "(II)I"⟩
abbrev cX3_countLike : ByteArray := prog_1_method_28_code
def yX3_countLike : MethodName := ⟨RX3, "countLike", "(LDialectAtlas$Interview;)I"⟩
abbrev cX3_drawLines : ByteArray := prog_1_method_29_code
def yX3_drawLines : MethodName := ⟨RX3, "drawLines", "(I)I"⟩
def RX4 : String := "DialectAtlasModel"
def TX4 : u_T := fun k => match k with
  | _ => ("", "", "", false)
def tyX4 : Nat → FieldType := fun k => match k with
  | _ => .int
theorem nmX4 : ∀ a, a < 0 → ∀ b, b < 0 → a ≠ b → (TX4 a).2.1 ≠ (TX4 b).2.1 := by decide +kernel
theorem tyX4_ok : ∀ k, k < 0 → parseFieldDescriptor (TX4 k).2.2.1 = some (tyX4 k) := by decide +kernel
def RJx145de : String := "java/io/Serializable"
def TJx145de : u_T := fun k => match k with
  | _ => ("", "", "", false)
def tyJx145de : Nat → FieldType := fun k => match k with
  | _ => .int
theorem nmJx145de : ∀ a, a < 0 → ∀ b, b < 0 → a ≠ b → (TJx145de a).2.1 ≠ (TJx145de b).2.1 := by decide +kernel
theorem tyJx145de_ok : ∀ k, k < 0 → parseFieldDescriptor (TJx145de k).2.2.1 = some (tyJx145de k) := by decide +kernel
def RJx8e188 : String := "java/lang/Cloneable"
def TJx8e188 : u_T := fun k => match k with
  | _ => ("", "", "", false)
def tyJx8e188 : Nat → FieldType := fun k => match k with
  | _ => .int
theorem nmJx8e188 : ∀ a, a < 0 → ∀ b, b < 0 → a ≠ b → (TJx8e188 a).2.1 ≠ (TJx8e188 b).2.1 := by decide +kernel
theorem tyJx8e188_ok : ∀ k, k < 0 → parseFieldDescriptor (TJx8e188 k).2.2.1 = some (tyJx8e188 k) := by decide +kernel
def RJxab1ab : String := "java/lang/Iterable"
def TJxab1ab : u_T := fun k => match k with
  | _ => ("", "", "", false)
def tyJxab1ab : Nat → FieldType := fun k => match k with
  | _ => .int
theorem nmJxab1ab : ∀ a, a < 0 → ∀ b, b < 0 → a ≠ b → (TJxab1ab a).2.1 ≠ (TJxab1ab b).2.1 := by decide +kernel
theorem tyJxab1ab_ok : ∀ k, k < 0 → parseFieldDescriptor (TJxab1ab k).2.2.1 = some (tyJxab1ab k) := by decide +kernel
def RJ13 : String := "java/lang/Long"
def TJ13 : u_T := fun k => match k with
  | _ => ("", "", "", false)
def tyJ13 : Nat → FieldType := fun k => match k with
  | _ => .int
theorem nmJ13 : ∀ a, a < 0 → ∀ b, b < 0 → a ≠ b → (TJ13 a).2.1 ≠ (TJ13 b).2.1 := by decide +kernel
theorem tyJ13_ok : ∀ k, k < 0 → parseFieldDescriptor (TJ13 k).2.2.1 = some (tyJ13 k) := by decide +kernel
abbrev cJ13_bitCount_95d88 : ByteArray := prog_14_method_50_code
def yJ13_bitCount_95d88 : MethodName := ⟨RJ13, "bitCount", "(J)I"⟩
def RJ9 : String := "java/lang/Math"
def TJ9 : u_T := fun k => match k with
  | _ => ("", "", "", false)
def tyJ9 : Nat → FieldType := fun k => match k with
  | _ => .int
theorem nmJ9 : ∀ a, a < 0 → ∀ b, b < 0 → a ≠ b → (TJ9 a).2.1 ≠ (TJ9 b).2.1 := by decide +kernel
theorem tyJ9_ok : ∀ k, k < 0 → parseFieldDescriptor (TJ9 k).2.2.1 = some (tyJ9 k) := by decide +kernel
abbrev cJ9_max_7cf53 : ByteArray := prog_15_method_65_code
def yJ9_max_7cf53 : MethodName := ⟨RJ9, "max", "(II)I"⟩
abbrev cJ9_min_7cf53 : ByteArray := prog_15_method_69_code
def yJ9_min_7cf53 : MethodName := ⟨RJ9, "min", "(II)I"⟩
def RJ0 : String := "java/lang/String"
def TJ0 : u_T := fun k => match k with
  | _ => ("", "", "", false)
def tyJ0 : Nat → FieldType := fun k => match k with
  | _ => .int
theorem nmJ0 : ∀ a, a < 0 → ∀ b, b < 0 → a ≠ b → (TJ0 a).2.1 ≠ (TJ0 b).2.1 := by decide +kernel
theorem tyJ0_ok : ∀ k, k < 0 → parseFieldDescriptor (TJ0 k).2.2.1 = some (tyJ0 k) := by decide +kernel
def RJ10 : String := "java/lang/System"
def TJ10 : u_T := fun k => match k with
  | _ => ("", "", "", false)
def tyJ10 : Nat → FieldType := fun k => match k with
  | _ => .int
theorem nmJ10 : ∀ a, a < 0 → ∀ b, b < 0 → a ≠ b → (TJ10 a).2.1 ≠ (TJ10 b).2.1 := by decide +kernel
theorem tyJ10_ok : ∀ k, k < 0 → parseFieldDescriptor (TJ10 k).2.2.1 = some (tyJ10 k) := by decide +kernel
def RJxa1e45 : String := "java/util/AbstractCollection"
def TJxa1e45 : u_T := fun k => match k with
  | _ => ("", "", "", false)
def tyJxa1e45 : Nat → FieldType := fun k => match k with
  | _ => .int
theorem nmJxa1e45 : ∀ a, a < 0 → ∀ b, b < 0 → a ≠ b → (TJxa1e45 a).2.1 ≠ (TJxa1e45 b).2.1 := by decide +kernel
theorem tyJxa1e45_ok : ∀ k, k < 0 → parseFieldDescriptor (TJxa1e45 k).2.2.1 = some (tyJxa1e45 k) := by decide +kernel
abbrev cJxa1e45_init_da8c8 : ByteArray := prog_20_method_1_code
def yJxa1e45_init_da8c8 : MethodName := ⟨RJxa1e45, "<init>", "()V"⟩
def RJxc12de : String := "java/util/AbstractList"
def TJxc12de : u_T := fun k => match k with
  | _ => ("", "", "", false)
def tyJxc12de : Nat → FieldType := fun k => match k with
  | _ => .int
theorem nmJxc12de : ∀ a, a < 0 → ∀ b, b < 0 → a ≠ b → (TJxc12de a).2.1 ≠ (TJxc12de b).2.1 := by decide +kernel
theorem tyJxc12de_ok : ∀ k, k < 0 → parseFieldDescriptor (TJxc12de k).2.2.1 = some (tyJxc12de k) := by decide +kernel
abbrev cJxc12de_init_da8c8 : ByteArray := prog_21_method_1_code
def yJxc12de_init_da8c8 : MethodName := ⟨RJxc12de, "<init>", "()V"⟩
def RJx4a65c : String := "java/util/ArrayList"
def TJx4a65c : u_T := fun k => match k with
  | 0 => ("java/util/AbstractList", "modCount", "I", false)
  | 1 => ("java/util/ArrayList", "elementData", "[Ljava/lang/Object;", false)
  | _ => ("java/util/ArrayList", "size", "I", false)
def tyJx4a65c : Nat → FieldType := fun k => match k with
  | 0 => .int
  | 1 => .array (.object "java/lang/Object")
  | _ => .int
theorem nmJx4a65c : ∀ a, a < 3 → ∀ b, b < 3 → a ≠ b → (TJx4a65c a).2.1 ≠ (TJx4a65c b).2.1 := by decide +kernel
theorem tyJx4a65c_ok : ∀ k, k < 3 → parseFieldDescriptor (TJx4a65c k).2.2.1 = some (tyJx4a65c k) := by decide +kernel
abbrev cJx4a65c_init_da8c8 : ByteArray := prog_22_method_2_code
def yJx4a65c_init_da8c8 : MethodName := ⟨RJx4a65c, "<init>", "()V"⟩
abbrev cJx4a65c_grow_92f84 : ByteArray := prog_22_method_6_code
def yJx4a65c_grow_92f84 : MethodName := ⟨RJx4a65c, "grow", "(I)[Ljava/lang/Object;"⟩
abbrev cJx4a65c_grow_d5877 : ByteArray := prog_22_method_7_code
def yJx4a65c_grow_d5877 : MethodName := ⟨RJx4a65c, "grow", "()[Ljava/lang/Object;"⟩
abbrev cJx4a65c_size_8abf5 : ByteArray := prog_22_method_8_code
def yJx4a65c_size_8abf5 : MethodName := ⟨RJx4a65c, "size", "()I"⟩
abbrev cJx4a65c_elementData_915e3 : ByteArray := prog_22_method_18_code
def yJx4a65c_elementData_915e3 : MethodName := ⟨RJx4a65c, "elementData", "(I)Ljava/lang/Object;"⟩
abbrev cJx4a65c_get_915e3 : ByteArray := prog_22_method_20_code
def yJx4a65c_get_915e3 : MethodName := ⟨RJx4a65c, "get", "(I)Ljava/lang/Object;"⟩
abbrev cJx4a65c_add_72be8 : ByteArray := prog_22_method_24_code
def yJx4a65c_add_72be8 : MethodName := ⟨RJx4a65c, "add", "(Ljava/lang/Object;[Ljava/lang/Object;I)V"⟩
abbrev cJx4a65c_add_9ea2d : ByteArray := prog_22_method_25_code
def yJx4a65c_add_9ea2d : MethodName := ⟨RJx4a65c, "add", "(Ljava/lang/Object;)Z"⟩
def RJ7 : String := "java/util/Arrays"
def TJ7 : u_T := fun k => match k with
  | _ => ("", "", "", false)
def tyJ7 : Nat → FieldType := fun k => match k with
  | _ => .int
theorem nmJ7 : ∀ a, a < 0 → ∀ b, b < 0 → a ≠ b → (TJ7 a).2.1 ≠ (TJ7 b).2.1 := by decide +kernel
theorem tyJ7_ok : ∀ k, k < 0 → parseFieldDescriptor (TJ7 k).2.2.1 = some (tyJ7 k) := by decide +kernel
abbrev cJ7_fill_53178 : ByteArray := prog_23_method_103_code
def yJ7_fill_53178 : MethodName := ⟨RJ7, "fill", "([II)V"⟩
abbrev cJ7_copyOf_1904c : ByteArray := prog_23_method_119_code
def yJ7_copyOf_1904c : MethodName := ⟨RJ7, "copyOf", "([Ljava/lang/Object;I)[Ljava/lang/Object;"⟩
abbrev cJ7_copyOf_6403c : ByteArray := prog_23_method_120_code
def yJ7_copyOf_6403c : MethodName := ⟨RJ7, "copyOf", "([Ljava/lang/Object;ILjava/lang/Class;)[Ljava/lang/Object;"⟩
def RJx5ef63 : String := "java/util/Collection"
def TJx5ef63 : u_T := fun k => match k with
  | _ => ("", "", "", false)
def tyJx5ef63 : Nat → FieldType := fun k => match k with
  | _ => .int
theorem nmJx5ef63 : ∀ a, a < 0 → ∀ b, b < 0 → a ≠ b → (TJx5ef63 a).2.1 ≠ (TJx5ef63 b).2.1 := by decide +kernel
theorem tyJx5ef63_ok : ∀ k, k < 0 → parseFieldDescriptor (TJx5ef63 k).2.2.1 = some (tyJx5ef63 k) := by decide +kernel
def RJxbd725 : String := "java/util/List"
def TJxbd725 : u_T := fun k => match k with
  | _ => ("", "", "", false)
def tyJxbd725 : Nat → FieldType := fun k => match k with
  | _ => .int
theorem nmJxbd725 : ∀ a, a < 0 → ∀ b, b < 0 → a ≠ b → (TJxbd725 a).2.1 ≠ (TJxbd725 b).2.1 := by decide +kernel
theorem tyJxbd725_ok : ∀ k, k < 0 → parseFieldDescriptor (TJxbd725 k).2.2.1 = some (tyJxbd725 k) := by decide +kernel
def RJ15 : String := "java/util/Objects"
def TJ15 : u_T := fun k => match k with
  | _ => ("", "", "", false)
def tyJ15 : Nat → FieldType := fun k => match k with
  | _ => .int
theorem nmJ15 : ∀ a, a < 0 → ∀ b, b < 0 → a ≠ b → (TJ15 a).2.1 ≠ (TJ15 b).2.1 := by decide +kernel
theorem tyJ15_ok : ∀ k, k < 0 → parseFieldDescriptor (TJ15 k).2.2.1 = some (tyJ15 k) := by decide +kernel
abbrev cJ15_checkIndex_7cf53 : ByteArray := prog_26_method_17_code
def yJ15_checkIndex_7cf53 : MethodName := ⟨RJ15, "checkIndex", "(II)I"⟩
def RJxf0a74 : String := "java/util/RandomAccess"
def TJxf0a74 : u_T := fun k => match k with
  | _ => ("", "", "", false)
def tyJxf0a74 : Nat → FieldType := fun k => match k with
  | _ => .int
theorem nmJxf0a74 : ∀ a, a < 0 → ∀ b, b < 0 → a ≠ b → (TJxf0a74 a).2.1 ≠ (TJxf0a74 b).2.1 := by decide +kernel
theorem tyJxf0a74_ok : ∀ k, k < 0 → parseFieldDescriptor (TJxf0a74 k).2.2.1 = some (tyJxf0a74 k) := by decide +kernel
def RJxa66e6 : String := "java/util/SequencedCollection"
def TJxa66e6 : u_T := fun k => match k with
  | _ => ("", "", "", false)
def tyJxa66e6 : Nat → FieldType := fun k => match k with
  | _ => .int
theorem nmJxa66e6 : ∀ a, a < 0 → ∀ b, b < 0 → a ≠ b → (TJxa66e6 a).2.1 ≠ (TJxa66e6 b).2.1 := by decide +kernel
theorem tyJxa66e6_ok : ∀ k, k < 0 → parseFieldDescriptor (TJxa66e6 k).2.2.1 = some (tyJxa66e6 k) := by decide +kernel
def RJ8 : String := "jdk/internal/util/ArraysSupport"
def TJ8 : u_T := fun k => match k with
  | _ => ("", "", "", false)
def tyJ8 : Nat → FieldType := fun k => match k with
  | _ => .int
theorem nmJ8 : ∀ a, a < 0 → ∀ b, b < 0 → a ≠ b → (TJ8 a).2.1 ≠ (TJ8 b).2.1 := by decide +kernel
theorem tyJ8_ok : ∀ k, k < 0 → parseFieldDescriptor (TJ8 k).2.2.1 = some (tyJ8 k) := by decide +kernel
abbrev cJ8_newLength_cabcc : ByteArray := prog_29_method_27_code
def yJ8_newLength_cabcc : MethodName := ⟨RJ8, "newLength", "(III)I"⟩
abbrev cJ8_hugeLength_7cf53 : ByteArray := prog_29_method_28_code
def yJ8_hugeLength_7cf53 : MethodName := ⟨RJ8, "hugeLength", "(II)I"⟩
def RJ3 : String := "jdk/internal/util/Preconditions"
def TJ3 : u_T := fun k => match k with
  | _ => ("", "", "", false)
def tyJ3 : Nat → FieldType := fun k => match k with
  | _ => .int
theorem nmJ3 : ∀ a, a < 0 → ∀ b, b < 0 → a ≠ b → (TJ3 a).2.1 ≠ (TJ3 b).2.1 := by decide +kernel
theorem tyJ3_ok : ∀ k, k < 0 → parseFieldDescriptor (TJ3 k).2.2.1 = some (tyJ3 k) := by decide +kernel
abbrev cJ3_checkIndex_8e157 : ByteArray := prog_30_method_11_code
def yJ3_checkIndex_8e157 : MethodName := ⟨RJ3, "checkIndex", "(IILjava/util/function/BiFunction;)I"⟩
def RL : String := "DialectAtlasLaw"
abbrev cL_cell : ByteArray := method_2_code
def yL_cell : MethodName := ⟨RL, "cell", "([II)I"⟩
abbrev cL_low : ByteArray := method_3_code
def yL_low : MethodName := ⟨RL, "low", "(II)I"⟩
abbrev cL_calls : ByteArray := method_4_code
def yL_calls : MethodName := ⟨RL, "calls", "(LDialectAtlas;IIIII)I"⟩
abbrev cL_sounds : ByteArray := method_5_code
def yL_sounds : MethodName := ⟨RL, "sounds", "(I[I)I"⟩
abbrev cL_applied : ByteArray := method_6_code
def yL_applied : MethodName := ⟨RL, "applied", "(II[I)I"⟩
abbrev cL_expected : ByteArray := method_7_code
def yL_expected : MethodName := ⟨RL, "expected", "(III[I[I)I"⟩
abbrev cL_steps : ByteArray := method_8_code
def yL_steps : MethodName := ⟨RL, "steps", "(II[I[I[I)I"⟩
abbrev cL_there : ByteArray := method_9_code
def yL_there : MethodName := ⟨RL, "there", "(III[I[I)Z"⟩
abbrev cL_formAt : ByteArray := method_10_code
def yL_formAt : MethodName := ⟨RL, "formAt", "(II[I[I[I)I"⟩
abbrev cL_bits : ByteArray := method_11_code
def yL_bits : MethodName := ⟨RL, "bits", "(I)I"⟩
abbrev cL_isMap : ByteArray := method_12_code
def yL_isMap : MethodName := ⟨RL, "isMap", "(LDialectAtlas;I[I[I[I)Z"⟩
abbrev cL_isSo : ByteArray := method_13_code
def yL_isSo : MethodName := ⟨RL, "isSo", "(LDialectAtlas;I[I[I[I[I[I[I[I[I)Z"⟩
abbrev cL_drafts : ByteArray := method_14_code
def yL_drafts : MethodName := ⟨RL, "drafts", "(LDialectAtlas;II[I[I[I)Z"⟩
abbrev cL_rules : ByteArray := method_15_code
def yL_rules : MethodName := ⟨RL, "rules", "(LDialectAtlas;II[I[I[I[I[I)Z"⟩
abbrev cL_law : ByteArray := code
def yL_law : MethodName := ⟨RL, "law", "([I)Z"⟩
abbrev vwCl : List vw_C := [(RJx4a65c, TJx4a65c, 3), (RX0, TX0, 6), (RX1, TX1, 8), (RX2, TX2, 1), (RX3, TX3, 10)]
end
section
theorem dX0_init_0 : decode cX0_init 0 = .ok (.aload_n 0, 1) := by decide +kernel
theorem dX0_init_1 : decode cX0_init 1 = .ok (.invokespecial 1, 3) := by decide +kernel
theorem dX0_init_4 : decode cX0_init 4 = .ok (.aload_n 0, 1) := by decide +kernel
theorem dX0_init_5 : decode cX0_init 5 = .ok (.lload_n 1, 1) := by decide +kernel
theorem dX0_init_6 : decode cX0_init 6 = .ok (.putfield 7, 3) := by decide +kernel
theorem dX0_init_9 : decode cX0_init 9 = .ok (.aload_n 0, 1) := by decide +kernel
theorem dX0_init_10 : decode cX0_init 10 = .ok (.iload_n 3, 1) := by decide +kernel
theorem dX0_init_11 : decode cX0_init 11 = .ok (.putfield 13, 3) := by decide +kernel
theorem dX0_init_14 : decode cX0_init 14 = .ok (.aload_n 0, 1) := by decide +kernel
theorem dX0_init_15 : decode cX0_init 15 = .ok (.iload 4, 2) := by decide +kernel
theorem dX0_init_17 : decode cX0_init 17 = .ok (.putfield 17, 3) := by decide +kernel
theorem dX0_init_20 : decode cX0_init 20 = .ok (.aload_n 0, 1) := by decide +kernel
theorem dX0_init_21 : decode cX0_init 21 = .ok (.iload 5, 2) := by decide +kernel
theorem dX0_init_23 : decode cX0_init 23 = .ok (.putfield 20, 3) := by decide +kernel
theorem dX0_init_26 : decode cX0_init 26 = .ok (.aload_n 0, 1) := by decide +kernel
theorem dX0_init_27 : decode cX0_init 27 = .ok (.iload 6, 2) := by decide +kernel
theorem dX0_init_29 : decode cX0_init 29 = .ok (.putfield 23, 3) := by decide +kernel
theorem dX0_init_32 : decode cX0_init 32 = .ok (.aload_n 0, 1) := by decide +kernel
theorem dX0_init_33 : decode cX0_init 33 = .ok (.iload 7, 2) := by decide +kernel
theorem dX0_init_35 : decode cX0_init 35 = .ok (.putfield 26, 3) := by decide +kernel
theorem dX0_init_38 : decode cX0_init 38 = .ok (.return_, 1) := by decide +kernel
theorem dX0_isFor_0 : decode cX0_isFor 0 = .ok (.aload_n 0, 1) := by decide +kernel
theorem dX0_isFor_1 : decode cX0_isFor 1 = .ok (.getfield 23, 3) := by decide +kernel
theorem dX0_isFor_4 : decode cX0_isFor 4 = .ok (.iload_n 1, 1) := by decide +kernel
theorem dX0_isFor_5 : decode cX0_isFor 5 = .ok (.if_icmp .ne 15, 3) := by decide +kernel
theorem dX0_isFor_8 : decode cX0_isFor 8 = .ok (.aload_n 0, 1) := by decide +kernel
theorem dX0_isFor_9 : decode cX0_isFor 9 = .ok (.getfield 17, 3) := by decide +kernel
theorem dX0_isFor_12 : decode cX0_isFor 12 = .ok (.iload_n 2, 1) := by decide +kernel
theorem dX0_isFor_13 : decode cX0_isFor 13 = .ok (.if_icmp .ne 7, 3) := by decide +kernel
theorem dX0_isFor_16 : decode cX0_isFor 16 = .ok (.iconst 1, 1) := by decide +kernel
theorem dX0_isFor_17 : decode cX0_isFor 17 = .ok (.goto 4, 3) := by decide +kernel
theorem dX0_isFor_20 : decode cX0_isFor 20 = .ok (.iconst 0, 1) := by decide +kernel
theorem dX0_isFor_21 : decode cX0_isFor 21 = .ok (.ireturn, 1) := by decide +kernel
theorem dX1_init_0 : decode cX1_init 0 = .ok (.aload_n 0, 1) := by decide +kernel
theorem dX1_init_1 : decode cX1_init 1 = .ok (.invokespecial 3, 3) := by decide +kernel
theorem dX1_init_4 : decode cX1_init 4 = .ok (.aload_n 0, 1) := by decide +kernel
theorem dX1_init_5 : decode cX1_init 5 = .ok (.lconst 0, 1) := by decide +kernel
theorem dX1_init_6 : decode cX1_init 6 = .ok (.putfield 9, 3) := by decide +kernel
theorem dX1_init_9 : decode cX1_init 9 = .ok (.aload_n 0, 1) := by decide +kernel
theorem dX1_init_10 : decode cX1_init 10 = .ok (.iconst 0, 1) := by decide +kernel
theorem dX1_init_11 : decode cX1_init 11 = .ok (.putfield 15, 3) := by decide +kernel
theorem dX1_init_14 : decode cX1_init 14 = .ok (.aload_n 0, 1) := by decide +kernel
theorem dX1_init_15 : decode cX1_init 15 = .ok (.iload_n 1, 1) := by decide +kernel
theorem dX1_init_16 : decode cX1_init 16 = .ok (.putfield 19, 3) := by decide +kernel
theorem dX1_init_19 : decode cX1_init 19 = .ok (.aload_n 0, 1) := by decide +kernel
theorem dX1_init_20 : decode cX1_init 20 = .ok (.iload_n 2, 1) := by decide +kernel
theorem dX1_init_21 : decode cX1_init 21 = .ok (.putfield 23, 3) := by decide +kernel
theorem dX1_init_24 : decode cX1_init 24 = .ok (.aload_n 0, 1) := by decide +kernel
theorem dX1_init_25 : decode cX1_init 25 = .ok (.iload_n 3, 1) := by decide +kernel
theorem dX1_init_26 : decode cX1_init 26 = .ok (.putfield 26, 3) := by decide +kernel
theorem dX1_init_29 : decode cX1_init 29 = .ok (.aload_n 0, 1) := by decide +kernel
theorem dX1_init_30 : decode cX1_init 30 = .ok (.iload 4, 2) := by decide +kernel
theorem dX1_init_32 : decode cX1_init 32 = .ok (.putfield 29, 3) := by decide +kernel
theorem dX1_init_35 : decode cX1_init 35 = .ok (.aload_n 0, 1) := by decide +kernel
theorem dX1_init_36 : decode cX1_init 36 = .ok (.iload 5, 2) := by decide +kernel
theorem dX1_init_38 : decode cX1_init 38 = .ok (.putfield 32, 3) := by decide +kernel
theorem dX1_init_41 : decode cX1_init 41 = .ok (.aload_n 0, 1) := by decide +kernel
theorem dX1_init_42 : decode cX1_init 42 = .ok (.iload 6, 2) := by decide +kernel
theorem dX1_init_44 : decode cX1_init 44 = .ok (.putfield 35, 3) := by decide +kernel
theorem dX1_init_47 : decode cX1_init 47 = .ok (.return_, 1) := by decide +kernel
theorem dX1_restsOn_0 : decode cX1_restsOn 0 = .ok (.aload_n 0, 1) := by decide +kernel
theorem dX1_restsOn_1 : decode cX1_restsOn 1 = .ok (.getfield 9, 3) := by decide +kernel
theorem dX1_restsOn_4 : decode cX1_restsOn 4 = .ok (.aload_n 1, 1) := by decide +kernel
theorem dX1_restsOn_5 : decode cX1_restsOn 5 = .ok (.getfield 38, 3) := by decide +kernel
theorem dX1_restsOn_8 : decode cX1_restsOn 8 = .ok (.land, 1) := by decide +kernel
theorem dX1_restsOn_9 : decode cX1_restsOn 9 = .ok (.lconst 0, 1) := by decide +kernel
theorem dX1_restsOn_10 : decode cX1_restsOn 10 = .ok (.lcmp, 1) := by decide +kernel
theorem dX1_restsOn_11 : decode cX1_restsOn 11 = .ok (.ifCond .eq 7, 3) := by decide +kernel
theorem dX1_restsOn_14 : decode cX1_restsOn 14 = .ok (.iconst 1, 1) := by decide +kernel
theorem dX1_restsOn_15 : decode cX1_restsOn 15 = .ok (.goto 4, 3) := by decide +kernel
theorem dX1_restsOn_18 : decode cX1_restsOn 18 = .ok (.iconst 0, 1) := by decide +kernel
theorem dX1_restsOn_19 : decode cX1_restsOn 19 = .ok (.ireturn, 1) := by decide +kernel
theorem dX1_restNoMoreOn_0 : decode cX1_restNoMoreOn 0 = .ok (.aload_n 0, 1) := by decide +kernel
theorem dX1_restNoMoreOn_1 : decode cX1_restNoMoreOn 1 = .ok (.getfield 9, 3) := by decide +kernel
theorem dX1_restNoMoreOn_4 : decode cX1_restNoMoreOn 4 = .ok (.lload_n 1, 1) := by decide +kernel
theorem dX1_restNoMoreOn_5 : decode cX1_restNoMoreOn 5 = .ok (.land, 1) := by decide +kernel
theorem dX1_restNoMoreOn_6 : decode cX1_restNoMoreOn 6 = .ok (.lconst 0, 1) := by decide +kernel
theorem dX1_restNoMoreOn_7 : decode cX1_restNoMoreOn 7 = .ok (.lcmp, 1) := by decide +kernel
theorem dX1_restNoMoreOn_8 : decode cX1_restNoMoreOn 8 = .ok (.ifCond .eq 35, 3) := by decide +kernel
theorem dX1_restNoMoreOn_11 : decode cX1_restNoMoreOn 11 = .ok (.aload_n 0, 1) := by decide +kernel
theorem dX1_restNoMoreOn_12 : decode cX1_restNoMoreOn 12 = .ok (.dup, 1) := by decide +kernel
theorem dX1_restNoMoreOn_13 : decode cX1_restNoMoreOn 13 = .ok (.getfield 9, 3) := by decide +kernel
theorem dX1_restNoMoreOn_16 : decode cX1_restNoMoreOn 16 = .ok (.lload_n 1, 1) := by decide +kernel
theorem dX1_restNoMoreOn_17 : decode cX1_restNoMoreOn 17 = .ok (.ldc2_w 43, 3) := by decide +kernel
theorem dX1_restNoMoreOn_20 : decode cX1_restNoMoreOn 20 = .ok (.lxor, 1) := by decide +kernel
theorem dX1_restNoMoreOn_21 : decode cX1_restNoMoreOn 21 = .ok (.land, 1) := by decide +kernel
theorem dX1_restNoMoreOn_22 : decode cX1_restNoMoreOn 22 = .ok (.putfield 9, 3) := by decide +kernel
theorem dX1_restNoMoreOn_25 : decode cX1_restNoMoreOn 25 = .ok (.aload_n 0, 1) := by decide +kernel
theorem dX1_restNoMoreOn_26 : decode cX1_restNoMoreOn 26 = .ok (.aload_n 0, 1) := by decide +kernel
theorem dX1_restNoMoreOn_27 : decode cX1_restNoMoreOn 27 = .ok (.getfield 9, 3) := by decide +kernel
theorem dX1_restNoMoreOn_30 : decode cX1_restNoMoreOn 30 = .ok (.lconst 0, 1) := by decide +kernel
theorem dX1_restNoMoreOn_31 : decode cX1_restNoMoreOn 31 = .ok (.lcmp, 1) := by decide +kernel
theorem dX1_restNoMoreOn_32 : decode cX1_restNoMoreOn 32 = .ok (.ifCond .ne 7, 3) := by decide +kernel
theorem dX1_restNoMoreOn_35 : decode cX1_restNoMoreOn 35 = .ok (.iconst 1, 1) := by decide +kernel
theorem dX1_restNoMoreOn_36 : decode cX1_restNoMoreOn 36 = .ok (.goto 4, 3) := by decide +kernel
theorem dX1_restNoMoreOn_39 : decode cX1_restNoMoreOn 39 = .ok (.iconst 0, 1) := by decide +kernel
theorem dX1_restNoMoreOn_40 : decode cX1_restNoMoreOn 40 = .ok (.putfield 15, 3) := by decide +kernel
theorem dX1_restNoMoreOn_43 : decode cX1_restNoMoreOn 43 = .ok (.return_, 1) := by decide +kernel
theorem dX1_goesAt_0 : decode cX1_goesAt 0 = .ok (.aload_n 0, 1) := by decide +kernel
theorem dX1_goesAt_1 : decode cX1_goesAt 1 = .ok (.getfield 15, 3) := by decide +kernel
theorem dX1_goesAt_4 : decode cX1_goesAt 4 = .ok (.ifCond .ne 31, 3) := by decide +kernel
theorem dX1_goesAt_7 : decode cX1_goesAt 7 = .ok (.aload_n 0, 1) := by decide +kernel
theorem dX1_goesAt_8 : decode cX1_goesAt 8 = .ok (.getfield 29, 3) := by decide +kernel
theorem dX1_goesAt_11 : decode cX1_goesAt 11 = .ok (.iload_n 1, 1) := by decide +kernel
theorem dX1_goesAt_12 : decode cX1_goesAt 12 = .ok (.if_icmp .gt 23, 3) := by decide +kernel
theorem dX1_goesAt_15 : decode cX1_goesAt 15 = .ok (.iload_n 1, 1) := by decide +kernel
theorem dX1_goesAt_16 : decode cX1_goesAt 16 = .ok (.aload_n 0, 1) := by decide +kernel
theorem dX1_goesAt_17 : decode cX1_goesAt 17 = .ok (.getfield 32, 3) := by decide +kernel
theorem dX1_goesAt_20 : decode cX1_goesAt 20 = .ok (.if_icmp .gt 15, 3) := by decide +kernel
theorem dX1_goesAt_23 : decode cX1_goesAt 23 = .ok (.aload_n 0, 1) := by decide +kernel
theorem dX1_goesAt_24 : decode cX1_goesAt 24 = .ok (.getfield 35, 3) := by decide +kernel
theorem dX1_goesAt_27 : decode cX1_goesAt 27 = .ok (.iload_n 2, 1) := by decide +kernel
theorem dX1_goesAt_28 : decode cX1_goesAt 28 = .ok (.if_icmp .gt 7, 3) := by decide +kernel
theorem dX1_goesAt_31 : decode cX1_goesAt 31 = .ok (.iconst 1, 1) := by decide +kernel
theorem dX1_goesAt_32 : decode cX1_goesAt 32 = .ok (.goto 4, 3) := by decide +kernel
theorem dX1_goesAt_35 : decode cX1_goesAt 35 = .ok (.iconst 0, 1) := by decide +kernel
theorem dX1_goesAt_36 : decode cX1_goesAt 36 = .ok (.ireturn, 1) := by decide +kernel
theorem dX1_changes_0 : decode cX1_changes 0 = .ok (.iload_n 1, 1) := by decide +kernel
theorem dX1_changes_1 : decode cX1_changes 1 = .ok (.aload_n 0, 1) := by decide +kernel
theorem dX1_changes_2 : decode cX1_changes 2 = .ok (.getfield 19, 3) := by decide +kernel
theorem dX1_changes_5 : decode cX1_changes 5 = .ok (.if_icmp .ne 24, 3) := by decide +kernel
theorem dX1_changes_8 : decode cX1_changes 8 = .ok (.aload_n 0, 1) := by decide +kernel
theorem dX1_changes_9 : decode cX1_changes 9 = .ok (.getfield 26, 3) := by decide +kernel
theorem dX1_changes_12 : decode cX1_changes 12 = .ok (.bipush 9, 2) := by decide +kernel
theorem dX1_changes_14 : decode cX1_changes 14 = .ok (.if_icmp .eq 11, 3) := by decide +kernel
theorem dX1_changes_17 : decode cX1_changes 17 = .ok (.aload_n 0, 1) := by decide +kernel
theorem dX1_changes_18 : decode cX1_changes 18 = .ok (.getfield 26, 3) := by decide +kernel
theorem dX1_changes_21 : decode cX1_changes 21 = .ok (.iload_n 2, 1) := by decide +kernel
theorem dX1_changes_22 : decode cX1_changes 22 = .ok (.if_icmp .ne 7, 3) := by decide +kernel
theorem dX1_changes_25 : decode cX1_changes 25 = .ok (.iconst 1, 1) := by decide +kernel
theorem dX1_changes_26 : decode cX1_changes 26 = .ok (.goto 4, 3) := by decide +kernel
theorem dX1_changes_29 : decode cX1_changes 29 = .ok (.iconst 0, 1) := by decide +kernel
theorem dX1_changes_30 : decode cX1_changes 30 = .ok (.ireturn, 1) := by decide +kernel
theorem dX1_applyTo_0 : decode cX1_applyTo 0 = .ok (.iconst 0, 1) := by decide +kernel
theorem dX1_applyTo_1 : decode cX1_applyTo 1 = .ok (.istore_n 2, 1) := by decide +kernel
theorem dX1_applyTo_2 : decode cX1_applyTo 2 = .ok (.iconst 1, 1) := by decide +kernel
theorem dX1_applyTo_3 : decode cX1_applyTo 3 = .ok (.istore_n 3, 1) := by decide +kernel
theorem dX1_applyTo_4 : decode cX1_applyTo 4 = .ok (.iload_n 1, 1) := by decide +kernel
theorem dX1_applyTo_5 : decode cX1_applyTo 5 = .ok (.istore 4, 2) := by decide +kernel
theorem dX1_applyTo_7 : decode cX1_applyTo 7 = .ok (.bipush 8, 2) := by decide +kernel
theorem dX1_applyTo_9 : decode cX1_applyTo 9 = .ok (.istore 5, 2) := by decide +kernel
theorem dX1_applyTo_11 : decode cX1_applyTo 11 = .ok (.iconst 0, 1) := by decide +kernel
theorem dX1_applyTo_12 : decode cX1_applyTo 12 = .ok (.istore 6, 2) := by decide +kernel
theorem dX1_applyTo_14 : decode cX1_applyTo 14 = .ok (.iload 6, 2) := by decide +kernel
theorem dX1_applyTo_16 : decode cX1_applyTo 16 = .ok (.bipush 8, 2) := by decide +kernel
theorem dX1_applyTo_18 : decode cX1_applyTo 18 = .ok (.if_icmp .ge 76, 3) := by decide +kernel
theorem dX1_applyTo_21 : decode cX1_applyTo 21 = .ok (.iload 4, 2) := by decide +kernel
theorem dX1_applyTo_23 : decode cX1_applyTo 23 = .ok (.ifCond .le 71, 3) := by decide +kernel
theorem dX1_applyTo_26 : decode cX1_applyTo 26 = .ok (.iload 4, 2) := by decide +kernel
theorem dX1_applyTo_28 : decode cX1_applyTo 28 = .ok (.bipush 9, 2) := by decide +kernel
theorem dX1_applyTo_30 : decode cX1_applyTo 30 = .ok (.irem, 1) := by decide +kernel
theorem dX1_applyTo_31 : decode cX1_applyTo 31 = .ok (.iconst 1, 1) := by decide +kernel
theorem dX1_applyTo_32 : decode cX1_applyTo 32 = .ok (.isub, 1) := by decide +kernel
theorem dX1_applyTo_33 : decode cX1_applyTo 33 = .ok (.istore 7, 2) := by decide +kernel
theorem dX1_applyTo_35 : decode cX1_applyTo 35 = .ok (.aload_n 0, 1) := by decide +kernel
theorem dX1_applyTo_36 : decode cX1_applyTo 36 = .ok (.iload 7, 2) := by decide +kernel
theorem dX1_applyTo_38 : decode cX1_applyTo 38 = .ok (.iload 5, 2) := by decide +kernel
theorem dX1_applyTo_40 : decode cX1_applyTo 40 = .ok (.invokevirtual 45, 3) := by decide +kernel
theorem dX1_applyTo_43 : decode cX1_applyTo 43 = .ok (.ifCond .eq 10, 3) := by decide +kernel
theorem dX1_applyTo_46 : decode cX1_applyTo 46 = .ok (.aload_n 0, 1) := by decide +kernel
theorem dX1_applyTo_47 : decode cX1_applyTo 47 = .ok (.getfield 23, 3) := by decide +kernel
theorem dX1_applyTo_50 : decode cX1_applyTo 50 = .ok (.goto 5, 3) := by decide +kernel
theorem dX1_applyTo_53 : decode cX1_applyTo 53 = .ok (.iload 7, 2) := by decide +kernel
theorem dX1_applyTo_55 : decode cX1_applyTo 55 = .ok (.istore 8, 2) := by decide +kernel
theorem dX1_applyTo_57 : decode cX1_applyTo 57 = .ok (.iload 8, 2) := by decide +kernel
theorem dX1_applyTo_59 : decode cX1_applyTo 59 = .ok (.iconst (-1), 1) := by decide +kernel
theorem dX1_applyTo_60 : decode cX1_applyTo 60 = .ok (.if_icmp .eq 17, 3) := by decide +kernel
theorem dX1_applyTo_63 : decode cX1_applyTo 63 = .ok (.iload_n 2, 1) := by decide +kernel
theorem dX1_applyTo_64 : decode cX1_applyTo 64 = .ok (.iload 8, 2) := by decide +kernel
theorem dX1_applyTo_66 : decode cX1_applyTo 66 = .ok (.iconst 1, 1) := by decide +kernel
theorem dX1_applyTo_67 : decode cX1_applyTo 67 = .ok (.iadd, 1) := by decide +kernel
theorem dX1_applyTo_68 : decode cX1_applyTo 68 = .ok (.iload_n 3, 1) := by decide +kernel
theorem dX1_applyTo_69 : decode cX1_applyTo 69 = .ok (.imul, 1) := by decide +kernel
theorem dX1_applyTo_70 : decode cX1_applyTo 70 = .ok (.iadd, 1) := by decide +kernel
theorem dX1_applyTo_71 : decode cX1_applyTo 71 = .ok (.istore_n 2, 1) := by decide +kernel
theorem dX1_applyTo_72 : decode cX1_applyTo 72 = .ok (.iload_n 3, 1) := by decide +kernel
theorem dX1_applyTo_73 : decode cX1_applyTo 73 = .ok (.bipush 9, 2) := by decide +kernel
theorem dX1_applyTo_75 : decode cX1_applyTo 75 = .ok (.imul, 1) := by decide +kernel
theorem dX1_applyTo_76 : decode cX1_applyTo 76 = .ok (.istore_n 3, 1) := by decide +kernel
theorem dX1_applyTo_77 : decode cX1_applyTo 77 = .ok (.iload 7, 2) := by decide +kernel
theorem dX1_applyTo_79 : decode cX1_applyTo 79 = .ok (.istore 5, 2) := by decide +kernel
theorem dX1_applyTo_81 : decode cX1_applyTo 81 = .ok (.iload 4, 2) := by decide +kernel
theorem dX1_applyTo_83 : decode cX1_applyTo 83 = .ok (.bipush 9, 2) := by decide +kernel
theorem dX1_applyTo_85 : decode cX1_applyTo 85 = .ok (.idiv, 1) := by decide +kernel
theorem dX1_applyTo_86 : decode cX1_applyTo 86 = .ok (.istore 4, 2) := by decide +kernel
theorem dX1_applyTo_88 : decode cX1_applyTo 88 = .ok (.iinc 6 1, 3) := by decide +kernel
theorem dX1_applyTo_91 : decode cX1_applyTo 91 = .ok (.goto (-77), 3) := by decide +kernel
theorem dX1_applyTo_94 : decode cX1_applyTo 94 = .ok (.iload_n 2, 1) := by decide +kernel
theorem dX1_applyTo_95 : decode cX1_applyTo 95 = .ok (.ifCond .ne 7, 3) := by decide +kernel
theorem dX1_applyTo_98 : decode cX1_applyTo 98 = .ok (.iload_n 1, 1) := by decide +kernel
theorem dX1_applyTo_99 : decode cX1_applyTo 99 = .ok (.goto 4, 3) := by decide +kernel
theorem dX1_applyTo_102 : decode cX1_applyTo 102 = .ok (.iload_n 2, 1) := by decide +kernel
theorem dX1_applyTo_103 : decode cX1_applyTo 103 = .ok (.ireturn, 1) := by decide +kernel
theorem dX2_init_0 : decode cX2_init 0 = .ok (.aload_n 0, 1) := by decide +kernel
theorem dX2_init_1 : decode cX2_init 1 = .ok (.invokespecial 3, 3) := by decide +kernel
theorem dX2_init_4 : decode cX2_init 4 = .ok (.aload_n 0, 1) := by decide +kernel
theorem dX2_init_5 : decode cX2_init 5 = .ok (.bipush 9, 2) := by decide +kernel
theorem dX2_init_7 : decode cX2_init 7 = .ok (.newarray .int, 2) := by decide +kernel
theorem dX2_init_9 : decode cX2_init 9 = .ok (.putfield 9, 3) := by decide +kernel
theorem dX2_init_12 : decode cX2_init 12 = .ok (.return_, 1) := by decide +kernel
theorem dX2_countSteps_0 : decode cX2_countSteps 0 = .ok (.iconst 0, 1) := by decide +kernel
theorem dX2_countSteps_1 : decode cX2_countSteps 1 = .ok (.istore_n 3, 1) := by decide +kernel
theorem dX2_countSteps_2 : decode cX2_countSteps 2 = .ok (.iload_n 3, 1) := by decide +kernel
theorem dX2_countSteps_3 : decode cX2_countSteps 3 = .ok (.aload_n 0, 1) := by decide +kernel
theorem dX2_countSteps_4 : decode cX2_countSteps 4 = .ok (.getfield 9, 3) := by decide +kernel
theorem dX2_countSteps_7 : decode cX2_countSteps 7 = .ok (.arraylength, 1) := by decide +kernel
theorem dX2_countSteps_8 : decode cX2_countSteps 8 = .ok (.if_icmp .ge 16, 3) := by decide +kernel
theorem dX2_countSteps_11 : decode cX2_countSteps 11 = .ok (.aload_n 0, 1) := by decide +kernel
theorem dX2_countSteps_12 : decode cX2_countSteps 12 = .ok (.getfield 9, 3) := by decide +kernel
theorem dX2_countSteps_15 : decode cX2_countSteps 15 = .ok (.iload_n 3, 1) := by decide +kernel
theorem dX2_countSteps_16 : decode cX2_countSteps 16 = .ok (.iload_n 3, 1) := by decide +kernel
theorem dX2_countSteps_17 : decode cX2_countSteps 17 = .ok (.iastore, 1) := by decide +kernel
theorem dX2_countSteps_18 : decode cX2_countSteps 18 = .ok (.iinc 3 1, 3) := by decide +kernel
theorem dX2_countSteps_21 : decode cX2_countSteps 21 = .ok (.goto (-19), 3) := by decide +kernel
theorem dX2_countSteps_24 : decode cX2_countSteps 24 = .ok (.iload_n 1, 1) := by decide +kernel
theorem dX2_countSteps_25 : decode cX2_countSteps 25 = .ok (.istore_n 3, 1) := by decide +kernel
theorem dX2_countSteps_26 : decode cX2_countSteps 26 = .ok (.aload_n 0, 1) := by decide +kernel
theorem dX2_countSteps_27 : decode cX2_countSteps 27 = .ok (.getfield 9, 3) := by decide +kernel
theorem dX2_countSteps_30 : decode cX2_countSteps 30 = .ok (.iconst 0, 1) := by decide +kernel
theorem dX2_countSteps_31 : decode cX2_countSteps 31 = .ok (.iaload, 1) := by decide +kernel
theorem dX2_countSteps_32 : decode cX2_countSteps 32 = .ok (.istore 4, 2) := by decide +kernel
theorem dX2_countSteps_34 : decode cX2_countSteps 34 = .ok (.iconst 0, 1) := by decide +kernel
theorem dX2_countSteps_35 : decode cX2_countSteps 35 = .ok (.istore 5, 2) := by decide +kernel
theorem dX2_countSteps_37 : decode cX2_countSteps 37 = .ok (.iload 5, 2) := by decide +kernel
theorem dX2_countSteps_39 : decode cX2_countSteps 39 = .ok (.bipush 8, 2) := by decide +kernel
theorem dX2_countSteps_41 : decode cX2_countSteps 41 = .ok (.if_icmp .ge 29, 3) := by decide +kernel
theorem dX2_countSteps_44 : decode cX2_countSteps 44 = .ok (.iload_n 3, 1) := by decide +kernel
theorem dX2_countSteps_45 : decode cX2_countSteps 45 = .ok (.ifCond .le 25, 3) := by decide +kernel
theorem dX2_countSteps_48 : decode cX2_countSteps 48 = .ok (.aload_n 0, 1) := by decide +kernel
theorem dX2_countSteps_49 : decode cX2_countSteps 49 = .ok (.iload_n 3, 1) := by decide +kernel
theorem dX2_countSteps_50 : decode cX2_countSteps 50 = .ok (.bipush 9, 2) := by decide +kernel
theorem dX2_countSteps_52 : decode cX2_countSteps 52 = .ok (.irem, 1) := by decide +kernel
theorem dX2_countSteps_53 : decode cX2_countSteps 53 = .ok (.iload_n 2, 1) := by decide +kernel
theorem dX2_countSteps_54 : decode cX2_countSteps 54 = .ok (.invokevirtual 15, 3) := by decide +kernel
theorem dX2_countSteps_57 : decode cX2_countSteps 57 = .ok (.istore 4, 2) := by decide +kernel
theorem dX2_countSteps_59 : decode cX2_countSteps 59 = .ok (.iload_n 3, 1) := by decide +kernel
theorem dX2_countSteps_60 : decode cX2_countSteps 60 = .ok (.bipush 9, 2) := by decide +kernel
theorem dX2_countSteps_62 : decode cX2_countSteps 62 = .ok (.idiv, 1) := by decide +kernel
theorem dX2_countSteps_63 : decode cX2_countSteps 63 = .ok (.istore_n 3, 1) := by decide +kernel
theorem dX2_countSteps_64 : decode cX2_countSteps 64 = .ok (.iinc 5 1, 3) := by decide +kernel
theorem dX2_countSteps_67 : decode cX2_countSteps 67 = .ok (.goto (-30), 3) := by decide +kernel
theorem dX2_countSteps_70 : decode cX2_countSteps 70 = .ok (.iload 4, 2) := by decide +kernel
theorem dX2_countSteps_72 : decode cX2_countSteps 72 = .ok (.ireturn, 1) := by decide +kernel
theorem dX2_goThrough_0 : decode cX2_goThrough 0 = .ok (.aload_n 0, 1) := by decide +kernel
theorem dX2_goThrough_1 : decode cX2_goThrough 1 = .ok (.getfield 9, 3) := by decide +kernel
theorem dX2_goThrough_4 : decode cX2_goThrough 4 = .ok (.iconst 0, 1) := by decide +kernel
theorem dX2_goThrough_5 : decode cX2_goThrough 5 = .ok (.iaload, 1) := by decide +kernel
theorem dX2_goThrough_6 : decode cX2_goThrough 6 = .ok (.istore_n 3, 1) := by decide +kernel
theorem dX2_goThrough_7 : decode cX2_goThrough 7 = .ok (.aload_n 0, 1) := by decide +kernel
theorem dX2_goThrough_8 : decode cX2_goThrough 8 = .ok (.getfield 9, 3) := by decide +kernel
theorem dX2_goThrough_11 : decode cX2_goThrough 11 = .ok (.iconst 0, 1) := by decide +kernel
theorem dX2_goThrough_12 : decode cX2_goThrough 12 = .ok (.iload_n 3, 1) := by decide +kernel
theorem dX2_goThrough_13 : decode cX2_goThrough 13 = .ok (.iconst 1, 1) := by decide +kernel
theorem dX2_goThrough_14 : decode cX2_goThrough 14 = .ok (.iadd, 1) := by decide +kernel
theorem dX2_goThrough_15 : decode cX2_goThrough 15 = .ok (.iastore, 1) := by decide +kernel
theorem dX2_goThrough_16 : decode cX2_goThrough 16 = .ok (.aload_n 0, 1) := by decide +kernel
theorem dX2_goThrough_17 : decode cX2_goThrough 17 = .ok (.getfield 9, 3) := by decide +kernel
theorem dX2_goThrough_20 : decode cX2_goThrough 20 = .ok (.iconst 0, 1) := by decide +kernel
theorem dX2_goThrough_21 : decode cX2_goThrough 21 = .ok (.iaload, 1) := by decide +kernel
theorem dX2_goThrough_22 : decode cX2_goThrough 22 = .ok (.istore 4, 2) := by decide +kernel
theorem dX2_goThrough_24 : decode cX2_goThrough 24 = .ok (.iload_n 2, 1) := by decide +kernel
theorem dX2_goThrough_25 : decode cX2_goThrough 25 = .ok (.istore 5, 2) := by decide +kernel
theorem dX2_goThrough_27 : decode cX2_goThrough 27 = .ok (.iconst 1, 1) := by decide +kernel
theorem dX2_goThrough_28 : decode cX2_goThrough 28 = .ok (.istore 6, 2) := by decide +kernel
theorem dX2_goThrough_30 : decode cX2_goThrough 30 = .ok (.iload 6, 2) := by decide +kernel
theorem dX2_goThrough_32 : decode cX2_goThrough 32 = .ok (.aload_n 0, 1) := by decide +kernel
theorem dX2_goThrough_33 : decode cX2_goThrough 33 = .ok (.getfield 9, 3) := by decide +kernel
theorem dX2_goThrough_36 : decode cX2_goThrough 36 = .ok (.arraylength, 1) := by decide +kernel
theorem dX2_goThrough_37 : decode cX2_goThrough 37 = .ok (.if_icmp .ge 78, 3) := by decide +kernel
theorem dX2_goThrough_40 : decode cX2_goThrough 40 = .ok (.iload 5, 2) := by decide +kernel
theorem dX2_goThrough_42 : decode cX2_goThrough 42 = .ok (.ifCond .le 73, 3) := by decide +kernel
theorem dX2_goThrough_45 : decode cX2_goThrough 45 = .ok (.iload 5, 2) := by decide +kernel
theorem dX2_goThrough_47 : decode cX2_goThrough 47 = .ok (.bipush 9, 2) := by decide +kernel
theorem dX2_goThrough_49 : decode cX2_goThrough 49 = .ok (.irem, 1) := by decide +kernel
theorem dX2_goThrough_50 : decode cX2_goThrough 50 = .ok (.iload_n 1, 1) := by decide +kernel
theorem dX2_goThrough_51 : decode cX2_goThrough 51 = .ok (.if_icmp .ne 7, 3) := by decide +kernel
theorem dX2_goThrough_54 : decode cX2_goThrough 54 = .ok (.iload_n 3, 1) := by decide +kernel
theorem dX2_goThrough_55 : decode cX2_goThrough 55 = .ok (.goto 6, 3) := by decide +kernel
theorem dX2_goThrough_58 : decode cX2_goThrough 58 = .ok (.iload_n 3, 1) := by decide +kernel
theorem dX2_goThrough_59 : decode cX2_goThrough 59 = .ok (.iconst 1, 1) := by decide +kernel
theorem dX2_goThrough_60 : decode cX2_goThrough 60 = .ok (.iadd, 1) := by decide +kernel
theorem dX2_goThrough_61 : decode cX2_goThrough 61 = .ok (.istore 7, 2) := by decide +kernel
theorem dX2_goThrough_63 : decode cX2_goThrough 63 = .ok (.aload_n 0, 1) := by decide +kernel
theorem dX2_goThrough_64 : decode cX2_goThrough 64 = .ok (.getfield 9, 3) := by decide +kernel
theorem dX2_goThrough_67 : decode cX2_goThrough 67 = .ok (.iload 6, 2) := by decide +kernel
theorem dX2_goThrough_69 : decode cX2_goThrough 69 = .ok (.iaload, 1) := by decide +kernel
theorem dX2_goThrough_70 : decode cX2_goThrough 70 = .ok (.istore_n 3, 1) := by decide +kernel
theorem dX2_goThrough_71 : decode cX2_goThrough 71 = .ok (.iload 7, 2) := by decide +kernel
theorem dX2_goThrough_73 : decode cX2_goThrough 73 = .ok (.iload_n 3, 1) := by decide +kernel
theorem dX2_goThrough_74 : decode cX2_goThrough 74 = .ok (.aload_n 0, 1) := by decide +kernel
theorem dX2_goThrough_75 : decode cX2_goThrough 75 = .ok (.getfield 9, 3) := by decide +kernel
theorem dX2_goThrough_78 : decode cX2_goThrough 78 = .ok (.iload 6, 2) := by decide +kernel
theorem dX2_goThrough_80 : decode cX2_goThrough 80 = .ok (.iconst 1, 1) := by decide +kernel
theorem dX2_goThrough_81 : decode cX2_goThrough 81 = .ok (.isub, 1) := by decide +kernel
theorem dX2_goThrough_82 : decode cX2_goThrough 82 = .ok (.iaload, 1) := by decide +kernel
theorem dX2_goThrough_83 : decode cX2_goThrough 83 = .ok (.invokestatic 19, 3) := by decide +kernel
theorem dX2_goThrough_86 : decode cX2_goThrough 86 = .ok (.iconst 1, 1) := by decide +kernel
theorem dX2_goThrough_87 : decode cX2_goThrough 87 = .ok (.iadd, 1) := by decide +kernel
theorem dX2_goThrough_88 : decode cX2_goThrough 88 = .ok (.invokestatic 19, 3) := by decide +kernel
theorem dX2_goThrough_91 : decode cX2_goThrough 91 = .ok (.istore 4, 2) := by decide +kernel
theorem dX2_goThrough_93 : decode cX2_goThrough 93 = .ok (.aload_n 0, 1) := by decide +kernel
theorem dX2_goThrough_94 : decode cX2_goThrough 94 = .ok (.getfield 9, 3) := by decide +kernel
theorem dX2_goThrough_97 : decode cX2_goThrough 97 = .ok (.iload 6, 2) := by decide +kernel
theorem dX2_goThrough_99 : decode cX2_goThrough 99 = .ok (.iload 4, 2) := by decide +kernel
theorem dX2_goThrough_101 : decode cX2_goThrough 101 = .ok (.iastore, 1) := by decide +kernel
theorem dX2_goThrough_102 : decode cX2_goThrough 102 = .ok (.iload 5, 2) := by decide +kernel
theorem dX2_goThrough_104 : decode cX2_goThrough 104 = .ok (.bipush 9, 2) := by decide +kernel
theorem dX2_goThrough_106 : decode cX2_goThrough 106 = .ok (.idiv, 1) := by decide +kernel
theorem dX2_goThrough_107 : decode cX2_goThrough 107 = .ok (.istore 5, 2) := by decide +kernel
theorem dX2_goThrough_109 : decode cX2_goThrough 109 = .ok (.iinc 6 1, 3) := by decide +kernel
theorem dX2_goThrough_112 : decode cX2_goThrough 112 = .ok (.goto (-82), 3) := by decide +kernel
theorem dX2_goThrough_115 : decode cX2_goThrough 115 = .ok (.iload 4, 2) := by decide +kernel
theorem dX2_goThrough_117 : decode cX2_goThrough 117 = .ok (.ireturn, 1) := by decide +kernel
theorem dX3_init_0 : decode cX3_init 0 = .ok (.aload_n 0, 1) := by decide +kernel
theorem dX3_init_1 : decode cX3_init 1 = .ok (.invokespecial 1, 3) := by decide +kernel
theorem dX3_init_4 : decode cX3_init 4 = .ok (.aload_n 0, 1) := by decide +kernel
theorem dX3_init_5 : decode cX3_init 5 = .ok (.new 7, 3) := by decide +kernel
theorem dX3_init_8 : decode cX3_init 8 = .ok (.dup, 1) := by decide +kernel
theorem dX3_init_9 : decode cX3_init 9 = .ok (.invokespecial 9, 3) := by decide +kernel
theorem dX3_init_12 : decode cX3_init 12 = .ok (.putfield 10, 3) := by decide +kernel
theorem dX3_init_15 : decode cX3_init 15 = .ok (.aload_n 0, 1) := by decide +kernel
theorem dX3_init_16 : decode cX3_init 16 = .ok (.new 7, 3) := by decide +kernel
theorem dX3_init_19 : decode cX3_init 19 = .ok (.dup, 1) := by decide +kernel
theorem dX3_init_20 : decode cX3_init 20 = .ok (.invokespecial 9, 3) := by decide +kernel
theorem dX3_init_23 : decode cX3_init 23 = .ok (.putfield 16, 3) := by decide +kernel
theorem dX3_init_26 : decode cX3_init 26 = .ok (.aload_n 0, 1) := by decide +kernel
theorem dX3_init_27 : decode cX3_init 27 = .ok (.new 7, 3) := by decide +kernel
theorem dX3_init_30 : decode cX3_init 30 = .ok (.dup, 1) := by decide +kernel
theorem dX3_init_31 : decode cX3_init 31 = .ok (.invokespecial 9, 3) := by decide +kernel
theorem dX3_init_34 : decode cX3_init 34 = .ok (.putfield 19, 3) := by decide +kernel
theorem dX3_init_37 : decode cX3_init 37 = .ok (.aload_n 0, 1) := by decide +kernel
theorem dX3_init_38 : decode cX3_init 38 = .ok (.iconst 4, 1) := by decide +kernel
theorem dX3_init_39 : decode cX3_init 39 = .ok (.newarray .int, 2) := by decide +kernel
theorem dX3_init_41 : decode cX3_init 41 = .ok (.putfield 22, 3) := by decide +kernel
theorem dX3_init_44 : decode cX3_init 44 = .ok (.aload_n 0, 1) := by decide +kernel
theorem dX3_init_45 : decode cX3_init 45 = .ok (.iconst 4, 1) := by decide +kernel
theorem dX3_init_46 : decode cX3_init 46 = .ok (.newarray .int, 2) := by decide +kernel
theorem dX3_init_48 : decode cX3_init 48 = .ok (.putfield 26, 3) := by decide +kernel
theorem dX3_init_51 : decode cX3_init 51 = .ok (.aload_n 0, 1) := by decide +kernel
theorem dX3_init_52 : decode cX3_init 52 = .ok (.iconst 3, 1) := by decide +kernel
theorem dX3_init_53 : decode cX3_init 53 = .ok (.newarray .long, 2) := by decide +kernel
theorem dX3_init_55 : decode cX3_init 55 = .ok (.putfield 29, 3) := by decide +kernel
theorem dX3_init_58 : decode cX3_init 58 = .ok (.aload_n 0, 1) := by decide +kernel
theorem dX3_init_59 : decode cX3_init 59 = .ok (.new 33, 3) := by decide +kernel
theorem dX3_init_62 : decode cX3_init 62 = .ok (.dup, 1) := by decide +kernel
theorem dX3_init_63 : decode cX3_init 63 = .ok (.invokespecial 35, 3) := by decide +kernel
theorem dX3_init_66 : decode cX3_init 66 = .ok (.putfield 36, 3) := by decide +kernel
theorem dX3_init_69 : decode cX3_init 69 = .ok (.aload_n 0, 1) := by decide +kernel
theorem dX3_init_70 : decode cX3_init 70 = .ok (.lconst 0, 1) := by decide +kernel
theorem dX3_init_71 : decode cX3_init 71 = .ok (.putfield 40, 3) := by decide +kernel
theorem dX3_init_74 : decode cX3_init 74 = .ok (.aload_n 0, 1) := by decide +kernel
theorem dX3_init_75 : decode cX3_init 75 = .ok (.iconst 0, 1) := by decide +kernel
theorem dX3_init_76 : decode cX3_init 76 = .ok (.putfield 44, 3) := by decide +kernel
theorem dX3_init_79 : decode cX3_init 79 = .ok (.aload_n 0, 1) := by decide +kernel
theorem dX3_init_80 : decode cX3_init 80 = .ok (.iconst 0, 1) := by decide +kernel
theorem dX3_init_81 : decode cX3_init 81 = .ok (.putfield 48, 3) := by decide +kernel
theorem dX3_init_84 : decode cX3_init 84 = .ok (.aload_n 0, 1) := by decide +kernel
theorem dX3_init_85 : decode cX3_init 85 = .ok (.getfield 22, 3) := by decide +kernel
theorem dX3_init_88 : decode cX3_init 88 = .ok (.iconst (-1), 1) := by decide +kernel
theorem dX3_init_89 : decode cX3_init 89 = .ok (.invokestatic 51, 3) := by decide +kernel
theorem dX3_init_92 : decode cX3_init 92 = .ok (.return_, 1) := by decide +kernel
theorem dX3_sound_0 : decode cX3_sound 0 = .ok (.iload_n 1, 1) := by decide +kernel
theorem dX3_sound_1 : decode cX3_sound 1 = .ok (.bipush 8, 2) := by decide +kernel
theorem dX3_sound_3 : decode cX3_sound 3 = .ok (.invokestatic 57, 3) := by decide +kernel
theorem dX3_sound_6 : decode cX3_sound 6 = .ok (.ifCond .eq 13, 3) := by decide +kernel
theorem dX3_sound_9 : decode cX3_sound 9 = .ok (.new 61, 3) := by decide +kernel
theorem dX3_sound_12 : decode cX3_sound 12 = .ok (.dup, 1) := by decide +kernel
theorem dX3_sound_13 : decode cX3_sound 13 = .ok (.ldc 63, 2) := by decide +kernel
theorem dX3_sound_15 : decode cX3_sound 15 = .ok (.invokespecial 65, 3) := by decide +kernel
theorem dX3_sound_18 : decode cX3_sound 18 = .ok (.athrow, 1) := by decide +kernel
theorem dX3_sound_19 : decode cX3_sound 19 = .ok (.aload_n 0, 1) := by decide +kernel
theorem dX3_sound_20 : decode cX3_sound 20 = .ok (.getfield 48, 3) := by decide +kernel
theorem dX3_sound_23 : decode cX3_sound 23 = .ok (.bipush 8, 2) := by decide +kernel
theorem dX3_sound_25 : decode cX3_sound 25 = .ok (.if_icmp .lt 13, 3) := by decide +kernel
theorem dX3_sound_28 : decode cX3_sound 28 = .ok (.new 68, 3) := by decide +kernel
theorem dX3_sound_31 : decode cX3_sound 31 = .ok (.dup, 1) := by decide +kernel
theorem dX3_sound_32 : decode cX3_sound 32 = .ok (.ldc 70, 2) := by decide +kernel
theorem dX3_sound_34 : decode cX3_sound 34 = .ok (.invokespecial 72, 3) := by decide +kernel
theorem dX3_sound_37 : decode cX3_sound 37 = .ok (.athrow, 1) := by decide +kernel
theorem dX3_sound_38 : decode cX3_sound 38 = .ok (.aload_n 0, 1) := by decide +kernel
theorem dX3_sound_39 : decode cX3_sound 39 = .ok (.aload_n 0, 1) := by decide +kernel
theorem dX3_sound_40 : decode cX3_sound 40 = .ok (.getfield 44, 3) := by decide +kernel
theorem dX3_sound_43 : decode cX3_sound 43 = .ok (.bipush 9, 2) := by decide +kernel
theorem dX3_sound_45 : decode cX3_sound 45 = .ok (.imul, 1) := by decide +kernel
theorem dX3_sound_46 : decode cX3_sound 46 = .ok (.iload_n 1, 1) := by decide +kernel
theorem dX3_sound_47 : decode cX3_sound 47 = .ok (.iadd, 1) := by decide +kernel
theorem dX3_sound_48 : decode cX3_sound 48 = .ok (.iconst 1, 1) := by decide +kernel
theorem dX3_sound_49 : decode cX3_sound 49 = .ok (.iadd, 1) := by decide +kernel
theorem dX3_sound_50 : decode cX3_sound 50 = .ok (.putfield 44, 3) := by decide +kernel
theorem dX3_sound_53 : decode cX3_sound 53 = .ok (.aload_n 0, 1) := by decide +kernel
theorem dX3_sound_54 : decode cX3_sound 54 = .ok (.dup, 1) := by decide +kernel
theorem dX3_sound_55 : decode cX3_sound 55 = .ok (.getfield 48, 3) := by decide +kernel
theorem dX3_sound_58 : decode cX3_sound 58 = .ok (.iconst 1, 1) := by decide +kernel
theorem dX3_sound_59 : decode cX3_sound 59 = .ok (.iadd, 1) := by decide +kernel
theorem dX3_sound_60 : decode cX3_sound 60 = .ok (.putfield 48, 3) := by decide +kernel
theorem dX3_sound_63 : decode cX3_sound 63 = .ok (.aload_n 0, 1) := by decide +kernel
theorem dX3_sound_64 : decode cX3_sound 64 = .ok (.getfield 48, 3) := by decide +kernel
theorem dX3_sound_67 : decode cX3_sound 67 = .ok (.ireturn, 1) := by decide +kernel
theorem dX3_interview_0 : decode cX3_interview 0 = .ok (.iload_n 1, 1) := by decide +kernel
theorem dX3_interview_1 : decode cX3_interview 1 = .ok (.bipush 8, 2) := by decide +kernel
theorem dX3_interview_3 : decode cX3_interview 3 = .ok (.invokestatic 57, 3) := by decide +kernel
theorem dX3_interview_6 : decode cX3_interview 6 = .ok (.ifCond .ne 21, 3) := by decide +kernel
theorem dX3_interview_9 : decode cX3_interview 9 = .ok (.iload_n 2, 1) := by decide +kernel
theorem dX3_interview_10 : decode cX3_interview 10 = .ok (.bipush 10, 2) := by decide +kernel
theorem dX3_interview_12 : decode cX3_interview 12 = .ok (.invokestatic 57, 3) := by decide +kernel
theorem dX3_interview_15 : decode cX3_interview 15 = .ok (.ifCond .ne 12, 3) := by decide +kernel
theorem dX3_interview_18 : decode cX3_interview 18 = .ok (.iload 4, 2) := by decide +kernel
theorem dX3_interview_20 : decode cX3_interview 20 = .ok (.iconst 4, 1) := by decide +kernel
theorem dX3_interview_21 : decode cX3_interview 21 = .ok (.invokestatic 57, 3) := by decide +kernel
theorem dX3_interview_24 : decode cX3_interview 24 = .ok (.ifCond .eq 13, 3) := by decide +kernel
theorem dX3_interview_27 : decode cX3_interview 27 = .ok (.new 61, 3) := by decide +kernel
theorem dX3_interview_30 : decode cX3_interview 30 = .ok (.dup, 1) := by decide +kernel
theorem dX3_interview_31 : decode cX3_interview 31 = .ok (.ldc 73, 2) := by decide +kernel
theorem dX3_interview_33 : decode cX3_interview 33 = .ok (.invokespecial 65, 3) := by decide +kernel
theorem dX3_interview_36 : decode cX3_interview 36 = .ok (.athrow, 1) := by decide +kernel
theorem dX3_interview_37 : decode cX3_interview 37 = .ok (.iload_n 3, 1) := by decide +kernel
theorem dX3_interview_38 : decode cX3_interview 38 = .ok (.sipush 301, 3) := by decide +kernel
theorem dX3_interview_41 : decode cX3_interview 41 = .ok (.invokestatic 57, 3) := by decide +kernel
theorem dX3_interview_44 : decode cX3_interview 44 = .ok (.ifCond .eq 13, 3) := by decide +kernel
theorem dX3_interview_47 : decode cX3_interview 47 = .ok (.new 75, 3) := by decide +kernel
theorem dX3_interview_50 : decode cX3_interview 50 = .ok (.dup, 1) := by decide +kernel
theorem dX3_interview_51 : decode cX3_interview 51 = .ok (.ldc 77, 2) := by decide +kernel
theorem dX3_interview_53 : decode cX3_interview 53 = .ok (.invokespecial 79, 3) := by decide +kernel
theorem dX3_interview_56 : decode cX3_interview 56 = .ok (.athrow, 1) := by decide +kernel
theorem dX3_interview_57 : decode cX3_interview 57 = .ok (.aload_n 0, 1) := by decide +kernel
theorem dX3_interview_58 : decode cX3_interview 58 = .ok (.getfield 10, 3) := by decide +kernel
theorem dX3_interview_61 : decode cX3_interview 61 = .ok (.invokevirtual 80, 3) := by decide +kernel
theorem dX3_interview_64 : decode cX3_interview 64 = .ok (.istore 5, 2) := by decide +kernel
theorem dX3_interview_66 : decode cX3_interview 66 = .ok (.aload_n 0, 1) := by decide +kernel
theorem dX3_interview_67 : decode cX3_interview 67 = .ok (.getfield 48, 3) := by decide +kernel
theorem dX3_interview_70 : decode cX3_interview 70 = .ok (.ifCond .eq 10, 3) := by decide +kernel
theorem dX3_interview_73 : decode cX3_interview 73 = .ok (.iload 5, 2) := by decide +kernel
theorem dX3_interview_75 : decode cX3_interview 75 = .ok (.bipush 40, 2) := by decide +kernel
theorem dX3_interview_77 : decode cX3_interview 77 = .ok (.if_icmp .lt 13, 3) := by decide +kernel
theorem dX3_interview_80 : decode cX3_interview 80 = .ok (.new 68, 3) := by decide +kernel
theorem dX3_interview_83 : decode cX3_interview 83 = .ok (.dup, 1) := by decide +kernel
theorem dX3_interview_84 : decode cX3_interview 84 = .ok (.ldc 84, 2) := by decide +kernel
theorem dX3_interview_86 : decode cX3_interview 86 = .ok (.invokespecial 72, 3) := by decide +kernel
theorem dX3_interview_89 : decode cX3_interview 89 = .ok (.athrow, 1) := by decide +kernel
theorem dX3_interview_90 : decode cX3_interview 90 = .ok (.lconst 1, 1) := by decide +kernel
theorem dX3_interview_91 : decode cX3_interview 91 = .ok (.iload 5, 2) := by decide +kernel
theorem dX3_interview_93 : decode cX3_interview 93 = .ok (.lshl, 1) := by decide +kernel
theorem dX3_interview_94 : decode cX3_interview 94 = .ok (.lstore 6, 2) := by decide +kernel
theorem dX3_interview_96 : decode cX3_interview 96 = .ok (.aload_n 0, 1) := by decide +kernel
theorem dX3_interview_97 : decode cX3_interview 97 = .ok (.getfield 10, 3) := by decide +kernel
theorem dX3_interview_100 : decode cX3_interview 100 = .ok (.new 86, 3) := by decide +kernel
theorem dX3_interview_103 : decode cX3_interview 103 = .ok (.dup, 1) := by decide +kernel
theorem dX3_interview_104 : decode cX3_interview 104 = .ok (.lload 6, 2) := by decide +kernel
theorem dX3_interview_106 : decode cX3_interview 106 = .ok (.iload_n 1, 1) := by decide +kernel
theorem dX3_interview_107 : decode cX3_interview 107 = .ok (.iload_n 2, 1) := by decide +kernel
theorem dX3_interview_108 : decode cX3_interview 108 = .ok (.iload_n 3, 1) := by decide +kernel
theorem dX3_interview_109 : decode cX3_interview 109 = .ok (.iload 4, 2) := by decide +kernel
theorem dX3_interview_111 : decode cX3_interview 111 = .ok (.aload_n 0, 1) := by decide +kernel
theorem dX3_interview_112 : decode cX3_interview 112 = .ok (.invokevirtual 88, 3) := by decide +kernel
theorem dX3_interview_115 : decode cX3_interview 115 = .ok (.invokespecial 91, 3) := by decide +kernel
theorem dX3_interview_118 : decode cX3_interview 118 = .ok (.invokevirtual 94, 3) := by decide +kernel
theorem dX3_interview_121 : decode cX3_interview 121 = .ok (.pop, 1) := by decide +kernel
theorem dX3_interview_122 : decode cX3_interview 122 = .ok (.aload_n 0, 1) := by decide +kernel
theorem dX3_interview_123 : decode cX3_interview 123 = .ok (.dup, 1) := by decide +kernel
theorem dX3_interview_124 : decode cX3_interview 124 = .ok (.getfield 40, 3) := by decide +kernel
theorem dX3_interview_127 : decode cX3_interview 127 = .ok (.lload 6, 2) := by decide +kernel
theorem dX3_interview_129 : decode cX3_interview 129 = .ok (.lor, 1) := by decide +kernel
theorem dX3_interview_130 : decode cX3_interview 130 = .ok (.putfield 40, 3) := by decide +kernel
theorem dX3_interview_133 : decode cX3_interview 133 = .ok (.aload_n 0, 1) := by decide +kernel
theorem dX3_interview_134 : decode cX3_interview 134 = .ok (.getfield 26, 3) := by decide +kernel
theorem dX3_interview_137 : decode cX3_interview 137 = .ok (.iload 4, 2) := by decide +kernel
theorem dX3_interview_139 : decode cX3_interview 139 = .ok (.aload_n 0, 1) := by decide +kernel
theorem dX3_interview_140 : decode cX3_interview 140 = .ok (.iload 4, 2) := by decide +kernel
theorem dX3_interview_142 : decode cX3_interview 142 = .ok (.invokevirtual 98, 3) := by decide +kernel
theorem dX3_interview_145 : decode cX3_interview 145 = .ok (.iastore, 1) := by decide +kernel
theorem dX3_interview_146 : decode cX3_interview 146 = .ok (.iload 5, 2) := by decide +kernel
theorem dX3_interview_148 : decode cX3_interview 148 = .ok (.ireturn, 1) := by decide +kernel
theorem dX3_setRoot_0 : decode cX3_setRoot 0 = .ok (.iload_n 1, 1) := by decide +kernel
theorem dX3_setRoot_1 : decode cX3_setRoot 1 = .ok (.iconst 4, 1) := by decide +kernel
theorem dX3_setRoot_2 : decode cX3_setRoot 2 = .ok (.invokestatic 57, 3) := by decide +kernel
theorem dX3_setRoot_5 : decode cX3_setRoot 5 = .ok (.ifCond .eq 13, 3) := by decide +kernel
theorem dX3_setRoot_8 : decode cX3_setRoot 8 = .ok (.new 61, 3) := by decide +kernel
theorem dX3_setRoot_11 : decode cX3_setRoot 11 = .ok (.dup, 1) := by decide +kernel
theorem dX3_setRoot_12 : decode cX3_setRoot 12 = .ok (.ldc 102, 2) := by decide +kernel
theorem dX3_setRoot_14 : decode cX3_setRoot 14 = .ok (.invokespecial 65, 3) := by decide +kernel
theorem dX3_setRoot_17 : decode cX3_setRoot 17 = .ok (.athrow, 1) := by decide +kernel
theorem dX3_setRoot_18 : decode cX3_setRoot 18 = .ok (.aload_n 0, 1) := by decide +kernel
theorem dX3_setRoot_19 : decode cX3_setRoot 19 = .ok (.getfield 48, 3) := by decide +kernel
theorem dX3_setRoot_22 : decode cX3_setRoot 22 = .ok (.ifCond .ne 13, 3) := by decide +kernel
theorem dX3_setRoot_25 : decode cX3_setRoot 25 = .ok (.new 68, 3) := by decide +kernel
theorem dX3_setRoot_28 : decode cX3_setRoot 28 = .ok (.dup, 1) := by decide +kernel
theorem dX3_setRoot_29 : decode cX3_setRoot 29 = .ok (.ldc 104, 2) := by decide +kernel
theorem dX3_setRoot_31 : decode cX3_setRoot 31 = .ok (.invokespecial 72, 3) := by decide +kernel
theorem dX3_setRoot_34 : decode cX3_setRoot 34 = .ok (.athrow, 1) := by decide +kernel
theorem dX3_setRoot_35 : decode cX3_setRoot 35 = .ok (.aload_n 0, 1) := by decide +kernel
theorem dX3_setRoot_36 : decode cX3_setRoot 36 = .ok (.getfield 22, 3) := by decide +kernel
theorem dX3_setRoot_39 : decode cX3_setRoot 39 = .ok (.iload_n 1, 1) := by decide +kernel
theorem dX3_setRoot_40 : decode cX3_setRoot 40 = .ok (.iaload, 1) := by decide +kernel
theorem dX3_setRoot_41 : decode cX3_setRoot 41 = .ok (.istore_n 2, 1) := by decide +kernel
theorem dX3_setRoot_42 : decode cX3_setRoot 42 = .ok (.aload_n 0, 1) := by decide +kernel
theorem dX3_setRoot_43 : decode cX3_setRoot 43 = .ok (.getfield 22, 3) := by decide +kernel
theorem dX3_setRoot_46 : decode cX3_setRoot 46 = .ok (.iload_n 1, 1) := by decide +kernel
theorem dX3_setRoot_47 : decode cX3_setRoot 47 = .ok (.aload_n 0, 1) := by decide +kernel
theorem dX3_setRoot_48 : decode cX3_setRoot 48 = .ok (.invokevirtual 88, 3) := by decide +kernel
theorem dX3_setRoot_51 : decode cX3_setRoot 51 = .ok (.iastore, 1) := by decide +kernel
theorem dX3_setRoot_52 : decode cX3_setRoot 52 = .ok (.iload_n 2, 1) := by decide +kernel
theorem dX3_setRoot_53 : decode cX3_setRoot 53 = .ok (.ireturn, 1) := by decide +kernel
theorem dX3_form_0 : decode cX3_form 0 = .ok (.iload_n 1, 1) := by decide +kernel
theorem dX3_form_1 : decode cX3_form 1 = .ok (.aload_n 0, 1) := by decide +kernel
theorem dX3_form_2 : decode cX3_form 2 = .ok (.getfield 10, 3) := by decide +kernel
theorem dX3_form_5 : decode cX3_form 5 = .ok (.invokevirtual 80, 3) := by decide +kernel
theorem dX3_form_8 : decode cX3_form 8 = .ok (.invokestatic 57, 3) := by decide +kernel
theorem dX3_form_11 : decode cX3_form 11 = .ok (.ifCond .eq 13, 3) := by decide +kernel
theorem dX3_form_14 : decode cX3_form 14 = .ok (.new 61, 3) := by decide +kernel
theorem dX3_form_17 : decode cX3_form 17 = .ok (.dup, 1) := by decide +kernel
theorem dX3_form_18 : decode cX3_form 18 = .ok (.ldc 106, 2) := by decide +kernel
theorem dX3_form_20 : decode cX3_form 20 = .ok (.invokespecial 65, 3) := by decide +kernel
theorem dX3_form_23 : decode cX3_form 23 = .ok (.athrow, 1) := by decide +kernel
theorem dX3_form_24 : decode cX3_form 24 = .ok (.aload_n 0, 1) := by decide +kernel
theorem dX3_form_25 : decode cX3_form 25 = .ok (.aload_n 0, 1) := by decide +kernel
theorem dX3_form_26 : decode cX3_form 26 = .ok (.getfield 10, 3) := by decide +kernel
theorem dX3_form_29 : decode cX3_form 29 = .ok (.iload_n 1, 1) := by decide +kernel
theorem dX3_form_30 : decode cX3_form 30 = .ok (.invokevirtual 108, 3) := by decide +kernel
theorem dX3_form_33 : decode cX3_form 33 = .ok (.checkcast 86, 3) := by decide +kernel
theorem dX3_form_36 : decode cX3_form 36 = .ok (.invokevirtual 112, 3) := by decide +kernel
theorem dX3_form_39 : decode cX3_form 39 = .ok (.ireturn, 1) := by decide +kernel
theorem dX3_rule_0 : decode cX3_rule 0 = .ok (.iload_n 1, 1) := by decide +kernel
theorem dX3_rule_1 : decode cX3_rule 1 = .ok (.bipush 8, 2) := by decide +kernel
theorem dX3_rule_3 : decode cX3_rule 3 = .ok (.invokestatic 57, 3) := by decide +kernel
theorem dX3_rule_6 : decode cX3_rule 6 = .ok (.ifCond .ne 23, 3) := by decide +kernel
theorem dX3_rule_9 : decode cX3_rule 9 = .ok (.iload 4, 2) := by decide +kernel
theorem dX3_rule_11 : decode cX3_rule 11 = .ok (.bipush 10, 2) := by decide +kernel
theorem dX3_rule_13 : decode cX3_rule 13 = .ok (.invokestatic 57, 3) := by decide +kernel
theorem dX3_rule_16 : decode cX3_rule 16 = .ok (.ifCond .ne 13, 3) := by decide +kernel
theorem dX3_rule_19 : decode cX3_rule 19 = .ok (.iload 5, 2) := by decide +kernel
theorem dX3_rule_21 : decode cX3_rule 21 = .ok (.bipush 10, 2) := by decide +kernel
theorem dX3_rule_23 : decode cX3_rule 23 = .ok (.invokestatic 57, 3) := by decide +kernel
theorem dX3_rule_26 : decode cX3_rule 26 = .ok (.ifCond .eq 13, 3) := by decide +kernel
theorem dX3_rule_29 : decode cX3_rule 29 = .ok (.new 61, 3) := by decide +kernel
theorem dX3_rule_32 : decode cX3_rule 32 = .ok (.dup, 1) := by decide +kernel
theorem dX3_rule_33 : decode cX3_rule 33 = .ok (.ldc 116, 2) := by decide +kernel
theorem dX3_rule_35 : decode cX3_rule 35 = .ok (.invokespecial 65, 3) := by decide +kernel
theorem dX3_rule_38 : decode cX3_rule 38 = .ok (.athrow, 1) := by decide +kernel
theorem dX3_rule_39 : decode cX3_rule 39 = .ok (.iload_n 2, 1) := by decide +kernel
theorem dX3_rule_40 : decode cX3_rule 40 = .ok (.iload_n 1, 1) := by decide +kernel
theorem dX3_rule_41 : decode cX3_rule 41 = .ok (.if_icmp .eq 24, 3) := by decide +kernel
theorem dX3_rule_44 : decode cX3_rule 44 = .ok (.iload_n 2, 1) := by decide +kernel
theorem dX3_rule_45 : decode cX3_rule 45 = .ok (.iconst (-1), 1) := by decide +kernel
theorem dX3_rule_46 : decode cX3_rule 46 = .ok (.if_icmp .eq 12, 3) := by decide +kernel
theorem dX3_rule_49 : decode cX3_rule 49 = .ok (.iload_n 2, 1) := by decide +kernel
theorem dX3_rule_50 : decode cX3_rule 50 = .ok (.bipush 8, 2) := by decide +kernel
theorem dX3_rule_52 : decode cX3_rule 52 = .ok (.invokestatic 57, 3) := by decide +kernel
theorem dX3_rule_55 : decode cX3_rule 55 = .ok (.ifCond .ne 10, 3) := by decide +kernel
theorem dX3_rule_58 : decode cX3_rule 58 = .ok (.iload_n 3, 1) := by decide +kernel
theorem dX3_rule_59 : decode cX3_rule 59 = .ok (.invokestatic 118, 3) := by decide +kernel
theorem dX3_rule_62 : decode cX3_rule 62 = .ok (.ifCond .ne 13, 3) := by decide +kernel
theorem dX3_rule_65 : decode cX3_rule 65 = .ok (.new 75, 3) := by decide +kernel
theorem dX3_rule_68 : decode cX3_rule 68 = .ok (.dup, 1) := by decide +kernel
theorem dX3_rule_69 : decode cX3_rule 69 = .ok (.ldc 122, 2) := by decide +kernel
theorem dX3_rule_71 : decode cX3_rule 71 = .ok (.invokespecial 79, 3) := by decide +kernel
theorem dX3_rule_74 : decode cX3_rule 74 = .ok (.athrow, 1) := by decide +kernel
theorem dX3_rule_75 : decode cX3_rule 75 = .ok (.iload 5, 2) := by decide +kernel
theorem dX3_rule_77 : decode cX3_rule 77 = .ok (.iload 4, 2) := by decide +kernel
theorem dX3_rule_79 : decode cX3_rule 79 = .ok (.if_icmp .lt 14, 3) := by decide +kernel
theorem dX3_rule_82 : decode cX3_rule 82 = .ok (.iload 6, 2) := by decide +kernel
theorem dX3_rule_84 : decode cX3_rule 84 = .ok (.sipush 301, 3) := by decide +kernel
theorem dX3_rule_87 : decode cX3_rule 87 = .ok (.invokestatic 57, 3) := by decide +kernel
theorem dX3_rule_90 : decode cX3_rule 90 = .ok (.ifCond .eq 13, 3) := by decide +kernel
theorem dX3_rule_93 : decode cX3_rule 93 = .ok (.new 75, 3) := by decide +kernel
theorem dX3_rule_96 : decode cX3_rule 96 = .ok (.dup, 1) := by decide +kernel
theorem dX3_rule_97 : decode cX3_rule 97 = .ok (.ldc 124, 2) := by decide +kernel
theorem dX3_rule_99 : decode cX3_rule 99 = .ok (.invokespecial 79, 3) := by decide +kernel
theorem dX3_rule_102 : decode cX3_rule 102 = .ok (.athrow, 1) := by decide +kernel
theorem dX3_rule_103 : decode cX3_rule 103 = .ok (.aload_n 0, 1) := by decide +kernel
theorem dX3_rule_104 : decode cX3_rule 104 = .ok (.getfield 16, 3) := by decide +kernel
theorem dX3_rule_107 : decode cX3_rule 107 = .ok (.invokevirtual 80, 3) := by decide +kernel
theorem dX3_rule_110 : decode cX3_rule 110 = .ok (.istore 7, 2) := by decide +kernel
theorem dX3_rule_112 : decode cX3_rule 112 = .ok (.iload 7, 2) := by decide +kernel
theorem dX3_rule_114 : decode cX3_rule 114 = .ok (.bipush 20, 2) := by decide +kernel
theorem dX3_rule_116 : decode cX3_rule 116 = .ok (.if_icmp .lt 13, 3) := by decide +kernel
theorem dX3_rule_119 : decode cX3_rule 119 = .ok (.new 68, 3) := by decide +kernel
theorem dX3_rule_122 : decode cX3_rule 122 = .ok (.dup, 1) := by decide +kernel
theorem dX3_rule_123 : decode cX3_rule 123 = .ok (.ldc 126, 2) := by decide +kernel
theorem dX3_rule_125 : decode cX3_rule 125 = .ok (.invokespecial 72, 3) := by decide +kernel
theorem dX3_rule_128 : decode cX3_rule 128 = .ok (.athrow, 1) := by decide +kernel
theorem dX3_rule_129 : decode cX3_rule 129 = .ok (.aload_n 0, 1) := by decide +kernel
theorem dX3_rule_130 : decode cX3_rule 130 = .ok (.getfield 16, 3) := by decide +kernel
theorem dX3_rule_133 : decode cX3_rule 133 = .ok (.new 128, 3) := by decide +kernel
theorem dX3_rule_136 : decode cX3_rule 136 = .ok (.dup, 1) := by decide +kernel
theorem dX3_rule_137 : decode cX3_rule 137 = .ok (.iload_n 1, 1) := by decide +kernel
theorem dX3_rule_138 : decode cX3_rule 138 = .ok (.iload_n 2, 1) := by decide +kernel
theorem dX3_rule_139 : decode cX3_rule 139 = .ok (.iload_n 3, 1) := by decide +kernel
theorem dX3_rule_140 : decode cX3_rule 140 = .ok (.iload 4, 2) := by decide +kernel
theorem dX3_rule_142 : decode cX3_rule 142 = .ok (.iload 5, 2) := by decide +kernel
theorem dX3_rule_144 : decode cX3_rule 144 = .ok (.iload 6, 2) := by decide +kernel
theorem dX3_rule_146 : decode cX3_rule 146 = .ok (.invokespecial 130, 3) := by decide +kernel
theorem dX3_rule_149 : decode cX3_rule 149 = .ok (.invokevirtual 94, 3) := by decide +kernel
theorem dX3_rule_152 : decode cX3_rule 152 = .ok (.pop, 1) := by decide +kernel
theorem dX3_rule_153 : decode cX3_rule 153 = .ok (.iload 7, 2) := by decide +kernel
theorem dX3_rule_155 : decode cX3_rule 155 = .ok (.ireturn, 1) := by decide +kernel
theorem dX3_rest_0 : decode cX3_rest 0 = .ok (.iload_n 1, 1) := by decide +kernel
theorem dX3_rest_1 : decode cX3_rest 1 = .ok (.aload_n 0, 1) := by decide +kernel
theorem dX3_rest_2 : decode cX3_rest 2 = .ok (.getfield 16, 3) := by decide +kernel
theorem dX3_rest_5 : decode cX3_rest 5 = .ok (.invokevirtual 80, 3) := by decide +kernel
theorem dX3_rest_8 : decode cX3_rest 8 = .ok (.invokestatic 57, 3) := by decide +kernel
theorem dX3_rest_11 : decode cX3_rest 11 = .ok (.ifCond .ne 17, 3) := by decide +kernel
theorem dX3_rest_14 : decode cX3_rest 14 = .ok (.iload_n 2, 1) := by decide +kernel
theorem dX3_rest_15 : decode cX3_rest 15 = .ok (.aload_n 0, 1) := by decide +kernel
theorem dX3_rest_16 : decode cX3_rest 16 = .ok (.getfield 10, 3) := by decide +kernel
theorem dX3_rest_19 : decode cX3_rest 19 = .ok (.invokevirtual 80, 3) := by decide +kernel
theorem dX3_rest_22 : decode cX3_rest 22 = .ok (.invokestatic 57, 3) := by decide +kernel
theorem dX3_rest_25 : decode cX3_rest 25 = .ok (.ifCond .eq 13, 3) := by decide +kernel
theorem dX3_rest_28 : decode cX3_rest 28 = .ok (.new 61, 3) := by decide +kernel
theorem dX3_rest_31 : decode cX3_rest 31 = .ok (.dup, 1) := by decide +kernel
theorem dX3_rest_32 : decode cX3_rest 32 = .ok (.ldc 133, 2) := by decide +kernel
theorem dX3_rest_34 : decode cX3_rest 34 = .ok (.invokespecial 65, 3) := by decide +kernel
theorem dX3_rest_37 : decode cX3_rest 37 = .ok (.athrow, 1) := by decide +kernel
theorem dX3_rest_38 : decode cX3_rest 38 = .ok (.aload_n 0, 1) := by decide +kernel
theorem dX3_rest_39 : decode cX3_rest 39 = .ok (.getfield 16, 3) := by decide +kernel
theorem dX3_rest_42 : decode cX3_rest 42 = .ok (.iload_n 1, 1) := by decide +kernel
theorem dX3_rest_43 : decode cX3_rest 43 = .ok (.invokevirtual 108, 3) := by decide +kernel
theorem dX3_rest_46 : decode cX3_rest 46 = .ok (.checkcast 128, 3) := by decide +kernel
theorem dX3_rest_49 : decode cX3_rest 49 = .ok (.astore_n 3, 1) := by decide +kernel
theorem dX3_rest_50 : decode cX3_rest 50 = .ok (.aload_n 0, 1) := by decide +kernel
theorem dX3_rest_51 : decode cX3_rest 51 = .ok (.getfield 10, 3) := by decide +kernel
theorem dX3_rest_54 : decode cX3_rest 54 = .ok (.iload_n 2, 1) := by decide +kernel
theorem dX3_rest_55 : decode cX3_rest 55 = .ok (.invokevirtual 108, 3) := by decide +kernel
theorem dX3_rest_58 : decode cX3_rest 58 = .ok (.checkcast 86, 3) := by decide +kernel
theorem dX3_rest_61 : decode cX3_rest 61 = .ok (.astore 4, 2) := by decide +kernel
theorem dX3_rest_63 : decode cX3_rest 63 = .ok (.aload_n 3, 1) := by decide +kernel
theorem dX3_rest_64 : decode cX3_rest 64 = .ok (.getfield 135, 3) := by decide +kernel
theorem dX3_rest_67 : decode cX3_rest 67 = .ok (.ifCond .ne 21, 3) := by decide +kernel
theorem dX3_rest_70 : decode cX3_rest 70 = .ok (.aload_n 0, 1) := by decide +kernel
theorem dX3_rest_71 : decode cX3_rest 71 = .ok (.aload 4, 2) := by decide +kernel
theorem dX3_rest_73 : decode cX3_rest 73 = .ok (.invokevirtual 139, 3) := by decide +kernel
theorem dX3_rest_76 : decode cX3_rest 76 = .ok (.ifCond .eq 12, 3) := by decide +kernel
theorem dX3_rest_79 : decode cX3_rest 79 = .ok (.aload_n 3, 1) := by decide +kernel
theorem dX3_rest_80 : decode cX3_rest 80 = .ok (.aload 4, 2) := by decide +kernel
theorem dX3_rest_82 : decode cX3_rest 82 = .ok (.invokevirtual 143, 3) := by decide +kernel
theorem dX3_rest_85 : decode cX3_rest 85 = .ok (.ifCond .eq 13, 3) := by decide +kernel
theorem dX3_rest_88 : decode cX3_rest 88 = .ok (.new 68, 3) := by decide +kernel
theorem dX3_rest_91 : decode cX3_rest 91 = .ok (.dup, 1) := by decide +kernel
theorem dX3_rest_92 : decode cX3_rest 92 = .ok (.ldc 146, 2) := by decide +kernel
theorem dX3_rest_94 : decode cX3_rest 94 = .ok (.invokespecial 72, 3) := by decide +kernel
theorem dX3_rest_97 : decode cX3_rest 97 = .ok (.athrow, 1) := by decide +kernel
theorem dX3_rest_98 : decode cX3_rest 98 = .ok (.aload_n 3, 1) := by decide +kernel
theorem dX3_rest_99 : decode cX3_rest 99 = .ok (.dup, 1) := by decide +kernel
theorem dX3_rest_100 : decode cX3_rest 100 = .ok (.getfield 148, 3) := by decide +kernel
theorem dX3_rest_103 : decode cX3_rest 103 = .ok (.aload 4, 2) := by decide +kernel
theorem dX3_rest_105 : decode cX3_rest 105 = .ok (.getfield 151, 3) := by decide +kernel
theorem dX3_rest_108 : decode cX3_rest 108 = .ok (.lor, 1) := by decide +kernel
theorem dX3_rest_109 : decode cX3_rest 109 = .ok (.putfield 148, 3) := by decide +kernel
theorem dX3_rest_112 : decode cX3_rest 112 = .ok (.aload_n 3, 1) := by decide +kernel
theorem dX3_rest_113 : decode cX3_rest 113 = .ok (.getfield 148, 3) := by decide +kernel
theorem dX3_rest_116 : decode cX3_rest 116 = .ok (.invokestatic 154, 3) := by decide +kernel
theorem dX3_rest_119 : decode cX3_rest 119 = .ok (.ireturn, 1) := by decide +kernel
theorem dX3_stands_0 : decode cX3_stands 0 = .ok (.iload_n 1, 1) := by decide +kernel
theorem dX3_stands_1 : decode cX3_stands 1 = .ok (.aload_n 0, 1) := by decide +kernel
theorem dX3_stands_2 : decode cX3_stands 2 = .ok (.getfield 16, 3) := by decide +kernel
theorem dX3_stands_5 : decode cX3_stands 5 = .ok (.invokevirtual 80, 3) := by decide +kernel
theorem dX3_stands_8 : decode cX3_stands 8 = .ok (.invokestatic 57, 3) := by decide +kernel
theorem dX3_stands_11 : decode cX3_stands 11 = .ok (.ifCond .eq 13, 3) := by decide +kernel
theorem dX3_stands_14 : decode cX3_stands 14 = .ok (.new 61, 3) := by decide +kernel
theorem dX3_stands_17 : decode cX3_stands 17 = .ok (.dup, 1) := by decide +kernel
theorem dX3_stands_18 : decode cX3_stands 18 = .ok (.ldc 160, 2) := by decide +kernel
theorem dX3_stands_20 : decode cX3_stands 20 = .ok (.invokespecial 65, 3) := by decide +kernel
theorem dX3_stands_23 : decode cX3_stands 23 = .ok (.athrow, 1) := by decide +kernel
theorem dX3_stands_24 : decode cX3_stands 24 = .ok (.aload_n 0, 1) := by decide +kernel
theorem dX3_stands_25 : decode cX3_stands 25 = .ok (.getfield 16, 3) := by decide +kernel
theorem dX3_stands_28 : decode cX3_stands 28 = .ok (.iload_n 1, 1) := by decide +kernel
theorem dX3_stands_29 : decode cX3_stands 29 = .ok (.invokevirtual 108, 3) := by decide +kernel
theorem dX3_stands_32 : decode cX3_stands 32 = .ok (.checkcast 128, 3) := by decide +kernel
theorem dX3_stands_35 : decode cX3_stands 35 = .ok (.getfield 135, 3) := by decide +kernel
theorem dX3_stands_38 : decode cX3_stands 38 = .ok (.ifCond .ne 7, 3) := by decide +kernel
theorem dX3_stands_41 : decode cX3_stands 41 = .ok (.iconst 1, 1) := by decide +kernel
theorem dX3_stands_42 : decode cX3_stands 42 = .ok (.goto 4, 3) := by decide +kernel
theorem dX3_stands_45 : decode cX3_stands 45 = .ok (.iconst 0, 1) := by decide +kernel
theorem dX3_stands_46 : decode cX3_stands 46 = .ok (.ireturn, 1) := by decide +kernel
theorem dX3_expected_0 : decode cX3_expected 0 = .ok (.iload_n 1, 1) := by decide +kernel
theorem dX3_expected_1 : decode cX3_expected 1 = .ok (.iconst 4, 1) := by decide +kernel
theorem dX3_expected_2 : decode cX3_expected 2 = .ok (.invokestatic 57, 3) := by decide +kernel
theorem dX3_expected_5 : decode cX3_expected 5 = .ok (.ifCond .ne 12, 3) := by decide +kernel
theorem dX3_expected_8 : decode cX3_expected 8 = .ok (.iload_n 2, 1) := by decide +kernel
theorem dX3_expected_9 : decode cX3_expected 9 = .ok (.bipush 10, 2) := by decide +kernel
theorem dX3_expected_11 : decode cX3_expected 11 = .ok (.invokestatic 57, 3) := by decide +kernel
theorem dX3_expected_14 : decode cX3_expected 14 = .ok (.ifCond .eq 13, 3) := by decide +kernel
theorem dX3_expected_17 : decode cX3_expected 17 = .ok (.new 61, 3) := by decide +kernel
theorem dX3_expected_20 : decode cX3_expected 20 = .ok (.dup, 1) := by decide +kernel
theorem dX3_expected_21 : decode cX3_expected 21 = .ok (.ldc 162, 2) := by decide +kernel
theorem dX3_expected_23 : decode cX3_expected 23 = .ok (.invokespecial 65, 3) := by decide +kernel
theorem dX3_expected_26 : decode cX3_expected 26 = .ok (.athrow, 1) := by decide +kernel
theorem dX3_expected_27 : decode cX3_expected 27 = .ok (.iload_n 3, 1) := by decide +kernel
theorem dX3_expected_28 : decode cX3_expected 28 = .ok (.sipush 301, 3) := by decide +kernel
theorem dX3_expected_31 : decode cX3_expected 31 = .ok (.invokestatic 57, 3) := by decide +kernel
theorem dX3_expected_34 : decode cX3_expected 34 = .ok (.ifCond .eq 13, 3) := by decide +kernel
theorem dX3_expected_37 : decode cX3_expected 37 = .ok (.new 75, 3) := by decide +kernel
theorem dX3_expected_40 : decode cX3_expected 40 = .ok (.dup, 1) := by decide +kernel
theorem dX3_expected_41 : decode cX3_expected 41 = .ok (.ldc 77, 2) := by decide +kernel
theorem dX3_expected_43 : decode cX3_expected 43 = .ok (.invokespecial 79, 3) := by decide +kernel
theorem dX3_expected_46 : decode cX3_expected 46 = .ok (.athrow, 1) := by decide +kernel
theorem dX3_expected_47 : decode cX3_expected 47 = .ok (.aload_n 0, 1) := by decide +kernel
theorem dX3_expected_48 : decode cX3_expected 48 = .ok (.aload_n 0, 1) := by decide +kernel
theorem dX3_expected_49 : decode cX3_expected 49 = .ok (.getfield 22, 3) := by decide +kernel
theorem dX3_expected_52 : decode cX3_expected 52 = .ok (.iload_n 1, 1) := by decide +kernel
theorem dX3_expected_53 : decode cX3_expected 53 = .ok (.iaload, 1) := by decide +kernel
theorem dX3_expected_54 : decode cX3_expected 54 = .ok (.iload_n 2, 1) := by decide +kernel
theorem dX3_expected_55 : decode cX3_expected 55 = .ok (.iload_n 3, 1) := by decide +kernel
theorem dX3_expected_56 : decode cX3_expected 56 = .ok (.invokevirtual 164, 3) := by decide +kernel
theorem dX3_expected_59 : decode cX3_expected 59 = .ok (.ireturn, 1) := by decide +kernel
theorem dX3_far_0 : decode cX3_far 0 = .ok (.iload_n 1, 1) := by decide +kernel
theorem dX3_far_1 : decode cX3_far 1 = .ok (.aload_n 0, 1) := by decide +kernel
theorem dX3_far_2 : decode cX3_far 2 = .ok (.getfield 10, 3) := by decide +kernel
theorem dX3_far_5 : decode cX3_far 5 = .ok (.invokevirtual 80, 3) := by decide +kernel
theorem dX3_far_8 : decode cX3_far 8 = .ok (.invokestatic 57, 3) := by decide +kernel
theorem dX3_far_11 : decode cX3_far 11 = .ok (.ifCond .eq 13, 3) := by decide +kernel
theorem dX3_far_14 : decode cX3_far 14 = .ok (.new 61, 3) := by decide +kernel
theorem dX3_far_17 : decode cX3_far 17 = .ok (.dup, 1) := by decide +kernel
theorem dX3_far_18 : decode cX3_far 18 = .ok (.ldc 106, 2) := by decide +kernel
theorem dX3_far_20 : decode cX3_far 20 = .ok (.invokespecial 65, 3) := by decide +kernel
theorem dX3_far_23 : decode cX3_far 23 = .ok (.athrow, 1) := by decide +kernel
theorem dX3_far_24 : decode cX3_far 24 = .ok (.aload_n 0, 1) := by decide +kernel
theorem dX3_far_25 : decode cX3_far 25 = .ok (.getfield 10, 3) := by decide +kernel
theorem dX3_far_28 : decode cX3_far 28 = .ok (.iload_n 1, 1) := by decide +kernel
theorem dX3_far_29 : decode cX3_far 29 = .ok (.invokevirtual 108, 3) := by decide +kernel
theorem dX3_far_32 : decode cX3_far 32 = .ok (.checkcast 86, 3) := by decide +kernel
theorem dX3_far_35 : decode cX3_far 35 = .ok (.astore_n 2, 1) := by decide +kernel
theorem dX3_far_36 : decode cX3_far 36 = .ok (.aload_n 0, 1) := by decide +kernel
theorem dX3_far_37 : decode cX3_far 37 = .ok (.getfield 22, 3) := by decide +kernel
theorem dX3_far_40 : decode cX3_far 40 = .ok (.aload_n 2, 1) := by decide +kernel
theorem dX3_far_41 : decode cX3_far 41 = .ok (.getfield 168, 3) := by decide +kernel
theorem dX3_far_44 : decode cX3_far 44 = .ok (.iaload, 1) := by decide +kernel
theorem dX3_far_45 : decode cX3_far 45 = .ok (.istore_n 3, 1) := by decide +kernel
theorem dX3_far_46 : decode cX3_far 46 = .ok (.aload_n 0, 1) := by decide +kernel
theorem dX3_far_47 : decode cX3_far 47 = .ok (.aload_n 2, 1) := by decide +kernel
theorem dX3_far_48 : decode cX3_far 48 = .ok (.invokevirtual 139, 3) := by decide +kernel
theorem dX3_far_51 : decode cX3_far 51 = .ok (.ifCond .eq 8, 3) := by decide +kernel
theorem dX3_far_54 : decode cX3_far 54 = .ok (.iload_n 3, 1) := by decide +kernel
theorem dX3_far_55 : decode cX3_far 55 = .ok (.iconst (-1), 1) := by decide +kernel
theorem dX3_far_56 : decode cX3_far 56 = .ok (.if_icmp .ne 5, 3) := by decide +kernel
theorem dX3_far_59 : decode cX3_far 59 = .ok (.iconst (-1), 1) := by decide +kernel
theorem dX3_far_60 : decode cX3_far 60 = .ok (.ireturn, 1) := by decide +kernel
theorem dX3_far_61 : decode cX3_far 61 = .ok (.aload_n 0, 1) := by decide +kernel
theorem dX3_far_62 : decode cX3_far 62 = .ok (.getfield 36, 3) := by decide +kernel
theorem dX3_far_65 : decode cX3_far 65 = .ok (.aload_n 2, 1) := by decide +kernel
theorem dX3_far_66 : decode cX3_far 66 = .ok (.getfield 171, 3) := by decide +kernel
theorem dX3_far_69 : decode cX3_far 69 = .ok (.aload_n 0, 1) := by decide +kernel
theorem dX3_far_70 : decode cX3_far 70 = .ok (.iload_n 3, 1) := by decide +kernel
theorem dX3_far_71 : decode cX3_far 71 = .ok (.aload_n 2, 1) := by decide +kernel
theorem dX3_far_72 : decode cX3_far 72 = .ok (.getfield 174, 3) := by decide +kernel
theorem dX3_far_75 : decode cX3_far 75 = .ok (.aload_n 2, 1) := by decide +kernel
theorem dX3_far_76 : decode cX3_far 76 = .ok (.getfield 177, 3) := by decide +kernel
theorem dX3_far_79 : decode cX3_far 79 = .ok (.invokevirtual 164, 3) := by decide +kernel
theorem dX3_far_82 : decode cX3_far 82 = .ok (.invokevirtual 180, 3) := by decide +kernel
theorem dX3_far_85 : decode cX3_far 85 = .ok (.ireturn, 1) := by decide +kernel
theorem dX3_formAt_0 : decode cX3_formAt 0 = .ok (.iload_n 1, 1) := by decide +kernel
theorem dX3_formAt_1 : decode cX3_formAt 1 = .ok (.iconst 4, 1) := by decide +kernel
theorem dX3_formAt_2 : decode cX3_formAt 2 = .ok (.invokestatic 57, 3) := by decide +kernel
theorem dX3_formAt_5 : decode cX3_formAt 5 = .ok (.ifCond .ne 12, 3) := by decide +kernel
theorem dX3_formAt_8 : decode cX3_formAt 8 = .ok (.iload_n 2, 1) := by decide +kernel
theorem dX3_formAt_9 : decode cX3_formAt 9 = .ok (.bipush 10, 2) := by decide +kernel
theorem dX3_formAt_11 : decode cX3_formAt 11 = .ok (.invokestatic 57, 3) := by decide +kernel
theorem dX3_formAt_14 : decode cX3_formAt 14 = .ok (.ifCond .eq 13, 3) := by decide +kernel
theorem dX3_formAt_17 : decode cX3_formAt 17 = .ok (.new 61, 3) := by decide +kernel
theorem dX3_formAt_20 : decode cX3_formAt 20 = .ok (.dup, 1) := by decide +kernel
theorem dX3_formAt_21 : decode cX3_formAt 21 = .ok (.ldc 162, 2) := by decide +kernel
theorem dX3_formAt_23 : decode cX3_formAt 23 = .ok (.invokespecial 65, 3) := by decide +kernel
theorem dX3_formAt_26 : decode cX3_formAt 26 = .ok (.athrow, 1) := by decide +kernel
theorem dX3_formAt_27 : decode cX3_formAt 27 = .ok (.aload_n 0, 1) := by decide +kernel
theorem dX3_formAt_28 : decode cX3_formAt 28 = .ok (.iload_n 1, 1) := by decide +kernel
theorem dX3_formAt_29 : decode cX3_formAt 29 = .ok (.iload_n 2, 1) := by decide +kernel
theorem dX3_formAt_30 : decode cX3_formAt 30 = .ok (.invokevirtual 184, 3) := by decide +kernel
theorem dX3_formAt_33 : decode cX3_formAt 33 = .ok (.ireturn, 1) := by decide +kernel
theorem dX3_lines_0 : decode cX3_lines 0 = .ok (.iload_n 1, 1) := by decide +kernel
theorem dX3_lines_1 : decode cX3_lines 1 = .ok (.iconst 4, 1) := by decide +kernel
theorem dX3_lines_2 : decode cX3_lines 2 = .ok (.invokestatic 57, 3) := by decide +kernel
theorem dX3_lines_5 : decode cX3_lines 5 = .ok (.ifCond .eq 13, 3) := by decide +kernel
theorem dX3_lines_8 : decode cX3_lines 8 = .ok (.new 61, 3) := by decide +kernel
theorem dX3_lines_11 : decode cX3_lines 11 = .ok (.dup, 1) := by decide +kernel
theorem dX3_lines_12 : decode cX3_lines 12 = .ok (.ldc 102, 2) := by decide +kernel
theorem dX3_lines_14 : decode cX3_lines 14 = .ok (.invokespecial 65, 3) := by decide +kernel
theorem dX3_lines_17 : decode cX3_lines 17 = .ok (.athrow, 1) := by decide +kernel
theorem dX3_lines_18 : decode cX3_lines 18 = .ok (.aload_n 0, 1) := by decide +kernel
theorem dX3_lines_19 : decode cX3_lines 19 = .ok (.getfield 26, 3) := by decide +kernel
theorem dX3_lines_22 : decode cX3_lines 22 = .ok (.iload_n 1, 1) := by decide +kernel
theorem dX3_lines_23 : decode cX3_lines 23 = .ok (.iaload, 1) := by decide +kernel
theorem dX3_lines_24 : decode cX3_lines 24 = .ok (.ireturn, 1) := by decide +kernel
theorem dX3_linesByForms_0 : decode cX3_linesByForms 0 = .ok (.iload_n 1, 1) := by decide +kernel
theorem dX3_linesByForms_1 : decode cX3_linesByForms 1 = .ok (.iconst 4, 1) := by decide +kernel
theorem dX3_linesByForms_2 : decode cX3_linesByForms 2 = .ok (.invokestatic 57, 3) := by decide +kernel
theorem dX3_linesByForms_5 : decode cX3_linesByForms 5 = .ok (.ifCond .eq 13, 3) := by decide +kernel
theorem dX3_linesByForms_8 : decode cX3_linesByForms 8 = .ok (.new 61, 3) := by decide +kernel
theorem dX3_linesByForms_11 : decode cX3_linesByForms 11 = .ok (.dup, 1) := by decide +kernel
theorem dX3_linesByForms_12 : decode cX3_linesByForms 12 = .ok (.ldc 102, 2) := by decide +kernel
theorem dX3_linesByForms_14 : decode cX3_linesByForms 14 = .ok (.invokespecial 65, 3) := by decide +kernel
theorem dX3_linesByForms_17 : decode cX3_linesByForms 17 = .ok (.athrow, 1) := by decide +kernel
theorem dX3_linesByForms_18 : decode cX3_linesByForms 18 = .ok (.aload_n 0, 1) := by decide +kernel
theorem dX3_linesByForms_19 : decode cX3_linesByForms 19 = .ok (.iload_n 1, 1) := by decide +kernel
theorem dX3_linesByForms_20 : decode cX3_linesByForms 20 = .ok (.invokevirtual 98, 3) := by decide +kernel
theorem dX3_linesByForms_23 : decode cX3_linesByForms 23 = .ok (.ireturn, 1) := by decide +kernel
theorem dX3_forget_0 : decode cX3_forget 0 = .ok (.iload_n 1, 1) := by decide +kernel
theorem dX3_forget_1 : decode cX3_forget 1 = .ok (.bipush 8, 2) := by decide +kernel
theorem dX3_forget_3 : decode cX3_forget 3 = .ok (.invokestatic 57, 3) := by decide +kernel
theorem dX3_forget_6 : decode cX3_forget 6 = .ok (.ifCond .eq 13, 3) := by decide +kernel
theorem dX3_forget_9 : decode cX3_forget 9 = .ok (.new 61, 3) := by decide +kernel
theorem dX3_forget_12 : decode cX3_forget 12 = .ok (.dup, 1) := by decide +kernel
theorem dX3_forget_13 : decode cX3_forget 13 = .ok (.ldc 187, 2) := by decide +kernel
theorem dX3_forget_15 : decode cX3_forget 15 = .ok (.invokespecial 65, 3) := by decide +kernel
theorem dX3_forget_18 : decode cX3_forget 18 = .ok (.athrow, 1) := by decide +kernel
theorem dX3_forget_19 : decode cX3_forget 19 = .ok (.aload_n 0, 1) := by decide +kernel
theorem dX3_forget_20 : decode cX3_forget 20 = .ok (.iload_n 1, 1) := by decide +kernel
theorem dX3_forget_21 : decode cX3_forget 21 = .ok (.invokevirtual 189, 3) := by decide +kernel
theorem dX3_forget_24 : decode cX3_forget 24 = .ok (.lstore_n 2, 1) := by decide +kernel
theorem dX3_forget_25 : decode cX3_forget 25 = .ok (.aload_n 0, 1) := by decide +kernel
theorem dX3_forget_26 : decode cX3_forget 26 = .ok (.dup, 1) := by decide +kernel
theorem dX3_forget_27 : decode cX3_forget 27 = .ok (.getfield 40, 3) := by decide +kernel
theorem dX3_forget_30 : decode cX3_forget 30 = .ok (.lload_n 2, 1) := by decide +kernel
theorem dX3_forget_31 : decode cX3_forget 31 = .ok (.ldc2_w 193, 3) := by decide +kernel
theorem dX3_forget_34 : decode cX3_forget 34 = .ok (.lxor, 1) := by decide +kernel
theorem dX3_forget_35 : decode cX3_forget 35 = .ok (.land, 1) := by decide +kernel
theorem dX3_forget_36 : decode cX3_forget 36 = .ok (.putfield 40, 3) := by decide +kernel
theorem dX3_forget_39 : decode cX3_forget 39 = .ok (.iconst 0, 1) := by decide +kernel
theorem dX3_forget_40 : decode cX3_forget 40 = .ok (.istore 4, 2) := by decide +kernel
theorem dX3_forget_42 : decode cX3_forget 42 = .ok (.iload 4, 2) := by decide +kernel
theorem dX3_forget_44 : decode cX3_forget 44 = .ok (.aload_n 0, 1) := by decide +kernel
theorem dX3_forget_45 : decode cX3_forget 45 = .ok (.getfield 16, 3) := by decide +kernel
theorem dX3_forget_48 : decode cX3_forget 48 = .ok (.invokevirtual 80, 3) := by decide +kernel
theorem dX3_forget_51 : decode cX3_forget 51 = .ok (.if_icmp .ge 25, 3) := by decide +kernel
theorem dX3_forget_54 : decode cX3_forget 54 = .ok (.aload_n 0, 1) := by decide +kernel
theorem dX3_forget_55 : decode cX3_forget 55 = .ok (.getfield 16, 3) := by decide +kernel
theorem dX3_forget_58 : decode cX3_forget 58 = .ok (.iload 4, 2) := by decide +kernel
theorem dX3_forget_60 : decode cX3_forget 60 = .ok (.invokevirtual 108, 3) := by decide +kernel
theorem dX3_forget_63 : decode cX3_forget 63 = .ok (.checkcast 128, 3) := by decide +kernel
theorem dX3_forget_66 : decode cX3_forget 66 = .ok (.lload_n 2, 1) := by decide +kernel
theorem dX3_forget_67 : decode cX3_forget 67 = .ok (.invokevirtual 195, 3) := by decide +kernel
theorem dX3_forget_70 : decode cX3_forget 70 = .ok (.iinc 4 1, 3) := by decide +kernel
theorem dX3_forget_73 : decode cX3_forget 73 = .ok (.goto (-31), 3) := by decide +kernel
theorem dX3_forget_76 : decode cX3_forget 76 = .ok (.iconst 0, 1) := by decide +kernel
theorem dX3_forget_77 : decode cX3_forget 77 = .ok (.istore 4, 2) := by decide +kernel
theorem dX3_forget_79 : decode cX3_forget 79 = .ok (.iload 4, 2) := by decide +kernel
theorem dX3_forget_81 : decode cX3_forget 81 = .ok (.iconst 4, 1) := by decide +kernel
theorem dX3_forget_82 : decode cX3_forget 82 = .ok (.if_icmp .ge 22, 3) := by decide +kernel
theorem dX3_forget_85 : decode cX3_forget 85 = .ok (.aload_n 0, 1) := by decide +kernel
theorem dX3_forget_86 : decode cX3_forget 86 = .ok (.getfield 26, 3) := by decide +kernel
theorem dX3_forget_89 : decode cX3_forget 89 = .ok (.iload 4, 2) := by decide +kernel
theorem dX3_forget_91 : decode cX3_forget 91 = .ok (.aload_n 0, 1) := by decide +kernel
theorem dX3_forget_92 : decode cX3_forget 92 = .ok (.iload 4, 2) := by decide +kernel
theorem dX3_forget_94 : decode cX3_forget 94 = .ok (.invokevirtual 98, 3) := by decide +kernel
theorem dX3_forget_97 : decode cX3_forget 97 = .ok (.iastore, 1) := by decide +kernel
theorem dX3_forget_98 : decode cX3_forget 98 = .ok (.iinc 4 1, 3) := by decide +kernel
theorem dX3_forget_101 : decode cX3_forget 101 = .ok (.goto (-22), 3) := by decide +kernel
theorem dX3_forget_104 : decode cX3_forget 104 = .ok (.lload_n 2, 1) := by decide +kernel
theorem dX3_forget_105 : decode cX3_forget 105 = .ok (.invokestatic 154, 3) := by decide +kernel
theorem dX3_forget_108 : decode cX3_forget 108 = .ok (.ireturn, 1) := by decide +kernel
theorem dX3_copy_0 : decode cX3_copy 0 = .ok (.iload_n 1, 1) := by decide +kernel
theorem dX3_copy_1 : decode cX3_copy 1 = .ok (.iconst 3, 1) := by decide +kernel
theorem dX3_copy_2 : decode cX3_copy 2 = .ok (.invokestatic 57, 3) := by decide +kernel
theorem dX3_copy_5 : decode cX3_copy 5 = .ok (.ifCond .eq 13, 3) := by decide +kernel
theorem dX3_copy_8 : decode cX3_copy 8 = .ok (.new 61, 3) := by decide +kernel
theorem dX3_copy_11 : decode cX3_copy 11 = .ok (.dup, 1) := by decide +kernel
theorem dX3_copy_12 : decode cX3_copy 12 = .ok (.ldc 199, 2) := by decide +kernel
theorem dX3_copy_14 : decode cX3_copy 14 = .ok (.invokespecial 65, 3) := by decide +kernel
theorem dX3_copy_17 : decode cX3_copy 17 = .ok (.athrow, 1) := by decide +kernel
theorem dX3_copy_18 : decode cX3_copy 18 = .ok (.aload_n 0, 1) := by decide +kernel
theorem dX3_copy_19 : decode cX3_copy 19 = .ok (.getfield 29, 3) := by decide +kernel
theorem dX3_copy_22 : decode cX3_copy 22 = .ok (.iload_n 1, 1) := by decide +kernel
theorem dX3_copy_23 : decode cX3_copy 23 = .ok (.aload_n 0, 1) := by decide +kernel
theorem dX3_copy_24 : decode cX3_copy 24 = .ok (.getfield 40, 3) := by decide +kernel
theorem dX3_copy_27 : decode cX3_copy 27 = .ok (.lastore, 1) := by decide +kernel
theorem dX3_copy_28 : decode cX3_copy 28 = .ok (.aload_n 0, 1) := by decide +kernel
theorem dX3_copy_29 : decode cX3_copy 29 = .ok (.getfield 40, 3) := by decide +kernel
theorem dX3_copy_32 : decode cX3_copy 32 = .ok (.invokestatic 154, 3) := by decide +kernel
theorem dX3_copy_35 : decode cX3_copy 35 = .ok (.ireturn, 1) := by decide +kernel
theorem dX3_tell_0 : decode cX3_tell 0 = .ok (.iload_n 1, 1) := by decide +kernel
theorem dX3_tell_1 : decode cX3_tell 1 = .ok (.iconst 3, 1) := by decide +kernel
theorem dX3_tell_2 : decode cX3_tell 2 = .ok (.invokestatic 57, 3) := by decide +kernel
theorem dX3_tell_5 : decode cX3_tell 5 = .ok (.ifCond .eq 13, 3) := by decide +kernel
theorem dX3_tell_8 : decode cX3_tell 8 = .ok (.new 61, 3) := by decide +kernel
theorem dX3_tell_11 : decode cX3_tell 11 = .ok (.dup, 1) := by decide +kernel
theorem dX3_tell_12 : decode cX3_tell 12 = .ok (.ldc 199, 2) := by decide +kernel
theorem dX3_tell_14 : decode cX3_tell 14 = .ok (.invokespecial 65, 3) := by decide +kernel
theorem dX3_tell_17 : decode cX3_tell 17 = .ok (.athrow, 1) := by decide +kernel
theorem dX3_tell_18 : decode cX3_tell 18 = .ok (.aload_n 0, 1) := by decide +kernel
theorem dX3_tell_19 : decode cX3_tell 19 = .ok (.getfield 29, 3) := by decide +kernel
theorem dX3_tell_22 : decode cX3_tell 22 = .ok (.iload_n 1, 1) := by decide +kernel
theorem dX3_tell_23 : decode cX3_tell 23 = .ok (.laload, 1) := by decide +kernel
theorem dX3_tell_24 : decode cX3_tell 24 = .ok (.aload_n 0, 1) := by decide +kernel
theorem dX3_tell_25 : decode cX3_tell 25 = .ok (.getfield 40, 3) := by decide +kernel
theorem dX3_tell_28 : decode cX3_tell 28 = .ok (.ldc2_w 193, 3) := by decide +kernel
theorem dX3_tell_31 : decode cX3_tell 31 = .ok (.lxor, 1) := by decide +kernel
theorem dX3_tell_32 : decode cX3_tell 32 = .ok (.land, 1) := by decide +kernel
theorem dX3_tell_33 : decode cX3_tell 33 = .ok (.lstore_n 2, 1) := by decide +kernel
theorem dX3_tell_34 : decode cX3_tell 34 = .ok (.aload_n 0, 1) := by decide +kernel
theorem dX3_tell_35 : decode cX3_tell 35 = .ok (.getfield 29, 3) := by decide +kernel
theorem dX3_tell_38 : decode cX3_tell 38 = .ok (.iload_n 1, 1) := by decide +kernel
theorem dX3_tell_39 : decode cX3_tell 39 = .ok (.dup2, 1) := by decide +kernel
theorem dX3_tell_40 : decode cX3_tell 40 = .ok (.laload, 1) := by decide +kernel
theorem dX3_tell_41 : decode cX3_tell 41 = .ok (.aload_n 0, 1) := by decide +kernel
theorem dX3_tell_42 : decode cX3_tell 42 = .ok (.getfield 40, 3) := by decide +kernel
theorem dX3_tell_45 : decode cX3_tell 45 = .ok (.land, 1) := by decide +kernel
theorem dX3_tell_46 : decode cX3_tell 46 = .ok (.lastore, 1) := by decide +kernel
theorem dX3_tell_47 : decode cX3_tell 47 = .ok (.lload_n 2, 1) := by decide +kernel
theorem dX3_tell_48 : decode cX3_tell 48 = .ok (.invokestatic 154, 3) := by decide +kernel
theorem dX3_tell_51 : decode cX3_tell 51 = .ok (.ireturn, 1) := by decide +kernel
theorem dX3_owed_0 : decode cX3_owed 0 = .ok (.iload_n 1, 1) := by decide +kernel
theorem dX3_owed_1 : decode cX3_owed 1 = .ok (.iconst 3, 1) := by decide +kernel
theorem dX3_owed_2 : decode cX3_owed 2 = .ok (.invokestatic 57, 3) := by decide +kernel
theorem dX3_owed_5 : decode cX3_owed 5 = .ok (.ifCond .eq 13, 3) := by decide +kernel
theorem dX3_owed_8 : decode cX3_owed 8 = .ok (.new 61, 3) := by decide +kernel
theorem dX3_owed_11 : decode cX3_owed 11 = .ok (.dup, 1) := by decide +kernel
theorem dX3_owed_12 : decode cX3_owed 12 = .ok (.ldc 199, 2) := by decide +kernel
theorem dX3_owed_14 : decode cX3_owed 14 = .ok (.invokespecial 65, 3) := by decide +kernel
theorem dX3_owed_17 : decode cX3_owed 17 = .ok (.athrow, 1) := by decide +kernel
theorem dX3_owed_18 : decode cX3_owed 18 = .ok (.aload_n 0, 1) := by decide +kernel
theorem dX3_owed_19 : decode cX3_owed 19 = .ok (.getfield 29, 3) := by decide +kernel
theorem dX3_owed_22 : decode cX3_owed 22 = .ok (.iload_n 1, 1) := by decide +kernel
theorem dX3_owed_23 : decode cX3_owed 23 = .ok (.laload, 1) := by decide +kernel
theorem dX3_owed_24 : decode cX3_owed 24 = .ok (.aload_n 0, 1) := by decide +kernel
theorem dX3_owed_25 : decode cX3_owed 25 = .ok (.getfield 40, 3) := by decide +kernel
theorem dX3_owed_28 : decode cX3_owed 28 = .ok (.ldc2_w 193, 3) := by decide +kernel
theorem dX3_owed_31 : decode cX3_owed 31 = .ok (.lxor, 1) := by decide +kernel
theorem dX3_owed_32 : decode cX3_owed 32 = .ok (.land, 1) := by decide +kernel
theorem dX3_owed_33 : decode cX3_owed 33 = .ok (.invokestatic 154, 3) := by decide +kernel
theorem dX3_owed_36 : decode cX3_owed 36 = .ok (.ireturn, 1) := by decide +kernel
theorem dX3_quote_0 : decode cX3_quote 0 = .ok (.iload_n 1, 1) := by decide +kernel
theorem dX3_quote_1 : decode cX3_quote 1 = .ok (.aload_n 0, 1) := by decide +kernel
theorem dX3_quote_2 : decode cX3_quote 2 = .ok (.getfield 10, 3) := by decide +kernel
theorem dX3_quote_5 : decode cX3_quote 5 = .ok (.invokevirtual 80, 3) := by decide +kernel
theorem dX3_quote_8 : decode cX3_quote 8 = .ok (.invokestatic 57, 3) := by decide +kernel
theorem dX3_quote_11 : decode cX3_quote 11 = .ok (.ifCond .eq 13, 3) := by decide +kernel
theorem dX3_quote_14 : decode cX3_quote 14 = .ok (.new 61, 3) := by decide +kernel
theorem dX3_quote_17 : decode cX3_quote 17 = .ok (.dup, 1) := by decide +kernel
theorem dX3_quote_18 : decode cX3_quote 18 = .ok (.ldc 106, 2) := by decide +kernel
theorem dX3_quote_20 : decode cX3_quote 20 = .ok (.invokespecial 65, 3) := by decide +kernel
theorem dX3_quote_23 : decode cX3_quote 23 = .ok (.athrow, 1) := by decide +kernel
theorem dX3_quote_24 : decode cX3_quote 24 = .ok (.aload_n 0, 1) := by decide +kernel
theorem dX3_quote_25 : decode cX3_quote 25 = .ok (.getfield 10, 3) := by decide +kernel
theorem dX3_quote_28 : decode cX3_quote 28 = .ok (.iload_n 1, 1) := by decide +kernel
theorem dX3_quote_29 : decode cX3_quote 29 = .ok (.invokevirtual 108, 3) := by decide +kernel
theorem dX3_quote_32 : decode cX3_quote 32 = .ok (.checkcast 86, 3) := by decide +kernel
theorem dX3_quote_35 : decode cX3_quote 35 = .ok (.astore_n 2, 1) := by decide +kernel
theorem dX3_quote_36 : decode cX3_quote 36 = .ok (.aload_n 0, 1) := by decide +kernel
theorem dX3_quote_37 : decode cX3_quote 37 = .ok (.getfield 19, 3) := by decide +kernel
theorem dX3_quote_40 : decode cX3_quote 40 = .ok (.invokevirtual 80, 3) := by decide +kernel
theorem dX3_quote_43 : decode cX3_quote 43 = .ok (.istore_n 3, 1) := by decide +kernel
theorem dX3_quote_44 : decode cX3_quote 44 = .ok (.aload_n 0, 1) := by decide +kernel
theorem dX3_quote_45 : decode cX3_quote 45 = .ok (.aload_n 2, 1) := by decide +kernel
theorem dX3_quote_46 : decode cX3_quote 46 = .ok (.invokevirtual 139, 3) := by decide +kernel
theorem dX3_quote_49 : decode cX3_quote 49 = .ok (.ifCond .eq 9, 3) := by decide +kernel
theorem dX3_quote_52 : decode cX3_quote 52 = .ok (.iload_n 3, 1) := by decide +kernel
theorem dX3_quote_53 : decode cX3_quote 53 = .ok (.bipush 20, 2) := by decide +kernel
theorem dX3_quote_55 : decode cX3_quote 55 = .ok (.if_icmp .lt 13, 3) := by decide +kernel
theorem dX3_quote_58 : decode cX3_quote 58 = .ok (.new 68, 3) := by decide +kernel
theorem dX3_quote_61 : decode cX3_quote 61 = .ok (.dup, 1) := by decide +kernel
theorem dX3_quote_62 : decode cX3_quote 62 = .ok (.ldc 201, 2) := by decide +kernel
theorem dX3_quote_64 : decode cX3_quote 64 = .ok (.invokespecial 72, 3) := by decide +kernel
theorem dX3_quote_67 : decode cX3_quote 67 = .ok (.athrow, 1) := by decide +kernel
theorem dX3_quote_68 : decode cX3_quote 68 = .ok (.aload_n 0, 1) := by decide +kernel
theorem dX3_quote_69 : decode cX3_quote 69 = .ok (.getfield 19, 3) := by decide +kernel
theorem dX3_quote_72 : decode cX3_quote 72 = .ok (.aload_n 2, 1) := by decide +kernel
theorem dX3_quote_73 : decode cX3_quote 73 = .ok (.invokevirtual 94, 3) := by decide +kernel
theorem dX3_quote_76 : decode cX3_quote 76 = .ok (.pop, 1) := by decide +kernel
theorem dX3_quote_77 : decode cX3_quote 77 = .ok (.iload_n 3, 1) := by decide +kernel
theorem dX3_quote_78 : decode cX3_quote 78 = .ok (.ireturn, 1) := by decide +kernel
theorem dX3_quoted_0 : decode cX3_quoted 0 = .ok (.iload_n 1, 1) := by decide +kernel
theorem dX3_quoted_1 : decode cX3_quoted 1 = .ok (.aload_n 0, 1) := by decide +kernel
theorem dX3_quoted_2 : decode cX3_quoted 2 = .ok (.getfield 19, 3) := by decide +kernel
theorem dX3_quoted_5 : decode cX3_quoted 5 = .ok (.invokevirtual 80, 3) := by decide +kernel
theorem dX3_quoted_8 : decode cX3_quoted 8 = .ok (.invokestatic 57, 3) := by decide +kernel
theorem dX3_quoted_11 : decode cX3_quoted 11 = .ok (.ifCond .eq 13, 3) := by decide +kernel
theorem dX3_quoted_14 : decode cX3_quoted 14 = .ok (.new 61, 3) := by decide +kernel
theorem dX3_quoted_17 : decode cX3_quoted 17 = .ok (.dup, 1) := by decide +kernel
theorem dX3_quoted_18 : decode cX3_quoted 18 = .ok (.ldc 203, 2) := by decide +kernel
theorem dX3_quoted_20 : decode cX3_quoted 20 = .ok (.invokespecial 65, 3) := by decide +kernel
theorem dX3_quoted_23 : decode cX3_quoted 23 = .ok (.athrow, 1) := by decide +kernel
theorem dX3_quoted_24 : decode cX3_quoted 24 = .ok (.aload_n 0, 1) := by decide +kernel
theorem dX3_quoted_25 : decode cX3_quoted 25 = .ok (.aload_n 0, 1) := by decide +kernel
theorem dX3_quoted_26 : decode cX3_quoted 26 = .ok (.getfield 19, 3) := by decide +kernel
theorem dX3_quoted_29 : decode cX3_quoted 29 = .ok (.iload_n 1, 1) := by decide +kernel
theorem dX3_quoted_30 : decode cX3_quoted 30 = .ok (.invokevirtual 108, 3) := by decide +kernel
theorem dX3_quoted_33 : decode cX3_quoted 33 = .ok (.checkcast 86, 3) := by decide +kernel
theorem dX3_quoted_36 : decode cX3_quoted 36 = .ok (.invokevirtual 112, 3) := by decide +kernel
theorem dX3_quoted_39 : decode cX3_quoted 39 = .ok (.ireturn, 1) := by decide +kernel
theorem dX3_isOutside_0 : decode cX3_isOutside 0 = .ok (.iload_n 0, 1) := by decide +kernel
theorem dX3_isOutside_1 : decode cX3_isOutside 1 = .ok (.ifCond .lt 8, 3) := by decide +kernel
theorem dX3_isOutside_4 : decode cX3_isOutside 4 = .ok (.iload_n 0, 1) := by decide +kernel
theorem dX3_isOutside_5 : decode cX3_isOutside 5 = .ok (.iload_n 1, 1) := by decide +kernel
theorem dX3_isOutside_6 : decode cX3_isOutside 6 = .ok (.if_icmp .lt 7, 3) := by decide +kernel
theorem dX3_isOutside_9 : decode cX3_isOutside 9 = .ok (.iconst 1, 1) := by decide +kernel
theorem dX3_isOutside_10 : decode cX3_isOutside 10 = .ok (.goto 4, 3) := by decide +kernel
theorem dX3_isOutside_13 : decode cX3_isOutside 13 = .ok (.iconst 0, 1) := by decide +kernel
theorem dX3_isOutside_14 : decode cX3_isOutside 14 = .ok (.ireturn, 1) := by decide +kernel
theorem dX3_canStandBehind_0 : decode cX3_canStandBehind 0 = .ok (.iload_n 0, 1) := by decide +kernel
theorem dX3_canStandBehind_1 : decode cX3_canStandBehind 1 = .ok (.bipush 8, 2) := by decide +kernel
theorem dX3_canStandBehind_3 : decode cX3_canStandBehind 3 = .ok (.if_icmp .eq 18, 3) := by decide +kernel
theorem dX3_canStandBehind_6 : decode cX3_canStandBehind 6 = .ok (.iload_n 0, 1) := by decide +kernel
theorem dX3_canStandBehind_7 : decode cX3_canStandBehind 7 = .ok (.bipush 9, 2) := by decide +kernel
theorem dX3_canStandBehind_9 : decode cX3_canStandBehind 9 = .ok (.if_icmp .eq 12, 3) := by decide +kernel
theorem dX3_canStandBehind_12 : decode cX3_canStandBehind 12 = .ok (.iload_n 0, 1) := by decide +kernel
theorem dX3_canStandBehind_13 : decode cX3_canStandBehind 13 = .ok (.bipush 8, 2) := by decide +kernel
theorem dX3_canStandBehind_15 : decode cX3_canStandBehind 15 = .ok (.invokestatic 57, 3) := by decide +kernel
theorem dX3_canStandBehind_18 : decode cX3_canStandBehind 18 = .ok (.ifCond .ne 7, 3) := by decide +kernel
theorem dX3_canStandBehind_21 : decode cX3_canStandBehind 21 = .ok (.iconst 1, 1) := by decide +kernel
theorem dX3_canStandBehind_22 : decode cX3_canStandBehind 22 = .ok (.goto 4, 3) := by decide +kernel
theorem dX3_canStandBehind_25 : decode cX3_canStandBehind 25 = .ok (.iconst 0, 1) := by decide +kernel
theorem dX3_canStandBehind_26 : decode cX3_canStandBehind 26 = .ok (.ireturn, 1) := by decide +kernel
theorem dX3_takeDraft_0 : decode cX3_takeDraft 0 = .ok (.aload_n 0, 1) := by decide +kernel
theorem dX3_takeDraft_1 : decode cX3_takeDraft 1 = .ok (.getfield 44, 3) := by decide +kernel
theorem dX3_takeDraft_4 : decode cX3_takeDraft 4 = .ok (.istore_n 1, 1) := by decide +kernel
theorem dX3_takeDraft_5 : decode cX3_takeDraft 5 = .ok (.aload_n 0, 1) := by decide +kernel
theorem dX3_takeDraft_6 : decode cX3_takeDraft 6 = .ok (.iconst 0, 1) := by decide +kernel
theorem dX3_takeDraft_7 : decode cX3_takeDraft 7 = .ok (.putfield 44, 3) := by decide +kernel
theorem dX3_takeDraft_10 : decode cX3_takeDraft 10 = .ok (.aload_n 0, 1) := by decide +kernel
theorem dX3_takeDraft_11 : decode cX3_takeDraft 11 = .ok (.iconst 0, 1) := by decide +kernel
theorem dX3_takeDraft_12 : decode cX3_takeDraft 12 = .ok (.putfield 48, 3) := by decide +kernel
theorem dX3_takeDraft_15 : decode cX3_takeDraft 15 = .ok (.iload_n 1, 1) := by decide +kernel
theorem dX3_takeDraft_16 : decode cX3_takeDraft 16 = .ok (.ireturn, 1) := by decide +kernel
theorem dX3_isThere_0 : decode cX3_isThere 0 = .ok (.aload_n 0, 1) := by decide +kernel
theorem dX3_isThere_1 : decode cX3_isThere 1 = .ok (.getfield 40, 3) := by decide +kernel
theorem dX3_isThere_4 : decode cX3_isThere 4 = .ok (.aload_n 1, 1) := by decide +kernel
theorem dX3_isThere_5 : decode cX3_isThere 5 = .ok (.getfield 151, 3) := by decide +kernel
theorem dX3_isThere_8 : decode cX3_isThere 8 = .ok (.land, 1) := by decide +kernel
theorem dX3_isThere_9 : decode cX3_isThere 9 = .ok (.lconst 0, 1) := by decide +kernel
theorem dX3_isThere_10 : decode cX3_isThere 10 = .ok (.lcmp, 1) := by decide +kernel
theorem dX3_isThere_11 : decode cX3_isThere 11 = .ok (.ifCond .eq 7, 3) := by decide +kernel
theorem dX3_isThere_14 : decode cX3_isThere 14 = .ok (.iconst 1, 1) := by decide +kernel
theorem dX3_isThere_15 : decode cX3_isThere 15 = .ok (.goto 4, 3) := by decide +kernel
theorem dX3_isThere_18 : decode cX3_isThere 18 = .ok (.iconst 0, 1) := by decide +kernel
theorem dX3_isThere_19 : decode cX3_isThere 19 = .ok (.ireturn, 1) := by decide +kernel
theorem dX3_formIfThere_0 : decode cX3_formIfThere 0 = .ok (.aload_n 0, 1) := by decide +kernel
theorem dX3_formIfThere_1 : decode cX3_formIfThere 1 = .ok (.aload_n 1, 1) := by decide +kernel
theorem dX3_formIfThere_2 : decode cX3_formIfThere 2 = .ok (.invokevirtual 139, 3) := by decide +kernel
theorem dX3_formIfThere_5 : decode cX3_formIfThere 5 = .ok (.ifCond .eq 10, 3) := by decide +kernel
theorem dX3_formIfThere_8 : decode cX3_formIfThere 8 = .ok (.aload_n 1, 1) := by decide +kernel
theorem dX3_formIfThere_9 : decode cX3_formIfThere 9 = .ok (.getfield 171, 3) := by decide +kernel
theorem dX3_formIfThere_12 : decode cX3_formIfThere 12 = .ok (.goto 4, 3) := by decide +kernel
theorem dX3_formIfThere_15 : decode cX3_formIfThere 15 = .ok (.iconst (-1), 1) := by decide +kernel
theorem dX3_formIfThere_16 : decode cX3_formIfThere 16 = .ok (.ireturn, 1) := by decide +kernel
theorem dX3_interviewsOf_0 : decode cX3_interviewsOf 0 = .ok (.lconst 0, 1) := by decide +kernel
theorem dX3_interviewsOf_1 : decode cX3_interviewsOf 1 = .ok (.lstore_n 2, 1) := by decide +kernel
theorem dX3_interviewsOf_2 : decode cX3_interviewsOf 2 = .ok (.iconst 0, 1) := by decide +kernel
theorem dX3_interviewsOf_3 : decode cX3_interviewsOf 3 = .ok (.istore 4, 2) := by decide +kernel
theorem dX3_interviewsOf_5 : decode cX3_interviewsOf 5 = .ok (.iload 4, 2) := by decide +kernel
theorem dX3_interviewsOf_7 : decode cX3_interviewsOf 7 = .ok (.aload_n 0, 1) := by decide +kernel
theorem dX3_interviewsOf_8 : decode cX3_interviewsOf 8 = .ok (.getfield 10, 3) := by decide +kernel
theorem dX3_interviewsOf_11 : decode cX3_interviewsOf 11 = .ok (.invokevirtual 80, 3) := by decide +kernel
theorem dX3_interviewsOf_14 : decode cX3_interviewsOf 14 = .ok (.if_icmp .ge 49, 3) := by decide +kernel
theorem dX3_interviewsOf_17 : decode cX3_interviewsOf 17 = .ok (.aload_n 0, 1) := by decide +kernel
theorem dX3_interviewsOf_18 : decode cX3_interviewsOf 18 = .ok (.getfield 10, 3) := by decide +kernel
theorem dX3_interviewsOf_21 : decode cX3_interviewsOf 21 = .ok (.iload 4, 2) := by decide +kernel
theorem dX3_interviewsOf_23 : decode cX3_interviewsOf 23 = .ok (.invokevirtual 108, 3) := by decide +kernel
theorem dX3_interviewsOf_26 : decode cX3_interviewsOf 26 = .ok (.checkcast 86, 3) := by decide +kernel
theorem dX3_interviewsOf_29 : decode cX3_interviewsOf 29 = .ok (.astore 5, 2) := by decide +kernel
theorem dX3_interviewsOf_31 : decode cX3_interviewsOf 31 = .ok (.aload_n 0, 1) := by decide +kernel
theorem dX3_interviewsOf_32 : decode cX3_interviewsOf 32 = .ok (.aload 5, 2) := by decide +kernel
theorem dX3_interviewsOf_34 : decode cX3_interviewsOf 34 = .ok (.invokevirtual 139, 3) := by decide +kernel
theorem dX3_interviewsOf_37 : decode cX3_interviewsOf 37 = .ok (.ifCond .eq 20, 3) := by decide +kernel
theorem dX3_interviewsOf_40 : decode cX3_interviewsOf 40 = .ok (.aload 5, 2) := by decide +kernel
theorem dX3_interviewsOf_42 : decode cX3_interviewsOf 42 = .ok (.getfield 205, 3) := by decide +kernel
theorem dX3_interviewsOf_45 : decode cX3_interviewsOf 45 = .ok (.iload_n 1, 1) := by decide +kernel
theorem dX3_interviewsOf_46 : decode cX3_interviewsOf 46 = .ok (.if_icmp .ne 11, 3) := by decide +kernel
theorem dX3_interviewsOf_49 : decode cX3_interviewsOf 49 = .ok (.lload_n 2, 1) := by decide +kernel
theorem dX3_interviewsOf_50 : decode cX3_interviewsOf 50 = .ok (.aload 5, 2) := by decide +kernel
theorem dX3_interviewsOf_52 : decode cX3_interviewsOf 52 = .ok (.getfield 151, 3) := by decide +kernel
theorem dX3_interviewsOf_55 : decode cX3_interviewsOf 55 = .ok (.lor, 1) := by decide +kernel
theorem dX3_interviewsOf_56 : decode cX3_interviewsOf 56 = .ok (.lstore_n 2, 1) := by decide +kernel
theorem dX3_interviewsOf_57 : decode cX3_interviewsOf 57 = .ok (.iinc 4 1, 3) := by decide +kernel
theorem dX3_interviewsOf_60 : decode cX3_interviewsOf 60 = .ok (.goto (-55), 3) := by decide +kernel
theorem dX3_interviewsOf_63 : decode cX3_interviewsOf 63 = .ok (.lload_n 2, 1) := by decide +kernel
theorem dX3_interviewsOf_64 : decode cX3_interviewsOf 64 = .ok (.lreturn, 1) := by decide +kernel
theorem dX3_applyRules_0 : decode cX3_applyRules 0 = .ok (.iload_n 1, 1) := by decide +kernel
theorem dX3_applyRules_1 : decode cX3_applyRules 1 = .ok (.iconst (-1), 1) := by decide +kernel
theorem dX3_applyRules_2 : decode cX3_applyRules 2 = .ok (.if_icmp .ne 5, 3) := by decide +kernel
theorem dX3_applyRules_5 : decode cX3_applyRules 5 = .ok (.iconst (-1), 1) := by decide +kernel
theorem dX3_applyRules_6 : decode cX3_applyRules 6 = .ok (.ireturn, 1) := by decide +kernel
theorem dX3_applyRules_7 : decode cX3_applyRules 7 = .ok (.iload_n 1, 1) := by decide +kernel
theorem dX3_applyRules_8 : decode cX3_applyRules 8 = .ok (.istore 4, 2) := by decide +kernel
theorem dX3_applyRules_10 : decode cX3_applyRules 10 = .ok (.iconst 0, 1) := by decide +kernel
theorem dX3_applyRules_11 : decode cX3_applyRules 11 = .ok (.istore 5, 2) := by decide +kernel
theorem dX3_applyRules_13 : decode cX3_applyRules 13 = .ok (.iload 5, 2) := by decide +kernel
theorem dX3_applyRules_15 : decode cX3_applyRules 15 = .ok (.aload_n 0, 1) := by decide +kernel
theorem dX3_applyRules_16 : decode cX3_applyRules 16 = .ok (.getfield 16, 3) := by decide +kernel
theorem dX3_applyRules_19 : decode cX3_applyRules 19 = .ok (.invokevirtual 80, 3) := by decide +kernel
theorem dX3_applyRules_22 : decode cX3_applyRules 22 = .ok (.if_icmp .ge 42, 3) := by decide +kernel
theorem dX3_applyRules_25 : decode cX3_applyRules 25 = .ok (.aload_n 0, 1) := by decide +kernel
theorem dX3_applyRules_26 : decode cX3_applyRules 26 = .ok (.getfield 16, 3) := by decide +kernel
theorem dX3_applyRules_29 : decode cX3_applyRules 29 = .ok (.iload 5, 2) := by decide +kernel
theorem dX3_applyRules_31 : decode cX3_applyRules 31 = .ok (.invokevirtual 108, 3) := by decide +kernel
theorem dX3_applyRules_34 : decode cX3_applyRules 34 = .ok (.checkcast 128, 3) := by decide +kernel
theorem dX3_applyRules_37 : decode cX3_applyRules 37 = .ok (.astore 6, 2) := by decide +kernel
theorem dX3_applyRules_39 : decode cX3_applyRules 39 = .ok (.aload 6, 2) := by decide +kernel
theorem dX3_applyRules_41 : decode cX3_applyRules 41 = .ok (.iload_n 2, 1) := by decide +kernel
theorem dX3_applyRules_42 : decode cX3_applyRules 42 = .ok (.iload_n 3, 1) := by decide +kernel
theorem dX3_applyRules_43 : decode cX3_applyRules 43 = .ok (.invokevirtual 208, 3) := by decide +kernel
theorem dX3_applyRules_46 : decode cX3_applyRules 46 = .ok (.ifCond .eq 12, 3) := by decide +kernel
theorem dX3_applyRules_49 : decode cX3_applyRules 49 = .ok (.aload 6, 2) := by decide +kernel
theorem dX3_applyRules_51 : decode cX3_applyRules 51 = .ok (.iload 4, 2) := by decide +kernel
theorem dX3_applyRules_53 : decode cX3_applyRules 53 = .ok (.invokevirtual 211, 3) := by decide +kernel
theorem dX3_applyRules_56 : decode cX3_applyRules 56 = .ok (.istore 4, 2) := by decide +kernel
theorem dX3_applyRules_58 : decode cX3_applyRules 58 = .ok (.iinc 5 1, 3) := by decide +kernel
theorem dX3_applyRules_61 : decode cX3_applyRules 61 = .ok (.goto (-48), 3) := by decide +kernel
theorem dX3_applyRules_64 : decode cX3_applyRules 64 = .ok (.iload 4, 2) := by decide +kernel
theorem dX3_applyRules_66 : decode cX3_applyRules 66 = .ok (.ireturn, 1) := by decide +kernel
theorem dX3_mostToldForm_0 : decode cX3_mostToldForm 0 = .ok (.iconst (-1), 1) := by decide +kernel
theorem dX3_mostToldForm_1 : decode cX3_mostToldForm 1 = .ok (.istore_n 3, 1) := by decide +kernel
theorem dX3_mostToldForm_2 : decode cX3_mostToldForm 2 = .ok (.iconst 0, 1) := by decide +kernel
theorem dX3_mostToldForm_3 : decode cX3_mostToldForm 3 = .ok (.istore 4, 2) := by decide +kernel
theorem dX3_mostToldForm_5 : decode cX3_mostToldForm 5 = .ok (.iconst 0, 1) := by decide +kernel
theorem dX3_mostToldForm_6 : decode cX3_mostToldForm 6 = .ok (.istore 5, 2) := by decide +kernel
theorem dX3_mostToldForm_8 : decode cX3_mostToldForm 8 = .ok (.iload 5, 2) := by decide +kernel
theorem dX3_mostToldForm_10 : decode cX3_mostToldForm 10 = .ok (.aload_n 0, 1) := by decide +kernel
theorem dX3_mostToldForm_11 : decode cX3_mostToldForm 11 = .ok (.getfield 10, 3) := by decide +kernel
theorem dX3_mostToldForm_14 : decode cX3_mostToldForm 14 = .ok (.invokevirtual 80, 3) := by decide +kernel
theorem dX3_mostToldForm_17 : decode cX3_mostToldForm 17 = .ok (.if_icmp .ge 67, 3) := by decide +kernel
theorem dX3_mostToldForm_20 : decode cX3_mostToldForm 20 = .ok (.aload_n 0, 1) := by decide +kernel
theorem dX3_mostToldForm_21 : decode cX3_mostToldForm 21 = .ok (.getfield 10, 3) := by decide +kernel
theorem dX3_mostToldForm_24 : decode cX3_mostToldForm 24 = .ok (.iload 5, 2) := by decide +kernel
theorem dX3_mostToldForm_26 : decode cX3_mostToldForm 26 = .ok (.invokevirtual 108, 3) := by decide +kernel
theorem dX3_mostToldForm_29 : decode cX3_mostToldForm 29 = .ok (.checkcast 86, 3) := by decide +kernel
theorem dX3_mostToldForm_32 : decode cX3_mostToldForm 32 = .ok (.astore 6, 2) := by decide +kernel
theorem dX3_mostToldForm_34 : decode cX3_mostToldForm 34 = .ok (.aload_n 0, 1) := by decide +kernel
theorem dX3_mostToldForm_35 : decode cX3_mostToldForm 35 = .ok (.aload 6, 2) := by decide +kernel
theorem dX3_mostToldForm_37 : decode cX3_mostToldForm 37 = .ok (.invokevirtual 139, 3) := by decide +kernel
theorem dX3_mostToldForm_40 : decode cX3_mostToldForm 40 = .ok (.ifCond .eq 38, 3) := by decide +kernel
theorem dX3_mostToldForm_43 : decode cX3_mostToldForm 43 = .ok (.aload 6, 2) := by decide +kernel
theorem dX3_mostToldForm_45 : decode cX3_mostToldForm 45 = .ok (.iload_n 1, 1) := by decide +kernel
theorem dX3_mostToldForm_46 : decode cX3_mostToldForm 46 = .ok (.iload_n 2, 1) := by decide +kernel
theorem dX3_mostToldForm_47 : decode cX3_mostToldForm 47 = .ok (.invokevirtual 214, 3) := by decide +kernel
theorem dX3_mostToldForm_50 : decode cX3_mostToldForm 50 = .ok (.ifCond .eq 28, 3) := by decide +kernel
theorem dX3_mostToldForm_53 : decode cX3_mostToldForm 53 = .ok (.aload_n 0, 1) := by decide +kernel
theorem dX3_mostToldForm_54 : decode cX3_mostToldForm 54 = .ok (.aload 6, 2) := by decide +kernel
theorem dX3_mostToldForm_56 : decode cX3_mostToldForm 56 = .ok (.invokevirtual 217, 3) := by decide +kernel
theorem dX3_mostToldForm_59 : decode cX3_mostToldForm 59 = .ok (.istore 7, 2) := by decide +kernel
theorem dX3_mostToldForm_61 : decode cX3_mostToldForm 61 = .ok (.iload 7, 2) := by decide +kernel
theorem dX3_mostToldForm_63 : decode cX3_mostToldForm 63 = .ok (.iload 4, 2) := by decide +kernel
theorem dX3_mostToldForm_65 : decode cX3_mostToldForm 65 = .ok (.if_icmp .le 13, 3) := by decide +kernel
theorem dX3_mostToldForm_68 : decode cX3_mostToldForm 68 = .ok (.iload 7, 2) := by decide +kernel
theorem dX3_mostToldForm_70 : decode cX3_mostToldForm 70 = .ok (.istore 4, 2) := by decide +kernel
theorem dX3_mostToldForm_72 : decode cX3_mostToldForm 72 = .ok (.aload 6, 2) := by decide +kernel
theorem dX3_mostToldForm_74 : decode cX3_mostToldForm 74 = .ok (.getfield 171, 3) := by decide +kernel
theorem dX3_mostToldForm_77 : decode cX3_mostToldForm 77 = .ok (.istore_n 3, 1) := by decide +kernel
theorem dX3_mostToldForm_78 : decode cX3_mostToldForm 78 = .ok (.iinc 5 1, 3) := by decide +kernel
theorem dX3_mostToldForm_81 : decode cX3_mostToldForm 81 = .ok (.goto (-73), 3) := by decide +kernel
theorem dX3_mostToldForm_84 : decode cX3_mostToldForm 84 = .ok (.iload_n 3, 1) := by decide +kernel
theorem dX3_mostToldForm_85 : decode cX3_mostToldForm 85 = .ok (.ireturn, 1) := by decide +kernel
theorem dX3_countLike_0 : decode cX3_countLike 0 = .ok (.iconst 0, 1) := by decide +kernel
theorem dX3_countLike_1 : decode cX3_countLike 1 = .ok (.istore_n 2, 1) := by decide +kernel
theorem dX3_countLike_2 : decode cX3_countLike 2 = .ok (.iconst 0, 1) := by decide +kernel
theorem dX3_countLike_3 : decode cX3_countLike 3 = .ok (.istore_n 3, 1) := by decide +kernel
theorem dX3_countLike_4 : decode cX3_countLike 4 = .ok (.iload_n 3, 1) := by decide +kernel
theorem dX3_countLike_5 : decode cX3_countLike 5 = .ok (.aload_n 0, 1) := by decide +kernel
theorem dX3_countLike_6 : decode cX3_countLike 6 = .ok (.getfield 10, 3) := by decide +kernel
theorem dX3_countLike_9 : decode cX3_countLike 9 = .ok (.invokevirtual 80, 3) := by decide +kernel
theorem dX3_countLike_12 : decode cX3_countLike 12 = .ok (.if_icmp .ge 62, 3) := by decide +kernel
theorem dX3_countLike_15 : decode cX3_countLike 15 = .ok (.aload_n 0, 1) := by decide +kernel
theorem dX3_countLike_16 : decode cX3_countLike 16 = .ok (.getfield 10, 3) := by decide +kernel
theorem dX3_countLike_19 : decode cX3_countLike 19 = .ok (.iload_n 3, 1) := by decide +kernel
theorem dX3_countLike_20 : decode cX3_countLike 20 = .ok (.invokevirtual 108, 3) := by decide +kernel
theorem dX3_countLike_23 : decode cX3_countLike 23 = .ok (.checkcast 86, 3) := by decide +kernel
theorem dX3_countLike_26 : decode cX3_countLike 26 = .ok (.astore 4, 2) := by decide +kernel
theorem dX3_countLike_28 : decode cX3_countLike 28 = .ok (.aload_n 0, 1) := by decide +kernel
theorem dX3_countLike_29 : decode cX3_countLike 29 = .ok (.aload 4, 2) := by decide +kernel
theorem dX3_countLike_31 : decode cX3_countLike 31 = .ok (.invokevirtual 139, 3) := by decide +kernel
theorem dX3_countLike_34 : decode cX3_countLike 34 = .ok (.ifCond .eq 34, 3) := by decide +kernel
theorem dX3_countLike_37 : decode cX3_countLike 37 = .ok (.aload 4, 2) := by decide +kernel
theorem dX3_countLike_39 : decode cX3_countLike 39 = .ok (.aload_n 1, 1) := by decide +kernel
theorem dX3_countLike_40 : decode cX3_countLike 40 = .ok (.getfield 168, 3) := by decide +kernel
theorem dX3_countLike_43 : decode cX3_countLike 43 = .ok (.aload_n 1, 1) := by decide +kernel
theorem dX3_countLike_44 : decode cX3_countLike 44 = .ok (.getfield 174, 3) := by decide +kernel
theorem dX3_countLike_47 : decode cX3_countLike 47 = .ok (.invokevirtual 214, 3) := by decide +kernel
theorem dX3_countLike_50 : decode cX3_countLike 50 = .ok (.ifCond .eq 18, 3) := by decide +kernel
theorem dX3_countLike_53 : decode cX3_countLike 53 = .ok (.aload 4, 2) := by decide +kernel
theorem dX3_countLike_55 : decode cX3_countLike 55 = .ok (.getfield 171, 3) := by decide +kernel
theorem dX3_countLike_58 : decode cX3_countLike 58 = .ok (.aload_n 1, 1) := by decide +kernel
theorem dX3_countLike_59 : decode cX3_countLike 59 = .ok (.getfield 171, 3) := by decide +kernel
theorem dX3_countLike_62 : decode cX3_countLike 62 = .ok (.if_icmp .ne 6, 3) := by decide +kernel
theorem dX3_countLike_65 : decode cX3_countLike 65 = .ok (.iinc 2 1, 3) := by decide +kernel
theorem dX3_countLike_68 : decode cX3_countLike 68 = .ok (.iinc 3 1, 3) := by decide +kernel
theorem dX3_countLike_71 : decode cX3_countLike 71 = .ok (.goto (-67), 3) := by decide +kernel
theorem dX3_countLike_74 : decode cX3_countLike 74 = .ok (.iload_n 2, 1) := by decide +kernel
theorem dX3_countLike_75 : decode cX3_countLike 75 = .ok (.ireturn, 1) := by decide +kernel
theorem dX3_drawLines_0 : decode cX3_drawLines 0 = .ok (.iconst 0, 1) := by decide +kernel
theorem dX3_drawLines_1 : decode cX3_drawLines 1 = .ok (.istore_n 2, 1) := by decide +kernel
theorem dX3_drawLines_2 : decode cX3_drawLines 2 = .ok (.aload_n 0, 1) := by decide +kernel
theorem dX3_drawLines_3 : decode cX3_drawLines 3 = .ok (.iload_n 1, 1) := by decide +kernel
theorem dX3_drawLines_4 : decode cX3_drawLines 4 = .ok (.iconst 0, 1) := by decide +kernel
theorem dX3_drawLines_5 : decode cX3_drawLines 5 = .ok (.invokevirtual 184, 3) := by decide +kernel
theorem dX3_drawLines_8 : decode cX3_drawLines 8 = .ok (.istore_n 3, 1) := by decide +kernel
theorem dX3_drawLines_9 : decode cX3_drawLines 9 = .ok (.iconst 0, 1) := by decide +kernel
theorem dX3_drawLines_10 : decode cX3_drawLines 10 = .ok (.istore 4, 2) := by decide +kernel
theorem dX3_drawLines_12 : decode cX3_drawLines 12 = .ok (.iload 4, 2) := by decide +kernel
theorem dX3_drawLines_14 : decode cX3_drawLines 14 = .ok (.iconst 1, 1) := by decide +kernel
theorem dX3_drawLines_15 : decode cX3_drawLines 15 = .ok (.iadd, 1) := by decide +kernel
theorem dX3_drawLines_16 : decode cX3_drawLines 16 = .ok (.bipush 10, 2) := by decide +kernel
theorem dX3_drawLines_18 : decode cX3_drawLines 18 = .ok (.if_icmp .ge 47, 3) := by decide +kernel
theorem dX3_drawLines_21 : decode cX3_drawLines 21 = .ok (.aload_n 0, 1) := by decide +kernel
theorem dX3_drawLines_22 : decode cX3_drawLines 22 = .ok (.iload_n 1, 1) := by decide +kernel
theorem dX3_drawLines_23 : decode cX3_drawLines 23 = .ok (.iload 4, 2) := by decide +kernel
theorem dX3_drawLines_25 : decode cX3_drawLines 25 = .ok (.iconst 1, 1) := by decide +kernel
theorem dX3_drawLines_26 : decode cX3_drawLines 26 = .ok (.iadd, 1) := by decide +kernel
theorem dX3_drawLines_27 : decode cX3_drawLines 27 = .ok (.invokevirtual 184, 3) := by decide +kernel
theorem dX3_drawLines_30 : decode cX3_drawLines 30 = .ok (.istore 5, 2) := by decide +kernel
theorem dX3_drawLines_32 : decode cX3_drawLines 32 = .ok (.iload_n 3, 1) := by decide +kernel
theorem dX3_drawLines_33 : decode cX3_drawLines 33 = .ok (.iconst (-1), 1) := by decide +kernel
theorem dX3_drawLines_34 : decode cX3_drawLines 34 = .ok (.if_icmp .eq 22, 3) := by decide +kernel
theorem dX3_drawLines_37 : decode cX3_drawLines 37 = .ok (.iload 5, 2) := by decide +kernel
theorem dX3_drawLines_39 : decode cX3_drawLines 39 = .ok (.iconst (-1), 1) := by decide +kernel
theorem dX3_drawLines_40 : decode cX3_drawLines 40 = .ok (.if_icmp .eq 16, 3) := by decide +kernel
theorem dX3_drawLines_43 : decode cX3_drawLines 43 = .ok (.iload_n 3, 1) := by decide +kernel
theorem dX3_drawLines_44 : decode cX3_drawLines 44 = .ok (.iload 5, 2) := by decide +kernel
theorem dX3_drawLines_46 : decode cX3_drawLines 46 = .ok (.if_icmp .eq 10, 3) := by decide +kernel
theorem dX3_drawLines_49 : decode cX3_drawLines 49 = .ok (.iload_n 2, 1) := by decide +kernel
theorem dX3_drawLines_50 : decode cX3_drawLines 50 = .ok (.iconst 1, 1) := by decide +kernel
theorem dX3_drawLines_51 : decode cX3_drawLines 51 = .ok (.iload 4, 2) := by decide +kernel
theorem dX3_drawLines_53 : decode cX3_drawLines 53 = .ok (.ishl, 1) := by decide +kernel
theorem dX3_drawLines_54 : decode cX3_drawLines 54 = .ok (.ior, 1) := by decide +kernel
theorem dX3_drawLines_55 : decode cX3_drawLines 55 = .ok (.istore_n 2, 1) := by decide +kernel
theorem dX3_drawLines_56 : decode cX3_drawLines 56 = .ok (.iload 5, 2) := by decide +kernel
theorem dX3_drawLines_58 : decode cX3_drawLines 58 = .ok (.istore_n 3, 1) := by decide +kernel
theorem dX3_drawLines_59 : decode cX3_drawLines 59 = .ok (.iinc 4 1, 3) := by decide +kernel
theorem dX3_drawLines_62 : decode cX3_drawLines 62 = .ok (.goto (-50), 3) := by decide +kernel
theorem dX3_drawLines_65 : decode cX3_drawLines 65 = .ok (.iload_n 2, 1) := by decide +kernel
theorem dX3_drawLines_66 : decode cX3_drawLines 66 = .ok (.ireturn, 1) := by decide +kernel
theorem dJ13_bitCount_95d88_0 : decode cJ13_bitCount_95d88 0 = .ok (.lload_n 0, 1) := by decide +kernel
theorem dJ13_bitCount_95d88_1 : decode cJ13_bitCount_95d88 1 = .ok (.lload_n 0, 1) := by decide +kernel
theorem dJ13_bitCount_95d88_2 : decode cJ13_bitCount_95d88 2 = .ok (.iconst 1, 1) := by decide +kernel
theorem dJ13_bitCount_95d88_3 : decode cJ13_bitCount_95d88 3 = .ok (.lushr, 1) := by decide +kernel
theorem dJ13_bitCount_95d88_4 : decode cJ13_bitCount_95d88 4 = .ok (.ldc2_w 314, 3) := by decide +kernel
theorem dJ13_bitCount_95d88_7 : decode cJ13_bitCount_95d88 7 = .ok (.land, 1) := by decide +kernel
theorem dJ13_bitCount_95d88_8 : decode cJ13_bitCount_95d88 8 = .ok (.lsub, 1) := by decide +kernel
theorem dJ13_bitCount_95d88_9 : decode cJ13_bitCount_95d88 9 = .ok (.lstore_n 0, 1) := by decide +kernel
theorem dJ13_bitCount_95d88_10 : decode cJ13_bitCount_95d88 10 = .ok (.lload_n 0, 1) := by decide +kernel
theorem dJ13_bitCount_95d88_11 : decode cJ13_bitCount_95d88 11 = .ok (.ldc2_w 316, 3) := by decide +kernel
theorem dJ13_bitCount_95d88_14 : decode cJ13_bitCount_95d88 14 = .ok (.land, 1) := by decide +kernel
theorem dJ13_bitCount_95d88_15 : decode cJ13_bitCount_95d88 15 = .ok (.lload_n 0, 1) := by decide +kernel
theorem dJ13_bitCount_95d88_16 : decode cJ13_bitCount_95d88 16 = .ok (.iconst 2, 1) := by decide +kernel
theorem dJ13_bitCount_95d88_17 : decode cJ13_bitCount_95d88 17 = .ok (.lushr, 1) := by decide +kernel
theorem dJ13_bitCount_95d88_18 : decode cJ13_bitCount_95d88 18 = .ok (.ldc2_w 316, 3) := by decide +kernel
theorem dJ13_bitCount_95d88_21 : decode cJ13_bitCount_95d88 21 = .ok (.land, 1) := by decide +kernel
theorem dJ13_bitCount_95d88_22 : decode cJ13_bitCount_95d88 22 = .ok (.ladd, 1) := by decide +kernel
theorem dJ13_bitCount_95d88_23 : decode cJ13_bitCount_95d88 23 = .ok (.lstore_n 0, 1) := by decide +kernel
theorem dJ13_bitCount_95d88_24 : decode cJ13_bitCount_95d88 24 = .ok (.lload_n 0, 1) := by decide +kernel
theorem dJ13_bitCount_95d88_25 : decode cJ13_bitCount_95d88 25 = .ok (.lload_n 0, 1) := by decide +kernel
theorem dJ13_bitCount_95d88_26 : decode cJ13_bitCount_95d88 26 = .ok (.iconst 4, 1) := by decide +kernel
theorem dJ13_bitCount_95d88_27 : decode cJ13_bitCount_95d88 27 = .ok (.lushr, 1) := by decide +kernel
theorem dJ13_bitCount_95d88_28 : decode cJ13_bitCount_95d88 28 = .ok (.ladd, 1) := by decide +kernel
theorem dJ13_bitCount_95d88_29 : decode cJ13_bitCount_95d88 29 = .ok (.ldc2_w 318, 3) := by decide +kernel
theorem dJ13_bitCount_95d88_32 : decode cJ13_bitCount_95d88 32 = .ok (.land, 1) := by decide +kernel
theorem dJ13_bitCount_95d88_33 : decode cJ13_bitCount_95d88 33 = .ok (.lstore_n 0, 1) := by decide +kernel
theorem dJ13_bitCount_95d88_34 : decode cJ13_bitCount_95d88 34 = .ok (.lload_n 0, 1) := by decide +kernel
theorem dJ13_bitCount_95d88_35 : decode cJ13_bitCount_95d88 35 = .ok (.lload_n 0, 1) := by decide +kernel
theorem dJ13_bitCount_95d88_36 : decode cJ13_bitCount_95d88 36 = .ok (.bipush 8, 2) := by decide +kernel
theorem dJ13_bitCount_95d88_38 : decode cJ13_bitCount_95d88 38 = .ok (.lushr, 1) := by decide +kernel
theorem dJ13_bitCount_95d88_39 : decode cJ13_bitCount_95d88 39 = .ok (.ladd, 1) := by decide +kernel
theorem dJ13_bitCount_95d88_40 : decode cJ13_bitCount_95d88 40 = .ok (.lstore_n 0, 1) := by decide +kernel
theorem dJ13_bitCount_95d88_41 : decode cJ13_bitCount_95d88 41 = .ok (.lload_n 0, 1) := by decide +kernel
theorem dJ13_bitCount_95d88_42 : decode cJ13_bitCount_95d88 42 = .ok (.lload_n 0, 1) := by decide +kernel
theorem dJ13_bitCount_95d88_43 : decode cJ13_bitCount_95d88 43 = .ok (.bipush 16, 2) := by decide +kernel
theorem dJ13_bitCount_95d88_45 : decode cJ13_bitCount_95d88 45 = .ok (.lushr, 1) := by decide +kernel
theorem dJ13_bitCount_95d88_46 : decode cJ13_bitCount_95d88 46 = .ok (.ladd, 1) := by decide +kernel
theorem dJ13_bitCount_95d88_47 : decode cJ13_bitCount_95d88 47 = .ok (.lstore_n 0, 1) := by decide +kernel
theorem dJ13_bitCount_95d88_48 : decode cJ13_bitCount_95d88 48 = .ok (.lload_n 0, 1) := by decide +kernel
theorem dJ13_bitCount_95d88_49 : decode cJ13_bitCount_95d88 49 = .ok (.lload_n 0, 1) := by decide +kernel
theorem dJ13_bitCount_95d88_50 : decode cJ13_bitCount_95d88 50 = .ok (.bipush 32, 2) := by decide +kernel
theorem dJ13_bitCount_95d88_52 : decode cJ13_bitCount_95d88 52 = .ok (.lushr, 1) := by decide +kernel
theorem dJ13_bitCount_95d88_53 : decode cJ13_bitCount_95d88 53 = .ok (.ladd, 1) := by decide +kernel
theorem dJ13_bitCount_95d88_54 : decode cJ13_bitCount_95d88 54 = .ok (.lstore_n 0, 1) := by decide +kernel
theorem dJ13_bitCount_95d88_55 : decode cJ13_bitCount_95d88 55 = .ok (.lload_n 0, 1) := by decide +kernel
theorem dJ13_bitCount_95d88_56 : decode cJ13_bitCount_95d88 56 = .ok (.l2i, 1) := by decide +kernel
theorem dJ13_bitCount_95d88_57 : decode cJ13_bitCount_95d88 57 = .ok (.bipush 127, 2) := by decide +kernel
theorem dJ13_bitCount_95d88_59 : decode cJ13_bitCount_95d88 59 = .ok (.iand, 1) := by decide +kernel
theorem dJ13_bitCount_95d88_60 : decode cJ13_bitCount_95d88 60 = .ok (.ireturn, 1) := by decide +kernel
theorem dJ9_max_7cf53_0 : decode cJ9_max_7cf53 0 = .ok (.iload_n 0, 1) := by decide +kernel
theorem dJ9_max_7cf53_1 : decode cJ9_max_7cf53 1 = .ok (.iload_n 1, 1) := by decide +kernel
theorem dJ9_max_7cf53_2 : decode cJ9_max_7cf53 2 = .ok (.if_icmp .lt 7, 3) := by decide +kernel
theorem dJ9_max_7cf53_5 : decode cJ9_max_7cf53 5 = .ok (.iload_n 0, 1) := by decide +kernel
theorem dJ9_max_7cf53_6 : decode cJ9_max_7cf53 6 = .ok (.goto 4, 3) := by decide +kernel
theorem dJ9_max_7cf53_9 : decode cJ9_max_7cf53 9 = .ok (.iload_n 1, 1) := by decide +kernel
theorem dJ9_max_7cf53_10 : decode cJ9_max_7cf53 10 = .ok (.ireturn, 1) := by decide +kernel
theorem dJ9_min_7cf53_0 : decode cJ9_min_7cf53 0 = .ok (.iload_n 0, 1) := by decide +kernel
theorem dJ9_min_7cf53_1 : decode cJ9_min_7cf53 1 = .ok (.iload_n 1, 1) := by decide +kernel
theorem dJ9_min_7cf53_2 : decode cJ9_min_7cf53 2 = .ok (.if_icmp .gt 7, 3) := by decide +kernel
theorem dJ9_min_7cf53_5 : decode cJ9_min_7cf53 5 = .ok (.iload_n 0, 1) := by decide +kernel
theorem dJ9_min_7cf53_6 : decode cJ9_min_7cf53 6 = .ok (.goto 4, 3) := by decide +kernel
theorem dJ9_min_7cf53_9 : decode cJ9_min_7cf53 9 = .ok (.iload_n 1, 1) := by decide +kernel
theorem dJ9_min_7cf53_10 : decode cJ9_min_7cf53 10 = .ok (.ireturn, 1) := by decide +kernel
theorem dJxa1e45_init_da8c8_0 : decode cJxa1e45_init_da8c8 0 = .ok (.aload_n 0, 1) := by decide +kernel
theorem dJxa1e45_init_da8c8_1 : decode cJxa1e45_init_da8c8 1 = .ok (.invokespecial 1, 3) := by decide +kernel
theorem dJxa1e45_init_da8c8_4 : decode cJxa1e45_init_da8c8 4 = .ok (.return_, 1) := by decide +kernel
theorem dJxc12de_init_da8c8_0 : decode cJxc12de_init_da8c8 0 = .ok (.aload_n 0, 1) := by decide +kernel
theorem dJxc12de_init_da8c8_1 : decode cJxc12de_init_da8c8 1 = .ok (.invokespecial 1, 3) := by decide +kernel
theorem dJxc12de_init_da8c8_4 : decode cJxc12de_init_da8c8 4 = .ok (.aload_n 0, 1) := by decide +kernel
theorem dJxc12de_init_da8c8_5 : decode cJxc12de_init_da8c8 5 = .ok (.iconst 0, 1) := by decide +kernel
theorem dJxc12de_init_da8c8_6 : decode cJxc12de_init_da8c8 6 = .ok (.putfield 7, 3) := by decide +kernel
theorem dJxc12de_init_da8c8_9 : decode cJxc12de_init_da8c8 9 = .ok (.return_, 1) := by decide +kernel
theorem dJx4a65c_init_da8c8_0 : decode cJx4a65c_init_da8c8 0 = .ok (.aload_n 0, 1) := by decide +kernel
theorem dJx4a65c_init_da8c8_1 : decode cJx4a65c_init_da8c8 1 = .ok (.invokespecial 1, 3) := by decide +kernel
theorem dJx4a65c_init_da8c8_4 : decode cJx4a65c_init_da8c8 4 = .ok (.aload_n 0, 1) := by decide +kernel
theorem dJx4a65c_init_da8c8_5 : decode cJx4a65c_init_da8c8 5 = .ok (.getstatic 39, 3) := by decide +kernel
theorem dJx4a65c_init_da8c8_8 : decode cJx4a65c_init_da8c8 8 = .ok (.putfield 9, 3) := by decide +kernel
theorem dJx4a65c_init_da8c8_11 : decode cJx4a65c_init_da8c8 11 = .ok (.return_, 1) := by decide +kernel
theorem dJx4a65c_grow_92f84_0 : decode cJx4a65c_grow_92f84 0 = .ok (.aload_n 0, 1) := by decide +kernel
theorem dJx4a65c_grow_92f84_1 : decode cJx4a65c_grow_92f84 1 = .ok (.getfield 9, 3) := by decide +kernel
theorem dJx4a65c_grow_92f84_4 : decode cJx4a65c_grow_92f84 4 = .ok (.arraylength, 1) := by decide +kernel
theorem dJx4a65c_grow_92f84_5 : decode cJx4a65c_grow_92f84 5 = .ok (.istore_n 2, 1) := by decide +kernel
theorem dJx4a65c_grow_92f84_6 : decode cJx4a65c_grow_92f84 6 = .ok (.iload_n 2, 1) := by decide +kernel
theorem dJx4a65c_grow_92f84_7 : decode cJx4a65c_grow_92f84 7 = .ok (.ifCond .gt 13, 3) := by decide +kernel
theorem dJx4a65c_grow_92f84_10 : decode cJx4a65c_grow_92f84 10 = .ok (.aload_n 0, 1) := by decide +kernel
theorem dJx4a65c_grow_92f84_11 : decode cJx4a65c_grow_92f84 11 = .ok (.getfield 9, 3) := by decide +kernel
theorem dJx4a65c_grow_92f84_14 : decode cJx4a65c_grow_92f84 14 = .ok (.getstatic 39, 3) := by decide +kernel
theorem dJx4a65c_grow_92f84_17 : decode cJx4a65c_grow_92f84 17 = .ok (.if_acmp .eq 28, 3) := by decide +kernel
theorem dJx4a65c_grow_92f84_20 : decode cJx4a65c_grow_92f84 20 = .ok (.iload_n 2, 1) := by decide +kernel
theorem dJx4a65c_grow_92f84_21 : decode cJx4a65c_grow_92f84 21 = .ok (.iload_n 1, 1) := by decide +kernel
theorem dJx4a65c_grow_92f84_22 : decode cJx4a65c_grow_92f84 22 = .ok (.iload_n 2, 1) := by decide +kernel
theorem dJx4a65c_grow_92f84_23 : decode cJx4a65c_grow_92f84 23 = .ok (.isub, 1) := by decide +kernel
theorem dJx4a65c_grow_92f84_24 : decode cJx4a65c_grow_92f84 24 = .ok (.iload_n 2, 1) := by decide +kernel
theorem dJx4a65c_grow_92f84_25 : decode cJx4a65c_grow_92f84 25 = .ok (.iconst 1, 1) := by decide +kernel
theorem dJx4a65c_grow_92f84_26 : decode cJx4a65c_grow_92f84 26 = .ok (.ishr, 1) := by decide +kernel
theorem dJx4a65c_grow_92f84_27 : decode cJx4a65c_grow_92f84 27 = .ok (.invokestatic 73, 3) := by decide +kernel
theorem dJx4a65c_grow_92f84_30 : decode cJx4a65c_grow_92f84 30 = .ok (.istore_n 3, 1) := by decide +kernel
theorem dJx4a65c_grow_92f84_31 : decode cJx4a65c_grow_92f84 31 = .ok (.aload_n 0, 1) := by decide +kernel
theorem dJx4a65c_grow_92f84_32 : decode cJx4a65c_grow_92f84 32 = .ok (.aload_n 0, 1) := by decide +kernel
theorem dJx4a65c_grow_92f84_33 : decode cJx4a65c_grow_92f84 33 = .ok (.getfield 9, 3) := by decide +kernel
theorem dJx4a65c_grow_92f84_36 : decode cJx4a65c_grow_92f84 36 = .ok (.iload_n 3, 1) := by decide +kernel
theorem dJx4a65c_grow_92f84_37 : decode cJx4a65c_grow_92f84 37 = .ok (.invokestatic 66, 3) := by decide +kernel
theorem dJx4a65c_grow_92f84_40 : decode cJx4a65c_grow_92f84 40 = .ok (.dup_x1, 1) := by decide +kernel
theorem dJx4a65c_grow_92f84_41 : decode cJx4a65c_grow_92f84 41 = .ok (.putfield 9, 3) := by decide +kernel
theorem dJx4a65c_grow_92f84_44 : decode cJx4a65c_grow_92f84 44 = .ok (.areturn, 1) := by decide +kernel
theorem dJx4a65c_grow_92f84_45 : decode cJx4a65c_grow_92f84 45 = .ok (.aload_n 0, 1) := by decide +kernel
theorem dJx4a65c_grow_92f84_46 : decode cJx4a65c_grow_92f84 46 = .ok (.bipush 10, 2) := by decide +kernel
theorem dJx4a65c_grow_92f84_48 : decode cJx4a65c_grow_92f84 48 = .ok (.iload_n 1, 1) := by decide +kernel
theorem dJx4a65c_grow_92f84_49 : decode cJx4a65c_grow_92f84 49 = .ok (.invokestatic 79, 3) := by decide +kernel
theorem dJx4a65c_grow_92f84_52 : decode cJx4a65c_grow_92f84 52 = .ok (.anewarray 7, 3) := by decide +kernel
theorem dJx4a65c_grow_92f84_55 : decode cJx4a65c_grow_92f84 55 = .ok (.dup_x1, 1) := by decide +kernel
theorem dJx4a65c_grow_92f84_56 : decode cJx4a65c_grow_92f84 56 = .ok (.putfield 9, 3) := by decide +kernel
theorem dJx4a65c_grow_92f84_59 : decode cJx4a65c_grow_92f84 59 = .ok (.areturn, 1) := by decide +kernel
theorem dJx4a65c_grow_d5877_0 : decode cJx4a65c_grow_d5877 0 = .ok (.aload_n 0, 1) := by decide +kernel
theorem dJx4a65c_grow_d5877_1 : decode cJx4a65c_grow_d5877 1 = .ok (.aload_n 0, 1) := by decide +kernel
theorem dJx4a65c_grow_d5877_2 : decode cJx4a65c_grow_d5877 2 = .ok (.getfield 48, 3) := by decide +kernel
theorem dJx4a65c_grow_d5877_5 : decode cJx4a65c_grow_d5877 5 = .ok (.iconst 1, 1) := by decide +kernel
theorem dJx4a65c_grow_d5877_6 : decode cJx4a65c_grow_d5877 6 = .ok (.iadd, 1) := by decide +kernel
theorem dJx4a65c_grow_d5877_7 : decode cJx4a65c_grow_d5877 7 = .ok (.invokevirtual 69, 3) := by decide +kernel
theorem dJx4a65c_grow_d5877_10 : decode cJx4a65c_grow_d5877 10 = .ok (.areturn, 1) := by decide +kernel
theorem dJx4a65c_size_8abf5_0 : decode cJx4a65c_size_8abf5 0 = .ok (.aload_n 0, 1) := by decide +kernel
theorem dJx4a65c_size_8abf5_1 : decode cJx4a65c_size_8abf5 1 = .ok (.getfield 48, 3) := by decide +kernel
theorem dJx4a65c_size_8abf5_4 : decode cJx4a65c_size_8abf5 4 = .ok (.ireturn, 1) := by decide +kernel
theorem dJx4a65c_elementData_915e3_0 : decode cJx4a65c_elementData_915e3 0 = .ok (.aload_n 0, 1) := by decide +kernel
theorem dJx4a65c_elementData_915e3_1 : decode cJx4a65c_elementData_915e3 1 = .ok (.getfield 9, 3) := by decide +kernel
theorem dJx4a65c_elementData_915e3_4 : decode cJx4a65c_elementData_915e3 4 = .ok (.iload_n 1, 1) := by decide +kernel
theorem dJx4a65c_elementData_915e3_5 : decode cJx4a65c_elementData_915e3 5 = .ok (.aaload, 1) := by decide +kernel
theorem dJx4a65c_elementData_915e3_6 : decode cJx4a65c_elementData_915e3 6 = .ok (.areturn, 1) := by decide +kernel
theorem dJx4a65c_get_915e3_0 : decode cJx4a65c_get_915e3 0 = .ok (.iload_n 1, 1) := by decide +kernel
theorem dJx4a65c_get_915e3_1 : decode cJx4a65c_get_915e3 1 = .ok (.aload_n 0, 1) := by decide +kernel
theorem dJx4a65c_get_915e3_2 : decode cJx4a65c_get_915e3 2 = .ok (.getfield 48, 3) := by decide +kernel
theorem dJx4a65c_get_915e3_5 : decode cJx4a65c_get_915e3 5 = .ok (.invokestatic 118, 3) := by decide +kernel
theorem dJx4a65c_get_915e3_8 : decode cJx4a65c_get_915e3 8 = .ok (.pop, 1) := by decide +kernel
theorem dJx4a65c_get_915e3_9 : decode cJx4a65c_get_915e3 9 = .ok (.aload_n 0, 1) := by decide +kernel
theorem dJx4a65c_get_915e3_10 : decode cJx4a65c_get_915e3 10 = .ok (.iload_n 1, 1) := by decide +kernel
theorem dJx4a65c_get_915e3_11 : decode cJx4a65c_get_915e3 11 = .ok (.invokevirtual 123, 3) := by decide +kernel
theorem dJx4a65c_get_915e3_14 : decode cJx4a65c_get_915e3 14 = .ok (.areturn, 1) := by decide +kernel
theorem dJx4a65c_add_72be8_0 : decode cJx4a65c_add_72be8 0 = .ok (.iload_n 3, 1) := by decide +kernel
theorem dJx4a65c_add_72be8_1 : decode cJx4a65c_add_72be8 1 = .ok (.aload_n 2, 1) := by decide +kernel
theorem dJx4a65c_add_72be8_2 : decode cJx4a65c_add_72be8 2 = .ok (.arraylength, 1) := by decide +kernel
theorem dJx4a65c_add_72be8_3 : decode cJx4a65c_add_72be8 3 = .ok (.if_icmp .ne 8, 3) := by decide +kernel
theorem dJx4a65c_add_72be8_6 : decode cJx4a65c_add_72be8 6 = .ok (.aload_n 0, 1) := by decide +kernel
theorem dJx4a65c_add_72be8_7 : decode cJx4a65c_add_72be8 7 = .ok (.invokevirtual 129, 3) := by decide +kernel
theorem dJx4a65c_add_72be8_10 : decode cJx4a65c_add_72be8 10 = .ok (.astore_n 2, 1) := by decide +kernel
theorem dJx4a65c_add_72be8_11 : decode cJx4a65c_add_72be8 11 = .ok (.aload_n 2, 1) := by decide +kernel
theorem dJx4a65c_add_72be8_12 : decode cJx4a65c_add_72be8 12 = .ok (.iload_n 3, 1) := by decide +kernel
theorem dJx4a65c_add_72be8_13 : decode cJx4a65c_add_72be8 13 = .ok (.aload_n 1, 1) := by decide +kernel
theorem dJx4a65c_add_72be8_14 : decode cJx4a65c_add_72be8 14 = .ok (.aastore, 1) := by decide +kernel
theorem dJx4a65c_add_72be8_15 : decode cJx4a65c_add_72be8 15 = .ok (.aload_n 0, 1) := by decide +kernel
theorem dJx4a65c_add_72be8_16 : decode cJx4a65c_add_72be8 16 = .ok (.iload_n 3, 1) := by decide +kernel
theorem dJx4a65c_add_72be8_17 : decode cJx4a65c_add_72be8 17 = .ok (.iconst 1, 1) := by decide +kernel
theorem dJx4a65c_add_72be8_18 : decode cJx4a65c_add_72be8 18 = .ok (.iadd, 1) := by decide +kernel
theorem dJx4a65c_add_72be8_19 : decode cJx4a65c_add_72be8 19 = .ok (.putfield 48, 3) := by decide +kernel
theorem dJx4a65c_add_72be8_22 : decode cJx4a65c_add_72be8 22 = .ok (.return_, 1) := by decide +kernel
theorem dJx4a65c_add_9ea2d_0 : decode cJx4a65c_add_9ea2d 0 = .ok (.aload_n 0, 1) := by decide +kernel
theorem dJx4a65c_add_9ea2d_1 : decode cJx4a65c_add_9ea2d 1 = .ok (.dup, 1) := by decide +kernel
theorem dJx4a65c_add_9ea2d_2 : decode cJx4a65c_add_9ea2d 2 = .ok (.getfield 63, 3) := by decide +kernel
theorem dJx4a65c_add_9ea2d_5 : decode cJx4a65c_add_9ea2d 5 = .ok (.iconst 1, 1) := by decide +kernel
theorem dJx4a65c_add_9ea2d_6 : decode cJx4a65c_add_9ea2d 6 = .ok (.iadd, 1) := by decide +kernel
theorem dJx4a65c_add_9ea2d_7 : decode cJx4a65c_add_9ea2d 7 = .ok (.putfield 63, 3) := by decide +kernel
theorem dJx4a65c_add_9ea2d_10 : decode cJx4a65c_add_9ea2d 10 = .ok (.aload_n 0, 1) := by decide +kernel
theorem dJx4a65c_add_9ea2d_11 : decode cJx4a65c_add_9ea2d 11 = .ok (.aload_n 1, 1) := by decide +kernel
theorem dJx4a65c_add_9ea2d_12 : decode cJx4a65c_add_9ea2d 12 = .ok (.aload_n 0, 1) := by decide +kernel
theorem dJx4a65c_add_9ea2d_13 : decode cJx4a65c_add_9ea2d 13 = .ok (.getfield 9, 3) := by decide +kernel
theorem dJx4a65c_add_9ea2d_16 : decode cJx4a65c_add_9ea2d 16 = .ok (.aload_n 0, 1) := by decide +kernel
theorem dJx4a65c_add_9ea2d_17 : decode cJx4a65c_add_9ea2d 17 = .ok (.getfield 48, 3) := by decide +kernel
theorem dJx4a65c_add_9ea2d_20 : decode cJx4a65c_add_9ea2d 20 = .ok (.invokevirtual 131, 3) := by decide +kernel
theorem dJx4a65c_add_9ea2d_23 : decode cJx4a65c_add_9ea2d 23 = .ok (.iconst 1, 1) := by decide +kernel
theorem dJx4a65c_add_9ea2d_24 : decode cJx4a65c_add_9ea2d 24 = .ok (.ireturn, 1) := by decide +kernel
theorem dJ7_fill_53178_0 : decode cJ7_fill_53178 0 = .ok (.iconst 0, 1) := by decide +kernel
theorem dJ7_fill_53178_1 : decode cJ7_fill_53178 1 = .ok (.istore_n 2, 1) := by decide +kernel
theorem dJ7_fill_53178_2 : decode cJ7_fill_53178 2 = .ok (.aload_n 0, 1) := by decide +kernel
theorem dJ7_fill_53178_3 : decode cJ7_fill_53178 3 = .ok (.arraylength, 1) := by decide +kernel
theorem dJ7_fill_53178_4 : decode cJ7_fill_53178 4 = .ok (.istore_n 3, 1) := by decide +kernel
theorem dJ7_fill_53178_5 : decode cJ7_fill_53178 5 = .ok (.iload_n 2, 1) := by decide +kernel
theorem dJ7_fill_53178_6 : decode cJ7_fill_53178 6 = .ok (.iload_n 3, 1) := by decide +kernel
theorem dJ7_fill_53178_7 : decode cJ7_fill_53178 7 = .ok (.if_icmp .ge 13, 3) := by decide +kernel
theorem dJ7_fill_53178_10 : decode cJ7_fill_53178 10 = .ok (.aload_n 0, 1) := by decide +kernel
theorem dJ7_fill_53178_11 : decode cJ7_fill_53178 11 = .ok (.iload_n 2, 1) := by decide +kernel
theorem dJ7_fill_53178_12 : decode cJ7_fill_53178 12 = .ok (.iload_n 1, 1) := by decide +kernel
theorem dJ7_fill_53178_13 : decode cJ7_fill_53178 13 = .ok (.iastore, 1) := by decide +kernel
theorem dJ7_fill_53178_14 : decode cJ7_fill_53178 14 = .ok (.iinc 2 1, 3) := by decide +kernel
theorem dJ7_fill_53178_17 : decode cJ7_fill_53178 17 = .ok (.goto (-12), 3) := by decide +kernel
theorem dJ7_fill_53178_20 : decode cJ7_fill_53178 20 = .ok (.return_, 1) := by decide +kernel
theorem dJ7_copyOf_1904c_0 : decode cJ7_copyOf_1904c 0 = .ok (.aload_n 0, 1) := by decide +kernel
theorem dJ7_copyOf_1904c_1 : decode cJ7_copyOf_1904c 1 = .ok (.iload_n 1, 1) := by decide +kernel
theorem dJ7_copyOf_1904c_2 : decode cJ7_copyOf_1904c 2 = .ok (.aload_n 0, 1) := by decide +kernel
theorem dJ7_copyOf_1904c_3 : decode cJ7_copyOf_1904c 3 = .ok (.invokevirtual 86, 3) := by decide +kernel
theorem dJ7_copyOf_1904c_6 : decode cJ7_copyOf_1904c 6 = .ok (.invokestatic 300, 3) := by decide +kernel
theorem dJ7_copyOf_1904c_9 : decode cJ7_copyOf_1904c 9 = .ok (.areturn, 1) := by decide +kernel
theorem dJ7_copyOf_6403c_0 : decode cJ7_copyOf_6403c 0 = .ok (.aload_n 2, 1) := by decide +kernel
theorem dJ7_copyOf_6403c_1 : decode cJ7_copyOf_6403c 1 = .ok (.ldc 110, 2) := by decide +kernel
theorem dJ7_copyOf_6403c_3 : decode cJ7_copyOf_6403c 3 = .ok (.if_acmp .ne 10, 3) := by decide +kernel
theorem dJ7_copyOf_6403c_6 : decode cJ7_copyOf_6403c 6 = .ok (.iload_n 1, 1) := by decide +kernel
theorem dJ7_copyOf_6403c_7 : decode cJ7_copyOf_6403c 7 = .ok (.anewarray 2, 3) := by decide +kernel
theorem dJ7_copyOf_6403c_10 : decode cJ7_copyOf_6403c 10 = .ok (.goto 14, 3) := by decide +kernel
theorem dJ7_copyOf_6403c_13 : decode cJ7_copyOf_6403c 13 = .ok (.aload_n 2, 1) := by decide +kernel
theorem dJ7_copyOf_6403c_14 : decode cJ7_copyOf_6403c 14 = .ok (.invokevirtual 90, 3) := by decide +kernel
theorem dJ7_copyOf_6403c_17 : decode cJ7_copyOf_6403c 17 = .ok (.iload_n 1, 1) := by decide +kernel
theorem dJ7_copyOf_6403c_18 : decode cJ7_copyOf_6403c 18 = .ok (.invokestatic 95, 3) := by decide +kernel
theorem dJ7_copyOf_6403c_21 : decode cJ7_copyOf_6403c 21 = .ok (.checkcast 110, 3) := by decide +kernel
theorem dJ7_copyOf_6403c_24 : decode cJ7_copyOf_6403c 24 = .ok (.astore_n 3, 1) := by decide +kernel
theorem dJ7_copyOf_6403c_25 : decode cJ7_copyOf_6403c 25 = .ok (.aload_n 0, 1) := by decide +kernel
theorem dJ7_copyOf_6403c_26 : decode cJ7_copyOf_6403c 26 = .ok (.iconst 0, 1) := by decide +kernel
theorem dJ7_copyOf_6403c_27 : decode cJ7_copyOf_6403c 27 = .ok (.aload_n 3, 1) := by decide +kernel
theorem dJ7_copyOf_6403c_28 : decode cJ7_copyOf_6403c 28 = .ok (.iconst 0, 1) := by decide +kernel
theorem dJ7_copyOf_6403c_29 : decode cJ7_copyOf_6403c 29 = .ok (.aload_n 0, 1) := by decide +kernel
theorem dJ7_copyOf_6403c_30 : decode cJ7_copyOf_6403c 30 = .ok (.arraylength, 1) := by decide +kernel
theorem dJ7_copyOf_6403c_31 : decode cJ7_copyOf_6403c 31 = .ok (.iload_n 1, 1) := by decide +kernel
theorem dJ7_copyOf_6403c_32 : decode cJ7_copyOf_6403c 32 = .ok (.invokestatic 304, 3) := by decide +kernel
theorem dJ7_copyOf_6403c_35 : decode cJ7_copyOf_6403c 35 = .ok (.invokestatic 150, 3) := by decide +kernel
theorem dJ7_copyOf_6403c_38 : decode cJ7_copyOf_6403c 38 = .ok (.aload_n 3, 1) := by decide +kernel
theorem dJ7_copyOf_6403c_39 : decode cJ7_copyOf_6403c 39 = .ok (.areturn, 1) := by decide +kernel
theorem dJ15_checkIndex_7cf53_0 : decode cJ15_checkIndex_7cf53 0 = .ok (.iload_n 0, 1) := by decide +kernel
theorem dJ15_checkIndex_7cf53_1 : decode cJ15_checkIndex_7cf53 1 = .ok (.iload_n 1, 1) := by decide +kernel
theorem dJ15_checkIndex_7cf53_2 : decode cJ15_checkIndex_7cf53 2 = .ok (.aconst_null, 1) := by decide +kernel
theorem dJ15_checkIndex_7cf53_3 : decode cJ15_checkIndex_7cf53 3 = .ok (.invokestatic 105, 3) := by decide +kernel
theorem dJ15_checkIndex_7cf53_6 : decode cJ15_checkIndex_7cf53 6 = .ok (.ireturn, 1) := by decide +kernel
theorem dJ8_newLength_cabcc_0 : decode cJ8_newLength_cabcc 0 = .ok (.iload_n 0, 1) := by decide +kernel
theorem dJ8_newLength_cabcc_1 : decode cJ8_newLength_cabcc 1 = .ok (.iload_n 1, 1) := by decide +kernel
theorem dJ8_newLength_cabcc_2 : decode cJ8_newLength_cabcc 2 = .ok (.iload_n 2, 1) := by decide +kernel
theorem dJ8_newLength_cabcc_3 : decode cJ8_newLength_cabcc 3 = .ok (.invokestatic 194, 3) := by decide +kernel
theorem dJ8_newLength_cabcc_6 : decode cJ8_newLength_cabcc 6 = .ok (.iadd, 1) := by decide +kernel
theorem dJ8_newLength_cabcc_7 : decode cJ8_newLength_cabcc 7 = .ok (.istore_n 3, 1) := by decide +kernel
theorem dJ8_newLength_cabcc_8 : decode cJ8_newLength_cabcc 8 = .ok (.iconst 0, 1) := by decide +kernel
theorem dJ8_newLength_cabcc_9 : decode cJ8_newLength_cabcc 9 = .ok (.iload_n 3, 1) := by decide +kernel
theorem dJ8_newLength_cabcc_10 : decode cJ8_newLength_cabcc 10 = .ok (.if_icmp .ge 11, 3) := by decide +kernel
theorem dJ8_newLength_cabcc_13 : decode cJ8_newLength_cabcc 13 = .ok (.iload_n 3, 1) := by decide +kernel
theorem dJ8_newLength_cabcc_14 : decode cJ8_newLength_cabcc 14 = .ok (.ldc 200, 2) := by decide +kernel
theorem dJ8_newLength_cabcc_16 : decode cJ8_newLength_cabcc 16 = .ok (.if_icmp .gt 5, 3) := by decide +kernel
theorem dJ8_newLength_cabcc_19 : decode cJ8_newLength_cabcc 19 = .ok (.iload_n 3, 1) := by decide +kernel
theorem dJ8_newLength_cabcc_20 : decode cJ8_newLength_cabcc 20 = .ok (.ireturn, 1) := by decide +kernel
theorem dJ8_newLength_cabcc_21 : decode cJ8_newLength_cabcc 21 = .ok (.iload_n 0, 1) := by decide +kernel
theorem dJ8_newLength_cabcc_22 : decode cJ8_newLength_cabcc 22 = .ok (.iload_n 1, 1) := by decide +kernel
theorem dJ8_newLength_cabcc_23 : decode cJ8_newLength_cabcc 23 = .ok (.invokestatic 201, 3) := by decide +kernel
theorem dJ8_newLength_cabcc_26 : decode cJ8_newLength_cabcc 26 = .ok (.ireturn, 1) := by decide +kernel
theorem dJ8_hugeLength_7cf53_0 : decode cJ8_hugeLength_7cf53 0 = .ok (.iload_n 0, 1) := by decide +kernel
theorem dJ8_hugeLength_7cf53_1 : decode cJ8_hugeLength_7cf53 1 = .ok (.iload_n 1, 1) := by decide +kernel
theorem dJ8_hugeLength_7cf53_2 : decode cJ8_hugeLength_7cf53 2 = .ok (.iadd, 1) := by decide +kernel
theorem dJ8_hugeLength_7cf53_3 : decode cJ8_hugeLength_7cf53 3 = .ok (.istore_n 2, 1) := by decide +kernel
theorem dJ8_hugeLength_7cf53_4 : decode cJ8_hugeLength_7cf53 4 = .ok (.iload_n 2, 1) := by decide +kernel
theorem dJ8_hugeLength_7cf53_5 : decode cJ8_hugeLength_7cf53 5 = .ok (.ifCond .ge 44, 3) := by decide +kernel
theorem dJ8_hugeLength_7cf53_8 : decode cJ8_hugeLength_7cf53 8 = .ok (.new 204, 3) := by decide +kernel
theorem dJ8_hugeLength_7cf53_11 : decode cJ8_hugeLength_7cf53 11 = .ok (.dup, 1) := by decide +kernel
theorem dJ8_hugeLength_7cf53_12 : decode cJ8_hugeLength_7cf53 12 = .ok (.new 89, 3) := by decide +kernel
theorem dJ8_hugeLength_7cf53_15 : decode cJ8_hugeLength_7cf53 15 = .ok (.dup, 1) := by decide +kernel
theorem dJ8_hugeLength_7cf53_16 : decode cJ8_hugeLength_7cf53 16 = .ok (.invokespecial 91, 3) := by decide +kernel
theorem dJ8_hugeLength_7cf53_19 : decode cJ8_hugeLength_7cf53 19 = .ok (.ldc 206, 2) := by decide +kernel
theorem dJ8_hugeLength_7cf53_21 : decode cJ8_hugeLength_7cf53 21 = .ok (.invokevirtual 94, 3) := by decide +kernel
theorem dJ8_hugeLength_7cf53_24 : decode cJ8_hugeLength_7cf53 24 = .ok (.iload_n 0, 1) := by decide +kernel
theorem dJ8_hugeLength_7cf53_25 : decode cJ8_hugeLength_7cf53 25 = .ok (.invokevirtual 98, 3) := by decide +kernel
theorem dJ8_hugeLength_7cf53_28 : decode cJ8_hugeLength_7cf53 28 = .ok (.ldc 208, 2) := by decide +kernel
theorem dJ8_hugeLength_7cf53_30 : decode cJ8_hugeLength_7cf53 30 = .ok (.invokevirtual 94, 3) := by decide +kernel
theorem dJ8_hugeLength_7cf53_33 : decode cJ8_hugeLength_7cf53 33 = .ok (.iload_n 1, 1) := by decide +kernel
theorem dJ8_hugeLength_7cf53_34 : decode cJ8_hugeLength_7cf53 34 = .ok (.invokevirtual 98, 3) := by decide +kernel
theorem dJ8_hugeLength_7cf53_37 : decode cJ8_hugeLength_7cf53 37 = .ok (.ldc 210, 2) := by decide +kernel
theorem dJ8_hugeLength_7cf53_39 : decode cJ8_hugeLength_7cf53 39 = .ok (.invokevirtual 94, 3) := by decide +kernel
theorem dJ8_hugeLength_7cf53_42 : decode cJ8_hugeLength_7cf53 42 = .ok (.invokevirtual 101, 3) := by decide +kernel
theorem dJ8_hugeLength_7cf53_45 : decode cJ8_hugeLength_7cf53 45 = .ok (.invokespecial 212, 3) := by decide +kernel
theorem dJ8_hugeLength_7cf53_48 : decode cJ8_hugeLength_7cf53 48 = .ok (.athrow, 1) := by decide +kernel
theorem dJ8_hugeLength_7cf53_49 : decode cJ8_hugeLength_7cf53 49 = .ok (.iload_n 2, 1) := by decide +kernel
theorem dJ8_hugeLength_7cf53_50 : decode cJ8_hugeLength_7cf53 50 = .ok (.ldc 200, 2) := by decide +kernel
theorem dJ8_hugeLength_7cf53_52 : decode cJ8_hugeLength_7cf53 52 = .ok (.if_icmp .gt 6, 3) := by decide +kernel
theorem dJ8_hugeLength_7cf53_55 : decode cJ8_hugeLength_7cf53 55 = .ok (.ldc 200, 2) := by decide +kernel
theorem dJ8_hugeLength_7cf53_57 : decode cJ8_hugeLength_7cf53 57 = .ok (.ireturn, 1) := by decide +kernel
theorem dJ8_hugeLength_7cf53_58 : decode cJ8_hugeLength_7cf53 58 = .ok (.iload_n 2, 1) := by decide +kernel
theorem dJ8_hugeLength_7cf53_59 : decode cJ8_hugeLength_7cf53 59 = .ok (.ireturn, 1) := by decide +kernel
theorem dJ3_checkIndex_8e157_0 : decode cJ3_checkIndex_8e157 0 = .ok (.iload_n 0, 1) := by decide +kernel
theorem dJ3_checkIndex_8e157_1 : decode cJ3_checkIndex_8e157 1 = .ok (.ifCond .lt 8, 3) := by decide +kernel
theorem dJ3_checkIndex_8e157_4 : decode cJ3_checkIndex_8e157 4 = .ok (.iload_n 0, 1) := by decide +kernel
theorem dJ3_checkIndex_8e157_5 : decode cJ3_checkIndex_8e157 5 = .ok (.iload_n 1, 1) := by decide +kernel
theorem dJ3_checkIndex_8e157_6 : decode cJ3_checkIndex_8e157 6 = .ok (.if_icmp .lt 10, 3) := by decide +kernel
theorem dJ3_checkIndex_8e157_9 : decode cJ3_checkIndex_8e157 9 = .ok (.aload_n 2, 1) := by decide +kernel
theorem dJ3_checkIndex_8e157_10 : decode cJ3_checkIndex_8e157 10 = .ok (.iload_n 0, 1) := by decide +kernel
theorem dJ3_checkIndex_8e157_11 : decode cJ3_checkIndex_8e157 11 = .ok (.iload_n 1, 1) := by decide +kernel
theorem dJ3_checkIndex_8e157_12 : decode cJ3_checkIndex_8e157 12 = .ok (.invokestatic 95, 3) := by decide +kernel
theorem dJ3_checkIndex_8e157_15 : decode cJ3_checkIndex_8e157 15 = .ok (.athrow, 1) := by decide +kernel
theorem dJ3_checkIndex_8e157_16 : decode cJ3_checkIndex_8e157 16 = .ok (.iload_n 0, 1) := by decide +kernel
theorem dJ3_checkIndex_8e157_17 : decode cJ3_checkIndex_8e157 17 = .ok (.ireturn, 1) := by decide +kernel
end
section
def WS : List Cond := lw_tbl.filter goodWord
theorem wm {w : Cond} (i : Nat) (h : lw_tbl[i]? = some w) (g : goodWord w = true) : w ∈ WS := List.mem_filter.mpr ⟨List.mem_of_getElem? h, g⟩
def ngk : Cond → Bool
  | .methodLinkNest _ _ _ _ => true
  | .fieldLinkNest _ _ _ _ _ _ => true
  | .castable _ _ => true
  | .declares _ => true
  | _ => false
def NGW : List Cond := lw_tbl.filter ngk
theorem nm {w : Cond} (i : Nat) (h : lw_tbl[i]? = some w) (g : ngk w = true) : w ∈ NGW := List.mem_filter.mpr ⟨List.mem_of_getElem? h, g⟩
theorem ts_0 : Jvm.Cond.selects "java/lang/Throwable" ({ cls := "java/lang/Throwable", name := "fillInStackTrace", desc := "(I)Ljava/lang/Throwable;" } : Jvm.MethodName) ({ cls := "java/lang/Throwable", name := "fillInStackTrace", desc := "(I)Ljava/lang/Throwable;" } : Jvm.MethodName) ∈ WS := wm 0 (by decide +kernel) (by decide +kernel)
theorem ts_1 : Jvm.Cond.selects "DialectAtlas" ({ cls := "DialectAtlas", name := "mostToldForm", desc := "(II)I" } : Jvm.MethodName) ({ cls := "DialectAtlas", name := "mostToldForm", desc := "(II)I" } : Jvm.MethodName) ∈ WS := wm 1 (by decide +kernel) (by decide +kernel)
theorem ts_2 : Jvm.Cond.selects "DialectAtlas" ({ cls := "DialectAtlas", name := "isThere", desc := "(LDialectAtlas$Interview;)Z" } : Jvm.MethodName) ({ cls := "DialectAtlas", name := "isThere", desc := "(LDialectAtlas$Interview;)Z" } : Jvm.MethodName) ∈ WS := wm 2 (by decide +kernel) (by decide +kernel)
theorem ts_3 : Jvm.Cond.selects "DialectAtlas$Interview" ({ cls := "DialectAtlas$Interview", name := "isFor", desc := "(II)Z" } : Jvm.MethodName) ({ cls := "DialectAtlas$Interview", name := "isFor", desc := "(II)Z" } : Jvm.MethodName) ∈ WS := wm 3 (by decide +kernel) (by decide +kernel)
theorem ts_4 : Jvm.Cond.selects "DialectAtlas" ({ cls := "DialectAtlas", name := "countLike", desc := "(LDialectAtlas$Interview;)I" } : Jvm.MethodName) ({ cls := "DialectAtlas", name := "countLike", desc := "(LDialectAtlas$Interview;)I" } : Jvm.MethodName) ∈ WS := wm 4 (by decide +kernel) (by decide +kernel)
theorem ts_5 : Jvm.Cond.selects "DialectAtlas" ({ cls := "DialectAtlas", name := "drawLines", desc := "(I)I" } : Jvm.MethodName) ({ cls := "DialectAtlas", name := "drawLines", desc := "(I)I" } : Jvm.MethodName) ∈ WS := wm 5 (by decide +kernel) (by decide +kernel)
theorem ts_6 : Jvm.Cond.selects "DialectAtlas" ({ cls := "DialectAtlas", name := "formIfThere", desc := "(LDialectAtlas$Interview;)I" } : Jvm.MethodName) ({ cls := "DialectAtlas", name := "formIfThere", desc := "(LDialectAtlas$Interview;)I" } : Jvm.MethodName) ∈ WS := wm 6 (by decide +kernel) (by decide +kernel)
theorem ts_7 : Jvm.Cond.selects "DialectAtlas" ({ cls := "DialectAtlas", name := "applyRules", desc := "(III)I" } : Jvm.MethodName) ({ cls := "DialectAtlas", name := "applyRules", desc := "(III)I" } : Jvm.MethodName) ∈ WS := wm 7 (by decide +kernel) (by decide +kernel)
theorem ts_8 : Jvm.Cond.selects "DialectAtlas$Rule" ({ cls := "DialectAtlas$Rule", name := "goesAt", desc := "(II)Z" } : Jvm.MethodName) ({ cls := "DialectAtlas$Rule", name := "goesAt", desc := "(II)Z" } : Jvm.MethodName) ∈ WS := wm 8 (by decide +kernel) (by decide +kernel)
theorem ts_9 : Jvm.Cond.selects "DialectAtlas$Rule" ({ cls := "DialectAtlas$Rule", name := "applyTo", desc := "(I)I" } : Jvm.MethodName) ({ cls := "DialectAtlas$Rule", name := "applyTo", desc := "(I)I" } : Jvm.MethodName) ∈ WS := wm 9 (by decide +kernel) (by decide +kernel)
theorem ts_10 : Jvm.Cond.selects "DialectAtlas$Rule" ({ cls := "DialectAtlas$Rule", name := "changes", desc := "(II)Z" } : Jvm.MethodName) ({ cls := "DialectAtlas$Rule", name := "changes", desc := "(II)Z" } : Jvm.MethodName) ∈ WS := wm 10 (by decide +kernel) (by decide +kernel)
theorem ts_11 : Jvm.Cond.selects "DialectAtlas$StepCounter" ({ cls := "DialectAtlas$StepCounter", name := "countSteps", desc := "(II)I" } : Jvm.MethodName) ({ cls := "DialectAtlas$StepCounter", name := "countSteps", desc := "(II)I" } : Jvm.MethodName) ∈ WS := wm 11 (by decide +kernel) (by decide +kernel)
theorem ts_12 : Jvm.Cond.selects "DialectAtlas$StepCounter" ({ cls := "DialectAtlas$StepCounter", name := "goThrough", desc := "(II)I" } : Jvm.MethodName) ({ cls := "DialectAtlas$StepCounter", name := "goThrough", desc := "(II)I" } : Jvm.MethodName) ∈ WS := wm 12 (by decide +kernel) (by decide +kernel)
theorem ts_13 : Jvm.Cond.selects "DialectAtlas" ({ cls := "DialectAtlas", name := "takeDraft", desc := "()I" } : Jvm.MethodName) ({ cls := "DialectAtlas", name := "takeDraft", desc := "()I" } : Jvm.MethodName) ∈ WS := wm 13 (by decide +kernel) (by decide +kernel)
theorem ts_14 : Jvm.Cond.selects "java/util/ArrayList" ({ cls := "java/util/ArrayList", name := "add", desc := "(Ljava/lang/Object;[Ljava/lang/Object;I)V" } : Jvm.MethodName) ({ cls := "java/util/ArrayList", name := "add", desc := "(Ljava/lang/Object;[Ljava/lang/Object;I)V" } : Jvm.MethodName) ∈ WS := wm 14 (by decide +kernel) (by decide +kernel)
theorem ts_15 : Jvm.Cond.selects "java/util/ArrayList" ({ cls := "java/util/ArrayList", name := "grow", desc := "()[Ljava/lang/Object;" } : Jvm.MethodName) ({ cls := "java/util/ArrayList", name := "grow", desc := "()[Ljava/lang/Object;" } : Jvm.MethodName) ∈ WS := wm 15 (by decide +kernel) (by decide +kernel)
theorem ts_16 : Jvm.Cond.selects "java/util/ArrayList" ({ cls := "java/util/ArrayList", name := "grow", desc := "(I)[Ljava/lang/Object;" } : Jvm.MethodName) ({ cls := "java/util/ArrayList", name := "grow", desc := "(I)[Ljava/lang/Object;" } : Jvm.MethodName) ∈ WS := wm 16 (by decide +kernel) (by decide +kernel)
theorem ts_17 : Jvm.Cond.selects "DialectAtlas$Rule" ({ cls := "DialectAtlas$Rule", name := "restsOn", desc := "(LDialectAtlas$Interview;)Z" } : Jvm.MethodName) ({ cls := "DialectAtlas$Rule", name := "restsOn", desc := "(LDialectAtlas$Interview;)Z" } : Jvm.MethodName) ∈ WS := wm 17 (by decide +kernel) (by decide +kernel)
theorem ts_18 : Jvm.Cond.selects "DialectAtlas" ({ cls := "DialectAtlas", name := "interviewsOf", desc := "(I)J" } : Jvm.MethodName) ({ cls := "DialectAtlas", name := "interviewsOf", desc := "(I)J" } : Jvm.MethodName) ∈ WS := wm 18 (by decide +kernel) (by decide +kernel)
theorem ts_19 : Jvm.Cond.selects "DialectAtlas$Rule" ({ cls := "DialectAtlas$Rule", name := "restNoMoreOn", desc := "(J)V" } : Jvm.MethodName) ({ cls := "DialectAtlas$Rule", name := "restNoMoreOn", desc := "(J)V" } : Jvm.MethodName) ∈ WS := wm 19 (by decide +kernel) (by decide +kernel)
theorem tb_0 : Jvm.Cond.initialized "DialectAtlasLaw" ∈ WS := wm 20 (by decide +kernel) (by decide +kernel)
theorem tb_1 : Jvm.Cond.initialized "DialectAtlas" ∈ WS := wm 21 (by decide +kernel) (by decide +kernel)
theorem tb_2 : Jvm.Cond.initialized "java/util/AbstractCollection" ∈ WS := wm 22 (by decide +kernel) (by decide +kernel)
theorem tb_3 : Jvm.Cond.initialized "java/util/AbstractList" ∈ WS := wm 23 (by decide +kernel) (by decide +kernel)
theorem tb_4 : Jvm.Cond.initialized "java/util/ArrayList" ∈ WS := wm 24 (by decide +kernel) (by decide +kernel)
theorem tb_5 : Jvm.Cond.initialized "DialectAtlas$StepCounter" ∈ WS := wm 25 (by decide +kernel) (by decide +kernel)
theorem tb_6 : Jvm.Cond.initialized "java/util/Arrays" ∈ WS := wm 26 (by decide +kernel) (by decide +kernel)
theorem tb_7 : Jvm.Cond.initialized "java/lang/Throwable" ∈ WS := wm 27 (by decide +kernel) (by decide +kernel)
theorem tb_8 : Jvm.Cond.initialized "java/lang/Exception" ∈ WS := wm 28 (by decide +kernel) (by decide +kernel)
theorem tb_9 : Jvm.Cond.initialized "java/lang/RuntimeException" ∈ WS := wm 29 (by decide +kernel) (by decide +kernel)
theorem tb_10 : Jvm.Cond.initialized "java/lang/IndexOutOfBoundsException" ∈ WS := wm 30 (by decide +kernel) (by decide +kernel)
theorem tb_11 : Jvm.Cond.initialized "java/lang/IllegalStateException" ∈ WS := wm 31 (by decide +kernel) (by decide +kernel)
theorem tb_12 : Jvm.Cond.initialized "java/lang/IllegalArgumentException" ∈ WS := wm 32 (by decide +kernel) (by decide +kernel)
theorem tb_13 : Jvm.Cond.initialized "DialectAtlas$Interview" ∈ WS := wm 33 (by decide +kernel) (by decide +kernel)
theorem tb_14 : Jvm.Cond.initialized "jdk/internal/util/ArraysSupport" ∈ WS := wm 34 (by decide +kernel) (by decide +kernel)
theorem tb_15 : Jvm.Cond.initialized "java/lang/Math" ∈ WS := wm 35 (by decide +kernel) (by decide +kernel)
theorem tb_16 : Jvm.Cond.initialized "java/lang/System" ∈ WS := wm 36 (by decide +kernel) (by decide +kernel)
theorem tb_17 : Jvm.Cond.initialized "java/util/Objects" ∈ WS := wm 37 (by decide +kernel) (by decide +kernel)
theorem tb_18 : Jvm.Cond.initialized "jdk/internal/util/Preconditions" ∈ WS := wm 38 (by decide +kernel) (by decide +kernel)
theorem tb_19 : Jvm.Cond.initialized "java/lang/Long" ∈ WS := wm 39 (by decide +kernel) (by decide +kernel)
theorem tb_20 : Jvm.Cond.initialized "DialectAtlas$Rule" ∈ WS := wm 40 (by decide +kernel) (by decide +kernel)
theorem tb_21 : Jvm.Cond.classLink "DialectAtlasLaw" (11 : Nat) "DialectAtlas" ∈ WS := wm 41 (by decide +kernel) (by decide +kernel)
theorem tb_22 : Jvm.Cond.instantiable "DialectAtlas" (10 : Nat) ∈ WS := wm 42 (by decide +kernel) (by decide +kernel)
theorem tb_23 : Jvm.Cond.methodLink "DialectAtlasLaw" (111 : Nat) ({ cls := "DialectAtlas", name := "<init>", desc := "()V" } : Jvm.MethodName) ∈ WS := wm 43 (by decide +kernel) (by decide +kernel)
theorem tb_24 : Jvm.Cond.instanceMethod ({ cls := "DialectAtlas", name := "<init>", desc := "()V" } : Jvm.MethodName) ∈ WS := wm 44 (by decide +kernel) (by decide +kernel)
theorem tb_25 : Jvm.Cond.code ({ cls := "DialectAtlas", name := "<init>", desc := "()V" } : Jvm.MethodName) prog_1_method_1_code (1 : Nat) (Option.none : Option Jvm.ClassFile.FieldType) ∈ WS := wm 45 (by decide +kernel) (by decide +kernel)
theorem tb_26 : Jvm.Cond.methodLink "DialectAtlas" (1 : Nat) ({ cls := "java/lang/Object", name := "<init>", desc := "()V" } : Jvm.MethodName) ∈ WS := wm 46 (by decide +kernel) (by decide +kernel)
theorem tb_27 : Jvm.Cond.instanceMethod ({ cls := "java/lang/Object", name := "<init>", desc := "()V" } : Jvm.MethodName) ∈ WS := wm 47 (by decide +kernel) (by decide +kernel)
theorem tb_28 : Jvm.Cond.code ({ cls := "java/lang/Object", name := "<init>", desc := "()V" } : Jvm.MethodName) object_method_1_code (1 : Nat) (Option.none : Option Jvm.ClassFile.FieldType) ∈ WS := wm 48 (by decide +kernel) (by decide +kernel)
theorem tb_29 : Jvm.Cond.classLink "DialectAtlas" (7 : Nat) "java/util/ArrayList" ∈ WS := wm 49 (by decide +kernel) (by decide +kernel)
theorem tb_30 : Jvm.Cond.instantiable "java/util/ArrayList" (3 : Nat) ∈ WS := wm 50 (by decide +kernel) (by decide +kernel)
theorem tb_31 : Jvm.Cond.methodLink "DialectAtlas" (9 : Nat) ({ cls := "java/util/ArrayList", name := "<init>", desc := "()V" } : Jvm.MethodName) ∈ WS := wm 51 (by decide +kernel) (by decide +kernel)
theorem tb_32 : Jvm.Cond.instanceMethod ({ cls := "java/util/ArrayList", name := "<init>", desc := "()V" } : Jvm.MethodName) ∈ WS := wm 52 (by decide +kernel) (by decide +kernel)
theorem tb_33 : Jvm.Cond.code ({ cls := "java/util/ArrayList", name := "<init>", desc := "()V" } : Jvm.MethodName) prog_22_method_2_code (1 : Nat) (Option.none : Option Jvm.ClassFile.FieldType) ∈ WS := wm 53 (by decide +kernel) (by decide +kernel)
theorem tb_34 : Jvm.Cond.methodLink "java/util/ArrayList" (1 : Nat) ({ cls := "java/util/AbstractList", name := "<init>", desc := "()V" } : Jvm.MethodName) ∈ WS := wm 54 (by decide +kernel) (by decide +kernel)
theorem tb_35 : Jvm.Cond.instanceMethod ({ cls := "java/util/AbstractList", name := "<init>", desc := "()V" } : Jvm.MethodName) ∈ WS := wm 55 (by decide +kernel) (by decide +kernel)
theorem tb_36 : Jvm.Cond.code ({ cls := "java/util/AbstractList", name := "<init>", desc := "()V" } : Jvm.MethodName) prog_21_method_1_code (1 : Nat) (Option.none : Option Jvm.ClassFile.FieldType) ∈ WS := wm 56 (by decide +kernel) (by decide +kernel)
theorem tb_37 : Jvm.Cond.methodLink "java/util/AbstractList" (1 : Nat) ({ cls := "java/util/AbstractCollection", name := "<init>", desc := "()V" } : Jvm.MethodName) ∈ WS := wm 57 (by decide +kernel) (by decide +kernel)
theorem tb_38 : Jvm.Cond.instanceMethod ({ cls := "java/util/AbstractCollection", name := "<init>", desc := "()V" } : Jvm.MethodName) ∈ WS := wm 58 (by decide +kernel) (by decide +kernel)
theorem tb_39 : Jvm.Cond.code ({ cls := "java/util/AbstractCollection", name := "<init>", desc := "()V" } : Jvm.MethodName) prog_20_method_1_code (1 : Nat) (Option.none : Option Jvm.ClassFile.FieldType) ∈ WS := wm 59 (by decide +kernel) (by decide +kernel)
theorem tb_40 : Jvm.Cond.methodLink "java/util/AbstractCollection" (1 : Nat) ({ cls := "java/lang/Object", name := "<init>", desc := "()V" } : Jvm.MethodName) ∈ WS := wm 60 (by decide +kernel) (by decide +kernel)
theorem tb_41 : Jvm.Cond.fieldLink "java/util/ArrayList" (39 : Nat) "java/util/ArrayList" "DEFAULTCAPACITY_EMPTY_ELEMENTDATA" "[Ljava/lang/Object;" ∈ WS := wm 61 (by decide +kernel) (by decide +kernel)
theorem tb_43 : Jvm.Cond.fieldLink "java/util/ArrayList" (9 : Nat) "java/util/ArrayList" "elementData" "[Ljava/lang/Object;" ∈ WS := wm 63 (by decide +kernel) (by decide +kernel)
theorem tb_44 : Jvm.Cond.fieldLink "java/util/ArrayList" (48 : Nat) "java/util/ArrayList" "size" "I" ∈ WS := wm 64 (by decide +kernel) (by decide +kernel)
theorem tb_45 : Jvm.Cond.fieldLink "java/util/AbstractList" (7 : Nat) "java/util/AbstractList" "modCount" "I" ∈ WS := wm 65 (by decide +kernel) (by decide +kernel)
theorem tb_46 : Jvm.Cond.fieldLink "java/util/ArrayList" (63 : Nat) "java/util/ArrayList" "modCount" "I" ∈ WS := wm 66 (by decide +kernel) (by decide +kernel)
theorem tb_47 : Jvm.Cond.sameField "java/util/ArrayList" "java/util/AbstractList" "modCount" "I" ∈ WS := wm 67 (by decide +kernel) (by decide +kernel)
theorem tb_48 : Jvm.Cond.lays "java/util/ArrayList" "java/util/ArrayList" "elementData" "[Ljava/lang/Object;" ∈ WS := wm 68 (by decide +kernel) (by decide +kernel)
theorem tb_49 : Jvm.Cond.soleField "java/util/ArrayList" "elementData" ∈ WS := wm 69 (by decide +kernel) (by decide +kernel)
theorem tb_50 : Jvm.Cond.lays "java/util/ArrayList" "java/util/ArrayList" "size" "I" ∈ WS := wm 70 (by decide +kernel) (by decide +kernel)
theorem tb_51 : Jvm.Cond.soleField "java/util/ArrayList" "size" ∈ WS := wm 71 (by decide +kernel) (by decide +kernel)
theorem tb_52 : Jvm.Cond.lays "java/util/ArrayList" "java/util/AbstractList" "modCount" "I" ∈ WS := wm 72 (by decide +kernel) (by decide +kernel)
theorem tb_53 : Jvm.Cond.soleField "java/util/AbstractList" "modCount" ∈ WS := wm 73 (by decide +kernel) (by decide +kernel)
theorem tb_54 : Jvm.Cond.superclass "java/util/ArrayList" "java/util/AbstractList" ∈ WS := wm 74 (by decide +kernel) (by decide +kernel)
theorem tb_55 : Jvm.Cond.classLink "DialectAtlas" (33 : Nat) "DialectAtlas$StepCounter" ∈ WS := wm 75 (by decide +kernel) (by decide +kernel)
theorem tb_56 : Jvm.Cond.instantiable "DialectAtlas$StepCounter" (1 : Nat) ∈ WS := wm 76 (by decide +kernel) (by decide +kernel)
theorem tn_57 : Jvm.Cond.methodLinkNest "DialectAtlas" (35 : Nat) ({ cls := "DialectAtlas$StepCounter", name := "<init>", desc := "()V" } : Jvm.MethodName) "DialectAtlas" ∈ NGW := nm 77 (by decide +kernel) (by decide +kernel)
theorem tb_58 : Jvm.Cond.instanceMethod ({ cls := "DialectAtlas$StepCounter", name := "<init>", desc := "()V" } : Jvm.MethodName) ∈ WS := wm 78 (by decide +kernel) (by decide +kernel)
theorem tb_59 : Jvm.Cond.code ({ cls := "DialectAtlas$StepCounter", name := "<init>", desc := "()V" } : Jvm.MethodName) prog_4_method_1_code (1 : Nat) (Option.none : Option Jvm.ClassFile.FieldType) ∈ WS := wm 79 (by decide +kernel) (by decide +kernel)
theorem tb_60 : Jvm.Cond.methodLink "DialectAtlas$StepCounter" (3 : Nat) ({ cls := "java/lang/Object", name := "<init>", desc := "()V" } : Jvm.MethodName) ∈ WS := wm 80 (by decide +kernel) (by decide +kernel)
theorem tb_61 : Jvm.Cond.fieldLink "DialectAtlas$StepCounter" (9 : Nat) "DialectAtlas$StepCounter" "row" "[I" ∈ WS := wm 81 (by decide +kernel) (by decide +kernel)
theorem tb_62 : Jvm.Cond.laysFinal "DialectAtlas$StepCounter" "DialectAtlas$StepCounter" "row" "[I" ∈ WS := wm 82 (by decide +kernel) (by decide +kernel)
theorem tb_63 : Jvm.Cond.soleField "DialectAtlas$StepCounter" "row" ∈ WS := wm 83 (by decide +kernel) (by decide +kernel)
theorem tb_64 : Jvm.Cond.superclass "DialectAtlas$StepCounter" "java/lang/Object" ∈ WS := wm 84 (by decide +kernel) (by decide +kernel)
theorem tb_65 : Jvm.Cond.arrayClass Jvm.ClassFile.FieldType.int ∈ WS := wm 85 (by decide +kernel) (by decide +kernel)
theorem tb_66 : Jvm.Cond.arrayClass Jvm.ClassFile.FieldType.long ∈ WS := wm 86 (by decide +kernel) (by decide +kernel)
theorem tb_67 : Jvm.Cond.methodLink "DialectAtlas" (51 : Nat) ({ cls := "java/util/Arrays", name := "fill", desc := "([II)V" } : Jvm.MethodName) ∈ WS := wm 87 (by decide +kernel) (by decide +kernel)
theorem tb_68 : Jvm.Cond.static ({ cls := "java/util/Arrays", name := "fill", desc := "([II)V" } : Jvm.MethodName) ∈ WS := wm 88 (by decide +kernel) (by decide +kernel)
theorem tb_69 : Jvm.Cond.code ({ cls := "java/util/Arrays", name := "fill", desc := "([II)V" } : Jvm.MethodName) prog_23_method_103_code (4 : Nat) (Option.none : Option Jvm.ClassFile.FieldType) ∈ WS := wm 89 (by decide +kernel) (by decide +kernel)
theorem tb_70 : Jvm.Cond.fieldLink "DialectAtlas" (10 : Nat) "DialectAtlas" "interviews" "Ljava/util/ArrayList;" ∈ WS := wm 90 (by decide +kernel) (by decide +kernel)
theorem tb_71 : Jvm.Cond.fieldLink "DialectAtlas" (16 : Nat) "DialectAtlas" "rules" "Ljava/util/ArrayList;" ∈ WS := wm 91 (by decide +kernel) (by decide +kernel)
theorem tb_72 : Jvm.Cond.fieldLink "DialectAtlas" (19 : Nat) "DialectAtlas" "quotes" "Ljava/util/ArrayList;" ∈ WS := wm 92 (by decide +kernel) (by decide +kernel)
theorem tb_73 : Jvm.Cond.fieldLink "DialectAtlas" (22 : Nat) "DialectAtlas" "roots" "[I" ∈ WS := wm 93 (by decide +kernel) (by decide +kernel)
theorem tb_74 : Jvm.Cond.fieldLink "DialectAtlas" (26 : Nat) "DialectAtlas" "keptLines" "[I" ∈ WS := wm 94 (by decide +kernel) (by decide +kernel)
theorem tb_75 : Jvm.Cond.fieldLink "DialectAtlas" (29 : Nat) "DialectAtlas" "knownAt" "[J" ∈ WS := wm 95 (by decide +kernel) (by decide +kernel)
theorem tb_76 : Jvm.Cond.fieldLink "DialectAtlas" (36 : Nat) "DialectAtlas" "stepCounter" "LDialectAtlas$StepCounter;" ∈ WS := wm 96 (by decide +kernel) (by decide +kernel)
theorem tb_77 : Jvm.Cond.fieldLink "DialectAtlas" (40 : Nat) "DialectAtlas" "there" "J" ∈ WS := wm 97 (by decide +kernel) (by decide +kernel)
theorem tb_78 : Jvm.Cond.fieldLink "DialectAtlas" (44 : Nat) "DialectAtlas" "draft" "I" ∈ WS := wm 98 (by decide +kernel) (by decide +kernel)
theorem tb_79 : Jvm.Cond.fieldLink "DialectAtlas" (48 : Nat) "DialectAtlas" "draftLength" "I" ∈ WS := wm 99 (by decide +kernel) (by decide +kernel)
theorem tb_80 : Jvm.Cond.laysFinal "DialectAtlas" "DialectAtlas" "interviews" "Ljava/util/ArrayList;" ∈ WS := wm 100 (by decide +kernel) (by decide +kernel)
theorem tb_81 : Jvm.Cond.soleField "DialectAtlas" "interviews" ∈ WS := wm 101 (by decide +kernel) (by decide +kernel)
theorem tb_82 : Jvm.Cond.laysFinal "DialectAtlas" "DialectAtlas" "rules" "Ljava/util/ArrayList;" ∈ WS := wm 102 (by decide +kernel) (by decide +kernel)
theorem tb_83 : Jvm.Cond.soleField "DialectAtlas" "rules" ∈ WS := wm 103 (by decide +kernel) (by decide +kernel)
theorem tb_84 : Jvm.Cond.laysFinal "DialectAtlas" "DialectAtlas" "quotes" "Ljava/util/ArrayList;" ∈ WS := wm 104 (by decide +kernel) (by decide +kernel)
theorem tb_85 : Jvm.Cond.soleField "DialectAtlas" "quotes" ∈ WS := wm 105 (by decide +kernel) (by decide +kernel)
theorem tb_86 : Jvm.Cond.laysFinal "DialectAtlas" "DialectAtlas" "roots" "[I" ∈ WS := wm 106 (by decide +kernel) (by decide +kernel)
theorem tb_87 : Jvm.Cond.soleField "DialectAtlas" "roots" ∈ WS := wm 107 (by decide +kernel) (by decide +kernel)
theorem tb_88 : Jvm.Cond.laysFinal "DialectAtlas" "DialectAtlas" "keptLines" "[I" ∈ WS := wm 108 (by decide +kernel) (by decide +kernel)
theorem tb_89 : Jvm.Cond.soleField "DialectAtlas" "keptLines" ∈ WS := wm 109 (by decide +kernel) (by decide +kernel)
theorem tb_90 : Jvm.Cond.laysFinal "DialectAtlas" "DialectAtlas" "knownAt" "[J" ∈ WS := wm 110 (by decide +kernel) (by decide +kernel)
theorem tb_91 : Jvm.Cond.soleField "DialectAtlas" "knownAt" ∈ WS := wm 111 (by decide +kernel) (by decide +kernel)
theorem tb_92 : Jvm.Cond.laysFinal "DialectAtlas" "DialectAtlas" "stepCounter" "LDialectAtlas$StepCounter;" ∈ WS := wm 112 (by decide +kernel) (by decide +kernel)
theorem tb_93 : Jvm.Cond.soleField "DialectAtlas" "stepCounter" ∈ WS := wm 113 (by decide +kernel) (by decide +kernel)
theorem tb_94 : Jvm.Cond.lays "DialectAtlas" "DialectAtlas" "there" "J" ∈ WS := wm 114 (by decide +kernel) (by decide +kernel)
theorem tb_95 : Jvm.Cond.soleField "DialectAtlas" "there" ∈ WS := wm 115 (by decide +kernel) (by decide +kernel)
theorem tb_96 : Jvm.Cond.lays "DialectAtlas" "DialectAtlas" "draft" "I" ∈ WS := wm 116 (by decide +kernel) (by decide +kernel)
theorem tb_97 : Jvm.Cond.soleField "DialectAtlas" "draft" ∈ WS := wm 117 (by decide +kernel) (by decide +kernel)
theorem tb_98 : Jvm.Cond.lays "DialectAtlas" "DialectAtlas" "draftLength" "I" ∈ WS := wm 118 (by decide +kernel) (by decide +kernel)
theorem tb_99 : Jvm.Cond.soleField "DialectAtlas" "draftLength" ∈ WS := wm 119 (by decide +kernel) (by decide +kernel)
theorem tb_100 : Jvm.Cond.superclass "DialectAtlas" "java/lang/Object" ∈ WS := wm 120 (by decide +kernel) (by decide +kernel)
theorem tb_101 : Jvm.Cond.methodLink "DialectAtlasLaw" (112 : Nat) ({ cls := "DialectAtlasLaw", name := "cell", desc := "([II)I" } : Jvm.MethodName) ∈ WS := wm 121 (by decide +kernel) (by decide +kernel)
theorem tb_102 : Jvm.Cond.static ({ cls := "DialectAtlasLaw", name := "cell", desc := "([II)I" } : Jvm.MethodName) ∈ WS := wm 122 (by decide +kernel) (by decide +kernel)
theorem tb_103 : Jvm.Cond.code ({ cls := "DialectAtlasLaw", name := "cell", desc := "([II)I" } : Jvm.MethodName) method_2_code (2 : Nat) (Option.some Jvm.ClassFile.FieldType.int) ∈ WS := wm 123 (by decide +kernel) (by decide +kernel)
theorem tb_104 : Jvm.Cond.constant "DialectAtlasLaw" (7 : Nat) (50821 : Int32) ∈ WS := wm 124 (by decide +kernel) (by decide +kernel)
theorem tb_105 : Jvm.Cond.constant "DialectAtlasLaw" (8 : Nat) (2140613 : Int32) ∈ WS := wm 125 (by decide +kernel) (by decide +kernel)
theorem tb_106 : Jvm.Cond.methodLink "DialectAtlasLaw" (58 : Nat) ({ cls := "DialectAtlasLaw", name := "low", desc := "(II)I" } : Jvm.MethodName) ∈ WS := wm 126 (by decide +kernel) (by decide +kernel)
theorem tb_107 : Jvm.Cond.static ({ cls := "DialectAtlasLaw", name := "low", desc := "(II)I" } : Jvm.MethodName) ∈ WS := wm 127 (by decide +kernel) (by decide +kernel)
theorem tb_108 : Jvm.Cond.code ({ cls := "DialectAtlasLaw", name := "low", desc := "(II)I" } : Jvm.MethodName) method_3_code (2 : Nat) (Option.some Jvm.ClassFile.FieldType.int) ∈ WS := wm 128 (by decide +kernel) (by decide +kernel)
theorem tb_109 : Jvm.Cond.constant "DialectAtlasLaw" (9 : Nat) (2147483647 : Int32) ∈ WS := wm 129 (by decide +kernel) (by decide +kernel)
theorem tb_110 : Jvm.Cond.methodLink "DialectAtlasLaw" (124 : Nat) ({ cls := "DialectAtlasLaw", name := "isSo", desc := "(LDialectAtlas;I[I[I[I[I[I[I[I[I)Z" } : Jvm.MethodName) ∈ WS := wm 130 (by decide +kernel) (by decide +kernel)
theorem tb_111 : Jvm.Cond.static ({ cls := "DialectAtlasLaw", name := "isSo", desc := "(LDialectAtlas;I[I[I[I[I[I[I[I[I)Z" } : Jvm.MethodName) ∈ WS := wm 131 (by decide +kernel) (by decide +kernel)
theorem tb_112 : Jvm.Cond.code ({ cls := "DialectAtlasLaw", name := "isSo", desc := "(LDialectAtlas;I[I[I[I[I[I[I[I[I)Z" } : Jvm.MethodName) method_13_code (14 : Nat) (Option.some Jvm.ClassFile.FieldType.boolean) ∈ WS := wm 132 (by decide +kernel) (by decide +kernel)
theorem tb_113 : Jvm.Cond.methodLink "DialectAtlasLaw" (61 : Nat) ({ cls := "DialectAtlasLaw", name := "isMap", desc := "(LDialectAtlas;I[I[I[I)Z" } : Jvm.MethodName) ∈ WS := wm 133 (by decide +kernel) (by decide +kernel)
theorem tb_114 : Jvm.Cond.static ({ cls := "DialectAtlasLaw", name := "isMap", desc := "(LDialectAtlas;I[I[I[I)Z" } : Jvm.MethodName) ∈ WS := wm 134 (by decide +kernel) (by decide +kernel)
theorem tb_115 : Jvm.Cond.code ({ cls := "DialectAtlasLaw", name := "isMap", desc := "(LDialectAtlas;I[I[I[I)Z" } : Jvm.MethodName) method_12_code (10 : Nat) (Option.some Jvm.ClassFile.FieldType.boolean) ∈ WS := wm 135 (by decide +kernel) (by decide +kernel)
theorem tb_116 : Jvm.Cond.methodLink "DialectAtlasLaw" (46 : Nat) ({ cls := "DialectAtlasLaw", name := "formAt", desc := "(II[I[I[I)I" } : Jvm.MethodName) ∈ WS := wm 136 (by decide +kernel) (by decide +kernel)
theorem tb_117 : Jvm.Cond.static ({ cls := "DialectAtlasLaw", name := "formAt", desc := "(II[I[I[I)I" } : Jvm.MethodName) ∈ WS := wm 137 (by decide +kernel) (by decide +kernel)
theorem tb_118 : Jvm.Cond.code ({ cls := "DialectAtlasLaw", name := "formAt", desc := "(II[I[I[I)I" } : Jvm.MethodName) method_10_code (10 : Nat) (Option.some Jvm.ClassFile.FieldType.int) ∈ WS := wm 138 (by decide +kernel) (by decide +kernel)
theorem tb_119 : Jvm.Cond.methodLink "DialectAtlasLaw" (42 : Nat) ({ cls := "DialectAtlasLaw", name := "there", desc := "(III[I[I)Z" } : Jvm.MethodName) ∈ WS := wm 139 (by decide +kernel) (by decide +kernel)
theorem tb_120 : Jvm.Cond.static ({ cls := "DialectAtlasLaw", name := "there", desc := "(III[I[I)Z" } : Jvm.MethodName) ∈ WS := wm 140 (by decide +kernel) (by decide +kernel)
theorem tb_121 : Jvm.Cond.code ({ cls := "DialectAtlasLaw", name := "there", desc := "(III[I[I)Z" } : Jvm.MethodName) method_9_code (5 : Nat) (Option.some Jvm.ClassFile.FieldType.boolean) ∈ WS := wm 141 (by decide +kernel) (by decide +kernel)
theorem tb_122 : Jvm.Cond.methodLink "DialectAtlasLaw" (50 : Nat) ({ cls := "DialectAtlas", name := "formAt", desc := "(II)I" } : Jvm.MethodName) ∈ WS := wm 142 (by decide +kernel) (by decide +kernel)
theorem tb_123 : Jvm.Cond.instanceMethod ({ cls := "DialectAtlas", name := "formAt", desc := "(II)I" } : Jvm.MethodName) ∈ WS := wm 143 (by decide +kernel) (by decide +kernel)
theorem tb_124 : Jvm.Cond.selects "DialectAtlas" ({ cls := "DialectAtlas", name := "formAt", desc := "(II)I" } : Jvm.MethodName) ({ cls := "DialectAtlas", name := "formAt", desc := "(II)I" } : Jvm.MethodName) ∈ WS := wm 144 (by decide +kernel) (by decide +kernel)
theorem tb_125 : Jvm.Cond.code ({ cls := "DialectAtlas", name := "formAt", desc := "(II)I" } : Jvm.MethodName) prog_1_method_11_code (3 : Nat) (Option.some Jvm.ClassFile.FieldType.int) ∈ WS := wm 145 (by decide +kernel) (by decide +kernel)
theorem tb_126 : Jvm.Cond.methodLink "DialectAtlas" (57 : Nat) ({ cls := "DialectAtlas", name := "isOutside", desc := "(II)Z" } : Jvm.MethodName) ∈ WS := wm 146 (by decide +kernel) (by decide +kernel)
theorem tb_127 : Jvm.Cond.static ({ cls := "DialectAtlas", name := "isOutside", desc := "(II)Z" } : Jvm.MethodName) ∈ WS := wm 147 (by decide +kernel) (by decide +kernel)
theorem tb_128 : Jvm.Cond.code ({ cls := "DialectAtlas", name := "isOutside", desc := "(II)Z" } : Jvm.MethodName) prog_1_method_20_code (2 : Nat) (Option.some Jvm.ClassFile.FieldType.boolean) ∈ WS := wm 148 (by decide +kernel) (by decide +kernel)
theorem tb_129 : Jvm.Cond.classLink "DialectAtlas" (61 : Nat) "java/lang/IndexOutOfBoundsException" ∈ WS := wm 149 (by decide +kernel) (by decide +kernel)
theorem tb_130 : Jvm.Cond.instantiable "java/lang/IndexOutOfBoundsException" (6 : Nat) ∈ WS := wm 150 (by decide +kernel) (by decide +kernel)
theorem tn_131 : Jvm.Cond.castable "java/lang/IndexOutOfBoundsException" "java/lang/IndexOutOfBoundsException" ∈ NGW := nm 151 (by decide +kernel) (by decide +kernel)
theorem tn_132 : Jvm.Cond.declares ({ cls := "java/lang/RuntimeException", name := "<init>", desc := "()V" } : Jvm.MethodName) ∈ NGW := nm 152 (by decide +kernel) (by decide +kernel)
theorem tn_133 : Jvm.Cond.declares ({ cls := "java/lang/RuntimeException", name := "<init>", desc := "(Ljava/lang/String;)V" } : Jvm.MethodName) ∈ NGW := nm 153 (by decide +kernel) (by decide +kernel)
theorem tn_134 : Jvm.Cond.declares ({ cls := "java/lang/Exception", name := "<init>", desc := "()V" } : Jvm.MethodName) ∈ NGW := nm 154 (by decide +kernel) (by decide +kernel)
theorem tn_135 : Jvm.Cond.declares ({ cls := "java/lang/Exception", name := "<init>", desc := "(Ljava/lang/String;)V" } : Jvm.MethodName) ∈ NGW := nm 155 (by decide +kernel) (by decide +kernel)
theorem tn_136 : Jvm.Cond.declares ({ cls := "java/lang/Throwable", name := "<init>", desc := "()V" } : Jvm.MethodName) ∈ NGW := nm 156 (by decide +kernel) (by decide +kernel)
theorem tn_137 : Jvm.Cond.declares ({ cls := "java/lang/Throwable", name := "<init>", desc := "(Ljava/lang/String;)V" } : Jvm.MethodName) ∈ NGW := nm 157 (by decide +kernel) (by decide +kernel)
theorem tb_138 : Jvm.Cond.selects "java/lang/IndexOutOfBoundsException" ({ cls := "java/lang/Throwable", name := "fillInStackTrace", desc := "(I)Ljava/lang/Throwable;" } : Jvm.MethodName) ({ cls := "java/lang/Throwable", name := "fillInStackTrace", desc := "(I)Ljava/lang/Throwable;" } : Jvm.MethodName) ∈ WS := wm 158 (by decide +kernel) (by decide +kernel)
theorem tb_139 : Jvm.Cond.selects "java/lang/IndexOutOfBoundsException" ({ cls := "java/lang/Throwable", name := "fillInStackTrace", desc := "()Ljava/lang/Throwable;" } : Jvm.MethodName) ({ cls := "java/lang/Throwable", name := "fillInStackTrace", desc := "()Ljava/lang/Throwable;" } : Jvm.MethodName) ∈ WS := wm 159 (by decide +kernel) (by decide +kernel)
theorem tb_140 : Jvm.Cond.lays "java/lang/IndexOutOfBoundsException" "java/lang/Throwable" "cause" "Ljava/lang/Throwable;" ∈ WS := wm 160 (by decide +kernel) (by decide +kernel)
theorem tb_141 : Jvm.Cond.lays "java/lang/Throwable" "java/lang/Throwable" "cause" "Ljava/lang/Throwable;" ∈ WS := wm 161 (by decide +kernel) (by decide +kernel)
theorem tb_142 : Jvm.Cond.lays "java/lang/IndexOutOfBoundsException" "java/lang/Throwable" "stackTrace" "[Ljava/lang/StackTraceElement;" ∈ WS := wm 162 (by decide +kernel) (by decide +kernel)
theorem tb_143 : Jvm.Cond.lays "java/lang/Throwable" "java/lang/Throwable" "stackTrace" "[Ljava/lang/StackTraceElement;" ∈ WS := wm 163 (by decide +kernel) (by decide +kernel)
theorem tb_144 : Jvm.Cond.lays "java/lang/IndexOutOfBoundsException" "java/lang/Throwable" "suppressedExceptions" "Ljava/util/List;" ∈ WS := wm 164 (by decide +kernel) (by decide +kernel)
theorem tb_145 : Jvm.Cond.lays "java/lang/Throwable" "java/lang/Throwable" "suppressedExceptions" "Ljava/util/List;" ∈ WS := wm 165 (by decide +kernel) (by decide +kernel)
theorem tb_146 : Jvm.Cond.lays "java/lang/IndexOutOfBoundsException" "java/lang/Throwable" "detailMessage" "Ljava/lang/String;" ∈ WS := wm 166 (by decide +kernel) (by decide +kernel)
theorem tb_147 : Jvm.Cond.lays "java/lang/Throwable" "java/lang/Throwable" "detailMessage" "Ljava/lang/String;" ∈ WS := wm 167 (by decide +kernel) (by decide +kernel)
theorem tb_148 : Jvm.Cond.lays "java/lang/IndexOutOfBoundsException" "java/lang/Throwable" "backtrace" "Ljava/lang/Object;" ∈ WS := wm 168 (by decide +kernel) (by decide +kernel)
theorem tb_149 : Jvm.Cond.lays "java/lang/Throwable" "java/lang/Throwable" "backtrace" "Ljava/lang/Object;" ∈ WS := wm 169 (by decide +kernel) (by decide +kernel)
theorem tb_150 : Jvm.Cond.fieldLink "java/lang/Throwable" (198 : Nat) "java/lang/Throwable" "backtrace" "Ljava/lang/Object;" ∈ WS := wm 170 (by decide +kernel) (by decide +kernel)
theorem tb_151 : Jvm.Cond.superclass "java/lang/Throwable" "java/lang/Object" ∈ WS := wm 171 (by decide +kernel) (by decide +kernel)
theorem tb_152 : Jvm.Cond.instanceMethod ({ cls := "java/lang/Throwable", name := "<init>", desc := "()V" } : Jvm.MethodName) ∈ WS := wm 172 (by decide +kernel) (by decide +kernel)
theorem tb_153 : Jvm.Cond.code ({ cls := "java/lang/Throwable", name := "<init>", desc := "()V" } : Jvm.MethodName) prog_19_method_1_code (1 : Nat) (Option.none : Option Jvm.ClassFile.FieldType) ∈ WS := wm 173 (by decide +kernel) (by decide +kernel)
theorem tb_154 : Jvm.Cond.methodLink "java/lang/Throwable" (1 : Nat) ({ cls := "java/lang/Object", name := "<init>", desc := "()V" } : Jvm.MethodName) ∈ WS := wm 174 (by decide +kernel) (by decide +kernel)
theorem tb_155 : Jvm.Cond.fieldLink "java/lang/Throwable" (13 : Nat) "java/lang/Throwable" "UNASSIGNED_STACK" "[Ljava/lang/StackTraceElement;" ∈ WS := wm 175 (by decide +kernel) (by decide +kernel)
theorem tb_157 : Jvm.Cond.fieldLink "java/lang/Throwable" (20 : Nat) "java/lang/Throwable" "SUPPRESSED_SENTINEL" "Ljava/util/List;" ∈ WS := wm 177 (by decide +kernel) (by decide +kernel)
theorem tb_159 : Jvm.Cond.methodLink "java/lang/Throwable" (27 : Nat) ({ cls := "java/lang/Throwable", name := "fillInStackTrace", desc := "()Ljava/lang/Throwable;" } : Jvm.MethodName) ∈ WS := wm 179 (by decide +kernel) (by decide +kernel)
theorem tb_160 : Jvm.Cond.instanceMethod ({ cls := "java/lang/Throwable", name := "fillInStackTrace", desc := "()Ljava/lang/Throwable;" } : Jvm.MethodName) ∈ WS := wm 180 (by decide +kernel) (by decide +kernel)
theorem tb_161 : Jvm.Cond.sameMethod "java/lang/Throwable" "java/lang/Throwable" "fillInStackTrace" "()Ljava/lang/Throwable;" ∈ WS := wm 181 (by decide +kernel) (by decide +kernel)
theorem tb_162 : Jvm.Cond.selects "java/lang/IllegalArgumentException" ({ cls := "java/lang/Throwable", name := "fillInStackTrace", desc := "()Ljava/lang/Throwable;" } : Jvm.MethodName) ({ cls := "java/lang/Throwable", name := "fillInStackTrace", desc := "()Ljava/lang/Throwable;" } : Jvm.MethodName) ∈ WS := wm 182 (by decide +kernel) (by decide +kernel)
theorem tb_163 : Jvm.Cond.selects "java/lang/IllegalStateException" ({ cls := "java/lang/Throwable", name := "fillInStackTrace", desc := "()Ljava/lang/Throwable;" } : Jvm.MethodName) ({ cls := "java/lang/Throwable", name := "fillInStackTrace", desc := "()Ljava/lang/Throwable;" } : Jvm.MethodName) ∈ WS := wm 183 (by decide +kernel) (by decide +kernel)
theorem tb_164 : Jvm.Cond.codeSync ({ cls := "java/lang/Throwable", name := "fillInStackTrace", desc := "()Ljava/lang/Throwable;" } : Jvm.MethodName) prog_19_method_18_code (1 : Nat) (Option.some (Jvm.ClassFile.FieldType.object "java/lang/Throwable")) ∈ WS := wm 184 (by decide +kernel) (by decide +kernel)
theorem tb_165 : Jvm.Cond.methodLink "java/lang/Throwable" (202 : Nat) ({ cls := "java/lang/Throwable", name := "fillInStackTrace", desc := "(I)Ljava/lang/Throwable;" } : Jvm.MethodName) ∈ WS := wm 185 (by decide +kernel) (by decide +kernel)
theorem tb_167 : Jvm.Cond.instanceMethod ({ cls := "java/lang/Throwable", name := "fillInStackTrace", desc := "(I)Ljava/lang/Throwable;" } : Jvm.MethodName) ∈ WS := wm 187 (by decide +kernel) (by decide +kernel)
theorem tb_168 : Jvm.Cond.instantiable "java/lang/Throwable" (6 : Nat) ∈ WS := wm 188 (by decide +kernel) (by decide +kernel)
theorem tb_169 : Jvm.Cond.native ({ cls := "java/lang/Throwable", name := "fillInStackTrace", desc := "(I)Ljava/lang/Throwable;" } : Jvm.MethodName) ∈ WS := wm 189 (by decide +kernel) (by decide +kernel)
theorem tb_171 : Jvm.Cond.methodLink "DialectAtlas" (65 : Nat) ({ cls := "java/lang/IndexOutOfBoundsException", name := "<init>", desc := "(Ljava/lang/String;)V" } : Jvm.MethodName) ∈ WS := wm 191 (by decide +kernel) (by decide +kernel)
theorem tb_172 : Jvm.Cond.instanceMethod ({ cls := "java/lang/IndexOutOfBoundsException", name := "<init>", desc := "(Ljava/lang/String;)V" } : Jvm.MethodName) ∈ WS := wm 192 (by decide +kernel) (by decide +kernel)
theorem tb_173 : Jvm.Cond.code ({ cls := "java/lang/IndexOutOfBoundsException", name := "<init>", desc := "(Ljava/lang/String;)V" } : Jvm.MethodName) prog_12_method_2_code (2 : Nat) (Option.none : Option Jvm.ClassFile.FieldType) ∈ WS := wm 193 (by decide +kernel) (by decide +kernel)
theorem tb_174 : Jvm.Cond.methodLink "java/lang/IndexOutOfBoundsException" (7 : Nat) ({ cls := "java/lang/RuntimeException", name := "<init>", desc := "(Ljava/lang/String;)V" } : Jvm.MethodName) ∈ WS := wm 194 (by decide +kernel) (by decide +kernel)
theorem tb_175 : Jvm.Cond.instanceMethod ({ cls := "java/lang/RuntimeException", name := "<init>", desc := "(Ljava/lang/String;)V" } : Jvm.MethodName) ∈ WS := wm 195 (by decide +kernel) (by decide +kernel)
theorem tb_176 : Jvm.Cond.code ({ cls := "java/lang/RuntimeException", name := "<init>", desc := "(Ljava/lang/String;)V" } : Jvm.MethodName) prog_16_method_2_code (2 : Nat) (Option.none : Option Jvm.ClassFile.FieldType) ∈ WS := wm 196 (by decide +kernel) (by decide +kernel)
theorem tb_177 : Jvm.Cond.methodLink "java/lang/RuntimeException" (7 : Nat) ({ cls := "java/lang/Exception", name := "<init>", desc := "(Ljava/lang/String;)V" } : Jvm.MethodName) ∈ WS := wm 197 (by decide +kernel) (by decide +kernel)
theorem tb_178 : Jvm.Cond.instanceMethod ({ cls := "java/lang/Exception", name := "<init>", desc := "(Ljava/lang/String;)V" } : Jvm.MethodName) ∈ WS := wm 198 (by decide +kernel) (by decide +kernel)
theorem tb_179 : Jvm.Cond.code ({ cls := "java/lang/Exception", name := "<init>", desc := "(Ljava/lang/String;)V" } : Jvm.MethodName) prog_9_method_2_code (2 : Nat) (Option.none : Option Jvm.ClassFile.FieldType) ∈ WS := wm 199 (by decide +kernel) (by decide +kernel)
theorem tb_180 : Jvm.Cond.methodLink "java/lang/Exception" (7 : Nat) ({ cls := "java/lang/Throwable", name := "<init>", desc := "(Ljava/lang/String;)V" } : Jvm.MethodName) ∈ WS := wm 200 (by decide +kernel) (by decide +kernel)
theorem tb_181 : Jvm.Cond.instanceMethod ({ cls := "java/lang/Throwable", name := "<init>", desc := "(Ljava/lang/String;)V" } : Jvm.MethodName) ∈ WS := wm 201 (by decide +kernel) (by decide +kernel)
theorem tb_182 : Jvm.Cond.code ({ cls := "java/lang/Throwable", name := "<init>", desc := "(Ljava/lang/String;)V" } : Jvm.MethodName) prog_19_method_2_code (2 : Nat) (Option.none : Option Jvm.ClassFile.FieldType) ∈ WS := wm 202 (by decide +kernel) (by decide +kernel)
theorem tb_184 : Jvm.Cond.fieldLink "java/lang/Throwable" (31 : Nat) "java/lang/Throwable" "detailMessage" "Ljava/lang/String;" ∈ WS := wm 204 (by decide +kernel) (by decide +kernel)
theorem tb_185 : Jvm.Cond.fieldLink "java/lang/Throwable" (7 : Nat) "java/lang/Throwable" "cause" "Ljava/lang/Throwable;" ∈ WS := wm 205 (by decide +kernel) (by decide +kernel)
theorem tb_186 : Jvm.Cond.fieldLink "java/lang/Throwable" (17 : Nat) "java/lang/Throwable" "stackTrace" "[Ljava/lang/StackTraceElement;" ∈ WS := wm 206 (by decide +kernel) (by decide +kernel)
theorem tb_187 : Jvm.Cond.fieldLink "java/lang/Throwable" (24 : Nat) "java/lang/Throwable" "suppressedExceptions" "Ljava/util/List;" ∈ WS := wm 207 (by decide +kernel) (by decide +kernel)
theorem tb_188 : Jvm.Cond.soleField "java/lang/Throwable" "backtrace" ∈ WS := wm 208 (by decide +kernel) (by decide +kernel)
theorem tb_189 : Jvm.Cond.soleField "java/lang/Throwable" "detailMessage" ∈ WS := wm 209 (by decide +kernel) (by decide +kernel)
theorem tb_190 : Jvm.Cond.soleField "java/lang/Throwable" "cause" ∈ WS := wm 210 (by decide +kernel) (by decide +kernel)
theorem tb_191 : Jvm.Cond.soleField "java/lang/Throwable" "stackTrace" ∈ WS := wm 211 (by decide +kernel) (by decide +kernel)
theorem tb_192 : Jvm.Cond.lays "java/lang/IndexOutOfBoundsException" "java/lang/Throwable" "depth" "I" ∈ WS := wm 212 (by decide +kernel) (by decide +kernel)
theorem tb_193 : Jvm.Cond.soleField "java/lang/Throwable" "depth" ∈ WS := wm 213 (by decide +kernel) (by decide +kernel)
theorem tb_194 : Jvm.Cond.soleField "java/lang/Throwable" "suppressedExceptions" ∈ WS := wm 214 (by decide +kernel) (by decide +kernel)
theorem tb_195 : Jvm.Cond.superclass "java/lang/IndexOutOfBoundsException" "java/lang/RuntimeException" ∈ WS := wm 215 (by decide +kernel) (by decide +kernel)
theorem tb_196 : Jvm.Cond.arrayClass Jvm.ClassFile.FieldType.byte ∈ WS := wm 216 (by decide +kernel) (by decide +kernel)
theorem tb_197 : Jvm.Cond.methodLink "DialectAtlas" (184 : Nat) ({ cls := "DialectAtlas", name := "mostToldForm", desc := "(II)I" } : Jvm.MethodName) ∈ WS := wm 217 (by decide +kernel) (by decide +kernel)
theorem tb_199 : Jvm.Cond.instanceMethod ({ cls := "DialectAtlas", name := "mostToldForm", desc := "(II)I" } : Jvm.MethodName) ∈ WS := wm 219 (by decide +kernel) (by decide +kernel)
theorem tb_200 : Jvm.Cond.code ({ cls := "DialectAtlas", name := "mostToldForm", desc := "(II)I" } : Jvm.MethodName) prog_1_method_27_code (8 : Nat) (Option.some Jvm.ClassFile.FieldType.int) ∈ WS := wm 220 (by decide +kernel) (by decide +kernel)
theorem tb_201 : Jvm.Cond.methodLink "DialectAtlas" (80 : Nat) ({ cls := "java/util/ArrayList", name := "size", desc := "()I" } : Jvm.MethodName) ∈ WS := wm 221 (by decide +kernel) (by decide +kernel)
theorem tb_202 : Jvm.Cond.instanceMethod ({ cls := "java/util/ArrayList", name := "size", desc := "()I" } : Jvm.MethodName) ∈ WS := wm 222 (by decide +kernel) (by decide +kernel)
theorem tb_203 : Jvm.Cond.selects "java/util/ArrayList" ({ cls := "java/util/ArrayList", name := "size", desc := "()I" } : Jvm.MethodName) ({ cls := "java/util/ArrayList", name := "size", desc := "()I" } : Jvm.MethodName) ∈ WS := wm 223 (by decide +kernel) (by decide +kernel)
theorem tb_204 : Jvm.Cond.code ({ cls := "java/util/ArrayList", name := "size", desc := "()I" } : Jvm.MethodName) prog_22_method_8_code (1 : Nat) (Option.some Jvm.ClassFile.FieldType.int) ∈ WS := wm 224 (by decide +kernel) (by decide +kernel)
theorem tb_205 : Jvm.Cond.methodLink "DialectAtlas" (108 : Nat) ({ cls := "java/util/ArrayList", name := "get", desc := "(I)Ljava/lang/Object;" } : Jvm.MethodName) ∈ WS := wm 225 (by decide +kernel) (by decide +kernel)
theorem tb_206 : Jvm.Cond.instanceMethod ({ cls := "java/util/ArrayList", name := "get", desc := "(I)Ljava/lang/Object;" } : Jvm.MethodName) ∈ WS := wm 226 (by decide +kernel) (by decide +kernel)
theorem tb_207 : Jvm.Cond.selects "java/util/ArrayList" ({ cls := "java/util/ArrayList", name := "get", desc := "(I)Ljava/lang/Object;" } : Jvm.MethodName) ({ cls := "java/util/ArrayList", name := "get", desc := "(I)Ljava/lang/Object;" } : Jvm.MethodName) ∈ WS := wm 227 (by decide +kernel) (by decide +kernel)
theorem tb_208 : Jvm.Cond.code ({ cls := "java/util/ArrayList", name := "get", desc := "(I)Ljava/lang/Object;" } : Jvm.MethodName) prog_22_method_20_code (2 : Nat) (Option.some (Jvm.ClassFile.FieldType.object "java/lang/Object")) ∈ WS := wm 228 (by decide +kernel) (by decide +kernel)
theorem tb_209 : Jvm.Cond.methodLink "java/util/ArrayList" (118 : Nat) ({ cls := "java/util/Objects", name := "checkIndex", desc := "(II)I" } : Jvm.MethodName) ∈ WS := wm 229 (by decide +kernel) (by decide +kernel)
theorem tb_210 : Jvm.Cond.static ({ cls := "java/util/Objects", name := "checkIndex", desc := "(II)I" } : Jvm.MethodName) ∈ WS := wm 230 (by decide +kernel) (by decide +kernel)
theorem tb_211 : Jvm.Cond.code ({ cls := "java/util/Objects", name := "checkIndex", desc := "(II)I" } : Jvm.MethodName) prog_26_method_17_code (2 : Nat) (Option.some Jvm.ClassFile.FieldType.int) ∈ WS := wm 231 (by decide +kernel) (by decide +kernel)
theorem tb_212 : Jvm.Cond.methodLink "java/util/Objects" (105 : Nat) ({ cls := "jdk/internal/util/Preconditions", name := "checkIndex", desc := "(IILjava/util/function/BiFunction;)I" } : Jvm.MethodName) ∈ WS := wm 232 (by decide +kernel) (by decide +kernel)
theorem tb_213 : Jvm.Cond.static ({ cls := "jdk/internal/util/Preconditions", name := "checkIndex", desc := "(IILjava/util/function/BiFunction;)I" } : Jvm.MethodName) ∈ WS := wm 233 (by decide +kernel) (by decide +kernel)
theorem tb_214 : Jvm.Cond.code ({ cls := "jdk/internal/util/Preconditions", name := "checkIndex", desc := "(IILjava/util/function/BiFunction;)I" } : Jvm.MethodName) prog_30_method_11_code (3 : Nat) (Option.some Jvm.ClassFile.FieldType.int) ∈ WS := wm 234 (by decide +kernel) (by decide +kernel)
theorem tb_215 : Jvm.Cond.methodLink "java/util/ArrayList" (123 : Nat) ({ cls := "java/util/ArrayList", name := "elementData", desc := "(I)Ljava/lang/Object;" } : Jvm.MethodName) ∈ WS := wm 235 (by decide +kernel) (by decide +kernel)
theorem tb_216 : Jvm.Cond.instanceMethod ({ cls := "java/util/ArrayList", name := "elementData", desc := "(I)Ljava/lang/Object;" } : Jvm.MethodName) ∈ WS := wm 236 (by decide +kernel) (by decide +kernel)
theorem tb_217 : Jvm.Cond.selects "java/util/ArrayList" ({ cls := "java/util/ArrayList", name := "elementData", desc := "(I)Ljava/lang/Object;" } : Jvm.MethodName) ({ cls := "java/util/ArrayList", name := "elementData", desc := "(I)Ljava/lang/Object;" } : Jvm.MethodName) ∈ WS := wm 237 (by decide +kernel) (by decide +kernel)
theorem tb_218 : Jvm.Cond.code ({ cls := "java/util/ArrayList", name := "elementData", desc := "(I)Ljava/lang/Object;" } : Jvm.MethodName) prog_22_method_18_code (2 : Nat) (Option.some (Jvm.ClassFile.FieldType.object "java/lang/Object")) ∈ WS := wm 238 (by decide +kernel) (by decide +kernel)
theorem tb_219 : Jvm.Cond.classLink "DialectAtlas" (86 : Nat) "DialectAtlas$Interview" ∈ WS := wm 239 (by decide +kernel) (by decide +kernel)
theorem tb_220 : Jvm.Cond.methodLink "DialectAtlas" (139 : Nat) ({ cls := "DialectAtlas", name := "isThere", desc := "(LDialectAtlas$Interview;)Z" } : Jvm.MethodName) ∈ WS := wm 240 (by decide +kernel) (by decide +kernel)
theorem tb_222 : Jvm.Cond.instanceMethod ({ cls := "DialectAtlas", name := "isThere", desc := "(LDialectAtlas$Interview;)Z" } : Jvm.MethodName) ∈ WS := wm 242 (by decide +kernel) (by decide +kernel)
theorem tb_223 : Jvm.Cond.code ({ cls := "DialectAtlas", name := "isThere", desc := "(LDialectAtlas$Interview;)Z" } : Jvm.MethodName) prog_1_method_23_code (2 : Nat) (Option.some Jvm.ClassFile.FieldType.boolean) ∈ WS := wm 243 (by decide +kernel) (by decide +kernel)
theorem tn_224 : Jvm.Cond.methodLinkNest "DialectAtlas" (214 : Nat) ({ cls := "DialectAtlas$Interview", name := "isFor", desc := "(II)Z" } : Jvm.MethodName) "DialectAtlas" ∈ NGW := nm 244 (by decide +kernel) (by decide +kernel)
theorem tb_226 : Jvm.Cond.instanceMethod ({ cls := "DialectAtlas$Interview", name := "isFor", desc := "(II)Z" } : Jvm.MethodName) ∈ WS := wm 246 (by decide +kernel) (by decide +kernel)
theorem tb_227 : Jvm.Cond.instantiable "DialectAtlas$Interview" (6 : Nat) ∈ WS := wm 247 (by decide +kernel) (by decide +kernel)
theorem tb_228 : Jvm.Cond.code ({ cls := "DialectAtlas$Interview", name := "isFor", desc := "(II)Z" } : Jvm.MethodName) prog_2_method_2_code (3 : Nat) (Option.some Jvm.ClassFile.FieldType.boolean) ∈ WS := wm 248 (by decide +kernel) (by decide +kernel)
theorem tb_229 : Jvm.Cond.methodLink "DialectAtlas" (217 : Nat) ({ cls := "DialectAtlas", name := "countLike", desc := "(LDialectAtlas$Interview;)I" } : Jvm.MethodName) ∈ WS := wm 249 (by decide +kernel) (by decide +kernel)
theorem tb_231 : Jvm.Cond.instanceMethod ({ cls := "DialectAtlas", name := "countLike", desc := "(LDialectAtlas$Interview;)I" } : Jvm.MethodName) ∈ WS := wm 251 (by decide +kernel) (by decide +kernel)
theorem tb_232 : Jvm.Cond.code ({ cls := "DialectAtlas", name := "countLike", desc := "(LDialectAtlas$Interview;)I" } : Jvm.MethodName) prog_1_method_28_code (5 : Nat) (Option.some Jvm.ClassFile.FieldType.int) ∈ WS := wm 252 (by decide +kernel) (by decide +kernel)
theorem tb_233 : Jvm.Cond.methodLink "DialectAtlasLaw" (52 : Nat) ({ cls := "DialectAtlas", name := "lines", desc := "(I)I" } : Jvm.MethodName) ∈ WS := wm 253 (by decide +kernel) (by decide +kernel)
theorem tb_234 : Jvm.Cond.instanceMethod ({ cls := "DialectAtlas", name := "lines", desc := "(I)I" } : Jvm.MethodName) ∈ WS := wm 254 (by decide +kernel) (by decide +kernel)
theorem tb_235 : Jvm.Cond.selects "DialectAtlas" ({ cls := "DialectAtlas", name := "lines", desc := "(I)I" } : Jvm.MethodName) ({ cls := "DialectAtlas", name := "lines", desc := "(I)I" } : Jvm.MethodName) ∈ WS := wm 255 (by decide +kernel) (by decide +kernel)
theorem tb_236 : Jvm.Cond.code ({ cls := "DialectAtlas", name := "lines", desc := "(I)I" } : Jvm.MethodName) prog_1_method_12_code (2 : Nat) (Option.some Jvm.ClassFile.FieldType.int) ∈ WS := wm 256 (by decide +kernel) (by decide +kernel)
theorem tb_238 : Jvm.Cond.methodLink "DialectAtlasLaw" (55 : Nat) ({ cls := "DialectAtlas", name := "linesByForms", desc := "(I)I" } : Jvm.MethodName) ∈ WS := wm 258 (by decide +kernel) (by decide +kernel)
theorem tb_239 : Jvm.Cond.instanceMethod ({ cls := "DialectAtlas", name := "linesByForms", desc := "(I)I" } : Jvm.MethodName) ∈ WS := wm 259 (by decide +kernel) (by decide +kernel)
theorem tb_240 : Jvm.Cond.selects "DialectAtlas" ({ cls := "DialectAtlas", name := "linesByForms", desc := "(I)I" } : Jvm.MethodName) ({ cls := "DialectAtlas", name := "linesByForms", desc := "(I)I" } : Jvm.MethodName) ∈ WS := wm 260 (by decide +kernel) (by decide +kernel)
theorem tb_241 : Jvm.Cond.code ({ cls := "DialectAtlas", name := "linesByForms", desc := "(I)I" } : Jvm.MethodName) prog_1_method_13_code (2 : Nat) (Option.some Jvm.ClassFile.FieldType.int) ∈ WS := wm 261 (by decide +kernel) (by decide +kernel)
theorem tb_242 : Jvm.Cond.methodLink "DialectAtlas" (98 : Nat) ({ cls := "DialectAtlas", name := "drawLines", desc := "(I)I" } : Jvm.MethodName) ∈ WS := wm 262 (by decide +kernel) (by decide +kernel)
theorem tb_244 : Jvm.Cond.instanceMethod ({ cls := "DialectAtlas", name := "drawLines", desc := "(I)I" } : Jvm.MethodName) ∈ WS := wm 264 (by decide +kernel) (by decide +kernel)
theorem tb_245 : Jvm.Cond.code ({ cls := "DialectAtlas", name := "drawLines", desc := "(I)I" } : Jvm.MethodName) prog_1_method_29_code (6 : Nat) (Option.some Jvm.ClassFile.FieldType.int) ∈ WS := wm 265 (by decide +kernel) (by decide +kernel)
theorem tb_246 : Jvm.Cond.methodLink "DialectAtlasLaw" (65 : Nat) ({ cls := "DialectAtlas", name := "form", desc := "(I)I" } : Jvm.MethodName) ∈ WS := wm 266 (by decide +kernel) (by decide +kernel)
theorem tb_247 : Jvm.Cond.instanceMethod ({ cls := "DialectAtlas", name := "form", desc := "(I)I" } : Jvm.MethodName) ∈ WS := wm 267 (by decide +kernel) (by decide +kernel)
theorem tb_248 : Jvm.Cond.selects "DialectAtlas" ({ cls := "DialectAtlas", name := "form", desc := "(I)I" } : Jvm.MethodName) ({ cls := "DialectAtlas", name := "form", desc := "(I)I" } : Jvm.MethodName) ∈ WS := wm 268 (by decide +kernel) (by decide +kernel)
theorem tb_249 : Jvm.Cond.code ({ cls := "DialectAtlas", name := "form", desc := "(I)I" } : Jvm.MethodName) prog_1_method_5_code (2 : Nat) (Option.some Jvm.ClassFile.FieldType.int) ∈ WS := wm 269 (by decide +kernel) (by decide +kernel)
theorem tb_251 : Jvm.Cond.methodLink "DialectAtlas" (112 : Nat) ({ cls := "DialectAtlas", name := "formIfThere", desc := "(LDialectAtlas$Interview;)I" } : Jvm.MethodName) ∈ WS := wm 271 (by decide +kernel) (by decide +kernel)
theorem tb_253 : Jvm.Cond.instanceMethod ({ cls := "DialectAtlas", name := "formIfThere", desc := "(LDialectAtlas$Interview;)I" } : Jvm.MethodName) ∈ WS := wm 273 (by decide +kernel) (by decide +kernel)
theorem tb_254 : Jvm.Cond.code ({ cls := "DialectAtlas", name := "formIfThere", desc := "(LDialectAtlas$Interview;)I" } : Jvm.MethodName) prog_1_method_24_code (2 : Nat) (Option.some Jvm.ClassFile.FieldType.int) ∈ WS := wm 274 (by decide +kernel) (by decide +kernel)
theorem tb_255 : Jvm.Cond.methodLink "DialectAtlasLaw" (68 : Nat) ({ cls := "DialectAtlas", name := "far", desc := "(I)I" } : Jvm.MethodName) ∈ WS := wm 275 (by decide +kernel) (by decide +kernel)
theorem tb_256 : Jvm.Cond.instanceMethod ({ cls := "DialectAtlas", name := "far", desc := "(I)I" } : Jvm.MethodName) ∈ WS := wm 276 (by decide +kernel) (by decide +kernel)
theorem tb_257 : Jvm.Cond.selects "DialectAtlas" ({ cls := "DialectAtlas", name := "far", desc := "(I)I" } : Jvm.MethodName) ({ cls := "DialectAtlas", name := "far", desc := "(I)I" } : Jvm.MethodName) ∈ WS := wm 277 (by decide +kernel) (by decide +kernel)
theorem tb_258 : Jvm.Cond.code ({ cls := "DialectAtlas", name := "far", desc := "(I)I" } : Jvm.MethodName) prog_1_method_10_code (4 : Nat) (Option.some Jvm.ClassFile.FieldType.int) ∈ WS := wm 278 (by decide +kernel) (by decide +kernel)
theorem tb_259 : Jvm.Cond.methodLink "DialectAtlas" (164 : Nat) ({ cls := "DialectAtlas", name := "applyRules", desc := "(III)I" } : Jvm.MethodName) ∈ WS := wm 279 (by decide +kernel) (by decide +kernel)
theorem tb_261 : Jvm.Cond.instanceMethod ({ cls := "DialectAtlas", name := "applyRules", desc := "(III)I" } : Jvm.MethodName) ∈ WS := wm 281 (by decide +kernel) (by decide +kernel)
theorem tb_262 : Jvm.Cond.code ({ cls := "DialectAtlas", name := "applyRules", desc := "(III)I" } : Jvm.MethodName) prog_1_method_26_code (7 : Nat) (Option.some Jvm.ClassFile.FieldType.int) ∈ WS := wm 282 (by decide +kernel) (by decide +kernel)
theorem tb_263 : Jvm.Cond.classLink "DialectAtlas" (128 : Nat) "DialectAtlas$Rule" ∈ WS := wm 283 (by decide +kernel) (by decide +kernel)
theorem tn_264 : Jvm.Cond.methodLinkNest "DialectAtlas" (208 : Nat) ({ cls := "DialectAtlas$Rule", name := "goesAt", desc := "(II)Z" } : Jvm.MethodName) "DialectAtlas" ∈ NGW := nm 284 (by decide +kernel) (by decide +kernel)
theorem tb_266 : Jvm.Cond.instanceMethod ({ cls := "DialectAtlas$Rule", name := "goesAt", desc := "(II)Z" } : Jvm.MethodName) ∈ WS := wm 286 (by decide +kernel) (by decide +kernel)
theorem tb_267 : Jvm.Cond.instantiable "DialectAtlas$Rule" (8 : Nat) ∈ WS := wm 287 (by decide +kernel) (by decide +kernel)
theorem tb_268 : Jvm.Cond.code ({ cls := "DialectAtlas$Rule", name := "goesAt", desc := "(II)Z" } : Jvm.MethodName) prog_3_method_4_code (3 : Nat) (Option.some Jvm.ClassFile.FieldType.boolean) ∈ WS := wm 288 (by decide +kernel) (by decide +kernel)
theorem tn_269 : Jvm.Cond.methodLinkNest "DialectAtlas" (211 : Nat) ({ cls := "DialectAtlas$Rule", name := "applyTo", desc := "(I)I" } : Jvm.MethodName) "DialectAtlas" ∈ NGW := nm 289 (by decide +kernel) (by decide +kernel)
theorem tb_271 : Jvm.Cond.instanceMethod ({ cls := "DialectAtlas$Rule", name := "applyTo", desc := "(I)I" } : Jvm.MethodName) ∈ WS := wm 291 (by decide +kernel) (by decide +kernel)
theorem tb_272 : Jvm.Cond.code ({ cls := "DialectAtlas$Rule", name := "applyTo", desc := "(I)I" } : Jvm.MethodName) prog_3_method_6_code (9 : Nat) (Option.some Jvm.ClassFile.FieldType.int) ∈ WS := wm 292 (by decide +kernel) (by decide +kernel)
theorem tb_273 : Jvm.Cond.methodLink "DialectAtlas$Rule" (45 : Nat) ({ cls := "DialectAtlas$Rule", name := "changes", desc := "(II)Z" } : Jvm.MethodName) ∈ WS := wm 293 (by decide +kernel) (by decide +kernel)
theorem tb_275 : Jvm.Cond.instanceMethod ({ cls := "DialectAtlas$Rule", name := "changes", desc := "(II)Z" } : Jvm.MethodName) ∈ WS := wm 295 (by decide +kernel) (by decide +kernel)
theorem tb_276 : Jvm.Cond.code ({ cls := "DialectAtlas$Rule", name := "changes", desc := "(II)Z" } : Jvm.MethodName) prog_3_method_5_code (3 : Nat) (Option.some Jvm.ClassFile.FieldType.boolean) ∈ WS := wm 296 (by decide +kernel) (by decide +kernel)
theorem tn_277 : Jvm.Cond.methodLinkNest "DialectAtlas" (180 : Nat) ({ cls := "DialectAtlas$StepCounter", name := "countSteps", desc := "(II)I" } : Jvm.MethodName) "DialectAtlas" ∈ NGW := nm 297 (by decide +kernel) (by decide +kernel)
theorem tb_279 : Jvm.Cond.instanceMethod ({ cls := "DialectAtlas$StepCounter", name := "countSteps", desc := "(II)I" } : Jvm.MethodName) ∈ WS := wm 299 (by decide +kernel) (by decide +kernel)
theorem tb_280 : Jvm.Cond.code ({ cls := "DialectAtlas$StepCounter", name := "countSteps", desc := "(II)I" } : Jvm.MethodName) prog_4_method_2_code (6 : Nat) (Option.some Jvm.ClassFile.FieldType.int) ∈ WS := wm 300 (by decide +kernel) (by decide +kernel)
theorem tb_281 : Jvm.Cond.methodLink "DialectAtlas$StepCounter" (15 : Nat) ({ cls := "DialectAtlas$StepCounter", name := "goThrough", desc := "(II)I" } : Jvm.MethodName) ∈ WS := wm 301 (by decide +kernel) (by decide +kernel)
theorem tb_283 : Jvm.Cond.instanceMethod ({ cls := "DialectAtlas$StepCounter", name := "goThrough", desc := "(II)I" } : Jvm.MethodName) ∈ WS := wm 303 (by decide +kernel) (by decide +kernel)
theorem tb_284 : Jvm.Cond.code ({ cls := "DialectAtlas$StepCounter", name := "goThrough", desc := "(II)I" } : Jvm.MethodName) prog_4_method_3_code (8 : Nat) (Option.some Jvm.ClassFile.FieldType.int) ∈ WS := wm 304 (by decide +kernel) (by decide +kernel)
theorem tb_285 : Jvm.Cond.methodLink "DialectAtlas$StepCounter" (19 : Nat) ({ cls := "java/lang/Math", name := "min", desc := "(II)I" } : Jvm.MethodName) ∈ WS := wm 305 (by decide +kernel) (by decide +kernel)
theorem tb_286 : Jvm.Cond.static ({ cls := "java/lang/Math", name := "min", desc := "(II)I" } : Jvm.MethodName) ∈ WS := wm 306 (by decide +kernel) (by decide +kernel)
theorem tb_287 : Jvm.Cond.code ({ cls := "java/lang/Math", name := "min", desc := "(II)I" } : Jvm.MethodName) prog_15_method_69_code (2 : Nat) (Option.some Jvm.ClassFile.FieldType.int) ∈ WS := wm 307 (by decide +kernel) (by decide +kernel)
theorem tb_288 : Jvm.Cond.methodLink "DialectAtlasLaw" (71 : Nat) ({ cls := "DialectAtlasLaw", name := "expected", desc := "(III[I[I)I" } : Jvm.MethodName) ∈ WS := wm 308 (by decide +kernel) (by decide +kernel)
theorem tb_289 : Jvm.Cond.static ({ cls := "DialectAtlasLaw", name := "expected", desc := "(III[I[I)I" } : Jvm.MethodName) ∈ WS := wm 309 (by decide +kernel) (by decide +kernel)
theorem tb_290 : Jvm.Cond.code ({ cls := "DialectAtlasLaw", name := "expected", desc := "(III[I[I)I" } : Jvm.MethodName) method_7_code (8 : Nat) (Option.some Jvm.ClassFile.FieldType.int) ∈ WS := wm 310 (by decide +kernel) (by decide +kernel)
theorem tb_291 : Jvm.Cond.methodLink "DialectAtlasLaw" (32 : Nat) ({ cls := "DialectAtlasLaw", name := "applied", desc := "(II[I)I" } : Jvm.MethodName) ∈ WS := wm 311 (by decide +kernel) (by decide +kernel)
theorem tb_292 : Jvm.Cond.static ({ cls := "DialectAtlasLaw", name := "applied", desc := "(II[I)I" } : Jvm.MethodName) ∈ WS := wm 312 (by decide +kernel) (by decide +kernel)
theorem tb_293 : Jvm.Cond.code ({ cls := "DialectAtlasLaw", name := "applied", desc := "(II[I)I" } : Jvm.MethodName) method_6_code (10 : Nat) (Option.some Jvm.ClassFile.FieldType.int) ∈ WS := wm 313 (by decide +kernel) (by decide +kernel)
theorem tb_294 : Jvm.Cond.methodLink "DialectAtlasLaw" (75 : Nat) ({ cls := "DialectAtlasLaw", name := "steps", desc := "(II[I[I[I)I" } : Jvm.MethodName) ∈ WS := wm 314 (by decide +kernel) (by decide +kernel)
theorem tb_295 : Jvm.Cond.static ({ cls := "DialectAtlasLaw", name := "steps", desc := "(II[I[I[I)I" } : Jvm.MethodName) ∈ WS := wm 315 (by decide +kernel) (by decide +kernel)
theorem tb_296 : Jvm.Cond.code ({ cls := "DialectAtlasLaw", name := "steps", desc := "(II[I[I[I)I" } : Jvm.MethodName) method_8_code (13 : Nat) (Option.some Jvm.ClassFile.FieldType.int) ∈ WS := wm 316 (by decide +kernel) (by decide +kernel)
theorem tb_297 : Jvm.Cond.methodLink "DialectAtlasLaw" (38 : Nat) ({ cls := "DialectAtlasLaw", name := "sounds", desc := "(I[I)I" } : Jvm.MethodName) ∈ WS := wm 317 (by decide +kernel) (by decide +kernel)
theorem tb_298 : Jvm.Cond.static ({ cls := "DialectAtlasLaw", name := "sounds", desc := "(I[I)I" } : Jvm.MethodName) ∈ WS := wm 318 (by decide +kernel) (by decide +kernel)
theorem tb_299 : Jvm.Cond.code ({ cls := "DialectAtlasLaw", name := "sounds", desc := "(I[I)I" } : Jvm.MethodName) method_5_code (4 : Nat) (Option.some Jvm.ClassFile.FieldType.int) ∈ WS := wm 319 (by decide +kernel) (by decide +kernel)
theorem tb_300 : Jvm.Cond.methodLink "DialectAtlasLaw" (78 : Nat) ({ cls := "DialectAtlas", name := "stands", desc := "(I)Z" } : Jvm.MethodName) ∈ WS := wm 320 (by decide +kernel) (by decide +kernel)
theorem tb_301 : Jvm.Cond.instanceMethod ({ cls := "DialectAtlas", name := "stands", desc := "(I)Z" } : Jvm.MethodName) ∈ WS := wm 321 (by decide +kernel) (by decide +kernel)
theorem tb_302 : Jvm.Cond.selects "DialectAtlas" ({ cls := "DialectAtlas", name := "stands", desc := "(I)Z" } : Jvm.MethodName) ({ cls := "DialectAtlas", name := "stands", desc := "(I)Z" } : Jvm.MethodName) ∈ WS := wm 322 (by decide +kernel) (by decide +kernel)
theorem tb_303 : Jvm.Cond.code ({ cls := "DialectAtlas", name := "stands", desc := "(I)Z" } : Jvm.MethodName) prog_1_method_8_code (2 : Nat) (Option.some Jvm.ClassFile.FieldType.boolean) ∈ WS := wm 323 (by decide +kernel) (by decide +kernel)
theorem tb_305 : Jvm.Cond.methodLink "DialectAtlasLaw" (82 : Nat) ({ cls := "DialectAtlas", name := "quoted", desc := "(I)I" } : Jvm.MethodName) ∈ WS := wm 325 (by decide +kernel) (by decide +kernel)
theorem tb_306 : Jvm.Cond.instanceMethod ({ cls := "DialectAtlas", name := "quoted", desc := "(I)I" } : Jvm.MethodName) ∈ WS := wm 326 (by decide +kernel) (by decide +kernel)
theorem tb_307 : Jvm.Cond.selects "DialectAtlas" ({ cls := "DialectAtlas", name := "quoted", desc := "(I)I" } : Jvm.MethodName) ({ cls := "DialectAtlas", name := "quoted", desc := "(I)I" } : Jvm.MethodName) ∈ WS := wm 327 (by decide +kernel) (by decide +kernel)
theorem tb_308 : Jvm.Cond.code ({ cls := "DialectAtlas", name := "quoted", desc := "(I)I" } : Jvm.MethodName) prog_1_method_19_code (2 : Nat) (Option.some Jvm.ClassFile.FieldType.int) ∈ WS := wm 328 (by decide +kernel) (by decide +kernel)
theorem tb_310 : Jvm.Cond.methodLink "DialectAtlasLaw" (85 : Nat) ({ cls := "DialectAtlas", name := "owed", desc := "(I)I" } : Jvm.MethodName) ∈ WS := wm 330 (by decide +kernel) (by decide +kernel)
theorem tb_311 : Jvm.Cond.instanceMethod ({ cls := "DialectAtlas", name := "owed", desc := "(I)I" } : Jvm.MethodName) ∈ WS := wm 331 (by decide +kernel) (by decide +kernel)
theorem tb_312 : Jvm.Cond.selects "DialectAtlas" ({ cls := "DialectAtlas", name := "owed", desc := "(I)I" } : Jvm.MethodName) ({ cls := "DialectAtlas", name := "owed", desc := "(I)I" } : Jvm.MethodName) ∈ WS := wm 332 (by decide +kernel) (by decide +kernel)
theorem tb_313 : Jvm.Cond.code ({ cls := "DialectAtlas", name := "owed", desc := "(I)I" } : Jvm.MethodName) prog_1_method_17_code (2 : Nat) (Option.some Jvm.ClassFile.FieldType.int) ∈ WS := wm 333 (by decide +kernel) (by decide +kernel)
theorem tb_315 : Jvm.Cond.constantLong "DialectAtlas" (193 : Nat) (-1 : Int64) ∈ WS := wm 335 (by decide +kernel) (by decide +kernel)
theorem tb_316 : Jvm.Cond.methodLink "DialectAtlas" (154 : Nat) ({ cls := "java/lang/Long", name := "bitCount", desc := "(J)I" } : Jvm.MethodName) ∈ WS := wm 336 (by decide +kernel) (by decide +kernel)
theorem tb_317 : Jvm.Cond.static ({ cls := "java/lang/Long", name := "bitCount", desc := "(J)I" } : Jvm.MethodName) ∈ WS := wm 337 (by decide +kernel) (by decide +kernel)
theorem tb_318 : Jvm.Cond.code ({ cls := "java/lang/Long", name := "bitCount", desc := "(J)I" } : Jvm.MethodName) prog_14_method_50_code (2 : Nat) (Option.some Jvm.ClassFile.FieldType.int) ∈ WS := wm 338 (by decide +kernel) (by decide +kernel)
theorem tb_319 : Jvm.Cond.constantLong "java/lang/Long" (314 : Nat) (6148914691236517205 : Int64) ∈ WS := wm 339 (by decide +kernel) (by decide +kernel)
theorem tb_320 : Jvm.Cond.constantLong "java/lang/Long" (316 : Nat) (3689348814741910323 : Int64) ∈ WS := wm 340 (by decide +kernel) (by decide +kernel)
theorem tb_321 : Jvm.Cond.constantLong "java/lang/Long" (318 : Nat) (1085102592571150095 : Int64) ∈ WS := wm 341 (by decide +kernel) (by decide +kernel)
theorem tb_322 : Jvm.Cond.methodLink "DialectAtlasLaw" (88 : Nat) ({ cls := "DialectAtlasLaw", name := "bits", desc := "(I)I" } : Jvm.MethodName) ∈ WS := wm 342 (by decide +kernel) (by decide +kernel)
theorem tb_323 : Jvm.Cond.static ({ cls := "DialectAtlasLaw", name := "bits", desc := "(I)I" } : Jvm.MethodName) ∈ WS := wm 343 (by decide +kernel) (by decide +kernel)
theorem tb_324 : Jvm.Cond.code ({ cls := "DialectAtlasLaw", name := "bits", desc := "(I)I" } : Jvm.MethodName) method_11_code (3 : Nat) (Option.some Jvm.ClassFile.FieldType.int) ∈ WS := wm 344 (by decide +kernel) (by decide +kernel)
theorem tb_325 : Jvm.Cond.methodLink "DialectAtlasLaw" (91 : Nat) ({ cls := "DialectAtlas", name := "expected", desc := "(III)I" } : Jvm.MethodName) ∈ WS := wm 345 (by decide +kernel) (by decide +kernel)
theorem tb_326 : Jvm.Cond.instanceMethod ({ cls := "DialectAtlas", name := "expected", desc := "(III)I" } : Jvm.MethodName) ∈ WS := wm 346 (by decide +kernel) (by decide +kernel)
theorem tb_327 : Jvm.Cond.selects "DialectAtlas" ({ cls := "DialectAtlas", name := "expected", desc := "(III)I" } : Jvm.MethodName) ({ cls := "DialectAtlas", name := "expected", desc := "(III)I" } : Jvm.MethodName) ∈ WS := wm 347 (by decide +kernel) (by decide +kernel)
theorem tb_328 : Jvm.Cond.code ({ cls := "DialectAtlas", name := "expected", desc := "(III)I" } : Jvm.MethodName) prog_1_method_9_code (4 : Nat) (Option.some Jvm.ClassFile.FieldType.int) ∈ WS := wm 348 (by decide +kernel) (by decide +kernel)
theorem tb_329 : Jvm.Cond.classLink "DialectAtlas" (75 : Nat) "java/lang/IllegalArgumentException" ∈ WS := wm 349 (by decide +kernel) (by decide +kernel)
theorem tb_330 : Jvm.Cond.instantiable "java/lang/IllegalArgumentException" (6 : Nat) ∈ WS := wm 350 (by decide +kernel) (by decide +kernel)
theorem tn_331 : Jvm.Cond.castable "java/lang/IllegalArgumentException" "java/lang/IllegalArgumentException" ∈ NGW := nm 351 (by decide +kernel) (by decide +kernel)
theorem tb_332 : Jvm.Cond.selects "java/lang/IllegalArgumentException" ({ cls := "java/lang/Throwable", name := "fillInStackTrace", desc := "(I)Ljava/lang/Throwable;" } : Jvm.MethodName) ({ cls := "java/lang/Throwable", name := "fillInStackTrace", desc := "(I)Ljava/lang/Throwable;" } : Jvm.MethodName) ∈ WS := wm 352 (by decide +kernel) (by decide +kernel)
theorem tb_333 : Jvm.Cond.lays "java/lang/IllegalArgumentException" "java/lang/Throwable" "cause" "Ljava/lang/Throwable;" ∈ WS := wm 353 (by decide +kernel) (by decide +kernel)
theorem tb_334 : Jvm.Cond.lays "java/lang/IllegalArgumentException" "java/lang/Throwable" "stackTrace" "[Ljava/lang/StackTraceElement;" ∈ WS := wm 354 (by decide +kernel) (by decide +kernel)
theorem tb_335 : Jvm.Cond.lays "java/lang/IllegalArgumentException" "java/lang/Throwable" "suppressedExceptions" "Ljava/util/List;" ∈ WS := wm 355 (by decide +kernel) (by decide +kernel)
theorem tb_336 : Jvm.Cond.lays "java/lang/IllegalArgumentException" "java/lang/Throwable" "detailMessage" "Ljava/lang/String;" ∈ WS := wm 356 (by decide +kernel) (by decide +kernel)
theorem tb_337 : Jvm.Cond.lays "java/lang/IllegalArgumentException" "java/lang/Throwable" "backtrace" "Ljava/lang/Object;" ∈ WS := wm 357 (by decide +kernel) (by decide +kernel)
theorem tb_339 : Jvm.Cond.methodLink "DialectAtlas" (79 : Nat) ({ cls := "java/lang/IllegalArgumentException", name := "<init>", desc := "(Ljava/lang/String;)V" } : Jvm.MethodName) ∈ WS := wm 359 (by decide +kernel) (by decide +kernel)
theorem tb_340 : Jvm.Cond.instanceMethod ({ cls := "java/lang/IllegalArgumentException", name := "<init>", desc := "(Ljava/lang/String;)V" } : Jvm.MethodName) ∈ WS := wm 360 (by decide +kernel) (by decide +kernel)
theorem tb_341 : Jvm.Cond.code ({ cls := "java/lang/IllegalArgumentException", name := "<init>", desc := "(Ljava/lang/String;)V" } : Jvm.MethodName) prog_10_method_2_code (2 : Nat) (Option.none : Option Jvm.ClassFile.FieldType) ∈ WS := wm 361 (by decide +kernel) (by decide +kernel)
theorem tb_342 : Jvm.Cond.methodLink "java/lang/IllegalArgumentException" (7 : Nat) ({ cls := "java/lang/RuntimeException", name := "<init>", desc := "(Ljava/lang/String;)V" } : Jvm.MethodName) ∈ WS := wm 362 (by decide +kernel) (by decide +kernel)
theorem tb_343 : Jvm.Cond.lays "java/lang/IllegalArgumentException" "java/lang/Throwable" "depth" "I" ∈ WS := wm 363 (by decide +kernel) (by decide +kernel)
theorem tb_344 : Jvm.Cond.superclass "java/lang/IllegalArgumentException" "java/lang/RuntimeException" ∈ WS := wm 364 (by decide +kernel) (by decide +kernel)
theorem tb_345 : Jvm.Cond.methodLink "DialectAtlasLaw" (116 : Nat) ({ cls := "DialectAtlasLaw", name := "drafts", desc := "(LDialectAtlas;II[I[I[I)Z" } : Jvm.MethodName) ∈ WS := wm 365 (by decide +kernel) (by decide +kernel)
theorem tb_346 : Jvm.Cond.static ({ cls := "DialectAtlasLaw", name := "drafts", desc := "(LDialectAtlas;II[I[I[I)Z" } : Jvm.MethodName) ∈ WS := wm 366 (by decide +kernel) (by decide +kernel)
theorem tb_347 : Jvm.Cond.code ({ cls := "DialectAtlasLaw", name := "drafts", desc := "(LDialectAtlas;II[I[I[I)Z" } : Jvm.MethodName) method_14_code (11 : Nat) (Option.some Jvm.ClassFile.FieldType.boolean) ∈ WS := wm 367 (by decide +kernel) (by decide +kernel)
theorem tb_348 : Jvm.Cond.methodLink "DialectAtlasLaw" (94 : Nat) ({ cls := "DialectAtlasLaw", name := "calls", desc := "(LDialectAtlas;IIIII)I" } : Jvm.MethodName) ∈ WS := wm 368 (by decide +kernel) (by decide +kernel)
theorem tb_349 : Jvm.Cond.static ({ cls := "DialectAtlasLaw", name := "calls", desc := "(LDialectAtlas;IIIII)I" } : Jvm.MethodName) ∈ WS := wm 369 (by decide +kernel) (by decide +kernel)
theorem tb_350 : Jvm.Cond.codeWith ({ cls := "DialectAtlasLaw", name := "calls", desc := "(LDialectAtlas;IIIII)I" } : Jvm.MethodName) method_4_code (7 : Nat) (Option.some Jvm.ClassFile.FieldType.int) [((0 : Nat), (62 : Nat), (63 : Nat), (30 : Nat))] ∈ WS := wm 370 (by decide +kernel) (by decide +kernel)
theorem tb_351 : Jvm.Cond.classLink "DialectAtlasLaw" (30 : Nat) "java/lang/IllegalStateException" ∈ WS := wm 371 (by decide +kernel) (by decide +kernel)
theorem tb_352 : Jvm.Cond.methodLink "DialectAtlasLaw" (10 : Nat) ({ cls := "DialectAtlas", name := "sound", desc := "(I)I" } : Jvm.MethodName) ∈ WS := wm 372 (by decide +kernel) (by decide +kernel)
theorem tb_353 : Jvm.Cond.instanceMethod ({ cls := "DialectAtlas", name := "sound", desc := "(I)I" } : Jvm.MethodName) ∈ WS := wm 373 (by decide +kernel) (by decide +kernel)
theorem tb_354 : Jvm.Cond.selects "DialectAtlas" ({ cls := "DialectAtlas", name := "sound", desc := "(I)I" } : Jvm.MethodName) ({ cls := "DialectAtlas", name := "sound", desc := "(I)I" } : Jvm.MethodName) ∈ WS := wm 374 (by decide +kernel) (by decide +kernel)
theorem tb_355 : Jvm.Cond.code ({ cls := "DialectAtlas", name := "sound", desc := "(I)I" } : Jvm.MethodName) prog_1_method_2_code (2 : Nat) (Option.some Jvm.ClassFile.FieldType.int) ∈ WS := wm 375 (by decide +kernel) (by decide +kernel)
theorem tb_357 : Jvm.Cond.classLink "DialectAtlas" (68 : Nat) "java/lang/IllegalStateException" ∈ WS := wm 377 (by decide +kernel) (by decide +kernel)
theorem tb_358 : Jvm.Cond.instantiable "java/lang/IllegalStateException" (6 : Nat) ∈ WS := wm 378 (by decide +kernel) (by decide +kernel)
theorem tn_359 : Jvm.Cond.castable "java/lang/IllegalStateException" "java/lang/IllegalStateException" ∈ NGW := nm 379 (by decide +kernel) (by decide +kernel)
theorem tb_360 : Jvm.Cond.selects "java/lang/IllegalStateException" ({ cls := "java/lang/Throwable", name := "fillInStackTrace", desc := "(I)Ljava/lang/Throwable;" } : Jvm.MethodName) ({ cls := "java/lang/Throwable", name := "fillInStackTrace", desc := "(I)Ljava/lang/Throwable;" } : Jvm.MethodName) ∈ WS := wm 380 (by decide +kernel) (by decide +kernel)
theorem tb_361 : Jvm.Cond.lays "java/lang/IllegalStateException" "java/lang/Throwable" "cause" "Ljava/lang/Throwable;" ∈ WS := wm 381 (by decide +kernel) (by decide +kernel)
theorem tb_362 : Jvm.Cond.lays "java/lang/IllegalStateException" "java/lang/Throwable" "stackTrace" "[Ljava/lang/StackTraceElement;" ∈ WS := wm 382 (by decide +kernel) (by decide +kernel)
theorem tb_363 : Jvm.Cond.lays "java/lang/IllegalStateException" "java/lang/Throwable" "suppressedExceptions" "Ljava/util/List;" ∈ WS := wm 383 (by decide +kernel) (by decide +kernel)
theorem tb_364 : Jvm.Cond.lays "java/lang/IllegalStateException" "java/lang/Throwable" "detailMessage" "Ljava/lang/String;" ∈ WS := wm 384 (by decide +kernel) (by decide +kernel)
theorem tb_365 : Jvm.Cond.lays "java/lang/IllegalStateException" "java/lang/Throwable" "backtrace" "Ljava/lang/Object;" ∈ WS := wm 385 (by decide +kernel) (by decide +kernel)
theorem tb_367 : Jvm.Cond.methodLink "DialectAtlas" (72 : Nat) ({ cls := "java/lang/IllegalStateException", name := "<init>", desc := "(Ljava/lang/String;)V" } : Jvm.MethodName) ∈ WS := wm 387 (by decide +kernel) (by decide +kernel)
theorem tb_368 : Jvm.Cond.instanceMethod ({ cls := "java/lang/IllegalStateException", name := "<init>", desc := "(Ljava/lang/String;)V" } : Jvm.MethodName) ∈ WS := wm 388 (by decide +kernel) (by decide +kernel)
theorem tb_369 : Jvm.Cond.code ({ cls := "java/lang/IllegalStateException", name := "<init>", desc := "(Ljava/lang/String;)V" } : Jvm.MethodName) prog_11_method_2_code (2 : Nat) (Option.none : Option Jvm.ClassFile.FieldType) ∈ WS := wm 389 (by decide +kernel) (by decide +kernel)
theorem tb_370 : Jvm.Cond.methodLink "java/lang/IllegalStateException" (7 : Nat) ({ cls := "java/lang/RuntimeException", name := "<init>", desc := "(Ljava/lang/String;)V" } : Jvm.MethodName) ∈ WS := wm 390 (by decide +kernel) (by decide +kernel)
theorem tb_371 : Jvm.Cond.lays "java/lang/IllegalStateException" "java/lang/Throwable" "depth" "I" ∈ WS := wm 391 (by decide +kernel) (by decide +kernel)
theorem tb_372 : Jvm.Cond.superclass "java/lang/IllegalStateException" "java/lang/RuntimeException" ∈ WS := wm 392 (by decide +kernel) (by decide +kernel)
theorem tb_373 : Jvm.Cond.methodLink "DialectAtlasLaw" (16 : Nat) ({ cls := "DialectAtlas", name := "interview", desc := "(IIII)I" } : Jvm.MethodName) ∈ WS := wm 393 (by decide +kernel) (by decide +kernel)
theorem tb_374 : Jvm.Cond.instanceMethod ({ cls := "DialectAtlas", name := "interview", desc := "(IIII)I" } : Jvm.MethodName) ∈ WS := wm 394 (by decide +kernel) (by decide +kernel)
theorem tb_375 : Jvm.Cond.selects "DialectAtlas" ({ cls := "DialectAtlas", name := "interview", desc := "(IIII)I" } : Jvm.MethodName) ({ cls := "DialectAtlas", name := "interview", desc := "(IIII)I" } : Jvm.MethodName) ∈ WS := wm 395 (by decide +kernel) (by decide +kernel)
theorem tb_376 : Jvm.Cond.code ({ cls := "DialectAtlas", name := "interview", desc := "(IIII)I" } : Jvm.MethodName) prog_1_method_3_code (8 : Nat) (Option.some Jvm.ClassFile.FieldType.int) ∈ WS := wm 396 (by decide +kernel) (by decide +kernel)
theorem tb_379 : Jvm.Cond.methodLink "DialectAtlas" (88 : Nat) ({ cls := "DialectAtlas", name := "takeDraft", desc := "()I" } : Jvm.MethodName) ∈ WS := wm 399 (by decide +kernel) (by decide +kernel)
theorem tb_381 : Jvm.Cond.instanceMethod ({ cls := "DialectAtlas", name := "takeDraft", desc := "()I" } : Jvm.MethodName) ∈ WS := wm 401 (by decide +kernel) (by decide +kernel)
theorem tb_382 : Jvm.Cond.code ({ cls := "DialectAtlas", name := "takeDraft", desc := "()I" } : Jvm.MethodName) prog_1_method_22_code (2 : Nat) (Option.some Jvm.ClassFile.FieldType.int) ∈ WS := wm 402 (by decide +kernel) (by decide +kernel)
theorem tn_383 : Jvm.Cond.methodLinkNest "DialectAtlas" (91 : Nat) ({ cls := "DialectAtlas$Interview", name := "<init>", desc := "(JIIIII)V" } : Jvm.MethodName) "DialectAtlas" ∈ NGW := nm 403 (by decide +kernel) (by decide +kernel)
theorem tb_384 : Jvm.Cond.instanceMethod ({ cls := "DialectAtlas$Interview", name := "<init>", desc := "(JIIIII)V" } : Jvm.MethodName) ∈ WS := wm 404 (by decide +kernel) (by decide +kernel)
theorem tb_385 : Jvm.Cond.code ({ cls := "DialectAtlas$Interview", name := "<init>", desc := "(JIIIII)V" } : Jvm.MethodName) prog_2_method_1_code (8 : Nat) (Option.none : Option Jvm.ClassFile.FieldType) ∈ WS := wm 405 (by decide +kernel) (by decide +kernel)
theorem tb_386 : Jvm.Cond.methodLink "DialectAtlas$Interview" (1 : Nat) ({ cls := "java/lang/Object", name := "<init>", desc := "()V" } : Jvm.MethodName) ∈ WS := wm 406 (by decide +kernel) (by decide +kernel)
theorem tb_387 : Jvm.Cond.fieldLink "DialectAtlas$Interview" (7 : Nat) "DialectAtlas$Interview" "bit" "J" ∈ WS := wm 407 (by decide +kernel) (by decide +kernel)
theorem tn_388 : Jvm.Cond.fieldLinkNest "DialectAtlas$Rule" (38 : Nat) "DialectAtlas$Interview" "bit" "J" "DialectAtlas" ∈ NGW := nm 408 (by decide +kernel) (by decide +kernel)
theorem tn_389 : Jvm.Cond.fieldLinkNest "DialectAtlas" (151 : Nat) "DialectAtlas$Interview" "bit" "J" "DialectAtlas" ∈ NGW := nm 409 (by decide +kernel) (by decide +kernel)
theorem tb_390 : Jvm.Cond.fieldLink "DialectAtlas$Interview" (13 : Nat) "DialectAtlas$Interview" "informant" "I" ∈ WS := wm 410 (by decide +kernel) (by decide +kernel)
theorem tn_391 : Jvm.Cond.fieldLinkNest "DialectAtlas" (205 : Nat) "DialectAtlas$Interview" "informant" "I" "DialectAtlas" ∈ NGW := nm 411 (by decide +kernel) (by decide +kernel)
theorem tb_392 : Jvm.Cond.fieldLink "DialectAtlas$Interview" (17 : Nat) "DialectAtlas$Interview" "place" "I" ∈ WS := wm 412 (by decide +kernel) (by decide +kernel)
theorem tn_393 : Jvm.Cond.fieldLinkNest "DialectAtlas" (174 : Nat) "DialectAtlas$Interview" "place" "I" "DialectAtlas" ∈ NGW := nm 413 (by decide +kernel) (by decide +kernel)
theorem tb_394 : Jvm.Cond.fieldLink "DialectAtlas$Interview" (20 : Nat) "DialectAtlas$Interview" "year" "I" ∈ WS := wm 414 (by decide +kernel) (by decide +kernel)
theorem tn_395 : Jvm.Cond.fieldLinkNest "DialectAtlas" (177 : Nat) "DialectAtlas$Interview" "year" "I" "DialectAtlas" ∈ NGW := nm 415 (by decide +kernel) (by decide +kernel)
theorem tb_396 : Jvm.Cond.fieldLink "DialectAtlas$Interview" (23 : Nat) "DialectAtlas$Interview" "word" "I" ∈ WS := wm 416 (by decide +kernel) (by decide +kernel)
theorem tn_397 : Jvm.Cond.fieldLinkNest "DialectAtlas" (168 : Nat) "DialectAtlas$Interview" "word" "I" "DialectAtlas" ∈ NGW := nm 417 (by decide +kernel) (by decide +kernel)
theorem tb_398 : Jvm.Cond.fieldLink "DialectAtlas$Interview" (26 : Nat) "DialectAtlas$Interview" "form" "I" ∈ WS := wm 418 (by decide +kernel) (by decide +kernel)
theorem tn_399 : Jvm.Cond.fieldLinkNest "DialectAtlas" (171 : Nat) "DialectAtlas$Interview" "form" "I" "DialectAtlas" ∈ NGW := nm 419 (by decide +kernel) (by decide +kernel)
theorem tb_400 : Jvm.Cond.laysFinal "DialectAtlas$Interview" "DialectAtlas$Interview" "bit" "J" ∈ WS := wm 420 (by decide +kernel) (by decide +kernel)
theorem tb_401 : Jvm.Cond.soleField "DialectAtlas$Interview" "bit" ∈ WS := wm 421 (by decide +kernel) (by decide +kernel)
theorem tb_402 : Jvm.Cond.laysFinal "DialectAtlas$Interview" "DialectAtlas$Interview" "informant" "I" ∈ WS := wm 422 (by decide +kernel) (by decide +kernel)
theorem tb_403 : Jvm.Cond.soleField "DialectAtlas$Interview" "informant" ∈ WS := wm 423 (by decide +kernel) (by decide +kernel)
theorem tb_404 : Jvm.Cond.laysFinal "DialectAtlas$Interview" "DialectAtlas$Interview" "place" "I" ∈ WS := wm 424 (by decide +kernel) (by decide +kernel)
theorem tb_405 : Jvm.Cond.soleField "DialectAtlas$Interview" "place" ∈ WS := wm 425 (by decide +kernel) (by decide +kernel)
theorem tb_406 : Jvm.Cond.laysFinal "DialectAtlas$Interview" "DialectAtlas$Interview" "year" "I" ∈ WS := wm 426 (by decide +kernel) (by decide +kernel)
theorem tb_407 : Jvm.Cond.soleField "DialectAtlas$Interview" "year" ∈ WS := wm 427 (by decide +kernel) (by decide +kernel)
theorem tb_408 : Jvm.Cond.laysFinal "DialectAtlas$Interview" "DialectAtlas$Interview" "word" "I" ∈ WS := wm 428 (by decide +kernel) (by decide +kernel)
theorem tb_409 : Jvm.Cond.soleField "DialectAtlas$Interview" "word" ∈ WS := wm 429 (by decide +kernel) (by decide +kernel)
theorem tb_410 : Jvm.Cond.laysFinal "DialectAtlas$Interview" "DialectAtlas$Interview" "form" "I" ∈ WS := wm 430 (by decide +kernel) (by decide +kernel)
theorem tb_411 : Jvm.Cond.soleField "DialectAtlas$Interview" "form" ∈ WS := wm 431 (by decide +kernel) (by decide +kernel)
theorem tb_412 : Jvm.Cond.superclass "DialectAtlas$Interview" "java/lang/Object" ∈ WS := wm 432 (by decide +kernel) (by decide +kernel)
theorem tb_413 : Jvm.Cond.methodLink "DialectAtlas" (94 : Nat) ({ cls := "java/util/ArrayList", name := "add", desc := "(Ljava/lang/Object;)Z" } : Jvm.MethodName) ∈ WS := wm 433 (by decide +kernel) (by decide +kernel)
theorem tb_414 : Jvm.Cond.instanceMethod ({ cls := "java/util/ArrayList", name := "add", desc := "(Ljava/lang/Object;)Z" } : Jvm.MethodName) ∈ WS := wm 434 (by decide +kernel) (by decide +kernel)
theorem tb_415 : Jvm.Cond.selects "java/util/ArrayList" ({ cls := "java/util/ArrayList", name := "add", desc := "(Ljava/lang/Object;)Z" } : Jvm.MethodName) ({ cls := "java/util/ArrayList", name := "add", desc := "(Ljava/lang/Object;)Z" } : Jvm.MethodName) ∈ WS := wm 435 (by decide +kernel) (by decide +kernel)
theorem tb_416 : Jvm.Cond.code ({ cls := "java/util/ArrayList", name := "add", desc := "(Ljava/lang/Object;)Z" } : Jvm.MethodName) prog_22_method_25_code (2 : Nat) (Option.some Jvm.ClassFile.FieldType.boolean) ∈ WS := wm 436 (by decide +kernel) (by decide +kernel)
theorem tb_417 : Jvm.Cond.methodLink "java/util/ArrayList" (131 : Nat) ({ cls := "java/util/ArrayList", name := "add", desc := "(Ljava/lang/Object;[Ljava/lang/Object;I)V" } : Jvm.MethodName) ∈ WS := wm 437 (by decide +kernel) (by decide +kernel)
theorem tb_419 : Jvm.Cond.instanceMethod ({ cls := "java/util/ArrayList", name := "add", desc := "(Ljava/lang/Object;[Ljava/lang/Object;I)V" } : Jvm.MethodName) ∈ WS := wm 439 (by decide +kernel) (by decide +kernel)
theorem tb_420 : Jvm.Cond.code ({ cls := "java/util/ArrayList", name := "add", desc := "(Ljava/lang/Object;[Ljava/lang/Object;I)V" } : Jvm.MethodName) prog_22_method_24_code (4 : Nat) (Option.none : Option Jvm.ClassFile.FieldType) ∈ WS := wm 440 (by decide +kernel) (by decide +kernel)
theorem tb_421 : Jvm.Cond.methodLink "java/util/ArrayList" (129 : Nat) ({ cls := "java/util/ArrayList", name := "grow", desc := "()[Ljava/lang/Object;" } : Jvm.MethodName) ∈ WS := wm 441 (by decide +kernel) (by decide +kernel)
theorem tb_423 : Jvm.Cond.instanceMethod ({ cls := "java/util/ArrayList", name := "grow", desc := "()[Ljava/lang/Object;" } : Jvm.MethodName) ∈ WS := wm 443 (by decide +kernel) (by decide +kernel)
theorem tb_424 : Jvm.Cond.code ({ cls := "java/util/ArrayList", name := "grow", desc := "()[Ljava/lang/Object;" } : Jvm.MethodName) prog_22_method_7_code (1 : Nat) (Option.some (Jvm.ClassFile.FieldType.array (Jvm.ClassFile.FieldType.object "java/lang/Object"))) ∈ WS := wm 444 (by decide +kernel) (by decide +kernel)
theorem tb_425 : Jvm.Cond.methodLink "java/util/ArrayList" (69 : Nat) ({ cls := "java/util/ArrayList", name := "grow", desc := "(I)[Ljava/lang/Object;" } : Jvm.MethodName) ∈ WS := wm 445 (by decide +kernel) (by decide +kernel)
theorem tb_427 : Jvm.Cond.instanceMethod ({ cls := "java/util/ArrayList", name := "grow", desc := "(I)[Ljava/lang/Object;" } : Jvm.MethodName) ∈ WS := wm 447 (by decide +kernel) (by decide +kernel)
theorem tb_428 : Jvm.Cond.code ({ cls := "java/util/ArrayList", name := "grow", desc := "(I)[Ljava/lang/Object;" } : Jvm.MethodName) prog_22_method_6_code (4 : Nat) (Option.some (Jvm.ClassFile.FieldType.array (Jvm.ClassFile.FieldType.object "java/lang/Object"))) ∈ WS := wm 448 (by decide +kernel) (by decide +kernel)
theorem tb_429 : Jvm.Cond.methodLink "java/util/ArrayList" (73 : Nat) ({ cls := "jdk/internal/util/ArraysSupport", name := "newLength", desc := "(III)I" } : Jvm.MethodName) ∈ WS := wm 449 (by decide +kernel) (by decide +kernel)
theorem tb_430 : Jvm.Cond.static ({ cls := "jdk/internal/util/ArraysSupport", name := "newLength", desc := "(III)I" } : Jvm.MethodName) ∈ WS := wm 450 (by decide +kernel) (by decide +kernel)
theorem tb_431 : Jvm.Cond.code ({ cls := "jdk/internal/util/ArraysSupport", name := "newLength", desc := "(III)I" } : Jvm.MethodName) prog_29_method_27_code (4 : Nat) (Option.some Jvm.ClassFile.FieldType.int) ∈ WS := wm 451 (by decide +kernel) (by decide +kernel)
theorem tb_432 : Jvm.Cond.methodLink "jdk/internal/util/ArraysSupport" (194 : Nat) ({ cls := "java/lang/Math", name := "max", desc := "(II)I" } : Jvm.MethodName) ∈ WS := wm 452 (by decide +kernel) (by decide +kernel)
theorem tb_433 : Jvm.Cond.static ({ cls := "java/lang/Math", name := "max", desc := "(II)I" } : Jvm.MethodName) ∈ WS := wm 453 (by decide +kernel) (by decide +kernel)
theorem tb_434 : Jvm.Cond.code ({ cls := "java/lang/Math", name := "max", desc := "(II)I" } : Jvm.MethodName) prog_15_method_65_code (2 : Nat) (Option.some Jvm.ClassFile.FieldType.int) ∈ WS := wm 454 (by decide +kernel) (by decide +kernel)
theorem tb_435 : Jvm.Cond.constant "jdk/internal/util/ArraysSupport" (200 : Nat) (2147483639 : Int32) ∈ WS := wm 455 (by decide +kernel) (by decide +kernel)
theorem tb_436 : Jvm.Cond.methodLink "jdk/internal/util/ArraysSupport" (201 : Nat) ({ cls := "jdk/internal/util/ArraysSupport", name := "hugeLength", desc := "(II)I" } : Jvm.MethodName) ∈ WS := wm 456 (by decide +kernel) (by decide +kernel)
theorem tb_437 : Jvm.Cond.static ({ cls := "jdk/internal/util/ArraysSupport", name := "hugeLength", desc := "(II)I" } : Jvm.MethodName) ∈ WS := wm 457 (by decide +kernel) (by decide +kernel)
theorem tb_438 : Jvm.Cond.code ({ cls := "jdk/internal/util/ArraysSupport", name := "hugeLength", desc := "(II)I" } : Jvm.MethodName) prog_29_method_28_code (3 : Nat) (Option.some Jvm.ClassFile.FieldType.int) ∈ WS := wm 458 (by decide +kernel) (by decide +kernel)
theorem tb_439 : Jvm.Cond.methodLink "java/util/ArrayList" (66 : Nat) ({ cls := "java/util/Arrays", name := "copyOf", desc := "([Ljava/lang/Object;I)[Ljava/lang/Object;" } : Jvm.MethodName) ∈ WS := wm 459 (by decide +kernel) (by decide +kernel)
theorem tb_440 : Jvm.Cond.static ({ cls := "java/util/Arrays", name := "copyOf", desc := "([Ljava/lang/Object;I)[Ljava/lang/Object;" } : Jvm.MethodName) ∈ WS := wm 460 (by decide +kernel) (by decide +kernel)
theorem tb_441 : Jvm.Cond.code ({ cls := "java/util/Arrays", name := "copyOf", desc := "([Ljava/lang/Object;I)[Ljava/lang/Object;" } : Jvm.MethodName) prog_23_method_119_code (2 : Nat) (Option.some (Jvm.ClassFile.FieldType.array (Jvm.ClassFile.FieldType.object "java/lang/Object"))) ∈ WS := wm 461 (by decide +kernel) (by decide +kernel)
theorem tb_442 : Jvm.Cond.methodLink "java/util/Arrays" (86 : Nat) ({ cls := "java/lang/Object", name := "getClass", desc := "()Ljava/lang/Class;" } : Jvm.MethodName) ∈ WS := wm 462 (by decide +kernel) (by decide +kernel)
theorem tb_443 : Jvm.Cond.instanceMethod ({ cls := "java/lang/Object", name := "getClass", desc := "()Ljava/lang/Class;" } : Jvm.MethodName) ∈ WS := wm 463 (by decide +kernel) (by decide +kernel)
theorem tb_444 : Jvm.Cond.sameMethod "java/lang/Object" "java/lang/Object" "getClass" "()Ljava/lang/Class;" ∈ WS := wm 464 (by decide +kernel) (by decide +kernel)
theorem tb_445 : Jvm.Cond.selects "DialectAtlas" ({ cls := "java/lang/Object", name := "getClass", desc := "()Ljava/lang/Class;" } : Jvm.MethodName) ({ cls := "java/lang/Object", name := "getClass", desc := "()Ljava/lang/Class;" } : Jvm.MethodName) ∈ WS := wm 465 (by decide +kernel) (by decide +kernel)
theorem tb_446 : Jvm.Cond.selects "DialectAtlas$Interview" ({ cls := "java/lang/Object", name := "getClass", desc := "()Ljava/lang/Class;" } : Jvm.MethodName) ({ cls := "java/lang/Object", name := "getClass", desc := "()Ljava/lang/Class;" } : Jvm.MethodName) ∈ WS := wm 466 (by decide +kernel) (by decide +kernel)
theorem tb_447 : Jvm.Cond.selects "DialectAtlas$Rule" ({ cls := "java/lang/Object", name := "getClass", desc := "()Ljava/lang/Class;" } : Jvm.MethodName) ({ cls := "java/lang/Object", name := "getClass", desc := "()Ljava/lang/Class;" } : Jvm.MethodName) ∈ WS := wm 467 (by decide +kernel) (by decide +kernel)
theorem tb_448 : Jvm.Cond.selects "DialectAtlas$StepCounter" ({ cls := "java/lang/Object", name := "getClass", desc := "()Ljava/lang/Class;" } : Jvm.MethodName) ({ cls := "java/lang/Object", name := "getClass", desc := "()Ljava/lang/Class;" } : Jvm.MethodName) ∈ WS := wm 468 (by decide +kernel) (by decide +kernel)
theorem tb_449 : Jvm.Cond.selects "java/lang/IllegalArgumentException" ({ cls := "java/lang/Object", name := "getClass", desc := "()Ljava/lang/Class;" } : Jvm.MethodName) ({ cls := "java/lang/Object", name := "getClass", desc := "()Ljava/lang/Class;" } : Jvm.MethodName) ∈ WS := wm 469 (by decide +kernel) (by decide +kernel)
theorem tb_450 : Jvm.Cond.selects "java/lang/IllegalStateException" ({ cls := "java/lang/Object", name := "getClass", desc := "()Ljava/lang/Class;" } : Jvm.MethodName) ({ cls := "java/lang/Object", name := "getClass", desc := "()Ljava/lang/Class;" } : Jvm.MethodName) ∈ WS := wm 470 (by decide +kernel) (by decide +kernel)
theorem tb_451 : Jvm.Cond.selects "java/lang/IndexOutOfBoundsException" ({ cls := "java/lang/Object", name := "getClass", desc := "()Ljava/lang/Class;" } : Jvm.MethodName) ({ cls := "java/lang/Object", name := "getClass", desc := "()Ljava/lang/Class;" } : Jvm.MethodName) ∈ WS := wm 471 (by decide +kernel) (by decide +kernel)
theorem tb_452 : Jvm.Cond.selects "java/util/ArrayList" ({ cls := "java/lang/Object", name := "getClass", desc := "()Ljava/lang/Class;" } : Jvm.MethodName) ({ cls := "java/lang/Object", name := "getClass", desc := "()Ljava/lang/Class;" } : Jvm.MethodName) ∈ WS := wm 472 (by decide +kernel) (by decide +kernel)
theorem tb_453 : Jvm.Cond.native ({ cls := "java/lang/Object", name := "getClass", desc := "()Ljava/lang/Class;" } : Jvm.MethodName) ∈ WS := wm 473 (by decide +kernel) (by decide +kernel)
theorem tb_454 : Jvm.Cond.methodLink "java/util/Arrays" (300 : Nat) ({ cls := "java/util/Arrays", name := "copyOf", desc := "([Ljava/lang/Object;ILjava/lang/Class;)[Ljava/lang/Object;" } : Jvm.MethodName) ∈ WS := wm 474 (by decide +kernel) (by decide +kernel)
theorem tb_455 : Jvm.Cond.static ({ cls := "java/util/Arrays", name := "copyOf", desc := "([Ljava/lang/Object;ILjava/lang/Class;)[Ljava/lang/Object;" } : Jvm.MethodName) ∈ WS := wm 475 (by decide +kernel) (by decide +kernel)
theorem tb_456 : Jvm.Cond.code ({ cls := "java/util/Arrays", name := "copyOf", desc := "([Ljava/lang/Object;ILjava/lang/Class;)[Ljava/lang/Object;" } : Jvm.MethodName) prog_23_method_120_code (4 : Nat) (Option.some (Jvm.ClassFile.FieldType.array (Jvm.ClassFile.FieldType.object "java/lang/Object"))) ∈ WS := wm 476 (by decide +kernel) (by decide +kernel)
theorem tb_457 : Jvm.Cond.classLink "java/util/Arrays" (110 : Nat) "[Ljava/lang/Object;" ∈ WS := wm 477 (by decide +kernel) (by decide +kernel)
theorem tb_459 : Jvm.Cond.classLink "java/util/Arrays" (2 : Nat) "java/lang/Object" ∈ WS := wm 479 (by decide +kernel) (by decide +kernel)
theorem tb_460 : Jvm.Cond.methodLink "java/util/Arrays" (304 : Nat) ({ cls := "java/lang/Math", name := "min", desc := "(II)I" } : Jvm.MethodName) ∈ WS := wm 480 (by decide +kernel) (by decide +kernel)
theorem tb_461 : Jvm.Cond.methodLink "java/util/Arrays" (150 : Nat) ({ cls := "java/lang/System", name := "arraycopy", desc := "(Ljava/lang/Object;ILjava/lang/Object;II)V" } : Jvm.MethodName) ∈ WS := wm 481 (by decide +kernel) (by decide +kernel)
theorem tb_462 : Jvm.Cond.static ({ cls := "java/lang/System", name := "arraycopy", desc := "(Ljava/lang/Object;ILjava/lang/Object;II)V" } : Jvm.MethodName) ∈ WS := wm 482 (by decide +kernel) (by decide +kernel)
theorem tb_463 : Jvm.Cond.native ({ cls := "java/lang/System", name := "arraycopy", desc := "(Ljava/lang/Object;ILjava/lang/Object;II)V" } : Jvm.MethodName) ∈ WS := wm 483 (by decide +kernel) (by decide +kernel)
theorem tb_464 : Jvm.Cond.methodLink "java/util/ArrayList" (79 : Nat) ({ cls := "java/lang/Math", name := "max", desc := "(II)I" } : Jvm.MethodName) ∈ WS := wm 484 (by decide +kernel) (by decide +kernel)
theorem tb_465 : Jvm.Cond.classLink "java/util/ArrayList" (7 : Nat) "java/lang/Object" ∈ WS := wm 485 (by decide +kernel) (by decide +kernel)
theorem tb_466 : Jvm.Cond.methodLink "DialectAtlasLaw" (20 : Nat) ({ cls := "DialectAtlas", name := "setRoot", desc := "(I)I" } : Jvm.MethodName) ∈ WS := wm 486 (by decide +kernel) (by decide +kernel)
theorem tb_467 : Jvm.Cond.instanceMethod ({ cls := "DialectAtlas", name := "setRoot", desc := "(I)I" } : Jvm.MethodName) ∈ WS := wm 487 (by decide +kernel) (by decide +kernel)
theorem tb_468 : Jvm.Cond.selects "DialectAtlas" ({ cls := "DialectAtlas", name := "setRoot", desc := "(I)I" } : Jvm.MethodName) ({ cls := "DialectAtlas", name := "setRoot", desc := "(I)I" } : Jvm.MethodName) ∈ WS := wm 488 (by decide +kernel) (by decide +kernel)
theorem tb_469 : Jvm.Cond.code ({ cls := "DialectAtlas", name := "setRoot", desc := "(I)I" } : Jvm.MethodName) prog_1_method_4_code (3 : Nat) (Option.some Jvm.ClassFile.FieldType.int) ∈ WS := wm 489 (by decide +kernel) (by decide +kernel)
theorem tb_471 : Jvm.Cond.methodLink "DialectAtlasLaw" (23 : Nat) ({ cls := "DialectAtlas", name := "rest", desc := "(II)I" } : Jvm.MethodName) ∈ WS := wm 491 (by decide +kernel) (by decide +kernel)
theorem tb_472 : Jvm.Cond.instanceMethod ({ cls := "DialectAtlas", name := "rest", desc := "(II)I" } : Jvm.MethodName) ∈ WS := wm 492 (by decide +kernel) (by decide +kernel)
theorem tb_473 : Jvm.Cond.selects "DialectAtlas" ({ cls := "DialectAtlas", name := "rest", desc := "(II)I" } : Jvm.MethodName) ({ cls := "DialectAtlas", name := "rest", desc := "(II)I" } : Jvm.MethodName) ∈ WS := wm 493 (by decide +kernel) (by decide +kernel)
theorem tb_474 : Jvm.Cond.code ({ cls := "DialectAtlas", name := "rest", desc := "(II)I" } : Jvm.MethodName) prog_1_method_7_code (5 : Nat) (Option.some Jvm.ClassFile.FieldType.int) ∈ WS := wm 494 (by decide +kernel) (by decide +kernel)
theorem tn_476 : Jvm.Cond.methodLinkNest "DialectAtlas" (143 : Nat) ({ cls := "DialectAtlas$Rule", name := "restsOn", desc := "(LDialectAtlas$Interview;)Z" } : Jvm.MethodName) "DialectAtlas" ∈ NGW := nm 496 (by decide +kernel) (by decide +kernel)
theorem tb_478 : Jvm.Cond.instanceMethod ({ cls := "DialectAtlas$Rule", name := "restsOn", desc := "(LDialectAtlas$Interview;)Z" } : Jvm.MethodName) ∈ WS := wm 498 (by decide +kernel) (by decide +kernel)
theorem tb_479 : Jvm.Cond.code ({ cls := "DialectAtlas$Rule", name := "restsOn", desc := "(LDialectAtlas$Interview;)Z" } : Jvm.MethodName) prog_3_method_2_code (2 : Nat) (Option.some Jvm.ClassFile.FieldType.boolean) ∈ WS := wm 499 (by decide +kernel) (by decide +kernel)
theorem tb_481 : Jvm.Cond.methodLink "DialectAtlasLaw" (27 : Nat) ({ cls := "DialectAtlas", name := "quote", desc := "(I)I" } : Jvm.MethodName) ∈ WS := wm 501 (by decide +kernel) (by decide +kernel)
theorem tb_482 : Jvm.Cond.instanceMethod ({ cls := "DialectAtlas", name := "quote", desc := "(I)I" } : Jvm.MethodName) ∈ WS := wm 502 (by decide +kernel) (by decide +kernel)
theorem tb_483 : Jvm.Cond.selects "DialectAtlas" ({ cls := "DialectAtlas", name := "quote", desc := "(I)I" } : Jvm.MethodName) ({ cls := "DialectAtlas", name := "quote", desc := "(I)I" } : Jvm.MethodName) ∈ WS := wm 503 (by decide +kernel) (by decide +kernel)
theorem tb_484 : Jvm.Cond.code ({ cls := "DialectAtlas", name := "quote", desc := "(I)I" } : Jvm.MethodName) prog_1_method_18_code (4 : Nat) (Option.some Jvm.ClassFile.FieldType.int) ∈ WS := wm 504 (by decide +kernel) (by decide +kernel)
theorem tb_486 : Jvm.Cond.methodLink "DialectAtlasLaw" (120 : Nat) ({ cls := "DialectAtlasLaw", name := "rules", desc := "(LDialectAtlas;II[I[I[I[I[I)Z" } : Jvm.MethodName) ∈ WS := wm 506 (by decide +kernel) (by decide +kernel)
theorem tb_487 : Jvm.Cond.static ({ cls := "DialectAtlasLaw", name := "rules", desc := "(LDialectAtlas;II[I[I[I[I[I)Z" } : Jvm.MethodName) ∈ WS := wm 507 (by decide +kernel) (by decide +kernel)
theorem tb_489 : Jvm.Cond.methodLink "DialectAtlasLaw" (98 : Nat) ({ cls := "DialectAtlas", name := "rule", desc := "(IIIIII)I" } : Jvm.MethodName) ∈ WS := wm 509 (by decide +kernel) (by decide +kernel)
theorem tb_490 : Jvm.Cond.instanceMethod ({ cls := "DialectAtlas", name := "rule", desc := "(IIIIII)I" } : Jvm.MethodName) ∈ WS := wm 510 (by decide +kernel) (by decide +kernel)
theorem tb_491 : Jvm.Cond.selects "DialectAtlas" ({ cls := "DialectAtlas", name := "rule", desc := "(IIIIII)I" } : Jvm.MethodName) ({ cls := "DialectAtlas", name := "rule", desc := "(IIIIII)I" } : Jvm.MethodName) ∈ WS := wm 511 (by decide +kernel) (by decide +kernel)
theorem tb_492 : Jvm.Cond.code ({ cls := "DialectAtlas", name := "rule", desc := "(IIIIII)I" } : Jvm.MethodName) prog_1_method_6_code (8 : Nat) (Option.some Jvm.ClassFile.FieldType.int) ∈ WS := wm 512 (by decide +kernel) (by decide +kernel)
theorem tb_494 : Jvm.Cond.methodLink "DialectAtlas" (118 : Nat) ({ cls := "DialectAtlas", name := "canStandBehind", desc := "(I)Z" } : Jvm.MethodName) ∈ WS := wm 514 (by decide +kernel) (by decide +kernel)
theorem tb_495 : Jvm.Cond.static ({ cls := "DialectAtlas", name := "canStandBehind", desc := "(I)Z" } : Jvm.MethodName) ∈ WS := wm 515 (by decide +kernel) (by decide +kernel)
theorem tb_496 : Jvm.Cond.code ({ cls := "DialectAtlas", name := "canStandBehind", desc := "(I)Z" } : Jvm.MethodName) prog_1_method_21_code (1 : Nat) (Option.some Jvm.ClassFile.FieldType.boolean) ∈ WS := wm 516 (by decide +kernel) (by decide +kernel)
theorem tn_500 : Jvm.Cond.methodLinkNest "DialectAtlas" (130 : Nat) ({ cls := "DialectAtlas$Rule", name := "<init>", desc := "(IIIIII)V" } : Jvm.MethodName) "DialectAtlas" ∈ NGW := nm 520 (by decide +kernel) (by decide +kernel)
theorem tb_501 : Jvm.Cond.instanceMethod ({ cls := "DialectAtlas$Rule", name := "<init>", desc := "(IIIIII)V" } : Jvm.MethodName) ∈ WS := wm 521 (by decide +kernel) (by decide +kernel)
theorem tb_502 : Jvm.Cond.code ({ cls := "DialectAtlas$Rule", name := "<init>", desc := "(IIIIII)V" } : Jvm.MethodName) prog_3_method_1_code (7 : Nat) (Option.none : Option Jvm.ClassFile.FieldType) ∈ WS := wm 522 (by decide +kernel) (by decide +kernel)
theorem tb_503 : Jvm.Cond.methodLink "DialectAtlas$Rule" (3 : Nat) ({ cls := "java/lang/Object", name := "<init>", desc := "()V" } : Jvm.MethodName) ∈ WS := wm 523 (by decide +kernel) (by decide +kernel)
theorem tb_504 : Jvm.Cond.fieldLink "DialectAtlas$Rule" (19 : Nat) "DialectAtlas$Rule" "sound" "I" ∈ WS := wm 524 (by decide +kernel) (by decide +kernel)
theorem tb_505 : Jvm.Cond.fieldLink "DialectAtlas$Rule" (23 : Nat) "DialectAtlas$Rule" "to" "I" ∈ WS := wm 525 (by decide +kernel) (by decide +kernel)
theorem tb_506 : Jvm.Cond.fieldLink "DialectAtlas$Rule" (26 : Nat) "DialectAtlas$Rule" "behind" "I" ∈ WS := wm 526 (by decide +kernel) (by decide +kernel)
theorem tb_507 : Jvm.Cond.fieldLink "DialectAtlas$Rule" (29 : Nat) "DialectAtlas$Rule" "first" "I" ∈ WS := wm 527 (by decide +kernel) (by decide +kernel)
theorem tb_508 : Jvm.Cond.fieldLink "DialectAtlas$Rule" (32 : Nat) "DialectAtlas$Rule" "last" "I" ∈ WS := wm 528 (by decide +kernel) (by decide +kernel)
theorem tb_509 : Jvm.Cond.fieldLink "DialectAtlas$Rule" (35 : Nat) "DialectAtlas$Rule" "year" "I" ∈ WS := wm 529 (by decide +kernel) (by decide +kernel)
theorem tb_510 : Jvm.Cond.fieldLink "DialectAtlas$Rule" (9 : Nat) "DialectAtlas$Rule" "grounds" "J" ∈ WS := wm 530 (by decide +kernel) (by decide +kernel)
theorem tn_511 : Jvm.Cond.fieldLinkNest "DialectAtlas" (148 : Nat) "DialectAtlas$Rule" "grounds" "J" "DialectAtlas" ∈ NGW := nm 531 (by decide +kernel) (by decide +kernel)
theorem tb_512 : Jvm.Cond.fieldLink "DialectAtlas$Rule" (15 : Nat) "DialectAtlas$Rule" "fallen" "Z" ∈ WS := wm 532 (by decide +kernel) (by decide +kernel)
theorem tn_513 : Jvm.Cond.fieldLinkNest "DialectAtlas" (135 : Nat) "DialectAtlas$Rule" "fallen" "Z" "DialectAtlas" ∈ NGW := nm 533 (by decide +kernel) (by decide +kernel)
theorem tb_514 : Jvm.Cond.laysFinal "DialectAtlas$Rule" "DialectAtlas$Rule" "sound" "I" ∈ WS := wm 534 (by decide +kernel) (by decide +kernel)
theorem tb_515 : Jvm.Cond.soleField "DialectAtlas$Rule" "sound" ∈ WS := wm 535 (by decide +kernel) (by decide +kernel)
theorem tb_516 : Jvm.Cond.laysFinal "DialectAtlas$Rule" "DialectAtlas$Rule" "to" "I" ∈ WS := wm 536 (by decide +kernel) (by decide +kernel)
theorem tb_517 : Jvm.Cond.soleField "DialectAtlas$Rule" "to" ∈ WS := wm 537 (by decide +kernel) (by decide +kernel)
theorem tb_518 : Jvm.Cond.laysFinal "DialectAtlas$Rule" "DialectAtlas$Rule" "behind" "I" ∈ WS := wm 538 (by decide +kernel) (by decide +kernel)
theorem tb_519 : Jvm.Cond.soleField "DialectAtlas$Rule" "behind" ∈ WS := wm 539 (by decide +kernel) (by decide +kernel)
theorem tb_520 : Jvm.Cond.laysFinal "DialectAtlas$Rule" "DialectAtlas$Rule" "first" "I" ∈ WS := wm 540 (by decide +kernel) (by decide +kernel)
theorem tb_521 : Jvm.Cond.soleField "DialectAtlas$Rule" "first" ∈ WS := wm 541 (by decide +kernel) (by decide +kernel)
theorem tb_522 : Jvm.Cond.laysFinal "DialectAtlas$Rule" "DialectAtlas$Rule" "last" "I" ∈ WS := wm 542 (by decide +kernel) (by decide +kernel)
theorem tb_523 : Jvm.Cond.soleField "DialectAtlas$Rule" "last" ∈ WS := wm 543 (by decide +kernel) (by decide +kernel)
theorem tb_524 : Jvm.Cond.laysFinal "DialectAtlas$Rule" "DialectAtlas$Rule" "year" "I" ∈ WS := wm 544 (by decide +kernel) (by decide +kernel)
theorem tb_525 : Jvm.Cond.soleField "DialectAtlas$Rule" "year" ∈ WS := wm 545 (by decide +kernel) (by decide +kernel)
theorem tb_526 : Jvm.Cond.lays "DialectAtlas$Rule" "DialectAtlas$Rule" "grounds" "J" ∈ WS := wm 546 (by decide +kernel) (by decide +kernel)
theorem tb_527 : Jvm.Cond.soleField "DialectAtlas$Rule" "grounds" ∈ WS := wm 547 (by decide +kernel) (by decide +kernel)
theorem tb_528 : Jvm.Cond.lays "DialectAtlas$Rule" "DialectAtlas$Rule" "fallen" "Z" ∈ WS := wm 548 (by decide +kernel) (by decide +kernel)
theorem tb_529 : Jvm.Cond.soleField "DialectAtlas$Rule" "fallen" ∈ WS := wm 549 (by decide +kernel) (by decide +kernel)
theorem tb_530 : Jvm.Cond.superclass "DialectAtlas$Rule" "java/lang/Object" ∈ WS := wm 550 (by decide +kernel) (by decide +kernel)
theorem tb_531 : Jvm.Cond.methodLink "DialectAtlasLaw" (102 : Nat) ({ cls := "DialectAtlas", name := "forget", desc := "(I)I" } : Jvm.MethodName) ∈ WS := wm 551 (by decide +kernel) (by decide +kernel)
theorem tb_532 : Jvm.Cond.instanceMethod ({ cls := "DialectAtlas", name := "forget", desc := "(I)I" } : Jvm.MethodName) ∈ WS := wm 552 (by decide +kernel) (by decide +kernel)
theorem tb_533 : Jvm.Cond.selects "DialectAtlas" ({ cls := "DialectAtlas", name := "forget", desc := "(I)I" } : Jvm.MethodName) ({ cls := "DialectAtlas", name := "forget", desc := "(I)I" } : Jvm.MethodName) ∈ WS := wm 553 (by decide +kernel) (by decide +kernel)
theorem tb_534 : Jvm.Cond.code ({ cls := "DialectAtlas", name := "forget", desc := "(I)I" } : Jvm.MethodName) prog_1_method_14_code (5 : Nat) (Option.some Jvm.ClassFile.FieldType.int) ∈ WS := wm 554 (by decide +kernel) (by decide +kernel)
theorem tb_536 : Jvm.Cond.methodLink "DialectAtlas" (189 : Nat) ({ cls := "DialectAtlas", name := "interviewsOf", desc := "(I)J" } : Jvm.MethodName) ∈ WS := wm 556 (by decide +kernel) (by decide +kernel)
theorem tb_538 : Jvm.Cond.instanceMethod ({ cls := "DialectAtlas", name := "interviewsOf", desc := "(I)J" } : Jvm.MethodName) ∈ WS := wm 558 (by decide +kernel) (by decide +kernel)
theorem tb_539 : Jvm.Cond.code ({ cls := "DialectAtlas", name := "interviewsOf", desc := "(I)J" } : Jvm.MethodName) prog_1_method_25_code (6 : Nat) (Option.some Jvm.ClassFile.FieldType.long) ∈ WS := wm 559 (by decide +kernel) (by decide +kernel)
theorem tn_540 : Jvm.Cond.methodLinkNest "DialectAtlas" (195 : Nat) ({ cls := "DialectAtlas$Rule", name := "restNoMoreOn", desc := "(J)V" } : Jvm.MethodName) "DialectAtlas" ∈ NGW := nm 560 (by decide +kernel) (by decide +kernel)
theorem tb_542 : Jvm.Cond.instanceMethod ({ cls := "DialectAtlas$Rule", name := "restNoMoreOn", desc := "(J)V" } : Jvm.MethodName) ∈ WS := wm 562 (by decide +kernel) (by decide +kernel)
theorem tb_543 : Jvm.Cond.code ({ cls := "DialectAtlas$Rule", name := "restNoMoreOn", desc := "(J)V" } : Jvm.MethodName) prog_3_method_3_code (3 : Nat) (Option.none : Option Jvm.ClassFile.FieldType) ∈ WS := wm 563 (by decide +kernel) (by decide +kernel)
theorem tb_544 : Jvm.Cond.constantLong "DialectAtlas$Rule" (43 : Nat) (-1 : Int64) ∈ WS := wm 564 (by decide +kernel) (by decide +kernel)
theorem tb_545 : Jvm.Cond.methodLink "DialectAtlasLaw" (105 : Nat) ({ cls := "DialectAtlas", name := "copy", desc := "(I)I" } : Jvm.MethodName) ∈ WS := wm 565 (by decide +kernel) (by decide +kernel)
theorem tb_546 : Jvm.Cond.instanceMethod ({ cls := "DialectAtlas", name := "copy", desc := "(I)I" } : Jvm.MethodName) ∈ WS := wm 566 (by decide +kernel) (by decide +kernel)
theorem tb_547 : Jvm.Cond.selects "DialectAtlas" ({ cls := "DialectAtlas", name := "copy", desc := "(I)I" } : Jvm.MethodName) ({ cls := "DialectAtlas", name := "copy", desc := "(I)I" } : Jvm.MethodName) ∈ WS := wm 567 (by decide +kernel) (by decide +kernel)
theorem tb_548 : Jvm.Cond.code ({ cls := "DialectAtlas", name := "copy", desc := "(I)I" } : Jvm.MethodName) prog_1_method_15_code (2 : Nat) (Option.some Jvm.ClassFile.FieldType.int) ∈ WS := wm 568 (by decide +kernel) (by decide +kernel)
theorem tb_549 : Jvm.Cond.methodLink "DialectAtlasLaw" (108 : Nat) ({ cls := "DialectAtlas", name := "tell", desc := "(I)I" } : Jvm.MethodName) ∈ WS := wm 569 (by decide +kernel) (by decide +kernel)
theorem tb_550 : Jvm.Cond.instanceMethod ({ cls := "DialectAtlas", name := "tell", desc := "(I)I" } : Jvm.MethodName) ∈ WS := wm 570 (by decide +kernel) (by decide +kernel)
theorem tb_551 : Jvm.Cond.selects "DialectAtlas" ({ cls := "DialectAtlas", name := "tell", desc := "(I)I" } : Jvm.MethodName) ({ cls := "DialectAtlas", name := "tell", desc := "(I)I" } : Jvm.MethodName) ∈ WS := wm 571 (by decide +kernel) (by decide +kernel)
theorem tb_552 : Jvm.Cond.code ({ cls := "DialectAtlas", name := "tell", desc := "(I)I" } : Jvm.MethodName) prog_1_method_16_code (4 : Nat) (Option.some Jvm.ClassFile.FieldType.int) ∈ WS := wm 572 (by decide +kernel) (by decide +kernel)
theorem tb_553 : Jvm.Cond.sameMethod "java/lang/Throwable" "java/lang/Throwable" "fillInStackTrace" "(I)Ljava/lang/Throwable;" ∈ WS := wm 573 (by decide +kernel) (by decide +kernel)
theorem tn_554 : Jvm.Cond.castable "DialectAtlas" "java/lang/Object" ∈ NGW := nm 574 (by decide +kernel) (by decide +kernel)
theorem tn_555 : Jvm.Cond.castable "java/util/ArrayList" "java/lang/Object" ∈ NGW := nm 575 (by decide +kernel) (by decide +kernel)
theorem tn_556 : Jvm.Cond.castable "DialectAtlas$StepCounter" "java/lang/Object" ∈ NGW := nm 576 (by decide +kernel) (by decide +kernel)
theorem tn_557 : Jvm.Cond.castable "java/lang/IndexOutOfBoundsException" "java/lang/Object" ∈ NGW := nm 577 (by decide +kernel) (by decide +kernel)
theorem tn_558 : Jvm.Cond.castable "java/lang/IllegalStateException" "java/lang/Object" ∈ NGW := nm 578 (by decide +kernel) (by decide +kernel)
theorem tn_559 : Jvm.Cond.castable "java/lang/IllegalArgumentException" "java/lang/Object" ∈ NGW := nm 579 (by decide +kernel) (by decide +kernel)
theorem tn_560 : Jvm.Cond.castable "DialectAtlas$Interview" "java/lang/Object" ∈ NGW := nm 580 (by decide +kernel) (by decide +kernel)
theorem tn_561 : Jvm.Cond.castable "DialectAtlas$Rule" "java/lang/Object" ∈ NGW := nm 581 (by decide +kernel) (by decide +kernel)
theorem tn_562 : Jvm.Cond.castable "java/lang/Throwable" "java/lang/Object" ∈ NGW := nm 582 (by decide +kernel) (by decide +kernel)
theorem tn_563 : Jvm.Cond.castable "java/lang/String" "java/lang/Object" ∈ NGW := nm 583 (by decide +kernel) (by decide +kernel)
theorem tb_564 : Jvm.Cond.sameMethod "[Ljava/lang/Object;" "java/lang/Object" "getClass" "()Ljava/lang/Class;" ∈ WS := wm 584 (by decide +kernel) (by decide +kernel)
theorem tb_565 : Jvm.Cond.selects "[Ljava/lang/Object;" ({ cls := "java/lang/Object", name := "getClass", desc := "()Ljava/lang/Class;" } : Jvm.MethodName) ({ cls := "java/lang/Object", name := "getClass", desc := "()Ljava/lang/Class;" } : Jvm.MethodName) ∈ WS := wm 585 (by decide +kernel) (by decide +kernel)
theorem tn_566 : Jvm.Cond.declares ({ cls := "java/lang/Object", name := "getClass", desc := "()Ljava/lang/Class;" } : Jvm.MethodName) ∈ NGW := nm 586 (by decide +kernel) (by decide +kernel)
theorem tn_567 : Jvm.Cond.castable "[I" "java/lang/Object" ∈ NGW := nm 587 (by decide +kernel) (by decide +kernel)
theorem tn_568 : Jvm.Cond.castable "[J" "java/lang/Object" ∈ NGW := nm 588 (by decide +kernel) (by decide +kernel)
theorem tn_569 : Jvm.Cond.castable "[B" "java/lang/Object" ∈ NGW := nm 589 (by decide +kernel) (by decide +kernel)
theorem tn_570 : Jvm.Cond.castable "[Ljava/lang/Object;" "java/lang/Object" ∈ NGW := nm 590 (by decide +kernel) (by decide +kernel)
end
section
set_option maxRecDepth 100000 in
set_option maxHeartbeats 4000000 in
theorem tb_488 : Jvm.Cond.code ({ cls := "DialectAtlasLaw", name := "rules", desc := "(LDialectAtlas;II[I[I[I[I[I)Z" } : Jvm.MethodName) method_15_code (11 : Nat) (Option.some Jvm.ClassFile.FieldType.boolean) ∈ WS := List.mem_filter.mpr ⟨List.mem_append_right _ (List.mem_append_right _ (List.mem_append_right _ (List.mem_of_getElem? (l := tables_1_3) (i := 8) (by rfl)))), by rfl⟩
end
section
abbrev q_G : Type := va_G × (ClassId × ClassId × (Nat × Nat × (Nat → Int32)) × ClassId) × Nat × Nat × Nat
abbrev q_cI (g : q_G) : ClassId := g.2.1.1
abbrev q_cJ (g : q_G) : ClassId := g.2.1.2.1
abbrev q_sc (g : q_G) : Nat × Nat × (Nat → Int32) := g.2.1.2.2.1
abbrev q_cO (g : q_G) : ClassId := g.2.1.2.2.2
abbrev q_tys (g : q_G) : List (ClassId × FieldType) := [(g.2.1.1, .int), (g.2.1.2.1, .long), (g.2.1.1, .int), (g.2.1.2.2.2, .object "java/lang/Object")]
def q_A (g : q_G) : Nat → Prop := fun q => g.2.2.1 ≤ q
def STR : List (Nat × String) := [(162, "no such word or place"), (102, "no such word"), (106, "no such interview"), (160, "no such rule"), (203, "no such quote"), (199, "no such school"), (77, "no such year"), (63, "no such sound"), (70, "the draft has 8 sounds"), (73, "no such informant, place or word"), (84, "the draft is empty, or there are 40 interviews"), (104, "the draft is empty"), (133, "no such rule or interview"), (146, "the rule cannot rest on the interview, or does so"), (201, "the interview is forgotten, or there are 20 quotes"), (116, "no such sound, or no such place"), (122, "the sound cannot become that, or not before that"), (124, "no such range of places, or no such year"), (126, "there are 20 rules"), (187, "no such informant")]
def NCP : List (String × String) := []
def q_env (g : q_G) (U : State) : Prop :=
  g.2.2.1 ≤ U.heap.size ∧ va_K g.1 vwCl (q_tys g) U ∧ (∀ w ∈ NGW, va_Nw w U) ∧ (∀ q ∈ STR, ∃ sa, vk_R RX3 q.1 q.2 sa U) ∧ (∀ q ∈ NCP, va_Nc q.1 q.2 U) ∧
  vx_Zq Bundle.tN "UNASSIGNED_STACK" Bundle.steD (q_A g) U U.heap ∧ vx_Zq Bundle.tN "SUPPRESSED_SENTINEL" Bundle.listD (q_A g) U U.heap ∧
  va_Z "java/util/ArrayList" "DEFAULTCAPACITY_EMPTY_ELEMENTDATA" "[Ljava/lang/Object;" (.ref g.2.2.2.1) (q_A g) U U.heap ∧ va_T (.object "java/lang/Object") g.2.2.2.1 0 (fun _ => .null) (q_A g) U U.heap ∧ va_AO "java/lang/Object" U ∧ va_Mi "[Ljava/lang/Object;" g.2.2.2.2 U ∧ va_X (q_sc g).1 (q_sc g).2.1 (q_sc g).2.2 U U.heap ∧ (q_sc g).1 < g.2.2.1
theorem ng_warm {w : Cond} (hw : ngk w = true) {s U : State} (hW : s.WarmedH U.vm) (h : va_Nw w s) : va_Nw w U := by
  cases w <;> first | exact va_Nw.warmF hW h | exact va_Nw.warmM hW h | exact va_Nw.warmC hW h | exact va_Nw.warmD hW h | (cases hw; done)
theorem ng_tab {w : Cond} (hw : ngk w = true) : w.onTables = true := by
  cases w <;> first | rfl | (cases hw; done)
theorem ng_ng {w : Cond} (hw : w ∈ NGW) : ngk w = true := (List.mem_filter.mp hw).2
theorem q_env.go {g : q_G} {s U : State} {H : Heap} {locs : List Loc} (h : q_env g s) (hU : U.heap = H) (hW : s.WarmedH U.vm) (hS : va_S (q_A g) s.heap H locs) : q_env g U := by
  obtain ⟨h1, h2, h3, h4, h5, h6, h7, h8, h9, h10, h11, h12, h13⟩ := h
  have ha := hW.alike
  have hk : ∀ a : Nat, a < s.heap.size → ¬ q_A g a → U.heap[a]? = s.heap[a]? := fun a z1 z2 => by rw [hU]; exact hS.2.1 a z1 z2
  exact ⟨Nat.le_trans h1 (by rw [hU]; exact hS.1), va_K.moved ha h2, fun w hw => ng_warm (ng_ng hw) hW (h3 w hw), fun q hq => (h4 q hq).elim (fun sa z => ⟨sa, vk_R.warm hW z⟩), fun q hq => va_Nc.moved ha (h5 q hq),
    vx_Zq.kept (vx_Zq.moved ha h6) hk, vx_Zq.kept (vx_Zq.moved ha h7) hk, va_Z.kept (va_Z.moved ha h8) hk, va_T.kept (va_T.moved ha h9) hk, va_AO.moved ha h10, va_Mi.moved ha h11, va_X.kept (va_X.moved ha h12) (hk _ (Nat.lt_of_lt_of_le h13 h1) (fun z => Nat.not_le.mpr h13 z)), h13⟩
theorem q_env.calling {g : q_G} {U : State} (h : q_env g U) (gf : JFrame) (mk : MethodId) (a : Array Value) : q_env g (U.calling gf mk a) :=
  h.go (H := U.heap) (locs := []) rfl (State.WarmedH.refl U) va_S.rf
def q_in (g : q_G) (ws : va_W) (H : Heap) : Prop := va_P g.1 vwCl ws H ∧ va_D (q_A g) ws
def q_Pc (g : q_G) (av : List Value) (ws : va_W) : Array Value → State → Prop := va_Pc av (fun U => q_env g U ∧ q_in g ws U.heap)
theorem q_Pc.blind {g : q_G} {av : List Value} {ws : va_W} : FrameBlind (q_Pc g av ws) := fun a U gf mk h => ⟨h.1, h.2.1.calling gf mk a, h.2.2⟩
def q_B (g : q_G) : va_W → State → Prop := fun w t => q_in g w t.heap
abbrev q_Qi (g : q_G) (post : Int32 → va_W → Prop) : Array Value → State → Outcome → State → Prop := va_Qi post (q_B g) (q_A g)
abbrev q_Ql (g : q_G) (post : Int64 → va_W → Prop) : Array Value → State → Outcome → State → Prop := va_Ql post (q_B g) (q_A g)
abbrev q_Qv (g : q_G) (post : va_W → Prop) : Array Value → State → Outcome → State → Prop := va_Qv post (q_B g) (q_A g)
abbrev q_Qq (g : q_G) (post : Option Nat → va_W → Prop) : Array Value → State → Outcome → State → Prop := va_Qq post (q_B g) (q_A g)
abbrev q_XC (g : q_G) (pe : String → va_W → Prop) : String → State → State → Prop := vx_X (fun _ : va_W => True) (fun E w t => pe E w ∧ q_in g w t.heap) (q_A g)
abbrev MetW (l : Launch) (g : q_G) (y : MethodName) (bytes : ByteArray) (maxL : Nat) (ret : Option FieldType) (rm : Room) (av : List Value) (ws : va_W) (Qc : Array Value → State → Outcome → State → Prop) : Prop := Met l y (Cond.code y bytes maxL ret :: WS) rm (q_Pc g av ws) Qc rm.cells rm.slots (q_A g)
abbrev MetX (l : Launch) (g : q_G) (y : MethodName) (bytes : ByteArray) (maxL : Nat) (ret : Option FieldType) (rm : Room) (av : List Value) (ws : va_W) (Qc : Array Value → State → Outcome → State → Prop) (pe : String → va_W → Prop) : Prop := vx_Met l y (Cond.code y bytes maxL ret :: WS) rm (q_Pc g av ws) Qc (q_XC g pe) rm.cells rm.slots (q_A g)
abbrev MetH (l : Launch) (g : q_G) (y : MethodName) (bytes : ByteArray) (maxL : Nat) (ret : Option FieldType) (hh : List (Nat × Nat × Nat × Nat)) (rm : Room) (av : List Value) (ws : va_W) (Qc : Array Value → State → Outcome → State → Prop) : Prop := Met l y (Cond.codeWith y bytes maxL ret hh :: WS) rm (q_Pc g av ws) Qc rm.cells rm.slots (q_A g)
theorem ws_good {w : Cond} (h : w ∈ WS) : goodWord w = true := (List.mem_filter.mp h).2
theorem gi_ws {ws : List Cond} (h : ∀ w ∈ ws, w ∈ WS) : GoodIn WS ws := fun w hw => ⟨h w hw, good_of_word (ws_good (h w hw))⟩
theorem gi_code {c : Cond} (h : c ∈ WS) : GoodIn WS (c :: WS) := gi_ws (fun w hw => (List.mem_cons.mp hw).elim (fun e => e ▸ h) id)
theorem gi_V {own C : String} {idx : Nat} {y : MethodName} {c : Cond} (m1 : Cond.methodLink own idx y ∈ WS) (m2 : Cond.instanceMethod y ∈ WS) (m3 : Cond.selects C y y ∈ WS) (m4 : Cond.initialized C ∈ WS) (m5 : c ∈ WS) : GoodIn WS (wsV own idx C y (c :: WS)) := gi_ws (fun w hw => by
  simp only [wsV, List.cons_append, List.nil_append, List.mem_cons] at hw
  rcases hw with rfl | rfl | rfl | rfl | rfl | hw
  · exact m1
  · exact m2
  · exact m3
  · exact m4
  · exact m5
  · exact hw)
theorem gi_S {own : String} {idx : Nat} {y : MethodName} {c : Cond} (m1 : Cond.methodLink own idx y ∈ WS) (m2 : Cond.static y ∈ WS) (m4 : Cond.initialized y.cls ∈ WS) (m5 : c ∈ WS) : GoodIn WS (va_wsS own idx y (c :: WS)) := gi_ws (fun w hw => by
  simp only [va_wsS, List.cons_append, List.nil_append, List.mem_cons] at hw
  rcases hw with rfl | rfl | rfl | rfl | hw
  · exact m1
  · exact m2
  · exact m4
  · exact m5
  · exact hw)
def bI : Bool → Int32
  | true => 1
  | false => 0
theorem bI_f : bI false = 0 := rfl
theorem bI_t : bI true = 1 := rfl
theorem bI_z (b : Bool) : bI b = 0 ↔ b = false := by cases b <;> decide
theorem bI_nar (b : Bool) : narrow .boolean (.int (bI b)) = .int (bI b) := by cases b <;> rfl
theorem bI_vnar (b : Bool) : vp_nar .boolean (bI b) = bI b := by cases b <;> rfl
theorem q_lkm {i : Nat} {v : Value} : ∀ {lv : List (Nat × Value)}, lv.lookup i = some v → (i, v) ∈ lv
  | [], h => by simp at h
  | (k, b) :: xs, h => by
    rw [List.lookup_cons] at h
    by_cases hk : (i == k) = true
    · rw [hk] at h
      have e : i = k := by simpa using hk
      have e2 : b = v := by simpa using h
      subst e; subst e2
      exact List.mem_cons_self
    · rw [Bool.eq_false_iff.mpr hk] at h
      exact List.mem_cons_of_mem _ (q_lkm h)
theorem q_lk {ls : Array Slot} {nL : Nat} {lv : List (Nat × Value)} {i : Nat} {v : Value} (h : lv_has ls nL lv) (hk : lv.lookup i = some v) : ls[i]? = some (.val v) := h.2.2 (i, v) (q_lkm hk)
theorem q_lks {ls : Array Slot} {nL : Nat} {lv lv' : List (Nat × Value)} (h : lv_has ls nL lv) (hs : ∀ q ∈ lv', q ∈ lv) : lv_has ls nL lv' := ⟨h.1, h.2.1, fun q hq => h.2.2 q (hs q hq)⟩
/-- two worlds of the same cells -/
theorem q_P_perm {D : va_G} {cl : List vw_C} {a b : va_W} {H : Heap} (hp : a.Perm b) (h : va_P D cl a H) : va_P D cl b H := fun k q hq => by
  obtain ⟨i, hi⟩ := List.getElem?_of_mem (hp.mem_iff.mpr (List.mem_of_getElem? hq))
  exact h i q hi
theorem q_D_nd {A : Nat → Prop} {a : va_W} : va_D A a ↔ (a.map Prod.fst).Nodup ∧ ∀ q ∈ a, A q.1 := by
  constructor
  · intro h
    refine ⟨?_, fun q hq => ?_⟩
    · rw [List.Nodup, List.pairwise_iff_getElem]
      intro i j hi hj hij he
      have hi' : i < a.length := by simpa using hi
      have hj' : j < a.length := by simpa using hj
      have e1 : a[i]? = some a[i] := List.getElem?_eq_getElem hi'
      have e2 : a[j]? = some a[j] := List.getElem?_eq_getElem hj'
      have := h.1 i j _ _ e1 e2 (by simpa using he)
      omega
    · obtain ⟨k, hk⟩ := List.getElem?_of_mem hq
      exact h.2 k q hk
  · intro h
    refine ⟨fun i j p q hi hj he => ?_, fun k q hk => h.2 q (List.mem_of_getElem? hk)⟩
    have hn := List.pairwise_iff_getElem.mp h.1
    obtain ⟨li, ei⟩ := List.getElem?_eq_some_iff.mp hi
    obtain ⟨lj, ej⟩ := List.getElem?_eq_some_iff.mp hj
    rcases Nat.lt_trichotomy i j with z | z | z
    · exact absurd (show (a.map Prod.fst)[i]'(by simpa using li) = (a.map Prod.fst)[j]'(by simpa using lj) by rw [List.getElem_map, List.getElem_map, ei, ej]; exact he) (hn i j _ _ z)
    · exact z
    · exact absurd (show (a.map Prod.fst)[j]'(by simpa using lj) = (a.map Prod.fst)[i]'(by simpa using li) by rw [List.getElem_map, List.getElem_map, ei, ej]; exact he.symm) (hn j i _ _ z)
theorem q_D_perm {A : Nat → Prop} {a b : va_W} (hp : a.Perm b) (h : va_D A a) : va_D A b := by
  rw [q_D_nd] at h ⊢
  exact ⟨(hp.map Prod.fst).nodup_iff.mp h.1, fun q hq => h.2 q (hp.mem_iff.mpr hq)⟩
theorem q_in.perm {g : q_G} {a b : va_W} {H : Heap} (hp : a.Perm b) (h : q_in g a H) : q_in g b H := ⟨q_P_perm hp h.1, q_D_perm hp h.2⟩
end
section
section ROWS
variable {p : Program} {l : Launch} {e : Env} {R : Room} {s : State} {m : MethodId} {args : Array Value} {below : List Frame} {meth : Method} {c : Code} {g : q_G} {nL : Nat} {Q : State → Prop} {cl sl : Nat} {cc : ByteArray} {own : String} {pc : Nat} {lv : List (Nat × Value)} {st : List Value} {ws : va_W}
def AT (p : Program) (l : Launch) (e : Env) (R : Room) (s : State) (m : MethodId) (args : Array Value) (below : List Frame) (meth : Method) (c : Code) (g : q_G) (nL : Nat) (Q : State → Prop) (cl sl : Nat) (pc : Nat) (lv : List (Nat × Value)) (st : List Value) (ws : va_W) : Prop :=
  ∀ (H : Heap) (locs : List Loc) (ls : Array Slot), va_P g.1 vwCl ws H → va_D (q_A g) ws → va_S (q_A g) s.heap H locs → lv_has ls nL lv → W p l e R s m args below meth c H locs cl sl Q (F0 m pc ls st)
abbrev q_cx (g : q_G) (p : Program) (m : MethodId) (c : Code) (cc : ByteArray) (nL : Nat) (s : State) (args : Array Value) (own : String) (meth : Method) : Prop :=
  CallFix p m c cc nL s args WS own ∧ q_env g s ∧ meth.locks = false
theorem q_cx.hA (cx : q_cx g p m c cc nL s args own meth) : ∀ q : Nat, s.heap.size ≤ q → q_A g q := fun _ h => Nat.le_trans cx.2.1.1 h
theorem q_cx.ok (cx : q_cx g p m c cc nL s args own meth) {w : Cond} (h : w ∈ WS) : w.before args s = true := cx.1.2.2.2.2 w h
theorem q_cx.nok (cx : q_cx g p m c cc nL s args own meth) {w : Cond} (h : w ∈ NGW) : w.before args s = true := va_Nw.use (ng_tab (ng_ng h)) (cx.2.1.2.2.1 w h)

theorem r_iconst (cx : q_cx g p m c cc nL s args own meth) {n : Int} {v : Int32} (hd : decode cc pc = .ok (.iconst n, 1)) (hv : Int32.ofInt n = v) (k : AT p l e R s m args below meth c g nL Q cl sl (pc + 1) lv (.int v :: st) ws) : AT p l e R s m args below meth c g nL Q cl sl pc lv (st) ws := fun H locs ls hP hD hS hl => lv_iconst cx.1.1 cx.1.2.1  hd hv (k H locs ls hP hD hS hl)
theorem r_bipush (cx : q_cx g p m c cc nL s args own meth) {n : Int} {v : Int32} (hd : decode cc pc = .ok (.bipush n, 2)) (hv : (Int8.ofInt n).toInt32 = v) (k : AT p l e R s m args below meth c g nL Q cl sl (pc + 2) lv (.int v :: st) ws) : AT p l e R s m args below meth c g nL Q cl sl pc lv (st) ws := fun H locs ls hP hD hS hl => lv_bipush cx.1.1 cx.1.2.1  hd hv (k H locs ls hP hD hS hl)
theorem r_sipush (cx : q_cx g p m c cc nL s args own meth) {n : Int} {v : Int32} (hd : decode cc pc = .ok (.sipush n, 3)) (hv : (Int16.ofInt n).toInt32 = v) (k : AT p l e R s m args below meth c g nL Q cl sl (pc + 3) lv (.int v :: st) ws) : AT p l e R s m args below meth c g nL Q cl sl pc lv (st) ws := fun H locs ls hP hD hS hl => lv_sipush cx.1.1 cx.1.2.1  hd hv (k H locs ls hP hD hS hl)
theorem r_lconst (cx : q_cx g p m c cc nL s args own meth) {n : Fin 2} {v : Int64} (hd : decode cc pc = .ok (.lconst n, 1)) (hv : Int64.ofNat (n : Nat) = v) (k : AT p l e R s m args below meth c g nL Q cl sl (pc + 1) lv (.long v :: st) ws) : AT p l e R s m args below meth c g nL Q cl sl pc lv (st) ws := fun H locs ls hP hD hS hl => lv_lconst cx.1.1 cx.1.2.1  hd hv (k H locs ls hP hD hS hl)
theorem r_ldc2 (cx : q_cx g p m c cc nL s args own meth) {index : Nat} {v : Int64} (hd : decode cc pc = .ok (.ldc2_w index, 3)) (hc : Cond.constantLong own index v ∈ WS) (k : AT p l e R s m args below meth c g nL Q cl sl (pc + 3) lv (.long v :: st) ws) : AT p l e R s m args below meth c g nL Q cl sl pc lv st ws := fun H locs ls hP hD hS hl => lv_ldc2 cx.1.1 cx.1.2.1 cx.1.2.2.2.1 (cx.ok hc) hd (k H locs ls hP hD hS hl)
theorem r_ldc (cx : q_cx g p m c cc nL s args own meth) {index : Nat} {v : Int32} (hd : decode cc pc = .ok (.ldc index, 2)) (hc : Cond.constant own index v ∈ WS) (k : AT p l e R s m args below meth c g nL Q cl sl (pc + 2) lv (.int v :: st) ws) : AT p l e R s m args below meth c g nL Q cl sl pc lv st ws := fun H locs ls hP hD hS hl => lv_ldc cx.1.1 cx.1.2.1 cx.1.2.2.2.1 (cx.ok hc) hd (k H locs ls hP hD hS hl)
theorem r_iload_n (cx : q_cx g p m c cc nL s args own meth) {k : Fin 4} {i : Nat} {x : Int32} (hd : decode cc pc = .ok (.iload_n k, 1)) (hi : (k : Nat) = i) (hl0 : lv.lookup i = some (.int x)) (kk : AT p l e R s m args below meth c g nL Q cl sl (pc + 1) lv (.int x :: st) ws) : AT p l e R s m args below meth c g nL Q cl sl pc lv st ws := fun H locs ls hP hD hS hl => lv_iload_n cx.1.1 cx.1.2.1 hd hi (q_lk hl hl0) (kk H locs ls hP hD hS hl)
theorem r_iload (cx : q_cx g p m c cc nL s args own meth) {i : Nat} {x : Int32} (hd : decode cc pc = .ok (.iload i, 2)) (hl0 : lv.lookup i = some (.int x)) (kk : AT p l e R s m args below meth c g nL Q cl sl (pc + 2) lv (.int x :: st) ws) : AT p l e R s m args below meth c g nL Q cl sl pc lv st ws := fun H locs ls hP hD hS hl => lv_iload cx.1.1 cx.1.2.1 hd (q_lk hl hl0) (kk H locs ls hP hD hS hl)
theorem r_istore_n (cx : q_cx g p m c cc nL s args own meth) {k : Fin 4} {i : Nat} {x : Int32} {lv2 : List (Nat × Value)} (hd : decode cc pc = .ok (.istore_n k, 1)) (hi : (k : Nat) = i) (hn : i < nL) (hl2 : (i, Value.int x) :: lv.filter (fun q => !(q.1 == i) && !(q.1 + 1 == i && q.2.category == 2)) = lv2) (kk : AT p l e R s m args below meth c g nL Q cl sl (pc + 1) lv2 st ws) : AT p l e R s m args below meth c g nL Q cl sl pc lv (.int x :: st) ws := fun H locs ls hP hD hS hl => lv_istore_n cx.1.1 cx.1.2.1 hd hi hl hn hl2 (fun ls2 hl2 => kk H locs ls2 hP hD hS hl2)
theorem r_istore (cx : q_cx g p m c cc nL s args own meth) {i : Nat} {x : Int32} {lv2 : List (Nat × Value)} (hd : decode cc pc = .ok (.istore i, 2)) (hn : i < nL) (hl2 : (i, Value.int x) :: lv.filter (fun q => !(q.1 == i) && !(q.1 + 1 == i && q.2.category == 2)) = lv2) (kk : AT p l e R s m args below meth c g nL Q cl sl (pc + 2) lv2 st ws) : AT p l e R s m args below meth c g nL Q cl sl pc lv (.int x :: st) ws := fun H locs ls hP hD hS hl => lv_istore cx.1.1 cx.1.2.1 hd hl hn hl2 (fun ls2 hl2 => kk H locs ls2 hP hD hS hl2)
theorem r_lload_n (cx : q_cx g p m c cc nL s args own meth) {k : Fin 4} {i : Nat} {x : Int64} (hd : decode cc pc = .ok (.lload_n k, 1)) (hi : (k : Nat) = i) (hl0 : lv.lookup i = some (.long x)) (kk : AT p l e R s m args below meth c g nL Q cl sl (pc + 1) lv (.long x :: st) ws) : AT p l e R s m args below meth c g nL Q cl sl pc lv st ws := fun H locs ls hP hD hS hl => lv_lload_n cx.1.1 cx.1.2.1 hd hi (q_lk hl hl0) (kk H locs ls hP hD hS hl)
theorem r_lload (cx : q_cx g p m c cc nL s args own meth) {i : Nat} {x : Int64} (hd : decode cc pc = .ok (.lload i, 2)) (hl0 : lv.lookup i = some (.long x)) (kk : AT p l e R s m args below meth c g nL Q cl sl (pc + 2) lv (.long x :: st) ws) : AT p l e R s m args below meth c g nL Q cl sl pc lv st ws := fun H locs ls hP hD hS hl => lv_lload cx.1.1 cx.1.2.1 hd (q_lk hl hl0) (kk H locs ls hP hD hS hl)
theorem r_lstore_n (cx : q_cx g p m c cc nL s args own meth) {k : Fin 4} {i : Nat} {x : Int64} {lv2 : List (Nat × Value)} (hd : decode cc pc = .ok (.lstore_n k, 1)) (hi : (k : Nat) = i) (hn : i + 1 < nL) (hl2 : (i, Value.long x) :: lv.filter (fun q => !(q.1 == i) && (!(q.1 == i + 1) && !(q.1 + 1 == i && q.2.category == 2))) = lv2) (kk : AT p l e R s m args below meth c g nL Q cl sl (pc + 1) lv2 st ws) : AT p l e R s m args below meth c g nL Q cl sl pc lv (.long x :: st) ws := fun H locs ls hP hD hS hl => lv_lstore_n cx.1.1 cx.1.2.1 hd hi hl hn hl2 (fun ls2 hl2 => kk H locs ls2 hP hD hS hl2)
theorem r_lstore (cx : q_cx g p m c cc nL s args own meth) {i : Nat} {x : Int64} {lv2 : List (Nat × Value)} (hd : decode cc pc = .ok (.lstore i, 2)) (hn : i + 1 < nL) (hl2 : (i, Value.long x) :: lv.filter (fun q => !(q.1 == i) && (!(q.1 == i + 1) && !(q.1 + 1 == i && q.2.category == 2))) = lv2) (kk : AT p l e R s m args below meth c g nL Q cl sl (pc + 2) lv2 st ws) : AT p l e R s m args below meth c g nL Q cl sl pc lv (.long x :: st) ws := fun H locs ls hP hD hS hl => lv_lstore cx.1.1 cx.1.2.1 hd hl hn hl2 (fun ls2 hl2 => kk H locs ls2 hP hD hS hl2)
theorem r_aload_n (cx : q_cx g p m c cc nL s args own meth) {k : Fin 4} {i : Nat} {x : Nat} (hd : decode cc pc = .ok (.aload_n k, 1)) (hi : (k : Nat) = i) (hl0 : lv.lookup i = some (.ref x)) (kk : AT p l e R s m args below meth c g nL Q cl sl (pc + 1) lv (.ref x :: st) ws) : AT p l e R s m args below meth c g nL Q cl sl pc lv st ws := fun H locs ls hP hD hS hl => lv_aload_n cx.1.1 cx.1.2.1 hd hi (q_lk hl hl0) (kk H locs ls hP hD hS hl)
theorem r_aload (cx : q_cx g p m c cc nL s args own meth) {i : Nat} {x : Nat} (hd : decode cc pc = .ok (.aload i, 2)) (hl0 : lv.lookup i = some (.ref x)) (kk : AT p l e R s m args below meth c g nL Q cl sl (pc + 2) lv (.ref x :: st) ws) : AT p l e R s m args below meth c g nL Q cl sl pc lv st ws := fun H locs ls hP hD hS hl => lv_aload cx.1.1 cx.1.2.1 hd (q_lk hl hl0) (kk H locs ls hP hD hS hl)
theorem r_astore_n (cx : q_cx g p m c cc nL s args own meth) {k : Fin 4} {i : Nat} {x : Nat} {lv2 : List (Nat × Value)} (hd : decode cc pc = .ok (.astore_n k, 1)) (hi : (k : Nat) = i) (hn : i < nL) (hl2 : (i, Value.ref x) :: lv.filter (fun q => !(q.1 == i) && !(q.1 + 1 == i && q.2.category == 2)) = lv2) (kk : AT p l e R s m args below meth c g nL Q cl sl (pc + 1) lv2 st ws) : AT p l e R s m args below meth c g nL Q cl sl pc lv (.ref x :: st) ws := fun H locs ls hP hD hS hl => lv_astore_n cx.1.1 cx.1.2.1 hd hi hl hn hl2 (fun ls2 hl2 => kk H locs ls2 hP hD hS hl2)
theorem r_astore (cx : q_cx g p m c cc nL s args own meth) {i : Nat} {x : Nat} {lv2 : List (Nat × Value)} (hd : decode cc pc = .ok (.astore i, 2)) (hn : i < nL) (hl2 : (i, Value.ref x) :: lv.filter (fun q => !(q.1 == i) && !(q.1 + 1 == i && q.2.category == 2)) = lv2) (kk : AT p l e R s m args below meth c g nL Q cl sl (pc + 2) lv2 st ws) : AT p l e R s m args below meth c g nL Q cl sl pc lv (.ref x :: st) ws := fun H locs ls hP hD hS hl => lv_astore cx.1.1 cx.1.2.1 hd hl hn hl2 (fun ls2 hl2 => kk H locs ls2 hP hD hS hl2)
theorem q_lkix {i : Nat} {v : Value} {lv : List (Nat × Value)} (h : lv.lookup i = some v) : ∃ k : Nat, lv[k]? = some (i, v) := List.getElem?_of_mem (q_lkm h)
theorem r_iinc (cx : q_cx g p m c cc nL s args own meth) {i : Nat} {n : Int} {x v : Int32} {lv2 : List (Nat × Value)} (hd : decode cc pc = .ok (.iinc i n, 3)) (hl0 : lv.lookup i = some (.int x)) (hv : x + Int32.ofInt n = v) (hn : i < nL) (hl2 : (i, Value.int v) :: lv.filter (fun q => !(q.1 == i) && !(q.1 + 1 == i && q.2.category == 2)) = lv2) (kk : AT p l e R s m args below meth c g nL Q cl sl (pc + 3) lv2 st ws) : AT p l e R s m args below meth c g nL Q cl sl pc lv st ws := fun H locs ls hP hD hS hl => (q_lkix hl0).elim (fun k hk => lv_iinc (k := k) cx.1.1 cx.1.2.1 hd hl hk hv hn hl2 (fun ls2 hl2 => kk H locs ls2 hP hD hS hl2))
theorem r_iadd (cx : q_cx g p m c cc nL s args own meth) {x y : Int32} (hd : decode cc pc = .ok (.iadd, 1))  (k : AT p l e R s m args below meth c g nL Q cl sl (pc + 1) lv (.int (x + y) :: st) ws) : AT p l e R s m args below meth c g nL Q cl sl pc lv (.int y :: .int x :: st) ws := fun H locs ls hP hD hS hl => lv_iadd cx.1.1 cx.1.2.1  hd  (k H locs ls hP hD hS hl)
theorem r_isub (cx : q_cx g p m c cc nL s args own meth) {x y : Int32} (hd : decode cc pc = .ok (.isub, 1))  (k : AT p l e R s m args below meth c g nL Q cl sl (pc + 1) lv (.int (x - y) :: st) ws) : AT p l e R s m args below meth c g nL Q cl sl pc lv (.int y :: .int x :: st) ws := fun H locs ls hP hD hS hl => lv_isub cx.1.1 cx.1.2.1  hd  (k H locs ls hP hD hS hl)
theorem r_imul (cx : q_cx g p m c cc nL s args own meth) {x y : Int32} (hd : decode cc pc = .ok (.imul, 1))  (k : AT p l e R s m args below meth c g nL Q cl sl (pc + 1) lv (.int (x * y) :: st) ws) : AT p l e R s m args below meth c g nL Q cl sl pc lv (.int y :: .int x :: st) ws := fun H locs ls hP hD hS hl => lv_imul cx.1.1 cx.1.2.1  hd  (k H locs ls hP hD hS hl)
theorem r_iand (cx : q_cx g p m c cc nL s args own meth) {x y : Int32} (hd : decode cc pc = .ok (.iand, 1))  (k : AT p l e R s m args below meth c g nL Q cl sl (pc + 1) lv (.int (x &&& y) :: st) ws) : AT p l e R s m args below meth c g nL Q cl sl pc lv (.int y :: .int x :: st) ws := fun H locs ls hP hD hS hl => lv_iand cx.1.1 cx.1.2.1  hd  (k H locs ls hP hD hS hl)
theorem r_ior (cx : q_cx g p m c cc nL s args own meth) {x y : Int32} (hd : decode cc pc = .ok (.ior, 1))  (k : AT p l e R s m args below meth c g nL Q cl sl (pc + 1) lv (.int (x ||| y) :: st) ws) : AT p l e R s m args below meth c g nL Q cl sl pc lv (.int y :: .int x :: st) ws := fun H locs ls hP hD hS hl => lv_ior cx.1.1 cx.1.2.1  hd  (k H locs ls hP hD hS hl)
theorem r_ixor (cx : q_cx g p m c cc nL s args own meth) {x y : Int32} (hd : decode cc pc = .ok (.ixor, 1))  (k : AT p l e R s m args below meth c g nL Q cl sl (pc + 1) lv (.int (x ^^^ y) :: st) ws) : AT p l e R s m args below meth c g nL Q cl sl pc lv (.int y :: .int x :: st) ws := fun H locs ls hP hD hS hl => lv_ixor cx.1.1 cx.1.2.1  hd  (k H locs ls hP hD hS hl)
theorem r_ladd (cx : q_cx g p m c cc nL s args own meth) {x y : Int64} (hd : decode cc pc = .ok (.ladd, 1))  (k : AT p l e R s m args below meth c g nL Q cl sl (pc + 1) lv (.long (x + y) :: st) ws) : AT p l e R s m args below meth c g nL Q cl sl pc lv (.long y :: .long x :: st) ws := fun H locs ls hP hD hS hl => lv_ladd cx.1.1 cx.1.2.1  hd  (k H locs ls hP hD hS hl)
theorem r_lsub (cx : q_cx g p m c cc nL s args own meth) {x y : Int64} (hd : decode cc pc = .ok (.lsub, 1))  (k : AT p l e R s m args below meth c g nL Q cl sl (pc + 1) lv (.long (x - y) :: st) ws) : AT p l e R s m args below meth c g nL Q cl sl pc lv (.long y :: .long x :: st) ws := fun H locs ls hP hD hS hl => lv_lsub cx.1.1 cx.1.2.1  hd  (k H locs ls hP hD hS hl)
theorem r_land (cx : q_cx g p m c cc nL s args own meth) {x y : Int64} (hd : decode cc pc = .ok (.land, 1))  (k : AT p l e R s m args below meth c g nL Q cl sl (pc + 1) lv (.long (x &&& y) :: st) ws) : AT p l e R s m args below meth c g nL Q cl sl pc lv (.long y :: .long x :: st) ws := fun H locs ls hP hD hS hl => lv_land cx.1.1 cx.1.2.1  hd  (k H locs ls hP hD hS hl)
theorem r_lor (cx : q_cx g p m c cc nL s args own meth) {x y : Int64} (hd : decode cc pc = .ok (.lor, 1))  (k : AT p l e R s m args below meth c g nL Q cl sl (pc + 1) lv (.long (x ||| y) :: st) ws) : AT p l e R s m args below meth c g nL Q cl sl pc lv (.long y :: .long x :: st) ws := fun H locs ls hP hD hS hl => lv_lor cx.1.1 cx.1.2.1  hd  (k H locs ls hP hD hS hl)
theorem r_lxor (cx : q_cx g p m c cc nL s args own meth) {x y : Int64} (hd : decode cc pc = .ok (.lxor, 1))  (k : AT p l e R s m args below meth c g nL Q cl sl (pc + 1) lv (.long (x ^^^ y) :: st) ws) : AT p l e R s m args below meth c g nL Q cl sl pc lv (.long y :: .long x :: st) ws := fun H locs ls hP hD hS hl => lv_lxor cx.1.1 cx.1.2.1  hd  (k H locs ls hP hD hS hl)
theorem r_idiv (cx : q_cx g p m c cc nL s args own meth) {x y : Int32} (hd : decode cc pc = .ok (.idiv, 1)) (hne : ¬ y = 0) (k : AT p l e R s m args below meth c g nL Q cl sl (pc + 1) lv (.int (x / y) :: st) ws) : AT p l e R s m args below meth c g nL Q cl sl pc lv (.int y :: .int x :: st) ws := fun H locs ls hP hD hS hl => lv_idiv cx.1.1 cx.1.2.1  hd hne (k H locs ls hP hD hS hl)
theorem r_irem (cx : q_cx g p m c cc nL s args own meth) {x y : Int32} (hd : decode cc pc = .ok (.irem, 1)) (hne : ¬ y = 0) (k : AT p l e R s m args below meth c g nL Q cl sl (pc + 1) lv (.int (x - x / y * y) :: st) ws) : AT p l e R s m args below meth c g nL Q cl sl pc lv (.int y :: .int x :: st) ws := fun H locs ls hP hD hS hl => lv_irem cx.1.1 cx.1.2.1  hd hne (k H locs ls hP hD hS hl)
theorem r_ishl (cx : q_cx g p m c cc nL s args own meth) {x y : Int32} (hd : decode cc pc = .ok (.ishl, 1))  (k : AT p l e R s m args below meth c g nL Q cl sl (pc + 1) lv (.int (x <<< (y &&& 31)) :: st) ws) : AT p l e R s m args below meth c g nL Q cl sl pc lv (.int y :: .int x :: st) ws := fun H locs ls hP hD hS hl => lv_ishl cx.1.1 cx.1.2.1  hd  (k H locs ls hP hD hS hl)
theorem r_ishr (cx : q_cx g p m c cc nL s args own meth) {x y : Int32} (hd : decode cc pc = .ok (.ishr, 1))  (k : AT p l e R s m args below meth c g nL Q cl sl (pc + 1) lv (.int (x >>> (y &&& 31)) :: st) ws) : AT p l e R s m args below meth c g nL Q cl sl pc lv (.int y :: .int x :: st) ws := fun H locs ls hP hD hS hl => lv_ishr cx.1.1 cx.1.2.1  hd  (k H locs ls hP hD hS hl)
theorem r_lshl (cx : q_cx g p m c cc nL s args own meth) {x v : Int64} {y : Int32} (hd : decode cc pc = .ok (.lshl, 1)) (hv : x <<< (y.toInt64 &&& 63) = v) (k : AT p l e R s m args below meth c g nL Q cl sl (pc + 1) lv (.long v :: st) ws) : AT p l e R s m args below meth c g nL Q cl sl pc lv (.int y :: .long x :: st) ws := fun H locs ls hP hD hS hl => lv_lshl cx.1.1 cx.1.2.1  hd hv (k H locs ls hP hD hS hl)
theorem r_lshr (cx : q_cx g p m c cc nL s args own meth) {x v : Int64} {y : Int32} (hd : decode cc pc = .ok (.lshr, 1)) (hv : x >>> (y.toInt64 &&& 63) = v) (k : AT p l e R s m args below meth c g nL Q cl sl (pc + 1) lv (.long v :: st) ws) : AT p l e R s m args below meth c g nL Q cl sl pc lv (.int y :: .long x :: st) ws := fun H locs ls hP hD hS hl => lv_lshr cx.1.1 cx.1.2.1  hd hv (k H locs ls hP hD hS hl)
theorem r_lushr (cx : q_cx g p m c cc nL s args own meth) {x v : Int64} {y : Int32} (hd : decode cc pc = .ok (.lushr, 1)) (hv : (x.toUInt64 >>> (y.toInt64.toUInt64 &&& Int64.toUInt64 63)).toInt64 = v) (k : AT p l e R s m args below meth c g nL Q cl sl (pc + 1) lv (.long v :: st) ws) : AT p l e R s m args below meth c g nL Q cl sl pc lv (.int y :: .long x :: st) ws := fun H locs ls hP hD hS hl => lv_lushr cx.1.1 cx.1.2.1  hd hv (k H locs ls hP hD hS hl)
theorem r_i2l (cx : q_cx g p m c cc nL s args own meth) {x : Int32} {v : Int64} (hd : decode cc pc = .ok (.i2l, 1)) (hv : x.toInt64 = v) (k : AT p l e R s m args below meth c g nL Q cl sl (pc + 1) lv (.long v :: st) ws) : AT p l e R s m args below meth c g nL Q cl sl pc lv (.int x :: st) ws := fun H locs ls hP hD hS hl => lv_i2l cx.1.1 cx.1.2.1  hd hv (k H locs ls hP hD hS hl)
theorem r_l2i (cx : q_cx g p m c cc nL s args own meth) {x : Int64} {v : Int32} (hd : decode cc pc = .ok (.l2i, 1)) (hv : x.toInt32 = v) (k : AT p l e R s m args below meth c g nL Q cl sl (pc + 1) lv (.int v :: st) ws) : AT p l e R s m args below meth c g nL Q cl sl pc lv (.long x :: st) ws := fun H locs ls hP hD hS hl => lv_l2i cx.1.1 cx.1.2.1  hd hv (k H locs ls hP hD hS hl)
theorem r_lcmp (cx : q_cx g p m c cc nL s args own meth) {x y : Int64} (hd : decode cc pc = .ok (.lcmp, 1))  (k : AT p l e R s m args below meth c g nL Q cl sl (pc + 1) lv (.int (lg_cmp x y) :: st) ws) : AT p l e R s m args below meth c g nL Q cl sl pc lv (.long y :: .long x :: st) ws := fun H locs ls hP hD hS hl => W.lcmp cx.1.1 cx.1.2.1  hd  (k H locs ls hP hD hS hl)
theorem r_dup (cx : q_cx g p m c cc nL s args own meth) {va : Value} (hd : decode cc pc = .ok (.dup, 1)) (hva : va.category = 1) (k : AT p l e R s m args below meth c g nL Q cl sl (pc + 1) lv (va :: va :: st) ws) : AT p l e R s m args below meth c g nL Q cl sl pc lv (va :: st) ws := fun H locs ls hP hD hS hl => lv_dup cx.1.1 cx.1.2.1  hd hva (k H locs ls hP hD hS hl)
theorem r_pop (cx : q_cx g p m c cc nL s args own meth) {va : Value} (hd : decode cc pc = .ok (.pop, 1)) (hva : va.category = 1) (k : AT p l e R s m args below meth c g nL Q cl sl (pc + 1) lv (st) ws) : AT p l e R s m args below meth c g nL Q cl sl pc lv (va :: st) ws := fun H locs ls hP hD hS hl => lv_pop cx.1.1 cx.1.2.1  hd hva (k H locs ls hP hD hS hl)
theorem r_dup_x1 (cx : q_cx g p m c cc nL s args own meth) {va vb : Value} (hd : decode cc pc = .ok (.dup_x1, 1)) (hva : va.category = 1) (hvb : vb.category = 1) (k : AT p l e R s m args below meth c g nL Q cl sl (pc + 1) lv (va :: vb :: va :: st) ws) : AT p l e R s m args below meth c g nL Q cl sl pc lv (va :: vb :: st) ws := fun H locs ls hP hD hS hl => lv_dup_x1 cx.1.1 cx.1.2.1  hd hva hvb (k H locs ls hP hD hS hl)
theorem r_dup2 (cx : q_cx g p m c cc nL s args own meth) {va vb : Value} (hd : decode cc pc = .ok (.dup2, 1)) (hva : va.category = 1) (hvb : vb.category = 1) (k : AT p l e R s m args below meth c g nL Q cl sl (pc + 1) lv (va :: vb :: va :: vb :: st) ws) : AT p l e R s m args below meth c g nL Q cl sl pc lv (va :: vb :: st) ws := fun H locs ls hP hD hS hl => lv_dup2_11 cx.1.1 cx.1.2.1  hd hva hvb (k H locs ls hP hD hS hl)
theorem r_null (cx : q_cx g p m c cc nL s args own meth)  (hd : decode cc pc = .ok (.aconst_null, 1))  (k : AT p l e R s m args below meth c g nL Q cl sl (pc + 1) lv (.null :: st) ws) : AT p l e R s m args below meth c g nL Q cl sl pc lv (st) ws := fun H locs ls hP hD hS hl => lv_null cx.1.1 cx.1.2.1  hd  (k H locs ls hP hD hS hl)
theorem r_ifeq (cx : q_cx g p m c cc nL s args own meth) {x : Int32} {off : Int} {tgt : Nat} (hd : decode cc pc = .ok (.ifCond .eq off, 3)) (ht : (pc : Int) + off = (tgt : Int)) (kt : x = 0 → AT p l e R s m args below meth c g nL Q cl sl tgt lv st ws) (kf : ¬ x = 0 → AT p l e R s m args below meth c g nL Q cl sl (pc + 3) lv st ws) : AT p l e R s m args below meth c g nL Q cl sl pc lv (.int x :: st) ws := fun H locs ls hP hD hS hl => lv_if_eq cx.1.1 cx.1.2.1 hd ht (fun h => kt h H locs ls hP hD hS hl) (fun h => kf h H locs ls hP hD hS hl)
theorem r_ifne (cx : q_cx g p m c cc nL s args own meth) {x : Int32} {off : Int} {tgt : Nat} (hd : decode cc pc = .ok (.ifCond .ne off, 3)) (ht : (pc : Int) + off = (tgt : Int)) (kt : ¬ x = 0 → AT p l e R s m args below meth c g nL Q cl sl tgt lv st ws) (kf : x = 0 → AT p l e R s m args below meth c g nL Q cl sl (pc + 3) lv st ws) : AT p l e R s m args below meth c g nL Q cl sl pc lv (.int x :: st) ws := fun H locs ls hP hD hS hl => lv_if_ne cx.1.1 cx.1.2.1 hd ht (fun h => kt h H locs ls hP hD hS hl) (fun h => kf h H locs ls hP hD hS hl)
theorem r_iflt (cx : q_cx g p m c cc nL s args own meth) {x : Int32} {off : Int} {tgt : Nat} (hd : decode cc pc = .ok (.ifCond .lt off, 3)) (ht : (pc : Int) + off = (tgt : Int)) (kt : x < 0 → AT p l e R s m args below meth c g nL Q cl sl tgt lv st ws) (kf : ¬ x < 0 → AT p l e R s m args below meth c g nL Q cl sl (pc + 3) lv st ws) : AT p l e R s m args below meth c g nL Q cl sl pc lv (.int x :: st) ws := fun H locs ls hP hD hS hl => lv_if_lt cx.1.1 cx.1.2.1 hd ht (fun h => kt h H locs ls hP hD hS hl) (fun h => kf h H locs ls hP hD hS hl)
theorem r_ifge (cx : q_cx g p m c cc nL s args own meth) {x : Int32} {off : Int} {tgt : Nat} (hd : decode cc pc = .ok (.ifCond .ge off, 3)) (ht : (pc : Int) + off = (tgt : Int)) (kt : 0 ≤ x → AT p l e R s m args below meth c g nL Q cl sl tgt lv st ws) (kf : ¬ 0 ≤ x → AT p l e R s m args below meth c g nL Q cl sl (pc + 3) lv st ws) : AT p l e R s m args below meth c g nL Q cl sl pc lv (.int x :: st) ws := fun H locs ls hP hD hS hl => lv_if_ge cx.1.1 cx.1.2.1 hd ht (fun h => kt h H locs ls hP hD hS hl) (fun h => kf h H locs ls hP hD hS hl)
theorem r_ifgt (cx : q_cx g p m c cc nL s args own meth) {x : Int32} {off : Int} {tgt : Nat} (hd : decode cc pc = .ok (.ifCond .gt off, 3)) (ht : (pc : Int) + off = (tgt : Int)) (kt : 0 < x → AT p l e R s m args below meth c g nL Q cl sl tgt lv st ws) (kf : ¬ 0 < x → AT p l e R s m args below meth c g nL Q cl sl (pc + 3) lv st ws) : AT p l e R s m args below meth c g nL Q cl sl pc lv (.int x :: st) ws := fun H locs ls hP hD hS hl => lv_if_gt cx.1.1 cx.1.2.1 hd ht (fun h => kt h H locs ls hP hD hS hl) (fun h => kf h H locs ls hP hD hS hl)
theorem r_ifle (cx : q_cx g p m c cc nL s args own meth) {x : Int32} {off : Int} {tgt : Nat} (hd : decode cc pc = .ok (.ifCond .le off, 3)) (ht : (pc : Int) + off = (tgt : Int)) (kt : x ≤ 0 → AT p l e R s m args below meth c g nL Q cl sl tgt lv st ws) (kf : ¬ x ≤ 0 → AT p l e R s m args below meth c g nL Q cl sl (pc + 3) lv st ws) : AT p l e R s m args below meth c g nL Q cl sl pc lv (.int x :: st) ws := fun H locs ls hP hD hS hl => lv_if_le cx.1.1 cx.1.2.1 hd ht (fun h => kt h H locs ls hP hD hS hl) (fun h => kf h H locs ls hP hD hS hl)
theorem r_icmpeq (cx : q_cx g p m c cc nL s args own meth) {x y : Int32} {off : Int} {tgt : Nat} (hd : decode cc pc = .ok (.if_icmp .eq off, 3)) (ht : (pc : Int) + off = (tgt : Int)) (kt : x = y → AT p l e R s m args below meth c g nL Q cl sl tgt lv st ws) (kf : ¬ x = y → AT p l e R s m args below meth c g nL Q cl sl (pc + 3) lv st ws) : AT p l e R s m args below meth c g nL Q cl sl pc lv (.int y :: .int x :: st) ws := fun H locs ls hP hD hS hl => lv_icmp_eq cx.1.1 cx.1.2.1 hd ht (fun h => kt h H locs ls hP hD hS hl) (fun h => kf h H locs ls hP hD hS hl)
theorem r_icmpne (cx : q_cx g p m c cc nL s args own meth) {x y : Int32} {off : Int} {tgt : Nat} (hd : decode cc pc = .ok (.if_icmp .ne off, 3)) (ht : (pc : Int) + off = (tgt : Int)) (kt : ¬ x = y → AT p l e R s m args below meth c g nL Q cl sl tgt lv st ws) (kf : x = y → AT p l e R s m args below meth c g nL Q cl sl (pc + 3) lv st ws) : AT p l e R s m args below meth c g nL Q cl sl pc lv (.int y :: .int x :: st) ws := fun H locs ls hP hD hS hl => lv_icmp_ne cx.1.1 cx.1.2.1 hd ht (fun h => kt h H locs ls hP hD hS hl) (fun h => kf h H locs ls hP hD hS hl)
theorem r_icmplt (cx : q_cx g p m c cc nL s args own meth) {x y : Int32} {off : Int} {tgt : Nat} (hd : decode cc pc = .ok (.if_icmp .lt off, 3)) (ht : (pc : Int) + off = (tgt : Int)) (kt : x < y → AT p l e R s m args below meth c g nL Q cl sl tgt lv st ws) (kf : ¬ x < y → AT p l e R s m args below meth c g nL Q cl sl (pc + 3) lv st ws) : AT p l e R s m args below meth c g nL Q cl sl pc lv (.int y :: .int x :: st) ws := fun H locs ls hP hD hS hl => lv_icmp_lt cx.1.1 cx.1.2.1 hd ht (fun h => kt h H locs ls hP hD hS hl) (fun h => kf h H locs ls hP hD hS hl)
theorem r_icmpge (cx : q_cx g p m c cc nL s args own meth) {x y : Int32} {off : Int} {tgt : Nat} (hd : decode cc pc = .ok (.if_icmp .ge off, 3)) (ht : (pc : Int) + off = (tgt : Int)) (kt : y ≤ x → AT p l e R s m args below meth c g nL Q cl sl tgt lv st ws) (kf : ¬ y ≤ x → AT p l e R s m args below meth c g nL Q cl sl (pc + 3) lv st ws) : AT p l e R s m args below meth c g nL Q cl sl pc lv (.int y :: .int x :: st) ws := fun H locs ls hP hD hS hl => lv_icmp_ge cx.1.1 cx.1.2.1 hd ht (fun h => kt h H locs ls hP hD hS hl) (fun h => kf h H locs ls hP hD hS hl)
theorem r_icmpgt (cx : q_cx g p m c cc nL s args own meth) {x y : Int32} {off : Int} {tgt : Nat} (hd : decode cc pc = .ok (.if_icmp .gt off, 3)) (ht : (pc : Int) + off = (tgt : Int)) (kt : y < x → AT p l e R s m args below meth c g nL Q cl sl tgt lv st ws) (kf : ¬ y < x → AT p l e R s m args below meth c g nL Q cl sl (pc + 3) lv st ws) : AT p l e R s m args below meth c g nL Q cl sl pc lv (.int y :: .int x :: st) ws := fun H locs ls hP hD hS hl => lv_icmp_gt cx.1.1 cx.1.2.1 hd ht (fun h => kt h H locs ls hP hD hS hl) (fun h => kf h H locs ls hP hD hS hl)
theorem r_icmple (cx : q_cx g p m c cc nL s args own meth) {x y : Int32} {off : Int} {tgt : Nat} (hd : decode cc pc = .ok (.if_icmp .le off, 3)) (ht : (pc : Int) + off = (tgt : Int)) (kt : x ≤ y → AT p l e R s m args below meth c g nL Q cl sl tgt lv st ws) (kf : ¬ x ≤ y → AT p l e R s m args below meth c g nL Q cl sl (pc + 3) lv st ws) : AT p l e R s m args below meth c g nL Q cl sl pc lv (.int y :: .int x :: st) ws := fun H locs ls hP hD hS hl => lv_icmp_le cx.1.1 cx.1.2.1 hd ht (fun h => kt h H locs ls hP hD hS hl) (fun h => kf h H locs ls hP hD hS hl)
theorem r_goto (cx : q_cx g p m c cc nL s args own meth) {off : Int} {tgt : Nat} (hd : decode cc pc = .ok (.goto off, 3)) (ht : (pc : Int) + off = (tgt : Int)) (k : AT p l e R s m args below meth c g nL Q cl sl tgt lv st ws) : AT p l e R s m args below meth c g nL Q cl sl pc lv st ws := fun H locs ls hP hD hS hl => lv_goto cx.1.1 cx.1.2.1 hd ht (k H locs ls hP hD hS hl)
theorem r_ifeqb (cx : q_cx g p m c cc nL s args own meth) {b : Bool} {off : Int} {tgt : Nat} (hd : decode cc pc = .ok (.ifCond .eq off, 3)) (ht : (pc : Int) + off = (tgt : Int)) (kt : b = false → AT p l e R s m args below meth c g nL Q cl sl tgt lv st ws) (kf : b = true → AT p l e R s m args below meth c g nL Q cl sl (pc + 3) lv st ws) : AT p l e R s m args below meth c g nL Q cl sl pc lv (.int (bI b) :: st) ws := r_ifeq cx hd ht (fun h => kt ((bI_z b).mp h)) (fun h => kf (by cases b <;> first | rfl | exact absurd rfl h))
theorem r_ifneb (cx : q_cx g p m c cc nL s args own meth) {b : Bool} {off : Int} {tgt : Nat} (hd : decode cc pc = .ok (.ifCond .ne off, 3)) (ht : (pc : Int) + off = (tgt : Int)) (kt : b = true → AT p l e R s m args below meth c g nL Q cl sl tgt lv st ws) (kf : b = false → AT p l e R s m args below meth c g nL Q cl sl (pc + 3) lv st ws) : AT p l e R s m args below meth c g nL Q cl sl pc lv (.int (bI b) :: st) ws := r_ifne cx hd ht (fun h => kt (by cases b <;> first | rfl | exact absurd rfl h)) (fun h => kf ((bI_z b).mp h))
theorem r_icmpeqN (cx : q_cx g p m c cc nL s args own meth) {a b : Nat} {off : Int} {tgt : Nat} (ha : a < 2147483648) (hb : b < 2147483648) (hd : decode cc pc = .ok (.if_icmp .eq off, 3)) (ht : (pc : Int) + off = (tgt : Int)) (kt : a = b → AT p l e R s m args below meth c g nL Q cl sl tgt lv st ws) (kf : a ≠ b → AT p l e R s m args below meth c g nL Q cl sl (pc + 3) lv st ws) : AT p l e R s m args below meth c g nL Q cl sl pc lv (.int (nI b) :: .int (nI a) :: st) ws := r_icmpeq cx hd ht (fun h => kt ((nI_eq ha hb).mp h)) (fun h => kf (fun z => h ((nI_eq ha hb).mpr z)))
theorem r_icmpneN (cx : q_cx g p m c cc nL s args own meth) {a b : Nat} {off : Int} {tgt : Nat} (ha : a < 2147483648) (hb : b < 2147483648) (hd : decode cc pc = .ok (.if_icmp .ne off, 3)) (ht : (pc : Int) + off = (tgt : Int)) (kt : a ≠ b → AT p l e R s m args below meth c g nL Q cl sl tgt lv st ws) (kf : a = b → AT p l e R s m args below meth c g nL Q cl sl (pc + 3) lv st ws) : AT p l e R s m args below meth c g nL Q cl sl pc lv (.int (nI b) :: .int (nI a) :: st) ws := r_icmpne cx hd ht (fun h => kt (fun z => h ((nI_eq ha hb).mpr z))) (fun h => kf ((nI_eq ha hb).mp h))
theorem r_icmpltN (cx : q_cx g p m c cc nL s args own meth) {a b : Nat} {off : Int} {tgt : Nat} (ha : a < 2147483648) (hb : b < 2147483648) (hd : decode cc pc = .ok (.if_icmp .lt off, 3)) (ht : (pc : Int) + off = (tgt : Int)) (kt : a < b → AT p l e R s m args below meth c g nL Q cl sl tgt lv st ws) (kf : b ≤ a → AT p l e R s m args below meth c g nL Q cl sl (pc + 3) lv st ws) : AT p l e R s m args below meth c g nL Q cl sl pc lv (.int (nI b) :: .int (nI a) :: st) ws := r_icmplt cx hd ht (fun h => kt ((nI_ltI ha hb).mp h)) (fun h => kf (Nat.not_lt.mp (fun z => h ((nI_ltI ha hb).mpr z))))
theorem r_icmpgeN (cx : q_cx g p m c cc nL s args own meth) {a b : Nat} {off : Int} {tgt : Nat} (ha : a < 2147483648) (hb : b < 2147483648) (hd : decode cc pc = .ok (.if_icmp .ge off, 3)) (ht : (pc : Int) + off = (tgt : Int)) (kt : b ≤ a → AT p l e R s m args below meth c g nL Q cl sl tgt lv st ws) (kf : a < b → AT p l e R s m args below meth c g nL Q cl sl (pc + 3) lv st ws) : AT p l e R s m args below meth c g nL Q cl sl pc lv (.int (nI b) :: .int (nI a) :: st) ws := r_icmpge cx hd ht (fun h => kt ((nI_leI hb ha).mp h)) (fun h => kf (Nat.not_le.mp (fun z => h ((nI_leI hb ha).mpr z))))
theorem r_icmpgtN (cx : q_cx g p m c cc nL s args own meth) {a b : Nat} {off : Int} {tgt : Nat} (ha : a < 2147483648) (hb : b < 2147483648) (hd : decode cc pc = .ok (.if_icmp .gt off, 3)) (ht : (pc : Int) + off = (tgt : Int)) (kt : b < a → AT p l e R s m args below meth c g nL Q cl sl tgt lv st ws) (kf : a ≤ b → AT p l e R s m args below meth c g nL Q cl sl (pc + 3) lv st ws) : AT p l e R s m args below meth c g nL Q cl sl pc lv (.int (nI b) :: .int (nI a) :: st) ws := r_icmpgt cx hd ht (fun h => kt ((nI_ltI hb ha).mp h)) (fun h => kf (Nat.not_lt.mp (fun z => h ((nI_ltI hb ha).mpr z))))
theorem r_icmpleN (cx : q_cx g p m c cc nL s args own meth) {a b : Nat} {off : Int} {tgt : Nat} (ha : a < 2147483648) (hb : b < 2147483648) (hd : decode cc pc = .ok (.if_icmp .le off, 3)) (ht : (pc : Int) + off = (tgt : Int)) (kt : a ≤ b → AT p l e R s m args below meth c g nL Q cl sl tgt lv st ws) (kf : b < a → AT p l e R s m args below meth c g nL Q cl sl (pc + 3) lv st ws) : AT p l e R s m args below meth c g nL Q cl sl pc lv (.int (nI b) :: .int (nI a) :: st) ws := r_icmple cx hd ht (fun h => kt ((nI_leI ha hb).mp h)) (fun h => kf (Nat.not_le.mp (fun z => h ((nI_leI ha hb).mpr z))))
theorem r_ifeqN (cx : q_cx g p m c cc nL s args own meth) {a : Nat} {off : Int} {tgt : Nat} (ha : a < 2147483648) (hd : decode cc pc = .ok (.ifCond .eq off, 3)) (ht : (pc : Int) + off = (tgt : Int)) (kt : a = 0 → AT p l e R s m args below meth c g nL Q cl sl tgt lv st ws) (kf : a ≠ 0 → AT p l e R s m args below meth c g nL Q cl sl (pc + 3) lv st ws) : AT p l e R s m args below meth c g nL Q cl sl pc lv (.int (nI a) :: st) ws := r_ifeq cx hd ht (fun h => kt ((nI_eq ha (show (0 : Nat) < 2147483648 by decide)).mp h)) (fun h => kf (fun z => h ((nI_eq ha (show (0 : Nat) < 2147483648 by decide)).mpr z)))
theorem r_ifneN (cx : q_cx g p m c cc nL s args own meth) {a : Nat} {off : Int} {tgt : Nat} (ha : a < 2147483648) (hd : decode cc pc = .ok (.ifCond .ne off, 3)) (ht : (pc : Int) + off = (tgt : Int)) (kt : a ≠ 0 → AT p l e R s m args below meth c g nL Q cl sl tgt lv st ws) (kf : a = 0 → AT p l e R s m args below meth c g nL Q cl sl (pc + 3) lv st ws) : AT p l e R s m args below meth c g nL Q cl sl pc lv (.int (nI a) :: st) ws := r_ifne cx hd ht (fun h => kt (fun z => h ((nI_eq ha (show (0 : Nat) < 2147483648 by decide)).mpr z))) (fun h => kf ((nI_eq ha (show (0 : Nat) < 2147483648 by decide)).mp h))
theorem r_ifgtN (cx : q_cx g p m c cc nL s args own meth) {a : Nat} {off : Int} {tgt : Nat} (ha : a < 2147483648) (hd : decode cc pc = .ok (.ifCond .gt off, 3)) (ht : (pc : Int) + off = (tgt : Int)) (kt : 0 < a → AT p l e R s m args below meth c g nL Q cl sl tgt lv st ws) (kf : a = 0 → AT p l e R s m args below meth c g nL Q cl sl (pc + 3) lv st ws) : AT p l e R s m args below meth c g nL Q cl sl pc lv (.int (nI a) :: st) ws := r_ifgt cx hd ht (fun h => kt ((nI_ltI (show (0 : Nat) < 2147483648 by decide) ha).mp h)) (fun h => kf (Nat.le_zero.mp (Nat.not_lt.mp (fun z => h ((nI_ltI (show (0 : Nat) < 2147483648 by decide) ha).mpr z)))))
theorem r_ifleN (cx : q_cx g p m c cc nL s args own meth) {a : Nat} {off : Int} {tgt : Nat} (ha : a < 2147483648) (hd : decode cc pc = .ok (.ifCond .le off, 3)) (ht : (pc : Int) + off = (tgt : Int)) (kt : a = 0 → AT p l e R s m args below meth c g nL Q cl sl tgt lv st ws) (kf : 0 < a → AT p l e R s m args below meth c g nL Q cl sl (pc + 3) lv st ws) : AT p l e R s m args below meth c g nL Q cl sl pc lv (.int (nI a) :: st) ws := r_ifle cx hd ht (fun h => kt (Nat.le_zero.mp ((nI_leI ha (show (0 : Nat) < 2147483648 by decide)).mp h))) (fun h => kf (Nat.not_le.mp (fun z => h ((nI_leI ha (show (0 : Nat) < 2147483648 by decide)).mpr z))))
theorem r_ifltN (cx : q_cx g p m c cc nL s args own meth) {a : Nat} {off : Int} {tgt : Nat} (ha : a < 2147483648) (hd : decode cc pc = .ok (.ifCond .lt off, 3)) (ht : (pc : Int) + off = (tgt : Int)) (kf : AT p l e R s m args below meth c g nL Q cl sl (pc + 3) lv st ws) : AT p l e R s m args below meth c g nL Q cl sl pc lv (.int (nI a) :: st) ws := r_iflt cx hd ht (fun h => absurd h (nI_pos ha)) (fun _ => kf)
theorem r_ifgeN (cx : q_cx g p m c cc nL s args own meth) {a : Nat} {off : Int} {tgt : Nat} (ha : a < 2147483648) (hd : decode cc pc = .ok (.ifCond .ge off, 3)) (ht : (pc : Int) + off = (tgt : Int)) (kt : AT p l e R s m args below meth c g nL Q cl sl tgt lv st ws) : AT p l e R s m args below meth c g nL Q cl sl pc lv (.int (nI a) :: st) ws := r_ifge cx hd ht (fun _ => kt) (fun h => absurd (nI_pos' ha) h)
theorem r_iaddN (cx : q_cx g p m c cc nL s args own meth) {a b : Nat} (hd : decode cc pc = .ok (.iadd, 1)) (k : AT p l e R s m args below meth c g nL Q cl sl (pc + 1) lv (.int (nI (a + b)) :: st) ws) : AT p l e R s m args below meth c g nL Q cl sl pc lv (.int (nI b) :: .int (nI a) :: st) ws := r_iadd cx hd (by rw [nI_add]; exact k)
theorem r_isubN (cx : q_cx g p m c cc nL s args own meth) {a b : Nat} (hd : decode cc pc = .ok (.isub, 1)) (h : b ≤ a) (k : AT p l e R s m args below meth c g nL Q cl sl (pc + 1) lv (.int (nI (a - b)) :: st) ws) : AT p l e R s m args below meth c g nL Q cl sl pc lv (.int (nI b) :: .int (nI a) :: st) ws := r_isub cx hd (by rw [pk_sub h]; exact k)
theorem r_imulN (cx : q_cx g p m c cc nL s args own meth) {a b : Nat} (hd : decode cc pc = .ok (.imul, 1)) (k : AT p l e R s m args below meth c g nL Q cl sl (pc + 1) lv (.int (nI (a * b)) :: st) ws) : AT p l e R s m args below meth c g nL Q cl sl pc lv (.int (nI b) :: .int (nI a) :: st) ws := r_imul cx hd (by rw [pk_mul]; exact k)
theorem r_idivN (cx : q_cx g p m c cc nL s args own meth) {a b : Nat} (hd : decode cc pc = .ok (.idiv, 1)) (ha : a < 2147483648) (h0 : 0 < b) (hb : b < 2147483648) (k : AT p l e R s m args below meth c g nL Q cl sl (pc + 1) lv (.int (nI (a / b)) :: st) ws) : AT p l e R s m args below meth c g nL Q cl sl pc lv (.int (nI b) :: .int (nI a) :: st) ws := r_idiv cx hd (nI_ne0 h0 hb) (by rw [pk_div ha h0 hb]; exact k)
theorem r_iremN (cx : q_cx g p m c cc nL s args own meth) {a b : Nat} (hd : decode cc pc = .ok (.irem, 1)) (ha : a < 2147483648) (h0 : 0 < b) (hb : b < 2147483648) (k : AT p l e R s m args below meth c g nL Q cl sl (pc + 1) lv (.int (nI (a % b)) :: st) ws) : AT p l e R s m args below meth c g nL Q cl sl pc lv (.int (nI b) :: .int (nI a) :: st) ws := r_irem cx hd (nI_ne0 h0 hb) (by rw [pk_rem ha h0 hb]; exact k)
theorem q_ofI (j : Nat) : Int32.ofInt (j : Int) = nI j := Int32.ofInt_eq_ofNat
theorem r_iincN (cx : q_cx g p m c cc nL s args own meth) {i j a : Nat} {n : Int} {lv2 : List (Nat × Value)} (hd : decode cc pc = .ok (.iinc i n, 3)) (hl0 : lv.lookup i = some (.int (nI a))) (hj : n = (j : Int)) (hn : i < nL) (hl2 : (i, Value.int (nI (a + j))) :: lv.filter (fun q => !(q.1 == i) && !(q.1 + 1 == i && q.2.category == 2)) = lv2) (kk : AT p l e R s m args below meth c g nL Q cl sl (pc + 3) lv2 st ws) : AT p l e R s m args below meth c g nL Q cl sl pc lv st ws := r_iinc cx hd hl0 (by rw [hj, q_ofI, nI_add]) hn hl2 kk
theorem r_eqi {x y : Int32} (h : x = y) (k : AT p l e R s m args below meth c g nL Q cl sl pc lv (.int y :: st) ws) : AT p l e R s m args below meth c g nL Q cl sl pc lv (.int x :: st) ws := h ▸ k
theorem r_eql {x y : Int64} (h : x = y) (k : AT p l e R s m args below meth c g nL Q cl sl pc lv (.long y :: st) ws) : AT p l e R s m args below meth c g nL Q cl sl pc lv (.long x :: st) ws := h ▸ k
theorem r_eqv {x y : Value} (h : x = y) (k : AT p l e R s m args below meth c g nL Q cl sl pc lv (y :: st) ws) : AT p l e R s m args below meth c g nL Q cl sl pc lv (x :: st) ws := h ▸ k
theorem r_lv {lv2 : List (Nat × Value)} (h : ∀ q ∈ lv2, q ∈ lv) (k : AT p l e R s m args below meth c g nL Q cl sl pc lv2 st ws) : AT p l e R s m args below meth c g nL Q cl sl pc lv st ws := fun H locs ls hP hD hS hl => k H locs ls hP hD hS (q_lks hl h)
theorem q_pk {lv lv2 : List (Nat × Value)} (ks : List Nat) (h : lv_pick lv ks = lv2) : ∀ q ∈ lv2, q ∈ lv := fun q hq => by
  subst h
  obtain ⟨i, -, hi⟩ := List.mem_filterMap.mp hq
  exact List.mem_of_getElem? hi
theorem r_ws {ws2 : va_W} (h : ws = ws2) (k : AT p l e R s m args below meth c g nL Q cl sl pc lv st ws2) : AT p l e R s m args below meth c g nL Q cl sl pc lv st ws := h ▸ k
theorem r_perm {ws2 : va_W} (h : ws.Perm ws2) (k : AT p l e R s m args below meth c g nL Q cl sl pc lv st ws2) : AT p l e R s m args below meth c g nL Q cl sl pc lv st ws := fun H locs ls hP hD hS hl => k H locs ls (q_P_perm h hP) (q_D_perm h hD) hS hl
theorem r_drop {ws2 wsx : va_W} (h : (ws2 ++ wsx).Perm ws) (k : AT p l e R s m args below meth c g nL Q cl sl pc lv st ws2) : AT p l e R s m args below meth c g nL Q cl sl pc lv st ws := fun H locs ls hP hD hS hl => k H locs ls (fun kk q hq => q_P_perm h.symm hP kk q (by rw [List.getElem?_append_left (List.getElem?_eq_some_iff.mp hq).1]; exact hq)) (by
    have h2 := q_D_perm h.symm hD
    rw [q_D_nd] at h2 ⊢
    refine ⟨?_, fun q hq => h2.2 q (List.mem_append_left _ hq)⟩
    have h3 := h2.1
    rw [List.map_append] at h3
    exact (List.nodup_append.mp h3).1) hS hl
theorem r_wide {k n : Nat} (h1 : cl ≤ k) (h2 : sl ≤ n) (kk : AT p l e R s m args below meth c g nL Q k n pc lv st ws) : AT p l e R s m args below meth c g nL Q cl sl pc lv st ws := fun H locs ls hP hD hS hl => W.widen h1 h2 (kk H locs ls hP hD hS hl)
theorem r_iald (cx : q_cx g p m c cc nL s args own meth) (q0 t0 : Nat) {a : Nat} {cA : ClassId} {n : Nat} {f : Nat → Int32} {i : Int32} (hd : decode cc pc = .ok (.iaload, 1)) (ha : ws[q0]? = some (a, .inl (cA, n, .inl f))) (ht : (q_tys g)[t0]? = some (cA, .int)) (hin : vp_in i n) (k : AT p l e R s m args below meth c g nL Q cl sl (pc + 1) lv (.int (f i.toNatClampNeg) :: st) ws) : AT p l e R s m args below meth c g nL Q cl sl pc lv (.int i :: .ref a :: st) ws := fun H locs ls hP hD hS hl => va_iald cx.1.1 cx.1.2.1 cx.2.1.2.1 hP q0 t0 ha ht hin hd (k H locs ls hP hD hS hl)
theorem r_zald (cx : q_cx g p m c cc nL s args own meth) (q0 t0 : Nat) {a : Nat} {cA : ClassId} {n : Nat} {f : Nat → Int32} {i : Int32} (hd : decode cc pc = .ok (.baload, 1)) (ha : ws[q0]? = some (a, .inl (cA, n, .inl f))) (ht : (q_tys g)[t0]? = some (cA, .boolean)) (hin : vp_in i n) (k : AT p l e R s m args below meth c g nL Q cl sl (pc + 1) lv (.int (f i.toNatClampNeg) :: st) ws) : AT p l e R s m args below meth c g nL Q cl sl pc lv (.int i :: .ref a :: st) ws := fun H locs ls hP hD hS hl => va_zald cx.1.1 cx.1.2.1 cx.2.1.2.1 hP q0 t0 ha ht hin hd (k H locs ls hP hD hS hl)
theorem r_lald (cx : q_cx g p m c cc nL s args own meth) (q0 t0 : Nat) {a : Nat} {cA : ClassId} {n : Nat} {f : Nat → Int64} {i : Int32} (hd : decode cc pc = .ok (.laload, 1)) (ha : ws[q0]? = some (a, .inl (cA, n, .inr (.inl f)))) (ht : (q_tys g)[t0]? = some (cA, .long)) (hin : vp_in i n) (k : AT p l e R s m args below meth c g nL Q cl sl (pc + 1) lv (.long (f i.toNatClampNeg) :: st) ws) : AT p l e R s m args below meth c g nL Q cl sl pc lv (.int i :: .ref a :: st) ws := fun H locs ls hP hD hS hl => va_lald cx.1.1 cx.1.2.1 cx.2.1.2.1 hP q0 t0 ha ht hin hd (k H locs ls hP hD hS hl)
theorem r_aldq (cx : q_cx g p m c cc nL s args own meth) (q0 t0 : Nat) {a : Nat} {cA : ClassId} {C : String} {n : Nat} {f : Nat → Option Nat} {i : Int32} (hd : decode cc pc = .ok (.aaload, 1)) (ha : ws[q0]? = some (a, .inl (cA, n, .inr (.inr (.inr (.inr f)))))) (ht : (q_tys g)[t0]? = some (cA, .object C)) (hin : vp_in i n) (k : AT p l e R s m args below meth c g nL Q cl sl (pc + 1) lv (va_rf (f i.toNatClampNeg) :: st) ws) : AT p l e R s m args below meth c g nL Q cl sl pc lv (.int i :: .ref a :: st) ws := fun H locs ls hP hD hS hl => va_aldq cx.1.1 cx.1.2.1 cx.2.1.2.1 hP q0 t0 ha ht hin hd (k H locs ls hP hD hS hl)
theorem r_iast (cx : q_cx g p m c cc nL s args own meth) (q0 t0 : Nat) {a : Nat} {cA : ClassId} {n : Nat} {f : Nat → Int32} {i : Int32} {x : Int32} (hd : decode cc pc = .ok (.iastore, 1)) (ha : ws[q0]? = some (a, .inl (cA, n, .inl f))) (ht : (q_tys g)[t0]? = some (cA, .int)) (hin : vp_in i n) (k : AT p l e R s m args below meth c g nL Q cl sl (pc + 1) lv st (ws.set q0 (a, .inl (cA, n, .inl (upd f i.toNatClampNeg x))))) : AT p l e R s m args below meth c g nL Q cl sl pc lv (.int x :: .int i :: .ref a :: st) ws := fun H locs ls hP hD hS hl => va_iast cx.1.1 cx.1.2.1 cx.2.1.2.1 hP hD hS q0 t0 ha ht hin hd (fun H1 locs1 hP hD hS => k H1 locs1 ls hP hD hS hl)
theorem r_zast (cx : q_cx g p m c cc nL s args own meth) (q0 t0 : Nat) {a : Nat} {cA : ClassId} {n : Nat} {f : Nat → Int32} {i : Int32} {x : Int32} (hd : decode cc pc = .ok (.bastore, 1)) (ha : ws[q0]? = some (a, .inl (cA, n, .inl f))) (ht : (q_tys g)[t0]? = some (cA, .boolean)) (hin : vp_in i n) (k : AT p l e R s m args below meth c g nL Q cl sl (pc + 1) lv st (ws.set q0 (a, .inl (cA, n, .inl (upd f i.toNatClampNeg (vp_nar .boolean x)))))) : AT p l e R s m args below meth c g nL Q cl sl pc lv (.int x :: .int i :: .ref a :: st) ws := fun H locs ls hP hD hS hl => va_zast cx.1.1 cx.1.2.1 cx.2.1.2.1 hP hD hS q0 t0 ha ht hin hd (fun H1 locs1 hP hD hS => k H1 locs1 ls hP hD hS hl)
theorem r_last (cx : q_cx g p m c cc nL s args own meth) (q0 t0 : Nat) {a : Nat} {cA : ClassId} {n : Nat} {f : Nat → Int64} {i : Int32} {x : Int64} (hd : decode cc pc = .ok (.lastore, 1)) (ha : ws[q0]? = some (a, .inl (cA, n, .inr (.inl f)))) (ht : (q_tys g)[t0]? = some (cA, .long)) (hin : vp_in i n) (k : AT p l e R s m args below meth c g nL Q cl sl (pc + 1) lv st (ws.set q0 (a, .inl (cA, n, .inr (.inl (vp_updL f i.toNatClampNeg x)))))) : AT p l e R s m args below meth c g nL Q cl sl pc lv (.long x :: .int i :: .ref a :: st) ws := fun H locs ls hP hD hS hl => va_last cx.1.1 cx.1.2.1 cx.2.1.2.1 hP hD hS q0 t0 ha ht hin hd (fun H1 locs1 hP hD hS => k H1 locs1 ls hP hD hS hl)
theorem r_alen (cx : q_cx g p m c cc nL s args own meth) (q0 t0 : Nat) {a : Nat} {cA : ClassId} {x : vp_A} {ty : FieldType} {v : Int32} (hd : decode cc pc = .ok (.arraylength, 1)) (ha : ws[q0]? = some (a, .inl (cA, x))) (ht : (q_tys g)[t0]? = some (cA, ty)) (hv : Int32.ofNat x.1 = v) (k : AT p l e R s m args below meth c g nL Q cl sl (pc + 1) lv (.int v :: st) ws) : AT p l e R s m args below meth c g nL Q cl sl pc lv (.ref a :: st) ws := fun H locs ls hP hD hS hl => va_alen cx.1.1 cx.1.2.1 cx.2.1.2.1 hP q0 t0 ha ht hv hd (k H locs ls hP hD hS hl)
theorem r_ialdN (cx : q_cx g p m c cc nL s args own meth) (q0 t0 : Nat) {a : Nat} {cA : ClassId} {n : Nat} {f : Nat → Int32} {i : Nat} (hd : decode cc pc = .ok (.iaload, 1)) (ha : ws[q0]? = some (a, .inl (cA, n, .inl f))) (ht : (q_tys g)[t0]? = some (cA, .int)) (hin : i < n) (hn : n < 2147483648) (k : AT p l e R s m args below meth c g nL Q cl sl (pc + 1) lv (.int (f i) :: st) ws) : AT p l e R s m args below meth c g nL Q cl sl pc lv (.int (nI i) :: .ref a :: st) ws := r_iald cx q0 t0 hd ha ht (vp_in_nI hin hn) (by rw [nI_clamp (Nat.lt_trans hin hn)]; exact k)
theorem r_zaldN (cx : q_cx g p m c cc nL s args own meth) (q0 t0 : Nat) {a : Nat} {cA : ClassId} {n : Nat} {f : Nat → Int32} {i : Nat} (hd : decode cc pc = .ok (.baload, 1)) (ha : ws[q0]? = some (a, .inl (cA, n, .inl f))) (ht : (q_tys g)[t0]? = some (cA, .boolean)) (hin : i < n) (hn : n < 2147483648) (k : AT p l e R s m args below meth c g nL Q cl sl (pc + 1) lv (.int (f i) :: st) ws) : AT p l e R s m args below meth c g nL Q cl sl pc lv (.int (nI i) :: .ref a :: st) ws := r_zald cx q0 t0 hd ha ht (vp_in_nI hin hn) (by rw [nI_clamp (Nat.lt_trans hin hn)]; exact k)
theorem r_laldN (cx : q_cx g p m c cc nL s args own meth) (q0 t0 : Nat) {a : Nat} {cA : ClassId} {n : Nat} {f : Nat → Int64} {i : Nat} (hd : decode cc pc = .ok (.laload, 1)) (ha : ws[q0]? = some (a, .inl (cA, n, .inr (.inl f)))) (ht : (q_tys g)[t0]? = some (cA, .long)) (hin : i < n) (hn : n < 2147483648) (k : AT p l e R s m args below meth c g nL Q cl sl (pc + 1) lv (.long (f i) :: st) ws) : AT p l e R s m args below meth c g nL Q cl sl pc lv (.int (nI i) :: .ref a :: st) ws := r_lald cx q0 t0 hd ha ht (vp_in_nI hin hn) (by rw [nI_clamp (Nat.lt_trans hin hn)]; exact k)
theorem r_iastN (cx : q_cx g p m c cc nL s args own meth) (q0 t0 : Nat) {a : Nat} {cA : ClassId} {n : Nat} {f : Nat → Int32} {i : Nat} {x : Int32} (hd : decode cc pc = .ok (.iastore, 1)) (ha : ws[q0]? = some (a, .inl (cA, n, .inl f))) (ht : (q_tys g)[t0]? = some (cA, .int)) (hin : i < n) (hn : n < 2147483648) (k : AT p l e R s m args below meth c g nL Q cl sl (pc + 1) lv st (ws.set q0 (a, .inl (cA, n, .inl (upd f i x))))) : AT p l e R s m args below meth c g nL Q cl sl pc lv (.int x :: .int (nI i) :: .ref a :: st) ws := r_iast cx q0 t0 hd ha ht (vp_in_nI hin hn) (by rw [nI_clamp (Nat.lt_trans hin hn)]; exact k)
theorem r_zastN (cx : q_cx g p m c cc nL s args own meth) (q0 t0 : Nat) {a : Nat} {cA : ClassId} {n : Nat} {f : Nat → Int32} {i : Nat} {b : Bool} (hd : decode cc pc = .ok (.bastore, 1)) (ha : ws[q0]? = some (a, .inl (cA, n, .inl f))) (ht : (q_tys g)[t0]? = some (cA, .boolean)) (hin : i < n) (hn : n < 2147483648) (k : AT p l e R s m args below meth c g nL Q cl sl (pc + 1) lv st (ws.set q0 (a, .inl (cA, n, .inl (upd f i (bI b)))))) : AT p l e R s m args below meth c g nL Q cl sl pc lv (.int (bI b) :: .int (nI i) :: .ref a :: st) ws := r_zast cx q0 t0 hd ha ht (vp_in_nI hin hn) (by rw [nI_clamp (Nat.lt_trans hin hn), bI_vnar]; exact k)
theorem r_lastN (cx : q_cx g p m c cc nL s args own meth) (q0 t0 : Nat) {a : Nat} {cA : ClassId} {n : Nat} {f : Nat → Int64} {i : Nat} {x : Int64} (hd : decode cc pc = .ok (.lastore, 1)) (ha : ws[q0]? = some (a, .inl (cA, n, .inr (.inl f)))) (ht : (q_tys g)[t0]? = some (cA, .long)) (hin : i < n) (hn : n < 2147483648) (k : AT p l e R s m args below meth c g nL Q cl sl (pc + 1) lv st (ws.set q0 (a, .inl (cA, n, .inr (.inl (vp_updL f i x)))))) : AT p l e R s m args below meth c g nL Q cl sl pc lv (.long x :: .int (nI i) :: .ref a :: st) ws := r_last cx q0 t0 hd ha ht (vp_in_nI hin hn) (by rw [nI_clamp (Nat.lt_trans hin hn)]; exact k)
theorem r_iret (cx : q_cx g p m c cc nL s args own meth) {post : Int32 → va_W → Prop} {v : Int32} {mc ms : Nat} (hd : decode cc pc = .ok (.ireturn, 1)) (hr : meth.sig.returnType = some .int)  (hp : post v ws) (hc : cl ≤ mc) (hs : sl ≤ ms) : AT p l e R s m args below meth c g nL (MQ below (q_Qi g post) args s mc ms (q_A g)) cl sl pc lv [.int v] ws := fun H locs ls hP hD hS hl => W.widen hc hs (W.iret cx.1.1 cx.1.2.1 hr  (fun t ht hW => ⟨⟨v, ws, rfl, hp, by rw [q_B, q_in, ht]; exact ⟨hP, hD⟩⟩, hS.F ht⟩) hS.2.2 hd cx.2.2)
theorem x_iret (cx : q_cx g p m c cc nL s args own meth) {post : Int32 → va_W → Prop} {XC : String → State → State → Prop} {v : Int32} {mc ms : Nat} (hd : decode cc pc = .ok (.ireturn, 1)) (hr : meth.sig.returnType = some .int)  (hp : post v ws) (hc : cl ≤ mc) (hs : sl ≤ ms) : AT p l e R s m args below meth c g nL (vx_MQ below (q_Qi g post) XC args s mc ms (q_A g)) cl sl pc lv [.int v] ws := fun H locs ls hP hD hS hl => vx_ret (r_iret cx hd hr  hp hc hs H locs ls hP hD hS hl)
theorem r_lret (cx : q_cx g p m c cc nL s args own meth) {post : Int64 → va_W → Prop} {v : Int64} {mc ms : Nat} (hd : decode cc pc = .ok (.lreturn, 1)) (hr : meth.sig.returnType = some .long)  (hp : post v ws) (hc : cl ≤ mc) (hs : sl ≤ ms) : AT p l e R s m args below meth c g nL (MQ below (q_Ql g post) args s mc ms (q_A g)) cl sl pc lv [.long v] ws := fun H locs ls hP hD hS hl => W.widen hc hs (W.lret cx.1.1 cx.1.2.1 hr  (fun t ht hW => ⟨⟨v, ws, rfl, hp, by rw [q_B, q_in, ht]; exact ⟨hP, hD⟩⟩, hS.F ht⟩) hS.2.2 hd cx.2.2)
theorem x_lret (cx : q_cx g p m c cc nL s args own meth) {post : Int64 → va_W → Prop} {XC : String → State → State → Prop} {v : Int64} {mc ms : Nat} (hd : decode cc pc = .ok (.lreturn, 1)) (hr : meth.sig.returnType = some .long)  (hp : post v ws) (hc : cl ≤ mc) (hs : sl ≤ ms) : AT p l e R s m args below meth c g nL (vx_MQ below (q_Ql g post) XC args s mc ms (q_A g)) cl sl pc lv [.long v] ws := fun H locs ls hP hD hS hl => vx_ret (r_lret cx hd hr  hp hc hs H locs ls hP hD hS hl)
theorem r_zret (cx : q_cx g p m c cc nL s args own meth) {post : Int32 → va_W → Prop} {v : Int32} {mc ms : Nat} (hd : decode cc pc = .ok (.ireturn, 1)) (hr : meth.sig.returnType = some .boolean) (hn : narrow .boolean (.int v) = .int v) (hp : post v ws) (hc : cl ≤ mc) (hs : sl ≤ ms) : AT p l e R s m args below meth c g nL (MQ below (q_Qi g post) args s mc ms (q_A g)) cl sl pc lv [.int v] ws := fun H locs ls hP hD hS hl => W.widen hc hs (W.zret cx.1.1 cx.1.2.1 hr hn (fun t ht hW => ⟨⟨v, ws, rfl, hp, by rw [q_B, q_in, ht]; exact ⟨hP, hD⟩⟩, hS.F ht⟩) hS.2.2 hd cx.2.2)
theorem x_zret (cx : q_cx g p m c cc nL s args own meth) {post : Int32 → va_W → Prop} {XC : String → State → State → Prop} {v : Int32} {mc ms : Nat} (hd : decode cc pc = .ok (.ireturn, 1)) (hr : meth.sig.returnType = some .boolean) (hn : narrow .boolean (.int v) = .int v) (hp : post v ws) (hc : cl ≤ mc) (hs : sl ≤ ms) : AT p l e R s m args below meth c g nL (vx_MQ below (q_Qi g post) XC args s mc ms (q_A g)) cl sl pc lv [.int v] ws := fun H locs ls hP hD hS hl => vx_ret (r_zret cx hd hr hn hp hc hs H locs ls hP hD hS hl)
theorem r_vret (cx : q_cx g p m c cc nL s args own meth) {post : va_W → Prop} {mc ms : Nat} (hd : decode cc pc = .ok (.return_, 1)) (hr : meth.sig.returnType = none) (hp : post ws) (hc : cl ≤ mc) (hs : sl ≤ ms) : AT p l e R s m args below meth c g nL (MQ below (q_Qv g post) args s mc ms (q_A g)) cl sl pc lv [] ws := fun H locs ls hP hD hS hl => W.widen hc hs (W.vret cx.1.1 cx.1.2.1 hr (fun t ht hW => ⟨⟨ws, rfl, hp, by rw [q_B, q_in, ht]; exact ⟨hP, hD⟩⟩, hS.F ht⟩) hS.2.2 hd cx.2.2)
theorem q_rf (r : Option Nat) : va_rf r = .null ∨ ∃ a, va_rf r = .ref a := by cases r <;> simp [va_rf]
theorem r_aret (cx : q_cx g p m c cc nL s args own meth) {post : Option Nat → va_W → Prop} {r : Option Nat} {rt : FieldType} {mc ms : Nat} (hd : decode cc pc = .ok (.areturn, 1)) (hr : meth.sig.returnType = some rt) (hrt : (∃ n, rt = .object n) ∨ ∃ t, rt = .array t) (hp : post r ws) (hc : cl ≤ mc) (hs : sl ≤ ms) : AT p l e R s m args below meth c g nL (MQ below (q_Qq g post) args s mc ms (q_A g)) cl sl pc lv [va_rf r] ws := fun H locs ls hP hD hS hl => W.widen hc hs (W.aret cx.1.1 cx.1.2.1 hr hrt (q_rf r) (fun t ht hW => ⟨⟨r, ws, rfl, hp, by rw [q_B, q_in, ht]; exact ⟨hP, hD⟩⟩, hS.F ht⟩) hS.2.2 hd cx.2.2)
theorem at_loop {σ : Type} (I : σ → Prop) (lf : σ → List (Nat × Value)) (wf : σ → va_W) (μ : σ → Nat) (x0 : σ) (h0 : I x0) (hl : ∀ q ∈ lf x0, q ∈ lv) (hw : ws = wf x0) (step : ∀ x, I x → (∀ y, I y → μ y < μ x → AT p l e R s m args below meth c g nL Q cl sl pc (lf y) st (wf y)) → AT p l e R s m args below meth c g nL Q cl sl pc (lf x) st (wf x)) : AT p l e R s m args below meth c g nL Q cl sl pc lv st ws := by
  subst hw
  have key : ∀ (n : Nat) (x : σ), μ x < n → I x → AT p l e R s m args below meth c g nL Q cl sl pc (lf x) st (wf x) := by
    intro n
    induction n with
    | zero => intro x h; exact absurd h (Nat.not_lt_zero _)
    | succ n ih => intro x h hx; exact step x hx (fun y hy hlt => ih y (by omega) hy)
  exact r_lv hl (key _ x0 (Nat.lt_succ_self _) h0)
theorem at_join {σ : Type} {tgt : Nat} (I : σ → Prop) (lf : σ → List (Nat × Value)) (sf : σ → List Value) (wf : σ → va_W) (k : ∀ x, I x → AT p l e R s m args below meth c g nL Q cl sl tgt (lf x) (sf x) (wf x)) (body : (∀ x, I x → AT p l e R s m args below meth c g nL Q cl sl tgt (lf x) (sf x) (wf x)) → AT p l e R s m args below meth c g nL Q cl sl pc lv st ws) : AT p l e R s m args below meth c g nL Q cl sl pc lv st ws := body k
theorem q_met {y : MethodName} {bytes : ByteArray} {maxL : Nat} {ret : Option FieldType} {rm : Room} {av : List Value} {Qc : Array Value → State → Outcome → State → Prop} (hy : plainName y.cls = true) (hown : y.cls = own) (hlen : (lg_sl av).length ≤ maxL)
    (body : ∀ (p : Program) (e : Env) (s : State) (m : MethodId) (args : Array Value) (below : List Frame) (meth : Method) (c : Code), q_cx g p m c bytes maxL s args own meth → meth.sig.returnType = ret → (meth.name = y.name) → AT p l e rm s m args below meth c g maxL (MQ below Qc args s rm.cells rm.slots (q_A g)) 0 0 0 (lv_args 0 av) [] ws) : MetW l g y bytes maxL ret rm av ws Qc := by
  refine Met.ofW (cc := bytes) (maxL := maxL) (ret := ret) hy rfl ?_
  intro p e s m args below meth c s₁ B hml hv
  obtain ⟨rfl, hE, hI⟩ := hv
  have hts := atoms_spec (ws := Cond.code y bytes maxL ret :: WS) B.pre
  rw [lg_entry_eq]
  exact body p e s m _ below meth c ⟨⟨B.exec, B.bytes, hml, hown ▸ findClass_of_methodNamed B.named, fun w hw => hts w (List.mem_cons_of_mem _ hw)⟩, hE, B.notSynchronized⟩ B.returns (name_of_methodNamed B.named B.method).1 s.heap [] _ hI.1 hI.2 va_S.rf (lv_entry av hlen)
theorem q_metX {y : MethodName} {bytes : ByteArray} {maxL : Nat} {ret : Option FieldType} {rm : Room} {av : List Value} {Qc : Array Value → State → Outcome → State → Prop} {pe : String → va_W → Prop} (hy : plainName y.cls = true) (hown : y.cls = own) (hlen : (lg_sl av).length ≤ maxL)
    (body : ∀ (p : Program) (e : Env) (s : State) (m : MethodId) (args : Array Value) (below : List Frame) (meth : Method) (c : Code), q_cx g p m c bytes maxL s args own meth → meth.sig.returnType = ret → (∀ x ∈ c.exceptionTable.toList, False) → AT p l e rm s m args below meth c g maxL (vx_MQ below Qc (q_XC g pe) args s rm.cells rm.slots (q_A g)) 0 0 0 (lv_args 0 av) [] ws) : MetX l g y bytes maxL ret rm av ws Qc pe := by
  refine vx_ofW (cc := bytes) (maxL := maxL) (ret := ret) hy rfl ?_
  intro p e s m args below meth c s₁ B hml htab hv
  obtain ⟨rfl, hE, hI⟩ := hv
  have hts := atoms_spec (ws := Cond.code y bytes maxL ret :: WS) B.pre
  rw [lg_entry_eq]
  exact body p e s m _ below meth c ⟨⟨B.exec, B.bytes, hml, hown ▸ findClass_of_methodNamed B.named, fun w hw => hts w (List.mem_cons_of_mem _ hw)⟩, hE, B.notSynchronized⟩ B.returns htab s.heap [] _ hI.1 hI.2 va_S.rf (lv_entry av hlen)
end ROWS
end
section
section CALLS
variable {p : Program} {l : Launch} {e : Env} {R : Room} {s : State} {m : MethodId} {args : Array Value} {below : List Frame} {meth : Method} {c : Code} {g : q_G} {nL : Nat} {Q : State → Prop} {cl sl : Nat} {cc : ByteArray} {own : String} {pc : Nat} {lv : List (Nat × Value)} {st st0 : List Value} {ws : va_W} {y : MethodName} {bytes : ByteArray} {maxL index n : Nat} {ret : Option FieldType} {rm : Room} {As : List Value} {b : Nat}
abbrev q_MH : String := "java/lang/invoke/MethodHandle"
abbrev q_VH : String := "java/lang/invoke/VarHandle"
theorem q_Vi (cx : q_cx g p m c cc nL s args own meth) {C : String} {post : Int32 → va_W → Prop} (G : GoodIn WS (wsV own index C y (Cond.code y bytes maxL ret :: WS))) (hC : y.cls = C ∧ y.cls ≠ q_MH ∧ y.cls ≠ q_VH ∧ (parseMethodDescriptor y.desc).map (fun d => d.parameters.length) = some n) {ci : Nat} {q : vw_C} (hc : vwCl[ci]? = some q) (hq : q.1 = C)
    (hM : MetW l g y bytes maxL ret rm (.ref b :: As) ws (q_Qi g post)) (hd : decode cc pc = .ok (.invokevirtual index, 3)) (q0 : Nat) {fs : List Value} (he : ws[q0]? = some (b, .inr (ci, fs))) (hR : rm.frames + 1 ≤ R.frames ∧ 8 + (maxL + 11) + rm.locals ≤ R.locals) (hroom : cl + rm.cells ≤ R.cells ∧ sl + rm.slots ≤ R.slots) (hst : st0 = As.reverse ++ .ref b :: st) (hn : As.length = n) (hW : (st.map fun v => v.category).sum ≤ 8) (kk : ∀ (r : Int32) (u : va_W), post r u → AT p l e R s m args below meth c g nL Q (cl + rm.cells) (sl + rm.slots) (pc + 3) lv (.int r :: st) u) : AT p l e R s m args below meth c g nL Q cl sl pc lv st0 ws := fun H locs ls hP hD hS hl =>
  va_calli (va_runV (As := As) (rest := st) cx.1 hM (cwV n cx.1.2.2.2.2 G rfl rfl rfl hC hR) ⟨q_Pc.blind, hq ▸ va_recv cx.2.1.2.1 hP hc he, fun U hU hW => ⟨rfl, q_env.go cx.2.1 hU hW hS, by rw [q_in, hU]; exact ⟨hP, hD⟩⟩⟩ rfl hn hl.1 hst (lv_room hW) hd hroom) hS (fun q _ h => h) (fun q h => h) (fun r u t H1 locs1 ht hvm hw hB hz1 hk1 hS => by subst ht; exact kk r u hw _ locs1 ls hB.1 hB.2 hS hl)
theorem q_Si (cx : q_cx g p m c cc nL s args own meth) {post : Int32 → va_W → Prop} (G : GoodIn WS (va_wsS own index y (Cond.code y bytes maxL ret :: WS))) (hC :  y.cls ≠ q_MH ∧ y.cls ≠ q_VH ∧ (parseMethodDescriptor y.desc).map (fun d => d.parameters.length) = some n)
    (hM : MetW l g y bytes maxL ret rm As ws (q_Qi g post)) (hd : decode cc pc = .ok (.invokestatic index, 3)) (hR : rm.frames + 1 ≤ R.frames ∧ 8 + (maxL + 11) + rm.locals ≤ R.locals) (hroom : cl + rm.cells ≤ R.cells ∧ sl + rm.slots ≤ R.slots) (hst : st0 = As.reverse ++ st) (hn : As.length = n) (hW : (st.map fun v => v.category).sum ≤ 8) (kk : ∀ (r : Int32) (u : va_W), post r u → AT p l e R s m args below meth c g nL Q (cl + rm.cells) (sl + rm.slots) (pc + 3) lv (.int r :: st) u) : AT p l e R s m args below meth c g nL Q cl sl pc lv st0 ws := fun H locs ls hP hD hS hl =>
  va_calli (va_runS (As := As) (rest := st) cx.1 hM (va_cwS n cx.1.2.2.2.2 G rfl rfl rfl hC hR) ⟨q_Pc.blind, fun U hU hW => ⟨rfl, q_env.go cx.2.1 hU hW hS, by rw [q_in, hU]; exact ⟨hP, hD⟩⟩⟩ rfl hn hl.1 hst (lv_room hW) hd hroom) hS (fun q _ h => h) (fun q h => h) (fun r u t H1 locs1 ht hvm hw hB hz1 hk1 hS => by subst ht; exact kk r u hw _ locs1 ls hB.1 hB.2 hS hl)
theorem q_Ni (cx : q_cx g p m c cc nL s args own meth) {C host : String} {post : Int32 → va_W → Prop} (m0 : Cond.methodLinkNest own index y host ∈ NGW) (m2 : Cond.instanceMethod y ∈ WS) (m3 : Cond.selects C y y ∈ WS) (m4 : Cond.initialized y.cls ∈ WS) (m5 : Cond.code y bytes maxL ret ∈ WS) (hC :  y.cls ≠ q_MH ∧ y.cls ≠ q_VH ∧ (parseMethodDescriptor y.desc).map (fun d => d.parameters.length) = some n) {ci : Nat} {q : vw_C} (hc : vwCl[ci]? = some q) (hq : q.1 = C)
    (hM : MetW l g y bytes maxL ret rm (.ref b :: As) ws (q_Qi g post)) (hd : decode cc pc = .ok (.invokevirtual index, 3)) (q0 : Nat) {fs : List Value} (he : ws[q0]? = some (b, .inr (ci, fs))) (hR : rm.frames + 1 ≤ R.frames ∧ 8 + (maxL + 11) + rm.locals ≤ R.locals) (hroom : cl + rm.cells ≤ R.cells ∧ sl + rm.slots ≤ R.slots) (hst : st0 = As.reverse ++ .ref b :: st) (hn : As.length = n) (hW : (st.map fun v => v.category).sum ≤ 8) (kk : ∀ (r : Int32) (u : va_W), post r u → AT p l e R s m args below meth c g nL Q (cl + rm.cells) (sl + rm.slots) (pc + 3) lv (.int r :: st) u) : AT p l e R s m args below meth c g nL Q cl sl pc lv st0 ws := fun H locs ls hP hD hS hl =>
  va_calli (va_runVN (As := As) (rest := st) cx.1 hM ⟨va_cnB n cx.1.2.2.2.2 (gi_code m5) rfl rfl rfl (cx.2.1.2.2.1 _ m0) (cx.ok m4) hC hR, cx.ok m2, cx.ok m3⟩ ⟨q_Pc.blind, hq ▸ va_recv cx.2.1.2.1 hP hc he, fun U hU hW => ⟨rfl, q_env.go cx.2.1 hU hW hS, by rw [q_in, hU]; exact ⟨hP, hD⟩⟩⟩ rfl hn hl.1 hst (lv_room hW) hd hroom) hS (fun q _ h => h) (fun q h => h) (fun r u t H1 locs1 ht hvm hw hB hz1 hk1 hS => by subst ht; exact kk r u hw _ locs1 ls hB.1 hB.2 hS hl)
theorem q_Xi (cx : q_cx g p m c cc nL s args own meth) {C : String} {post : Int32 → va_W → Prop} {pe : String → va_W → Prop} (G : GoodIn WS (wsV own index C y (Cond.code y bytes maxL ret :: WS))) (hC : y.cls = C ∧ y.cls ≠ q_MH ∧ y.cls ≠ q_VH ∧ (parseMethodDescriptor y.desc).map (fun d => d.parameters.length) = some n) {ci : Nat} {q : vw_C} (hc : vwCl[ci]? = some q) (hq : q.1 = C)
    (hM : MetX l g y bytes maxL ret rm (.ref b :: As) ws (q_Qi g post) pe) (hd : decode cc pc = .ok (.invokevirtual index, 3)) (q0 : Nat) {fs : List Value} (he : ws[q0]? = some (b, .inr (ci, fs))) (hR : rm.frames + 1 ≤ R.frames ∧ 8 + (maxL + 11) + rm.locals ≤ R.locals) (hroom : cl + rm.cells ≤ R.cells ∧ sl + rm.slots ≤ R.slots) (hst : st0 = As.reverse ++ .ref b :: st) (hn : As.length = n) (hW : (st.map fun v => v.category).sum ≤ 8)
    (kx : ∀ (E : String) (u : va_W), pe E u → ∀ (H : Heap) (locs : List Loc) (ls : Array Slot) (q9 : Addr) (ce : Cell), va_P g.1 vwCl u H → va_D (q_A g) u → va_S (q_A g) s.heap H locs → lv_has ls nL lv → H[q9]? = some ce → ce.vm = .none → s.vm.findClass E = some ce.cls → vx_W p l e R s m args below meth c H locs (cl + rm.cells) (sl + rm.slots) Q (F0 m pc ls st) q9) (kk : ∀ (r : Int32) (u : va_W), post r u → AT p l e R s m args below meth c g nL Q (cl + rm.cells) (sl + rm.slots) (pc + 3) lv (.int r :: st) u) : AT p l e R s m args below meth c g nL Q cl sl pc lv st0 ws := fun H locs ls hP hD hS hl =>
  vx_calli (vx_runV (As := As) (rest := st) cx.1 hM (cwV n cx.1.2.2.2.2 G rfl rfl rfl hC hR) ⟨q_Pc.blind, hq ▸ va_recv cx.2.1.2.1 hP hc he, fun U hU hW => ⟨rfl, q_env.go cx.2.1 hU hW hS, by rw [q_in, hU]; exact ⟨hP, hD⟩⟩⟩ rfl hn hl.1 hst (lv_room hW) hd hroom) hS (fun q _ h => h) (fun q h => h) (fun q _ h => h)
    (fun E ce q9 u t H1 locs1 ht hvm hp hB hz1 hk1 hS h1 h2 h3 => by subst ht; exact kx E u hB.1 _ locs1 ls q9 ce hB.2.1 hB.2.2 hS hl h1 h2 h3) (fun r u t H1 locs1 ht hvm hw hB hz1 hk1 hS => by subst ht; exact kk r u hw _ locs1 ls hB.1 hB.2 hS hl)
theorem q_Vl (cx : q_cx g p m c cc nL s args own meth) {C : String} {post : Int64 → va_W → Prop} (G : GoodIn WS (wsV own index C y (Cond.code y bytes maxL ret :: WS))) (hC : y.cls = C ∧ y.cls ≠ q_MH ∧ y.cls ≠ q_VH ∧ (parseMethodDescriptor y.desc).map (fun d => d.parameters.length) = some n) {ci : Nat} {q : vw_C} (hc : vwCl[ci]? = some q) (hq : q.1 = C)
    (hM : MetW l g y bytes maxL ret rm (.ref b :: As) ws (q_Ql g post)) (hd : decode cc pc = .ok (.invokevirtual index, 3)) (q0 : Nat) {fs : List Value} (he : ws[q0]? = some (b, .inr (ci, fs))) (hR : rm.frames + 1 ≤ R.frames ∧ 8 + (maxL + 11) + rm.locals ≤ R.locals) (hroom : cl + rm.cells ≤ R.cells ∧ sl + rm.slots ≤ R.slots) (hst : st0 = As.reverse ++ .ref b :: st) (hn : As.length = n) (hW : (st.map fun v => v.category).sum ≤ 8) (kk : ∀ (r : Int64) (u : va_W), post r u → AT p l e R s m args below meth c g nL Q (cl + rm.cells) (sl + rm.slots) (pc + 3) lv (.long r :: st) u) : AT p l e R s m args below meth c g nL Q cl sl pc lv st0 ws := fun H locs ls hP hD hS hl =>
  va_calll (va_runV (As := As) (rest := st) cx.1 hM (cwV n cx.1.2.2.2.2 G rfl rfl rfl hC hR) ⟨q_Pc.blind, hq ▸ va_recv cx.2.1.2.1 hP hc he, fun U hU hW => ⟨rfl, q_env.go cx.2.1 hU hW hS, by rw [q_in, hU]; exact ⟨hP, hD⟩⟩⟩ rfl hn hl.1 hst (lv_room hW) hd hroom) hS (fun q _ h => h) (fun q h => h) (fun r u t H1 locs1 ht hvm hw hB hz1 hk1 hS => by subst ht; exact kk r u hw _ locs1 ls hB.1 hB.2 hS hl)
theorem q_Sl (cx : q_cx g p m c cc nL s args own meth) {post : Int64 → va_W → Prop} (G : GoodIn WS (va_wsS own index y (Cond.code y bytes maxL ret :: WS))) (hC :  y.cls ≠ q_MH ∧ y.cls ≠ q_VH ∧ (parseMethodDescriptor y.desc).map (fun d => d.parameters.length) = some n)
    (hM : MetW l g y bytes maxL ret rm As ws (q_Ql g post)) (hd : decode cc pc = .ok (.invokestatic index, 3)) (hR : rm.frames + 1 ≤ R.frames ∧ 8 + (maxL + 11) + rm.locals ≤ R.locals) (hroom : cl + rm.cells ≤ R.cells ∧ sl + rm.slots ≤ R.slots) (hst : st0 = As.reverse ++ st) (hn : As.length = n) (hW : (st.map fun v => v.category).sum ≤ 8) (kk : ∀ (r : Int64) (u : va_W), post r u → AT p l e R s m args below meth c g nL Q (cl + rm.cells) (sl + rm.slots) (pc + 3) lv (.long r :: st) u) : AT p l e R s m args below meth c g nL Q cl sl pc lv st0 ws := fun H locs ls hP hD hS hl =>
  va_calll (va_runS (As := As) (rest := st) cx.1 hM (va_cwS n cx.1.2.2.2.2 G rfl rfl rfl hC hR) ⟨q_Pc.blind, fun U hU hW => ⟨rfl, q_env.go cx.2.1 hU hW hS, by rw [q_in, hU]; exact ⟨hP, hD⟩⟩⟩ rfl hn hl.1 hst (lv_room hW) hd hroom) hS (fun q _ h => h) (fun q h => h) (fun r u t H1 locs1 ht hvm hw hB hz1 hk1 hS => by subst ht; exact kk r u hw _ locs1 ls hB.1 hB.2 hS hl)
theorem q_Nl (cx : q_cx g p m c cc nL s args own meth) {C host : String} {post : Int64 → va_W → Prop} (m0 : Cond.methodLinkNest own index y host ∈ NGW) (m2 : Cond.instanceMethod y ∈ WS) (m3 : Cond.selects C y y ∈ WS) (m4 : Cond.initialized y.cls ∈ WS) (m5 : Cond.code y bytes maxL ret ∈ WS) (hC :  y.cls ≠ q_MH ∧ y.cls ≠ q_VH ∧ (parseMethodDescriptor y.desc).map (fun d => d.parameters.length) = some n) {ci : Nat} {q : vw_C} (hc : vwCl[ci]? = some q) (hq : q.1 = C)
    (hM : MetW l g y bytes maxL ret rm (.ref b :: As) ws (q_Ql g post)) (hd : decode cc pc = .ok (.invokevirtual index, 3)) (q0 : Nat) {fs : List Value} (he : ws[q0]? = some (b, .inr (ci, fs))) (hR : rm.frames + 1 ≤ R.frames ∧ 8 + (maxL + 11) + rm.locals ≤ R.locals) (hroom : cl + rm.cells ≤ R.cells ∧ sl + rm.slots ≤ R.slots) (hst : st0 = As.reverse ++ .ref b :: st) (hn : As.length = n) (hW : (st.map fun v => v.category).sum ≤ 8) (kk : ∀ (r : Int64) (u : va_W), post r u → AT p l e R s m args below meth c g nL Q (cl + rm.cells) (sl + rm.slots) (pc + 3) lv (.long r :: st) u) : AT p l e R s m args below meth c g nL Q cl sl pc lv st0 ws := fun H locs ls hP hD hS hl =>
  va_calll (va_runVN (As := As) (rest := st) cx.1 hM ⟨va_cnB n cx.1.2.2.2.2 (gi_code m5) rfl rfl rfl (cx.2.1.2.2.1 _ m0) (cx.ok m4) hC hR, cx.ok m2, cx.ok m3⟩ ⟨q_Pc.blind, hq ▸ va_recv cx.2.1.2.1 hP hc he, fun U hU hW => ⟨rfl, q_env.go cx.2.1 hU hW hS, by rw [q_in, hU]; exact ⟨hP, hD⟩⟩⟩ rfl hn hl.1 hst (lv_room hW) hd hroom) hS (fun q _ h => h) (fun q h => h) (fun r u t H1 locs1 ht hvm hw hB hz1 hk1 hS => by subst ht; exact kk r u hw _ locs1 ls hB.1 hB.2 hS hl)
theorem q_Xl (cx : q_cx g p m c cc nL s args own meth) {C : String} {post : Int64 → va_W → Prop} {pe : String → va_W → Prop} (G : GoodIn WS (wsV own index C y (Cond.code y bytes maxL ret :: WS))) (hC : y.cls = C ∧ y.cls ≠ q_MH ∧ y.cls ≠ q_VH ∧ (parseMethodDescriptor y.desc).map (fun d => d.parameters.length) = some n) {ci : Nat} {q : vw_C} (hc : vwCl[ci]? = some q) (hq : q.1 = C)
    (hM : MetX l g y bytes maxL ret rm (.ref b :: As) ws (q_Ql g post) pe) (hd : decode cc pc = .ok (.invokevirtual index, 3)) (q0 : Nat) {fs : List Value} (he : ws[q0]? = some (b, .inr (ci, fs))) (hR : rm.frames + 1 ≤ R.frames ∧ 8 + (maxL + 11) + rm.locals ≤ R.locals) (hroom : cl + rm.cells ≤ R.cells ∧ sl + rm.slots ≤ R.slots) (hst : st0 = As.reverse ++ .ref b :: st) (hn : As.length = n) (hW : (st.map fun v => v.category).sum ≤ 8)
    (kx : ∀ (E : String) (u : va_W), pe E u → ∀ (H : Heap) (locs : List Loc) (ls : Array Slot) (q9 : Addr) (ce : Cell), va_P g.1 vwCl u H → va_D (q_A g) u → va_S (q_A g) s.heap H locs → lv_has ls nL lv → H[q9]? = some ce → ce.vm = .none → s.vm.findClass E = some ce.cls → vx_W p l e R s m args below meth c H locs (cl + rm.cells) (sl + rm.slots) Q (F0 m pc ls st) q9) (kk : ∀ (r : Int64) (u : va_W), post r u → AT p l e R s m args below meth c g nL Q (cl + rm.cells) (sl + rm.slots) (pc + 3) lv (.long r :: st) u) : AT p l e R s m args below meth c g nL Q cl sl pc lv st0 ws := fun H locs ls hP hD hS hl =>
  vx_calll (vx_runV (As := As) (rest := st) cx.1 hM (cwV n cx.1.2.2.2.2 G rfl rfl rfl hC hR) ⟨q_Pc.blind, hq ▸ va_recv cx.2.1.2.1 hP hc he, fun U hU hW => ⟨rfl, q_env.go cx.2.1 hU hW hS, by rw [q_in, hU]; exact ⟨hP, hD⟩⟩⟩ rfl hn hl.1 hst (lv_room hW) hd hroom) hS (fun q _ h => h) (fun q h => h) (fun q _ h => h)
    (fun E ce q9 u t H1 locs1 ht hvm hp hB hz1 hk1 hS h1 h2 h3 => by subst ht; exact kx E u hB.1 _ locs1 ls q9 ce hB.2.1 hB.2.2 hS hl h1 h2 h3) (fun r u t H1 locs1 ht hvm hw hB hz1 hk1 hS => by subst ht; exact kk r u hw _ locs1 ls hB.1 hB.2 hS hl)
theorem q_Vv (cx : q_cx g p m c cc nL s args own meth) {C : String} {post : va_W → Prop} (G : GoodIn WS (wsV own index C y (Cond.code y bytes maxL ret :: WS))) (hC : y.cls = C ∧ y.cls ≠ q_MH ∧ y.cls ≠ q_VH ∧ (parseMethodDescriptor y.desc).map (fun d => d.parameters.length) = some n) {ci : Nat} {q : vw_C} (hc : vwCl[ci]? = some q) (hq : q.1 = C)
    (hM : MetW l g y bytes maxL ret rm (.ref b :: As) ws (q_Qv g post)) (hd : decode cc pc = .ok (.invokevirtual index, 3)) (q0 : Nat) {fs : List Value} (he : ws[q0]? = some (b, .inr (ci, fs))) (hR : rm.frames + 1 ≤ R.frames ∧ 8 + (maxL + 11) + rm.locals ≤ R.locals) (hroom : cl + rm.cells ≤ R.cells ∧ sl + rm.slots ≤ R.slots) (hst : st0 = As.reverse ++ .ref b :: st) (hn : As.length = n) (hW : (st.map fun v => v.category).sum ≤ 8) (kk : ∀ (u : va_W), post  u → AT p l e R s m args below meth c g nL Q (cl + rm.cells) (sl + rm.slots) (pc + 3) lv (st) u) : AT p l e R s m args below meth c g nL Q cl sl pc lv st0 ws := fun H locs ls hP hD hS hl =>
  va_callv (va_runV (As := As) (rest := st) cx.1 hM (cwV n cx.1.2.2.2.2 G rfl rfl rfl hC hR) ⟨q_Pc.blind, hq ▸ va_recv cx.2.1.2.1 hP hc he, fun U hU hW => ⟨rfl, q_env.go cx.2.1 hU hW hS, by rw [q_in, hU]; exact ⟨hP, hD⟩⟩⟩ rfl hn hl.1 hst (lv_room hW) hd hroom) hS (fun q _ h => h) (fun q h => h) (fun u t H1 locs1 ht hvm hw hB hz1 hk1 hS => by subst ht; exact kk u hw _ locs1 ls hB.1 hB.2 hS hl)
theorem q_Sv (cx : q_cx g p m c cc nL s args own meth) {post : va_W → Prop} (G : GoodIn WS (va_wsS own index y (Cond.code y bytes maxL ret :: WS))) (hC :  y.cls ≠ q_MH ∧ y.cls ≠ q_VH ∧ (parseMethodDescriptor y.desc).map (fun d => d.parameters.length) = some n)
    (hM : MetW l g y bytes maxL ret rm As ws (q_Qv g post)) (hd : decode cc pc = .ok (.invokestatic index, 3)) (hR : rm.frames + 1 ≤ R.frames ∧ 8 + (maxL + 11) + rm.locals ≤ R.locals) (hroom : cl + rm.cells ≤ R.cells ∧ sl + rm.slots ≤ R.slots) (hst : st0 = As.reverse ++ st) (hn : As.length = n) (hW : (st.map fun v => v.category).sum ≤ 8) (kk : ∀ (u : va_W), post  u → AT p l e R s m args below meth c g nL Q (cl + rm.cells) (sl + rm.slots) (pc + 3) lv (st) u) : AT p l e R s m args below meth c g nL Q cl sl pc lv st0 ws := fun H locs ls hP hD hS hl =>
  va_callv (va_runS (As := As) (rest := st) cx.1 hM (va_cwS n cx.1.2.2.2.2 G rfl rfl rfl hC hR) ⟨q_Pc.blind, fun U hU hW => ⟨rfl, q_env.go cx.2.1 hU hW hS, by rw [q_in, hU]; exact ⟨hP, hD⟩⟩⟩ rfl hn hl.1 hst (lv_room hW) hd hroom) hS (fun q _ h => h) (fun q h => h) (fun u t H1 locs1 ht hvm hw hB hz1 hk1 hS => by subst ht; exact kk u hw _ locs1 ls hB.1 hB.2 hS hl)
theorem q_Nv (cx : q_cx g p m c cc nL s args own meth) {C host : String} {post : va_W → Prop} (m0 : Cond.methodLinkNest own index y host ∈ NGW) (m2 : Cond.instanceMethod y ∈ WS) (m3 : Cond.selects C y y ∈ WS) (m4 : Cond.initialized y.cls ∈ WS) (m5 : Cond.code y bytes maxL ret ∈ WS) (hC :  y.cls ≠ q_MH ∧ y.cls ≠ q_VH ∧ (parseMethodDescriptor y.desc).map (fun d => d.parameters.length) = some n) {ci : Nat} {q : vw_C} (hc : vwCl[ci]? = some q) (hq : q.1 = C)
    (hM : MetW l g y bytes maxL ret rm (.ref b :: As) ws (q_Qv g post)) (hd : decode cc pc = .ok (.invokevirtual index, 3)) (q0 : Nat) {fs : List Value} (he : ws[q0]? = some (b, .inr (ci, fs))) (hR : rm.frames + 1 ≤ R.frames ∧ 8 + (maxL + 11) + rm.locals ≤ R.locals) (hroom : cl + rm.cells ≤ R.cells ∧ sl + rm.slots ≤ R.slots) (hst : st0 = As.reverse ++ .ref b :: st) (hn : As.length = n) (hW : (st.map fun v => v.category).sum ≤ 8) (kk : ∀ (u : va_W), post  u → AT p l e R s m args below meth c g nL Q (cl + rm.cells) (sl + rm.slots) (pc + 3) lv (st) u) : AT p l e R s m args below meth c g nL Q cl sl pc lv st0 ws := fun H locs ls hP hD hS hl =>
  va_callv (va_runVN (As := As) (rest := st) cx.1 hM ⟨va_cnB n cx.1.2.2.2.2 (gi_code m5) rfl rfl rfl (cx.2.1.2.2.1 _ m0) (cx.ok m4) hC hR, cx.ok m2, cx.ok m3⟩ ⟨q_Pc.blind, hq ▸ va_recv cx.2.1.2.1 hP hc he, fun U hU hW => ⟨rfl, q_env.go cx.2.1 hU hW hS, by rw [q_in, hU]; exact ⟨hP, hD⟩⟩⟩ rfl hn hl.1 hst (lv_room hW) hd hroom) hS (fun q _ h => h) (fun q h => h) (fun u t H1 locs1 ht hvm hw hB hz1 hk1 hS => by subst ht; exact kk u hw _ locs1 ls hB.1 hB.2 hS hl)
theorem q_Xv (cx : q_cx g p m c cc nL s args own meth) {C : String} {post : va_W → Prop} {pe : String → va_W → Prop} (G : GoodIn WS (wsV own index C y (Cond.code y bytes maxL ret :: WS))) (hC : y.cls = C ∧ y.cls ≠ q_MH ∧ y.cls ≠ q_VH ∧ (parseMethodDescriptor y.desc).map (fun d => d.parameters.length) = some n) {ci : Nat} {q : vw_C} (hc : vwCl[ci]? = some q) (hq : q.1 = C)
    (hM : MetX l g y bytes maxL ret rm (.ref b :: As) ws (q_Qv g post) pe) (hd : decode cc pc = .ok (.invokevirtual index, 3)) (q0 : Nat) {fs : List Value} (he : ws[q0]? = some (b, .inr (ci, fs))) (hR : rm.frames + 1 ≤ R.frames ∧ 8 + (maxL + 11) + rm.locals ≤ R.locals) (hroom : cl + rm.cells ≤ R.cells ∧ sl + rm.slots ≤ R.slots) (hst : st0 = As.reverse ++ .ref b :: st) (hn : As.length = n) (hW : (st.map fun v => v.category).sum ≤ 8)
    (kx : ∀ (E : String) (u : va_W), pe E u → ∀ (H : Heap) (locs : List Loc) (ls : Array Slot) (q9 : Addr) (ce : Cell), va_P g.1 vwCl u H → va_D (q_A g) u → va_S (q_A g) s.heap H locs → lv_has ls nL lv → H[q9]? = some ce → ce.vm = .none → s.vm.findClass E = some ce.cls → vx_W p l e R s m args below meth c H locs (cl + rm.cells) (sl + rm.slots) Q (F0 m pc ls st) q9) (kk : ∀ (u : va_W), post  u → AT p l e R s m args below meth c g nL Q (cl + rm.cells) (sl + rm.slots) (pc + 3) lv (st) u) : AT p l e R s m args below meth c g nL Q cl sl pc lv st0 ws := fun H locs ls hP hD hS hl =>
  vx_callv (vx_runV (As := As) (rest := st) cx.1 hM (cwV n cx.1.2.2.2.2 G rfl rfl rfl hC hR) ⟨q_Pc.blind, hq ▸ va_recv cx.2.1.2.1 hP hc he, fun U hU hW => ⟨rfl, q_env.go cx.2.1 hU hW hS, by rw [q_in, hU]; exact ⟨hP, hD⟩⟩⟩ rfl hn hl.1 hst (lv_room hW) hd hroom) hS (fun q _ h => h) (fun q h => h) (fun q _ h => h)
    (fun E ce q9 u t H1 locs1 ht hvm hp hB hz1 hk1 hS h1 h2 h3 => by subst ht; exact kx E u hB.1 _ locs1 ls q9 ce hB.2.1 hB.2.2 hS hl h1 h2 h3) (fun u t H1 locs1 ht hvm hw hB hz1 hk1 hS => by subst ht; exact kk u hw _ locs1 ls hB.1 hB.2 hS hl)
theorem q_Vq (cx : q_cx g p m c cc nL s args own meth) {C : String} {post : Option Nat → va_W → Prop} (G : GoodIn WS (wsV own index C y (Cond.code y bytes maxL ret :: WS))) (hC : y.cls = C ∧ y.cls ≠ q_MH ∧ y.cls ≠ q_VH ∧ (parseMethodDescriptor y.desc).map (fun d => d.parameters.length) = some n) {ci : Nat} {q : vw_C} (hc : vwCl[ci]? = some q) (hq : q.1 = C)
    (hM : MetW l g y bytes maxL ret rm (.ref b :: As) ws (q_Qq g post)) (hd : decode cc pc = .ok (.invokevirtual index, 3)) (q0 : Nat) {fs : List Value} (he : ws[q0]? = some (b, .inr (ci, fs))) (hR : rm.frames + 1 ≤ R.frames ∧ 8 + (maxL + 11) + rm.locals ≤ R.locals) (hroom : cl + rm.cells ≤ R.cells ∧ sl + rm.slots ≤ R.slots) (hst : st0 = As.reverse ++ .ref b :: st) (hn : As.length = n) (hW : (st.map fun v => v.category).sum ≤ 8) (kk : ∀ (r : Option Nat) (u : va_W), post r u → AT p l e R s m args below meth c g nL Q (cl + rm.cells) (sl + rm.slots) (pc + 3) lv (va_rf r :: st) u) : AT p l e R s m args below meth c g nL Q cl sl pc lv st0 ws := fun H locs ls hP hD hS hl =>
  va_callq (va_runV (As := As) (rest := st) cx.1 hM (cwV n cx.1.2.2.2.2 G rfl rfl rfl hC hR) ⟨q_Pc.blind, hq ▸ va_recv cx.2.1.2.1 hP hc he, fun U hU hW => ⟨rfl, q_env.go cx.2.1 hU hW hS, by rw [q_in, hU]; exact ⟨hP, hD⟩⟩⟩ rfl hn hl.1 hst (lv_room hW) hd hroom) hS (fun q _ h => h) (fun q h => h) (fun r u t H1 locs1 ht hvm hw hB hz1 hk1 hS => by subst ht; exact kk r u hw _ locs1 ls hB.1 hB.2 hS hl)
theorem q_Sq (cx : q_cx g p m c cc nL s args own meth) {post : Option Nat → va_W → Prop} (G : GoodIn WS (va_wsS own index y (Cond.code y bytes maxL ret :: WS))) (hC :  y.cls ≠ q_MH ∧ y.cls ≠ q_VH ∧ (parseMethodDescriptor y.desc).map (fun d => d.parameters.length) = some n)
    (hM : MetW l g y bytes maxL ret rm As ws (q_Qq g post)) (hd : decode cc pc = .ok (.invokestatic index, 3)) (hR : rm.frames + 1 ≤ R.frames ∧ 8 + (maxL + 11) + rm.locals ≤ R.locals) (hroom : cl + rm.cells ≤ R.cells ∧ sl + rm.slots ≤ R.slots) (hst : st0 = As.reverse ++ st) (hn : As.length = n) (hW : (st.map fun v => v.category).sum ≤ 8) (kk : ∀ (r : Option Nat) (u : va_W), post r u → AT p l e R s m args below meth c g nL Q (cl + rm.cells) (sl + rm.slots) (pc + 3) lv (va_rf r :: st) u) : AT p l e R s m args below meth c g nL Q cl sl pc lv st0 ws := fun H locs ls hP hD hS hl =>
  va_callq (va_runS (As := As) (rest := st) cx.1 hM (va_cwS n cx.1.2.2.2.2 G rfl rfl rfl hC hR) ⟨q_Pc.blind, fun U hU hW => ⟨rfl, q_env.go cx.2.1 hU hW hS, by rw [q_in, hU]; exact ⟨hP, hD⟩⟩⟩ rfl hn hl.1 hst (lv_room hW) hd hroom) hS (fun q _ h => h) (fun q h => h) (fun r u t H1 locs1 ht hvm hw hB hz1 hk1 hS => by subst ht; exact kk r u hw _ locs1 ls hB.1 hB.2 hS hl)
theorem q_Nq (cx : q_cx g p m c cc nL s args own meth) {C host : String} {post : Option Nat → va_W → Prop} (m0 : Cond.methodLinkNest own index y host ∈ NGW) (m2 : Cond.instanceMethod y ∈ WS) (m3 : Cond.selects C y y ∈ WS) (m4 : Cond.initialized y.cls ∈ WS) (m5 : Cond.code y bytes maxL ret ∈ WS) (hC :  y.cls ≠ q_MH ∧ y.cls ≠ q_VH ∧ (parseMethodDescriptor y.desc).map (fun d => d.parameters.length) = some n) {ci : Nat} {q : vw_C} (hc : vwCl[ci]? = some q) (hq : q.1 = C)
    (hM : MetW l g y bytes maxL ret rm (.ref b :: As) ws (q_Qq g post)) (hd : decode cc pc = .ok (.invokevirtual index, 3)) (q0 : Nat) {fs : List Value} (he : ws[q0]? = some (b, .inr (ci, fs))) (hR : rm.frames + 1 ≤ R.frames ∧ 8 + (maxL + 11) + rm.locals ≤ R.locals) (hroom : cl + rm.cells ≤ R.cells ∧ sl + rm.slots ≤ R.slots) (hst : st0 = As.reverse ++ .ref b :: st) (hn : As.length = n) (hW : (st.map fun v => v.category).sum ≤ 8) (kk : ∀ (r : Option Nat) (u : va_W), post r u → AT p l e R s m args below meth c g nL Q (cl + rm.cells) (sl + rm.slots) (pc + 3) lv (va_rf r :: st) u) : AT p l e R s m args below meth c g nL Q cl sl pc lv st0 ws := fun H locs ls hP hD hS hl =>
  va_callq (va_runVN (As := As) (rest := st) cx.1 hM ⟨va_cnB n cx.1.2.2.2.2 (gi_code m5) rfl rfl rfl (cx.2.1.2.2.1 _ m0) (cx.ok m4) hC hR, cx.ok m2, cx.ok m3⟩ ⟨q_Pc.blind, hq ▸ va_recv cx.2.1.2.1 hP hc he, fun U hU hW => ⟨rfl, q_env.go cx.2.1 hU hW hS, by rw [q_in, hU]; exact ⟨hP, hD⟩⟩⟩ rfl hn hl.1 hst (lv_room hW) hd hroom) hS (fun q _ h => h) (fun q h => h) (fun r u t H1 locs1 ht hvm hw hB hz1 hk1 hS => by subst ht; exact kk r u hw _ locs1 ls hB.1 hB.2 hS hl)
theorem q_I (cx : q_cx g p m c cc nL s args own meth) {post : va_W → Prop} (m1 : Cond.methodLink own index y ∈ WS) (m2 : Cond.instanceMethod y ∈ WS) (m4 : Cond.initialized y.cls ∈ WS) (m5 : Cond.code y bytes maxL none ∈ WS) (hy1 : y.name = "<init>") (hC :  y.cls ≠ q_MH ∧ y.cls ≠ q_VH ∧ (parseMethodDescriptor y.desc).map (fun d => d.parameters.length) = some n)
    (hM : MetW l g y bytes maxL none rm (.ref b :: As) ws (q_Qv g post)) (hd : decode cc pc = .ok (.invokespecial index, 3)) (hR : rm.frames + 1 ≤ R.frames ∧ 8 + (maxL + 11) + rm.locals ≤ R.locals) (hroom : cl + rm.cells ≤ R.cells ∧ sl + rm.slots ≤ R.slots) (hst : st0 = As.reverse ++ .ref b :: st) (hn : As.length = n) (hW : (st.map fun v => v.category).sum ≤ 8) (kk : ∀ (u : va_W), post u → AT p l e R s m args below meth c g nL Q (cl + rm.cells) (sl + rm.slots) (pc + 3) lv st u) : AT p l e R s m args below meth c g nL Q cl sl pc lv st0 ws := fun H locs ls hP hD hS hl =>
  va_callv (va_runI (As := As) (rest := st) cx.1 hM (cwI n cx.1.2.2.2.2 (gi_code m5) rfl rfl rfl (cx.ok m4) (cx.ok m1) (cx.ok m2) hy1 hC hR) ⟨q_Pc.blind, fun U hU hW => ⟨rfl, q_env.go cx.2.1 hU hW hS, by rw [q_in, hU]; exact ⟨hP, hD⟩⟩⟩ rfl hn hl.1 hst (lv_room hW) hd hroom) hS (fun q _ h => h) (fun q h => h) (fun u t H1 locs1 ht hvm hw hB hz1 hk1 hS => by subst ht; exact kk u hw _ locs1 ls hB.1 hB.2 hS hl)
theorem q_IN (cx : q_cx g p m c cc nL s args own meth) {host : String} {post : va_W → Prop} (m0 : Cond.methodLinkNest own index y host ∈ NGW) (m2 : Cond.instanceMethod y ∈ WS) (m4 : Cond.initialized y.cls ∈ WS) (m5 : Cond.code y bytes maxL none ∈ WS) (hy1 : y.name = "<init>") (hC :  y.cls ≠ q_MH ∧ y.cls ≠ q_VH ∧ (parseMethodDescriptor y.desc).map (fun d => d.parameters.length) = some n)
    (hM : MetW l g y bytes maxL none rm (.ref b :: As) ws (q_Qv g post)) (hd : decode cc pc = .ok (.invokespecial index, 3)) (hR : rm.frames + 1 ≤ R.frames ∧ 8 + (maxL + 11) + rm.locals ≤ R.locals) (hroom : cl + rm.cells ≤ R.cells ∧ sl + rm.slots ≤ R.slots) (hst : st0 = As.reverse ++ .ref b :: st) (hn : As.length = n) (hW : (st.map fun v => v.category).sum ≤ 8) (kk : ∀ (u : va_W), post u → AT p l e R s m args below meth c g nL Q (cl + rm.cells) (sl + rm.slots) (pc + 3) lv st u) : AT p l e R s m args below meth c g nL Q cl sl pc lv st0 ws := fun H locs ls hP hD hS hl =>
  va_callv (va_runIN (As := As) (rest := st) cx.1 hM ⟨va_cnB n cx.1.2.2.2.2 (gi_code m5) rfl rfl rfl (cx.2.1.2.2.1 _ m0) (cx.ok m4) hC hR, hy1, cx.ok m2⟩ ⟨q_Pc.blind, fun U hU hW => ⟨rfl, q_env.go cx.2.1 hU hW hS, by rw [q_in, hU]; exact ⟨hP, hD⟩⟩⟩ rfl hn hl.1 hst (lv_room hW) hd hroom) hS (fun q _ h => h) (fun q h => h) (fun u t H1 locs1 ht hvm hw hB hz1 hk1 hS => by subst ht; exact kk u hw _ locs1 ls hB.1 hB.2 hS hl)
theorem q_SWi (cx : q_cx g p m c cc nL s args own meth) {hh : List (Nat × Nat × Nat × Nat)} {post : Int32 → va_W → Prop} (G : GoodIn WS (va_wsS own index y (Cond.codeWith y bytes maxL ret hh :: WS))) (hC :  y.cls ≠ q_MH ∧ y.cls ≠ q_VH ∧ (parseMethodDescriptor y.desc).map (fun d => d.parameters.length) = some n)
    (hM : MetH l g y bytes maxL ret hh rm As ws (q_Qi g post)) (hd : decode cc pc = .ok (.invokestatic index, 3)) (hR : rm.frames + 1 ≤ R.frames ∧ 8 + (maxL + 11) + rm.locals ≤ R.locals) (hroom : cl + rm.cells ≤ R.cells ∧ sl + rm.slots ≤ R.slots) (hst : st0 = As.reverse ++ st) (hn : As.length = n) (hW : (st.map fun v => v.category).sum ≤ 8) (kk : ∀ (r : Int32) (u : va_W), post r u → AT p l e R s m args below meth c g nL Q (cl + rm.cells) (sl + rm.slots) (pc + 3) lv (.int r :: st) u) : AT p l e R s m args below meth c g nL Q cl sl pc lv st0 ws := fun H locs ls hP hD hS hl =>
  va_calli (vx_runSW (As := As) (rest := st) cx.1 hM (vx_cwSW n cx.1.2.2.2.2 G rfl rfl rfl hC hR) ⟨q_Pc.blind, fun U hU hW => ⟨rfl, q_env.go cx.2.1 hU hW hS, by rw [q_in, hU]; exact ⟨hP, hD⟩⟩⟩ rfl hn hl.1 hst (lv_room hW) hd hroom) hS (fun q _ h => h) (fun q h => h) (fun r u t H1 locs1 ht hvm hw hB hz1 hk1 hS => by subst ht; exact kk r u hw _ locs1 ls hB.1 hB.2 hS hl)
theorem r_objInit (cx : q_cx g p m c cc nL s args own meth) (m1 : Cond.methodLink own index Lib.objectInit ∈ WS) (m2 : Cond.instanceMethod Lib.objectInit ∈ WS) (m3 : Cond.code Lib.objectInit ⟨#[0xb1]⟩ 1 none ∈ WS) {a : Nat} (hd : decode cc pc = .ok (.invokespecial index, 3)) (hf : 1 ≤ R.frames) (hlo : (st.map fun v => v.category).sum + 12 ≤ R.locals) (k : AT p l e R s m args below meth c g nL Q cl sl (pc + 3) lv st ws) : AT p l e R s m args below meth c g nL Q cl sl pc lv (.ref a :: st) ws := fun H locs ls hP hD hS hl =>
  W.objInit cx.1.1 cx.1.2.1 cx.1.2.2.2.1 (cx.ok m1) (cx.ok m2) (cx.ok m3) rfl (by rw [cx.1.2.2.1]; exact hl.1) rfl hd hf (by show 2 * (F0 m pc ls (Value.ref a :: st)).monitorRoom + _ + 12 ≤ _; have h0 : (F0 m pc ls (Value.ref a :: st)).monitorRoom = 0 := rfl; omega) (k H locs ls hP hD hS hl)
theorem q_new (cx : q_cx g p m c cc nL s args own meth) {C : String} {T : u_T} {N ci : Nat} (hin : ∀ w ∈ u_ws C T N, w ∈ WS) (ty : Nat → FieldType) (hty : ∀ k, k < N → parseFieldDescriptor (T k).2.2.1 = some (ty k)) (m1 : Cond.classLink own index C ∈ WS) (m2 : Cond.instantiable C N ∈ WS) (m3 : Cond.initialized C ∈ WS) (hc : vwCl[ci]? = some (C, T, N)) {fs : List Value} (hfs : ∀ j, j < N → defaultValue (ty j) = vp_V fs j)
    (hd : decode cc pc = .ok (.new index, 3)) (hcells : cl + 1 ≤ R.cells) (hslots : sl + N ≤ R.slots) (kk : ∀ (q : Nat), AT p l e R s m args below meth c g nL Q (cl + 1) (sl + N) (pc + 3) lv (.ref q :: st) (ws ++ [(q, .inr (ci, fs))])) : AT p l e R s m args below meth c g nL Q cl sl pc lv st ws := fun H locs ls hP hD hS hl =>
  va_new cx.1.1 cx.1.2.1 cx.1.2.2.2.2 hin ty hty cx.1.2.2.2.1 (cx.ok m1) (cx.ok m2) (cx.ok m3) cx.2.1.2.1 hP hD hS cx.hA hc hfs hcells hslots hd (fun q H1 hP hD hS => kk q H1 locs ls hP hD hS hl)
theorem r_newarr (cx : q_cx g p m c cc nL s args own meth) {atype : ArrayType} {ty : FieldType} (t0 : Nat) {cA : ClassId} (harr : Cond.arrayClass (newarray.typeOf atype) ∈ WS) (hty : newarray.typeOf atype = ty) (ht : (q_tys g)[t0]? = some (cA, ty)) (hpr : match ty with | .object _ => False | _ => True) {N : Nat} {a0 : vp_A} (ha : ∀ cA : ClassId, vp_cell cA a0 = arrV cA N (fun _ => defaultValue ty)) (hN31 : N < 2147483648) (hbytes : N * componentBytes ty ≤ 536870912)
    (hd : decode cc pc = .ok (.newarray atype, 2)) (hcells : cl + 1 ≤ R.cells) (hslots : sl + N ≤ R.slots) (kk : ∀ (q : Nat), AT p l e R s m args below meth c g nL Q (cl + 1) (sl + N) (pc + 2) lv (.ref q :: st) (ws ++ [(q, .inl (cA, a0))])) : AT p l e R s m args below meth c g nL Q cl sl pc lv (.int (nI N) :: st) ws := fun H locs ls hP hD hS hl => by
  refine va_newa cx.1.1 cx.1.2.1 (cx.ok harr) hty cx.2.1.2.1 hP hD hS cx.hA ha (nI_pos hN31) (nI_clamp hN31) hbytes hcells hslots hd (fun q cA2 H1 hK hP hD hS => ?_)
  have h1 := (hK.2 (q_tys g).length (cA2, ty) (by rw [List.getElem?_append_right (Nat.le_refl _), Nat.sub_self]; rfl)).2
  have h2 := (cx.2.1.2.1.2 t0 (cA, ty) ht).2
  have e : cA2 = cA := by
    cases ty <;> first | exact absurd hpr (fun z => z) | exact Option.some.inj (h1.symm.trans h2)
  rw [e] at hP hD
  exact kk q H1 locs ls hP hD hS hl
end CALLS
section THROWS
variable {p : Program} {l : Launch} {e : Env} {R : Room} {s : State} {m : MethodId} {args : Array Value} {below : List Frame} {meth : Method} {c : Code} {g : q_G} {nL : Nat} {cl sl : Nat} {cc : ByteArray} {pc : Nat} {lv : List (Nat × Value)} {st : List Value} {ws : va_W}
abbrev q_nms : List String := ["java/lang/RuntimeException", "java/lang/Exception"]
theorem q_throw (cx : q_cx g p m c cc nL s args RX3 meth) {cls text : String} {ik is ic mc ms : Nat} {Qc : Array Value → State → Outcome → State → Prop} {pe : String → va_W → Prop} (hl : l.stackTraces = false) (htab : ∀ x ∈ c.exceptionTable.toList, False) (hcls : Bundle.fit cls = true) (hnames : ∀ n ∈ q_nms, Bundle.fit n = true) (m1 : Cond.classLink RX3 ik cls ∈ WS) (m2 : Cond.initialized cls ∈ WS) (hat1 : ∀ w ∈ (vx_atS RX3 ic cls q_nms).filter goodWord, w ∈ WS) (hat2 : ∀ w ∈ (vx_atS RX3 ic cls q_nms).filter (fun w => !goodWord w), w ∈ NGW)
    (hgood : ∀ w ∈ Cond.classLink RX3 ik cls :: Cond.initialized cls :: vx_atS RX3 ic cls q_nms, vx_ot w = true) (hstr : (is, text) ∈ STR)
    (d0 : decode cc pc = .ok (.new ik, 3)) (d3 : decode cc (pc + 3) = .ok (.dup, 1)) (d4 : decode cc (pc + 4) = .ok (.ldc is, 2)) (d6 : decode cc (pc + 6) = .ok (.invokespecial ic, 3)) (d9 : decode cc (pc + 9) = .ok (.athrow, 1))
    (hR : 5 < R.frames ∧ (st.map fun v => v.category).sum + 82 ≤ R.locals ∧ cl + 1 ≤ R.cells ∧ sl + 6 ≤ R.slots) (hm : cl + 1 ≤ mc ∧ sl + 6 ≤ ms) (hp : pe cls ws) : AT p l e R s m args below meth c g nL (vx_MQ below Qc (q_XC g pe) args s mc ms (q_A g)) cl sl pc lv st ws := fun H locs ls hP hD hS hlv => by
  obtain ⟨sa, hsa⟩ := cx.2.1.2.2.2.1 (is, text) hstr
  refine vx_throwS (names := q_nms) cx.1.1 cx.1.2.1 hl cx.1.2.2.2.1 hcls hnames (cx.ok m1) (cx.ok m2) hsa (vx_hat (B := NGW) (fun w hw => cx.ok (hat1 w hw)) hat2 (fun w hw => cx.nok hw)) hgood cx.2.1.2.2.2.2.2.1 cx.2.1.2.2.2.2.2.2.1 hS (by rw [cx.1.2.2.1]; exact hlv.1) d0 d3 d4 d6 d9 (fun x hx => (htab x hx).elim) hR.1 (by have := hR.2.1; simpa using this) hR.2.2.1 hR.2.2.2 cx.2.2 (fun t ha hz hk => ?_) hS.2.2 hm.1 hm.2
  refine ⟨ws, trivial, ⟨hp, va_P.kept hP (fun k q hq => hk q.1 (hP k q hq).lt), hD⟩, Nat.le_trans hS.1 hz, fun q h1 h2 => ?_⟩
  rw [hk q (Nat.lt_of_lt_of_le h1 hS.1)]
  exact hS.2.1 q h1 h2
set_option maxRecDepth 100000
theorem th_IO (cx : q_cx g p m c cc nL s args RX3 meth) (text : String) (is : Nat) {mc ms : Nat} {Qc : Array Value → State → Outcome → State → Prop} {pe : String → va_W → Prop} (hl : l.stackTraces = false) (htab : ∀ x ∈ c.exceptionTable.toList, False) (d0 : decode cc pc = .ok (.new 61, 3)) (d3 : decode cc (pc + 3) = .ok (.dup, 1)) (d4 : decode cc (pc + 4) = .ok (.ldc is, 2)) (d6 : decode cc (pc + 6) = .ok (.invokespecial 65, 3)) (d9 : decode cc (pc + 9) = .ok (.athrow, 1)) (hstr : (is, text) ∈ STR) (hR : 5 < R.frames ∧ (st.map fun v => v.category).sum + 82 ≤ R.locals ∧ cl + 1 ≤ R.cells ∧ sl + 6 ≤ R.slots) (hm : cl + 1 ≤ mc ∧ sl + 6 ≤ ms) (hp : pe "java/lang/IndexOutOfBoundsException" ws) : AT p l e R s m args below meth c g nL (vx_MQ below Qc (q_XC g pe) args s mc ms (q_A g)) cl sl pc lv st ws :=
  q_throw (ic := 65) (ik := 61) cx hl htab (by decide +kernel) (by decide +kernel) tb_129 tb_10 (by decide +kernel) (by decide +kernel) (by decide +kernel) hstr d0 d3 d4 d6 d9 hR hm hp
theorem th_IS (cx : q_cx g p m c cc nL s args RX3 meth) (text : String) (is : Nat) {mc ms : Nat} {Qc : Array Value → State → Outcome → State → Prop} {pe : String → va_W → Prop} (hl : l.stackTraces = false) (htab : ∀ x ∈ c.exceptionTable.toList, False) (d0 : decode cc pc = .ok (.new 68, 3)) (d3 : decode cc (pc + 3) = .ok (.dup, 1)) (d4 : decode cc (pc + 4) = .ok (.ldc is, 2)) (d6 : decode cc (pc + 6) = .ok (.invokespecial 72, 3)) (d9 : decode cc (pc + 9) = .ok (.athrow, 1)) (hstr : (is, text) ∈ STR) (hR : 5 < R.frames ∧ (st.map fun v => v.category).sum + 82 ≤ R.locals ∧ cl + 1 ≤ R.cells ∧ sl + 6 ≤ R.slots) (hm : cl + 1 ≤ mc ∧ sl + 6 ≤ ms) (hp : pe "java/lang/IllegalStateException" ws) : AT p l e R s m args below meth c g nL (vx_MQ below Qc (q_XC g pe) args s mc ms (q_A g)) cl sl pc lv st ws :=
  q_throw (ic := 72) (ik := 68) cx hl htab (by decide +kernel) (by decide +kernel) tb_357 tb_11 (by decide +kernel) (by decide +kernel) (by decide +kernel) hstr d0 d3 d4 d6 d9 hR hm hp
theorem th_IA (cx : q_cx g p m c cc nL s args RX3 meth) (text : String) (is : Nat) {mc ms : Nat} {Qc : Array Value → State → Outcome → State → Prop} {pe : String → va_W → Prop} (hl : l.stackTraces = false) (htab : ∀ x ∈ c.exceptionTable.toList, False) (d0 : decode cc pc = .ok (.new 75, 3)) (d3 : decode cc (pc + 3) = .ok (.dup, 1)) (d4 : decode cc (pc + 4) = .ok (.ldc is, 2)) (d6 : decode cc (pc + 6) = .ok (.invokespecial 79, 3)) (d9 : decode cc (pc + 9) = .ok (.athrow, 1)) (hstr : (is, text) ∈ STR) (hR : 5 < R.frames ∧ (st.map fun v => v.category).sum + 82 ≤ R.locals ∧ cl + 1 ≤ R.cells ∧ sl + 6 ≤ R.slots) (hm : cl + 1 ≤ mc ∧ sl + 6 ≤ ms) (hp : pe "java/lang/IllegalArgumentException" ws) : AT p l e R s m args below meth c g nL (vx_MQ below Qc (q_XC g pe) args s mc ms (q_A g)) cl sl pc lv st ws :=
  q_throw (ic := 79) (ik := 75) cx hl htab (by decide +kernel) (by decide +kernel) tb_329 tb_12 (by decide +kernel) (by decide +kernel) (by decide +kernel) hstr d0 d3 d4 d6 d9 hR hm hp
end THROWS
end
section
section SITES
variable {p : Program} {l : Launch} {e : Env} {R : Room} {s : State} {m : MethodId} {args : Array Value} {below : List Frame} {meth : Method} {c : Code} {g : q_G} {nL : Nat} {Q : State → Prop} {cl sl : Nat} {cc : ByteArray} {pc : Nat} {lv : List (Nat × Value)} {st st0 : List Value} {ws : va_W} {rm : Room} {As : List Value} {b : Nat}
theorem iw_Jx4a65c : ∀ w ∈ u_ws RJx4a65c TJx4a65c 3, w ∈ WS := by decide +kernel
theorem iw_X0 : ∀ w ∈ u_ws RX0 TX0 6, w ∈ WS := by decide +kernel
theorem iw_X1 : ∀ w ∈ u_ws RX1 TX1 8, w ∈ WS := by decide +kernel
theorem iw_X2 : ∀ w ∈ u_ws RX2 TX2 1, w ∈ WS := by decide +kernel
theorem iw_X3 : ∀ w ∈ u_ws RX3 TX3 10, w ∈ WS := by decide +kernel
theorem pf_X0_7 (cx : q_cx g p m c cc nL s args RX0 meth) (hnm : meth.name = "<init>") (hd : decode cc pc = .ok (.putfield 7, 3)) (q0 : Nat) {a : Nat} {fs : List Value} {x : Int64} (he : ws[q0]? = some (a, .inr (1, fs))) (hl9 : 0 < fs.length) (kk : AT p l e R s m args below meth c g nL Q cl sl (pc + 3) lv st (ws.set q0 (a, .inr (1, fs.set 0 (.long x))))) : AT p l e R s m args below meth c g nL Q cl sl pc lv (.long x :: .ref a :: st) ws := fun H locs ls hP hD hS hl => va_putF (C := RX0) (T := TX0) (N := 6) cx.1.1 cx.1.2.1 cx.1.2.2.2.2 iw_X0 tyX0 tyX0_ok nmX0 cx.1.2.2.2.1 cx.2.1.2.1 hP hD hS q0 he rfl 0 (by decide) (cx.ok tb_387) (fun _ h9 => h9) rfl hnm rfl (tyX0_ok 0 (by decide)) rfl rfl hl9 hd (fun H1 locs1 hP hD hS => kk H1 locs1 ls hP hD hS hl)
theorem pf_X0_13 (cx : q_cx g p m c cc nL s args RX0 meth) (hnm : meth.name = "<init>") (hd : decode cc pc = .ok (.putfield 13, 3)) (q0 : Nat) {a : Nat} {fs : List Value} {x : Int32} (he : ws[q0]? = some (a, .inr (1, fs))) (hl9 : 1 < fs.length) (kk : AT p l e R s m args below meth c g nL Q cl sl (pc + 3) lv st (ws.set q0 (a, .inr (1, fs.set 1 (.int x))))) : AT p l e R s m args below meth c g nL Q cl sl pc lv (.int x :: .ref a :: st) ws := fun H locs ls hP hD hS hl => va_putF (C := RX0) (T := TX0) (N := 6) cx.1.1 cx.1.2.1 cx.1.2.2.2.2 iw_X0 tyX0 tyX0_ok nmX0 cx.1.2.2.2.1 cx.2.1.2.1 hP hD hS q0 he rfl 1 (by decide) (cx.ok tb_390) (fun _ h9 => h9) rfl hnm rfl (tyX0_ok 1 (by decide)) rfl rfl hl9 hd (fun H1 locs1 hP hD hS => kk H1 locs1 ls hP hD hS hl)
theorem pf_X0_17 (cx : q_cx g p m c cc nL s args RX0 meth) (hnm : meth.name = "<init>") (hd : decode cc pc = .ok (.putfield 17, 3)) (q0 : Nat) {a : Nat} {fs : List Value} {x : Int32} (he : ws[q0]? = some (a, .inr (1, fs))) (hl9 : 2 < fs.length) (kk : AT p l e R s m args below meth c g nL Q cl sl (pc + 3) lv st (ws.set q0 (a, .inr (1, fs.set 2 (.int x))))) : AT p l e R s m args below meth c g nL Q cl sl pc lv (.int x :: .ref a :: st) ws := fun H locs ls hP hD hS hl => va_putF (C := RX0) (T := TX0) (N := 6) cx.1.1 cx.1.2.1 cx.1.2.2.2.2 iw_X0 tyX0 tyX0_ok nmX0 cx.1.2.2.2.1 cx.2.1.2.1 hP hD hS q0 he rfl 2 (by decide) (cx.ok tb_392) (fun _ h9 => h9) rfl hnm rfl (tyX0_ok 2 (by decide)) rfl rfl hl9 hd (fun H1 locs1 hP hD hS => kk H1 locs1 ls hP hD hS hl)
theorem pf_X0_20 (cx : q_cx g p m c cc nL s args RX0 meth) (hnm : meth.name = "<init>") (hd : decode cc pc = .ok (.putfield 20, 3)) (q0 : Nat) {a : Nat} {fs : List Value} {x : Int32} (he : ws[q0]? = some (a, .inr (1, fs))) (hl9 : 3 < fs.length) (kk : AT p l e R s m args below meth c g nL Q cl sl (pc + 3) lv st (ws.set q0 (a, .inr (1, fs.set 3 (.int x))))) : AT p l e R s m args below meth c g nL Q cl sl pc lv (.int x :: .ref a :: st) ws := fun H locs ls hP hD hS hl => va_putF (C := RX0) (T := TX0) (N := 6) cx.1.1 cx.1.2.1 cx.1.2.2.2.2 iw_X0 tyX0 tyX0_ok nmX0 cx.1.2.2.2.1 cx.2.1.2.1 hP hD hS q0 he rfl 3 (by decide) (cx.ok tb_394) (fun _ h9 => h9) rfl hnm rfl (tyX0_ok 3 (by decide)) rfl rfl hl9 hd (fun H1 locs1 hP hD hS => kk H1 locs1 ls hP hD hS hl)
theorem pf_X0_23 (cx : q_cx g p m c cc nL s args RX0 meth) (hnm : meth.name = "<init>") (hd : decode cc pc = .ok (.putfield 23, 3)) (q0 : Nat) {a : Nat} {fs : List Value} {x : Int32} (he : ws[q0]? = some (a, .inr (1, fs))) (hl9 : 4 < fs.length) (kk : AT p l e R s m args below meth c g nL Q cl sl (pc + 3) lv st (ws.set q0 (a, .inr (1, fs.set 4 (.int x))))) : AT p l e R s m args below meth c g nL Q cl sl pc lv (.int x :: .ref a :: st) ws := fun H locs ls hP hD hS hl => va_putF (C := RX0) (T := TX0) (N := 6) cx.1.1 cx.1.2.1 cx.1.2.2.2.2 iw_X0 tyX0 tyX0_ok nmX0 cx.1.2.2.2.1 cx.2.1.2.1 hP hD hS q0 he rfl 4 (by decide) (cx.ok tb_396) (fun _ h9 => h9) rfl hnm rfl (tyX0_ok 4 (by decide)) rfl rfl hl9 hd (fun H1 locs1 hP hD hS => kk H1 locs1 ls hP hD hS hl)
theorem pf_X0_26 (cx : q_cx g p m c cc nL s args RX0 meth) (hnm : meth.name = "<init>") (hd : decode cc pc = .ok (.putfield 26, 3)) (q0 : Nat) {a : Nat} {fs : List Value} {x : Int32} (he : ws[q0]? = some (a, .inr (1, fs))) (hl9 : 5 < fs.length) (kk : AT p l e R s m args below meth c g nL Q cl sl (pc + 3) lv st (ws.set q0 (a, .inr (1, fs.set 5 (.int x))))) : AT p l e R s m args below meth c g nL Q cl sl pc lv (.int x :: .ref a :: st) ws := fun H locs ls hP hD hS hl => va_putF (C := RX0) (T := TX0) (N := 6) cx.1.1 cx.1.2.1 cx.1.2.2.2.2 iw_X0 tyX0 tyX0_ok nmX0 cx.1.2.2.2.1 cx.2.1.2.1 hP hD hS q0 he rfl 5 (by decide) (cx.ok tb_398) (fun _ h9 => h9) rfl hnm rfl (tyX0_ok 5 (by decide)) rfl rfl hl9 hd (fun H1 locs1 hP hD hS => kk H1 locs1 ls hP hD hS hl)
theorem gf_X0_23 (cx : q_cx g p m c cc nL s args RX0 meth) (hd : decode cc pc = .ok (.getfield 23, 3)) (q0 : Nat) {a : Nat} {fs : List Value} {v : Value} (he : ws[q0]? = some (a, .inr (1, fs))) (hv : fs[4]? = some v) (kk : AT p l e R s m args below meth c g nL Q cl sl (pc + 3) lv (v :: st) ws) : AT p l e R s m args below meth c g nL Q cl sl pc lv (.ref a :: st) ws := fun H locs ls hP hD hS hl => va_get (C := RX0) (T := TX0) (N := 6) cx.1.1 cx.1.2.1 cx.1.2.2.2.2 iw_X0 cx.1.2.2.2.1 cx.2.1.2.1 hP q0 he rfl 4 (by decide) (cx.ok tb_396) (fun _ h9 => h9) hv hd (kk H locs ls hP hD hS hl)
theorem gf_X0_17 (cx : q_cx g p m c cc nL s args RX0 meth) (hd : decode cc pc = .ok (.getfield 17, 3)) (q0 : Nat) {a : Nat} {fs : List Value} {v : Value} (he : ws[q0]? = some (a, .inr (1, fs))) (hv : fs[2]? = some v) (kk : AT p l e R s m args below meth c g nL Q cl sl (pc + 3) lv (v :: st) ws) : AT p l e R s m args below meth c g nL Q cl sl pc lv (.ref a :: st) ws := fun H locs ls hP hD hS hl => va_get (C := RX0) (T := TX0) (N := 6) cx.1.1 cx.1.2.1 cx.1.2.2.2.2 iw_X0 cx.1.2.2.2.1 cx.2.1.2.1 hP q0 he rfl 2 (by decide) (cx.ok tb_392) (fun _ h9 => h9) hv hd (kk H locs ls hP hD hS hl)
theorem pf_X1_9 (cx : q_cx g p m c cc nL s args RX1 meth)  (hd : decode cc pc = .ok (.putfield 9, 3)) (q0 : Nat) {a : Nat} {fs : List Value} {x : Int64} (he : ws[q0]? = some (a, .inr (2, fs))) (hl9 : 6 < fs.length) (kk : AT p l e R s m args below meth c g nL Q cl sl (pc + 3) lv st (ws.set q0 (a, .inr (2, fs.set 6 (.long x))))) : AT p l e R s m args below meth c g nL Q cl sl pc lv (.long x :: .ref a :: st) ws := fun H locs ls hP hD hS hl => va_put (C := RX1) (T := TX1) (N := 8) cx.1.1 cx.1.2.1 cx.1.2.2.2.2 iw_X1 tyX1 tyX1_ok nmX1 cx.1.2.2.2.1 cx.2.1.2.1 hP hD hS q0 he rfl 6 (by decide) (cx.ok tb_510) (fun _ h9 => h9) rfl (tyX1_ok 6 (by decide)) rfl rfl hl9 hd (fun H1 locs1 hP hD hS => kk H1 locs1 ls hP hD hS hl)
theorem pf_X1_15 (cx : q_cx g p m c cc nL s args RX1 meth)  (hd : decode cc pc = .ok (.putfield 15, 3)) (q0 : Nat) {a : Nat} {fs : List Value} {x : Bool} (he : ws[q0]? = some (a, .inr (2, fs))) (hl9 : 7 < fs.length) (kk : AT p l e R s m args below meth c g nL Q cl sl (pc + 3) lv st (ws.set q0 (a, .inr (2, fs.set 7 (.int (bI x)))))) : AT p l e R s m args below meth c g nL Q cl sl pc lv (.int (bI x) :: .ref a :: st) ws := fun H locs ls hP hD hS hl => va_put (C := RX1) (T := TX1) (N := 8) cx.1.1 cx.1.2.1 cx.1.2.2.2.2 iw_X1 tyX1 tyX1_ok nmX1 cx.1.2.2.2.1 cx.2.1.2.1 hP hD hS q0 he rfl 7 (by decide) (cx.ok tb_512) (fun _ h9 => h9) rfl (tyX1_ok 7 (by decide)) (bI_nar x) (by cases x <;> rfl) hl9 hd (fun H1 locs1 hP hD hS => kk H1 locs1 ls hP hD hS hl)
theorem pf_X1_19 (cx : q_cx g p m c cc nL s args RX1 meth) (hnm : meth.name = "<init>") (hd : decode cc pc = .ok (.putfield 19, 3)) (q0 : Nat) {a : Nat} {fs : List Value} {x : Int32} (he : ws[q0]? = some (a, .inr (2, fs))) (hl9 : 0 < fs.length) (kk : AT p l e R s m args below meth c g nL Q cl sl (pc + 3) lv st (ws.set q0 (a, .inr (2, fs.set 0 (.int x))))) : AT p l e R s m args below meth c g nL Q cl sl pc lv (.int x :: .ref a :: st) ws := fun H locs ls hP hD hS hl => va_putF (C := RX1) (T := TX1) (N := 8) cx.1.1 cx.1.2.1 cx.1.2.2.2.2 iw_X1 tyX1 tyX1_ok nmX1 cx.1.2.2.2.1 cx.2.1.2.1 hP hD hS q0 he rfl 0 (by decide) (cx.ok tb_504) (fun _ h9 => h9) rfl hnm rfl (tyX1_ok 0 (by decide)) rfl rfl hl9 hd (fun H1 locs1 hP hD hS => kk H1 locs1 ls hP hD hS hl)
theorem pf_X1_23 (cx : q_cx g p m c cc nL s args RX1 meth) (hnm : meth.name = "<init>") (hd : decode cc pc = .ok (.putfield 23, 3)) (q0 : Nat) {a : Nat} {fs : List Value} {x : Int32} (he : ws[q0]? = some (a, .inr (2, fs))) (hl9 : 1 < fs.length) (kk : AT p l e R s m args below meth c g nL Q cl sl (pc + 3) lv st (ws.set q0 (a, .inr (2, fs.set 1 (.int x))))) : AT p l e R s m args below meth c g nL Q cl sl pc lv (.int x :: .ref a :: st) ws := fun H locs ls hP hD hS hl => va_putF (C := RX1) (T := TX1) (N := 8) cx.1.1 cx.1.2.1 cx.1.2.2.2.2 iw_X1 tyX1 tyX1_ok nmX1 cx.1.2.2.2.1 cx.2.1.2.1 hP hD hS q0 he rfl 1 (by decide) (cx.ok tb_505) (fun _ h9 => h9) rfl hnm rfl (tyX1_ok 1 (by decide)) rfl rfl hl9 hd (fun H1 locs1 hP hD hS => kk H1 locs1 ls hP hD hS hl)
theorem pf_X1_26 (cx : q_cx g p m c cc nL s args RX1 meth) (hnm : meth.name = "<init>") (hd : decode cc pc = .ok (.putfield 26, 3)) (q0 : Nat) {a : Nat} {fs : List Value} {x : Int32} (he : ws[q0]? = some (a, .inr (2, fs))) (hl9 : 2 < fs.length) (kk : AT p l e R s m args below meth c g nL Q cl sl (pc + 3) lv st (ws.set q0 (a, .inr (2, fs.set 2 (.int x))))) : AT p l e R s m args below meth c g nL Q cl sl pc lv (.int x :: .ref a :: st) ws := fun H locs ls hP hD hS hl => va_putF (C := RX1) (T := TX1) (N := 8) cx.1.1 cx.1.2.1 cx.1.2.2.2.2 iw_X1 tyX1 tyX1_ok nmX1 cx.1.2.2.2.1 cx.2.1.2.1 hP hD hS q0 he rfl 2 (by decide) (cx.ok tb_506) (fun _ h9 => h9) rfl hnm rfl (tyX1_ok 2 (by decide)) rfl rfl hl9 hd (fun H1 locs1 hP hD hS => kk H1 locs1 ls hP hD hS hl)
theorem pf_X1_29 (cx : q_cx g p m c cc nL s args RX1 meth) (hnm : meth.name = "<init>") (hd : decode cc pc = .ok (.putfield 29, 3)) (q0 : Nat) {a : Nat} {fs : List Value} {x : Int32} (he : ws[q0]? = some (a, .inr (2, fs))) (hl9 : 3 < fs.length) (kk : AT p l e R s m args below meth c g nL Q cl sl (pc + 3) lv st (ws.set q0 (a, .inr (2, fs.set 3 (.int x))))) : AT p l e R s m args below meth c g nL Q cl sl pc lv (.int x :: .ref a :: st) ws := fun H locs ls hP hD hS hl => va_putF (C := RX1) (T := TX1) (N := 8) cx.1.1 cx.1.2.1 cx.1.2.2.2.2 iw_X1 tyX1 tyX1_ok nmX1 cx.1.2.2.2.1 cx.2.1.2.1 hP hD hS q0 he rfl 3 (by decide) (cx.ok tb_507) (fun _ h9 => h9) rfl hnm rfl (tyX1_ok 3 (by decide)) rfl rfl hl9 hd (fun H1 locs1 hP hD hS => kk H1 locs1 ls hP hD hS hl)
theorem pf_X1_32 (cx : q_cx g p m c cc nL s args RX1 meth) (hnm : meth.name = "<init>") (hd : decode cc pc = .ok (.putfield 32, 3)) (q0 : Nat) {a : Nat} {fs : List Value} {x : Int32} (he : ws[q0]? = some (a, .inr (2, fs))) (hl9 : 4 < fs.length) (kk : AT p l e R s m args below meth c g nL Q cl sl (pc + 3) lv st (ws.set q0 (a, .inr (2, fs.set 4 (.int x))))) : AT p l e R s m args below meth c g nL Q cl sl pc lv (.int x :: .ref a :: st) ws := fun H locs ls hP hD hS hl => va_putF (C := RX1) (T := TX1) (N := 8) cx.1.1 cx.1.2.1 cx.1.2.2.2.2 iw_X1 tyX1 tyX1_ok nmX1 cx.1.2.2.2.1 cx.2.1.2.1 hP hD hS q0 he rfl 4 (by decide) (cx.ok tb_508) (fun _ h9 => h9) rfl hnm rfl (tyX1_ok 4 (by decide)) rfl rfl hl9 hd (fun H1 locs1 hP hD hS => kk H1 locs1 ls hP hD hS hl)
theorem pf_X1_35 (cx : q_cx g p m c cc nL s args RX1 meth) (hnm : meth.name = "<init>") (hd : decode cc pc = .ok (.putfield 35, 3)) (q0 : Nat) {a : Nat} {fs : List Value} {x : Int32} (he : ws[q0]? = some (a, .inr (2, fs))) (hl9 : 5 < fs.length) (kk : AT p l e R s m args below meth c g nL Q cl sl (pc + 3) lv st (ws.set q0 (a, .inr (2, fs.set 5 (.int x))))) : AT p l e R s m args below meth c g nL Q cl sl pc lv (.int x :: .ref a :: st) ws := fun H locs ls hP hD hS hl => va_putF (C := RX1) (T := TX1) (N := 8) cx.1.1 cx.1.2.1 cx.1.2.2.2.2 iw_X1 tyX1 tyX1_ok nmX1 cx.1.2.2.2.1 cx.2.1.2.1 hP hD hS q0 he rfl 5 (by decide) (cx.ok tb_509) (fun _ h9 => h9) rfl hnm rfl (tyX1_ok 5 (by decide)) rfl rfl hl9 hd (fun H1 locs1 hP hD hS => kk H1 locs1 ls hP hD hS hl)
theorem gf_X1_9 (cx : q_cx g p m c cc nL s args RX1 meth) (hd : decode cc pc = .ok (.getfield 9, 3)) (q0 : Nat) {a : Nat} {fs : List Value} {v : Value} (he : ws[q0]? = some (a, .inr (2, fs))) (hv : fs[6]? = some v) (kk : AT p l e R s m args below meth c g nL Q cl sl (pc + 3) lv (v :: st) ws) : AT p l e R s m args below meth c g nL Q cl sl pc lv (.ref a :: st) ws := fun H locs ls hP hD hS hl => va_get (C := RX1) (T := TX1) (N := 8) cx.1.1 cx.1.2.1 cx.1.2.2.2.2 iw_X1 cx.1.2.2.2.1 cx.2.1.2.1 hP q0 he rfl 6 (by decide) (cx.ok tb_510) (fun _ h9 => h9) hv hd (kk H locs ls hP hD hS hl)
theorem gf_X1_38 (cx : q_cx g p m c cc nL s args RX1 meth) (hd : decode cc pc = .ok (.getfield 38, 3)) (q0 : Nat) {a : Nat} {fs : List Value} {v : Value} (he : ws[q0]? = some (a, .inr (1, fs))) (hv : fs[0]? = some v) (kk : AT p l e R s m args below meth c g nL Q cl sl (pc + 3) lv (v :: st) ws) : AT p l e R s m args below meth c g nL Q cl sl pc lv (.ref a :: st) ws := fun H locs ls hP hD hS hl => va_getN (C := RX0) (T := TX0) (N := 6) cx.1.1 cx.1.2.1 cx.1.2.2.2.2 iw_X0 cx.1.2.2.2.1 cx.2.1.2.1 hP q0 he rfl 0 (by decide) (cx.nok tn_388) (fun _ h9 => h9) hv hd (kk H locs ls hP hD hS hl)
theorem gf_X1_15 (cx : q_cx g p m c cc nL s args RX1 meth) (hd : decode cc pc = .ok (.getfield 15, 3)) (q0 : Nat) {a : Nat} {fs : List Value} {v : Value} (he : ws[q0]? = some (a, .inr (2, fs))) (hv : fs[7]? = some v) (kk : AT p l e R s m args below meth c g nL Q cl sl (pc + 3) lv (v :: st) ws) : AT p l e R s m args below meth c g nL Q cl sl pc lv (.ref a :: st) ws := fun H locs ls hP hD hS hl => va_get (C := RX1) (T := TX1) (N := 8) cx.1.1 cx.1.2.1 cx.1.2.2.2.2 iw_X1 cx.1.2.2.2.1 cx.2.1.2.1 hP q0 he rfl 7 (by decide) (cx.ok tb_512) (fun _ h9 => h9) hv hd (kk H locs ls hP hD hS hl)
theorem gf_X1_29 (cx : q_cx g p m c cc nL s args RX1 meth) (hd : decode cc pc = .ok (.getfield 29, 3)) (q0 : Nat) {a : Nat} {fs : List Value} {v : Value} (he : ws[q0]? = some (a, .inr (2, fs))) (hv : fs[3]? = some v) (kk : AT p l e R s m args below meth c g nL Q cl sl (pc + 3) lv (v :: st) ws) : AT p l e R s m args below meth c g nL Q cl sl pc lv (.ref a :: st) ws := fun H locs ls hP hD hS hl => va_get (C := RX1) (T := TX1) (N := 8) cx.1.1 cx.1.2.1 cx.1.2.2.2.2 iw_X1 cx.1.2.2.2.1 cx.2.1.2.1 hP q0 he rfl 3 (by decide) (cx.ok tb_507) (fun _ h9 => h9) hv hd (kk H locs ls hP hD hS hl)
theorem gf_X1_32 (cx : q_cx g p m c cc nL s args RX1 meth) (hd : decode cc pc = .ok (.getfield 32, 3)) (q0 : Nat) {a : Nat} {fs : List Value} {v : Value} (he : ws[q0]? = some (a, .inr (2, fs))) (hv : fs[4]? = some v) (kk : AT p l e R s m args below meth c g nL Q cl sl (pc + 3) lv (v :: st) ws) : AT p l e R s m args below meth c g nL Q cl sl pc lv (.ref a :: st) ws := fun H locs ls hP hD hS hl => va_get (C := RX1) (T := TX1) (N := 8) cx.1.1 cx.1.2.1 cx.1.2.2.2.2 iw_X1 cx.1.2.2.2.1 cx.2.1.2.1 hP q0 he rfl 4 (by decide) (cx.ok tb_508) (fun _ h9 => h9) hv hd (kk H locs ls hP hD hS hl)
theorem gf_X1_35 (cx : q_cx g p m c cc nL s args RX1 meth) (hd : decode cc pc = .ok (.getfield 35, 3)) (q0 : Nat) {a : Nat} {fs : List Value} {v : Value} (he : ws[q0]? = some (a, .inr (2, fs))) (hv : fs[5]? = some v) (kk : AT p l e R s m args below meth c g nL Q cl sl (pc + 3) lv (v :: st) ws) : AT p l e R s m args below meth c g nL Q cl sl pc lv (.ref a :: st) ws := fun H locs ls hP hD hS hl => va_get (C := RX1) (T := TX1) (N := 8) cx.1.1 cx.1.2.1 cx.1.2.2.2.2 iw_X1 cx.1.2.2.2.1 cx.2.1.2.1 hP q0 he rfl 5 (by decide) (cx.ok tb_509) (fun _ h9 => h9) hv hd (kk H locs ls hP hD hS hl)
theorem gf_X1_19 (cx : q_cx g p m c cc nL s args RX1 meth) (hd : decode cc pc = .ok (.getfield 19, 3)) (q0 : Nat) {a : Nat} {fs : List Value} {v : Value} (he : ws[q0]? = some (a, .inr (2, fs))) (hv : fs[0]? = some v) (kk : AT p l e R s m args below meth c g nL Q cl sl (pc + 3) lv (v :: st) ws) : AT p l e R s m args below meth c g nL Q cl sl pc lv (.ref a :: st) ws := fun H locs ls hP hD hS hl => va_get (C := RX1) (T := TX1) (N := 8) cx.1.1 cx.1.2.1 cx.1.2.2.2.2 iw_X1 cx.1.2.2.2.1 cx.2.1.2.1 hP q0 he rfl 0 (by decide) (cx.ok tb_504) (fun _ h9 => h9) hv hd (kk H locs ls hP hD hS hl)
theorem gf_X1_26 (cx : q_cx g p m c cc nL s args RX1 meth) (hd : decode cc pc = .ok (.getfield 26, 3)) (q0 : Nat) {a : Nat} {fs : List Value} {v : Value} (he : ws[q0]? = some (a, .inr (2, fs))) (hv : fs[2]? = some v) (kk : AT p l e R s m args below meth c g nL Q cl sl (pc + 3) lv (v :: st) ws) : AT p l e R s m args below meth c g nL Q cl sl pc lv (.ref a :: st) ws := fun H locs ls hP hD hS hl => va_get (C := RX1) (T := TX1) (N := 8) cx.1.1 cx.1.2.1 cx.1.2.2.2.2 iw_X1 cx.1.2.2.2.1 cx.2.1.2.1 hP q0 he rfl 2 (by decide) (cx.ok tb_506) (fun _ h9 => h9) hv hd (kk H locs ls hP hD hS hl)
theorem k_X1_45 (cx : q_cx g p m c cc nL s args RX1 meth) {post : Int32 → va_W → Prop} (hM : MetW l g yX1_changes cX1_changes 3 (some .boolean) rm (.ref b :: As) ws (q_Qi g post)) (hd : decode cc pc = .ok (.invokevirtual 45, 3)) (q0 : Nat) {fs : List Value} (he : ws[q0]? = some (b, .inr (2, fs))) (hR : rm.frames + 1 ≤ R.frames ∧ 8 + (3 + 11) + rm.locals ≤ R.locals) (hroom : cl + rm.cells ≤ R.cells ∧ sl + rm.slots ≤ R.slots) (hst : st0 = As.reverse ++ .ref b :: st) (hn : As.length = 2) (hW : (st.map fun v => v.category).sum ≤ 8) (kk : ∀ (r : Int32) (u : va_W), post r u → AT p l e R s m args below meth c g nL Q (cl + rm.cells) (sl + rm.slots) (pc + 3) lv (.int r :: st) u) : AT p l e R s m args below meth c g nL Q cl sl pc lv st0 ws := q_Vi (C := RX1) (ci := 2) cx (gi_V tb_273 tb_275 ts_10 tb_20 tb_276) ⟨rfl, by decide +kernel, by decide +kernel, by decide +kernel⟩ rfl rfl hM hd q0 he hR hroom hst hn hW kk
theorem gf_X1_23 (cx : q_cx g p m c cc nL s args RX1 meth) (hd : decode cc pc = .ok (.getfield 23, 3)) (q0 : Nat) {a : Nat} {fs : List Value} {v : Value} (he : ws[q0]? = some (a, .inr (2, fs))) (hv : fs[1]? = some v) (kk : AT p l e R s m args below meth c g nL Q cl sl (pc + 3) lv (v :: st) ws) : AT p l e R s m args below meth c g nL Q cl sl pc lv (.ref a :: st) ws := fun H locs ls hP hD hS hl => va_get (C := RX1) (T := TX1) (N := 8) cx.1.1 cx.1.2.1 cx.1.2.2.2.2 iw_X1 cx.1.2.2.2.1 cx.2.1.2.1 hP q0 he rfl 1 (by decide) (cx.ok tb_505) (fun _ h9 => h9) hv hd (kk H locs ls hP hD hS hl)
theorem pf_X2_9 (cx : q_cx g p m c cc nL s args RX2 meth) (hnm : meth.name = "<init>") (hd : decode cc pc = .ok (.putfield 9, 3)) (q0 : Nat) {a : Nat} {fs : List Value} {x : Nat} (he : ws[q0]? = some (a, .inr (3, fs))) (hl9 : 0 < fs.length) (kk : AT p l e R s m args below meth c g nL Q cl sl (pc + 3) lv st (ws.set q0 (a, .inr (3, fs.set 0 (.ref x))))) : AT p l e R s m args below meth c g nL Q cl sl pc lv (.ref x :: .ref a :: st) ws := fun H locs ls hP hD hS hl => va_putF (C := RX2) (T := TX2) (N := 1) cx.1.1 cx.1.2.1 cx.1.2.2.2.2 iw_X2 tyX2 tyX2_ok nmX2 cx.1.2.2.2.1 cx.2.1.2.1 hP hD hS q0 he rfl 0 (by decide) (cx.ok tb_61) (fun _ h9 => h9) rfl hnm rfl (tyX2_ok 0 (by decide)) rfl rfl hl9 hd (fun H1 locs1 hP hD hS => kk H1 locs1 ls hP hD hS hl)
theorem gf_X2_9 (cx : q_cx g p m c cc nL s args RX2 meth) (hd : decode cc pc = .ok (.getfield 9, 3)) (q0 : Nat) {a : Nat} {fs : List Value} {v : Value} (he : ws[q0]? = some (a, .inr (3, fs))) (hv : fs[0]? = some v) (kk : AT p l e R s m args below meth c g nL Q cl sl (pc + 3) lv (v :: st) ws) : AT p l e R s m args below meth c g nL Q cl sl pc lv (.ref a :: st) ws := fun H locs ls hP hD hS hl => va_get (C := RX2) (T := TX2) (N := 1) cx.1.1 cx.1.2.1 cx.1.2.2.2.2 iw_X2 cx.1.2.2.2.1 cx.2.1.2.1 hP q0 he rfl 0 (by decide) (cx.ok tb_61) (fun _ h9 => h9) hv hd (kk H locs ls hP hD hS hl)
theorem k_X2_15 (cx : q_cx g p m c cc nL s args RX2 meth) {post : Int32 → va_W → Prop} (hM : MetW l g yX2_goThrough cX2_goThrough 8 (some .int) rm (.ref b :: As) ws (q_Qi g post)) (hd : decode cc pc = .ok (.invokevirtual 15, 3)) (q0 : Nat) {fs : List Value} (he : ws[q0]? = some (b, .inr (3, fs))) (hR : rm.frames + 1 ≤ R.frames ∧ 8 + (8 + 11) + rm.locals ≤ R.locals) (hroom : cl + rm.cells ≤ R.cells ∧ sl + rm.slots ≤ R.slots) (hst : st0 = As.reverse ++ .ref b :: st) (hn : As.length = 2) (hW : (st.map fun v => v.category).sum ≤ 8) (kk : ∀ (r : Int32) (u : va_W), post r u → AT p l e R s m args below meth c g nL Q (cl + rm.cells) (sl + rm.slots) (pc + 3) lv (.int r :: st) u) : AT p l e R s m args below meth c g nL Q cl sl pc lv st0 ws := q_Vi (C := RX2) (ci := 3) cx (gi_V tb_281 tb_283 ts_12 tb_5 tb_284) ⟨rfl, by decide +kernel, by decide +kernel, by decide +kernel⟩ rfl rfl hM hd q0 he hR hroom hst hn hW kk
theorem k_X2_19 (cx : q_cx g p m c cc nL s args RX2 meth) {post : Int32 → va_W → Prop} (hM : MetW l g yJ9_min_7cf53 cJ9_min_7cf53 2 (some .int) rm As ws (q_Qi g post)) (hd : decode cc pc = .ok (.invokestatic 19, 3)) (hR : rm.frames + 1 ≤ R.frames ∧ 8 + (2 + 11) + rm.locals ≤ R.locals) (hroom : cl + rm.cells ≤ R.cells ∧ sl + rm.slots ≤ R.slots) (hst : st0 = As.reverse ++ st) (hn : As.length = 2) (hW : (st.map fun v => v.category).sum ≤ 8) (kk : ∀ (r : Int32) (u : va_W), post r u → AT p l e R s m args below meth c g nL Q (cl + rm.cells) (sl + rm.slots) (pc + 3) lv (.int r :: st) u) : AT p l e R s m args below meth c g nL Q cl sl pc lv st0 ws := q_Si cx (gi_S tb_285 tb_286 tb_15 tb_287) ⟨by decide +kernel, by decide +kernel, by decide +kernel⟩ hM hd hR hroom hst hn hW kk
theorem nw_X3_7 (cx : q_cx g p m c cc nL s args RX3 meth) (hd : decode cc pc = .ok (.new 7, 3)) (hcells : cl + 1 ≤ R.cells) (hslots : sl + 3 ≤ R.slots) (kk : ∀ (q : Nat), AT p l e R s m args below meth c g nL Q (cl + 1) (sl + 3) (pc + 3) lv (.ref q :: st) (ws ++ [(q, .inr (0, [.int 0, .null, .int 0]))])) : AT p l e R s m args below meth c g nL Q cl sl pc lv st ws := q_new (C := RJx4a65c) (T := TJx4a65c) (N := 3) cx iw_Jx4a65c tyJx4a65c tyJx4a65c_ok tb_29 tb_30 tb_4 rfl (fun j hj => by rcases (show j = 0 ∨ j = 1 ∨ j = 2 by omega) with rfl | rfl | rfl <;> rfl) hd hcells hslots kk
theorem k_X3_9 (cx : q_cx g p m c cc nL s args RX3 meth) {post : va_W → Prop} (hM : MetW l g yJx4a65c_init_da8c8 cJx4a65c_init_da8c8 1 none rm (.ref b :: As) ws (q_Qv g post)) (hd : decode cc pc = .ok (.invokespecial 9, 3)) (hR : rm.frames + 1 ≤ R.frames ∧ 8 + (1 + 11) + rm.locals ≤ R.locals) (hroom : cl + rm.cells ≤ R.cells ∧ sl + rm.slots ≤ R.slots) (hst : st0 = As.reverse ++ .ref b :: st) (hn : As.length = 0) (hW : (st.map fun v => v.category).sum ≤ 8) (kk : ∀ (u : va_W), post  u → AT p l e R s m args below meth c g nL Q (cl + rm.cells) (sl + rm.slots) (pc + 3) lv (st) u) : AT p l e R s m args below meth c g nL Q cl sl pc lv st0 ws := q_I cx tb_31 tb_32 tb_4 tb_33 rfl ⟨by decide +kernel, by decide +kernel, by decide +kernel⟩ hM hd hR hroom hst hn hW kk
theorem pf_X3_10 (cx : q_cx g p m c cc nL s args RX3 meth) (hnm : meth.name = "<init>") (hd : decode cc pc = .ok (.putfield 10, 3)) (q0 : Nat) {a : Nat} {fs : List Value} {x : Nat} (he : ws[q0]? = some (a, .inr (4, fs))) (hl9 : 0 < fs.length) (kk : AT p l e R s m args below meth c g nL Q cl sl (pc + 3) lv st (ws.set q0 (a, .inr (4, fs.set 0 (.ref x))))) : AT p l e R s m args below meth c g nL Q cl sl pc lv (.ref x :: .ref a :: st) ws := fun H locs ls hP hD hS hl => va_putF (C := RX3) (T := TX3) (N := 10) cx.1.1 cx.1.2.1 cx.1.2.2.2.2 iw_X3 tyX3 tyX3_ok nmX3 cx.1.2.2.2.1 cx.2.1.2.1 hP hD hS q0 he rfl 0 (by decide) (cx.ok tb_70) (fun _ h9 => h9) rfl hnm rfl (tyX3_ok 0 (by decide)) rfl rfl hl9 hd (fun H1 locs1 hP hD hS => kk H1 locs1 ls hP hD hS hl)
theorem pf_X3_16 (cx : q_cx g p m c cc nL s args RX3 meth) (hnm : meth.name = "<init>") (hd : decode cc pc = .ok (.putfield 16, 3)) (q0 : Nat) {a : Nat} {fs : List Value} {x : Nat} (he : ws[q0]? = some (a, .inr (4, fs))) (hl9 : 1 < fs.length) (kk : AT p l e R s m args below meth c g nL Q cl sl (pc + 3) lv st (ws.set q0 (a, .inr (4, fs.set 1 (.ref x))))) : AT p l e R s m args below meth c g nL Q cl sl pc lv (.ref x :: .ref a :: st) ws := fun H locs ls hP hD hS hl => va_putF (C := RX3) (T := TX3) (N := 10) cx.1.1 cx.1.2.1 cx.1.2.2.2.2 iw_X3 tyX3 tyX3_ok nmX3 cx.1.2.2.2.1 cx.2.1.2.1 hP hD hS q0 he rfl 1 (by decide) (cx.ok tb_71) (fun _ h9 => h9) rfl hnm rfl (tyX3_ok 1 (by decide)) rfl rfl hl9 hd (fun H1 locs1 hP hD hS => kk H1 locs1 ls hP hD hS hl)
theorem pf_X3_19 (cx : q_cx g p m c cc nL s args RX3 meth) (hnm : meth.name = "<init>") (hd : decode cc pc = .ok (.putfield 19, 3)) (q0 : Nat) {a : Nat} {fs : List Value} {x : Nat} (he : ws[q0]? = some (a, .inr (4, fs))) (hl9 : 2 < fs.length) (kk : AT p l e R s m args below meth c g nL Q cl sl (pc + 3) lv st (ws.set q0 (a, .inr (4, fs.set 2 (.ref x))))) : AT p l e R s m args below meth c g nL Q cl sl pc lv (.ref x :: .ref a :: st) ws := fun H locs ls hP hD hS hl => va_putF (C := RX3) (T := TX3) (N := 10) cx.1.1 cx.1.2.1 cx.1.2.2.2.2 iw_X3 tyX3 tyX3_ok nmX3 cx.1.2.2.2.1 cx.2.1.2.1 hP hD hS q0 he rfl 2 (by decide) (cx.ok tb_72) (fun _ h9 => h9) rfl hnm rfl (tyX3_ok 2 (by decide)) rfl rfl hl9 hd (fun H1 locs1 hP hD hS => kk H1 locs1 ls hP hD hS hl)
theorem pf_X3_22 (cx : q_cx g p m c cc nL s args RX3 meth) (hnm : meth.name = "<init>") (hd : decode cc pc = .ok (.putfield 22, 3)) (q0 : Nat) {a : Nat} {fs : List Value} {x : Nat} (he : ws[q0]? = some (a, .inr (4, fs))) (hl9 : 3 < fs.length) (kk : AT p l e R s m args below meth c g nL Q cl sl (pc + 3) lv st (ws.set q0 (a, .inr (4, fs.set 3 (.ref x))))) : AT p l e R s m args below meth c g nL Q cl sl pc lv (.ref x :: .ref a :: st) ws := fun H locs ls hP hD hS hl => va_putF (C := RX3) (T := TX3) (N := 10) cx.1.1 cx.1.2.1 cx.1.2.2.2.2 iw_X3 tyX3 tyX3_ok nmX3 cx.1.2.2.2.1 cx.2.1.2.1 hP hD hS q0 he rfl 3 (by decide) (cx.ok tb_73) (fun _ h9 => h9) rfl hnm rfl (tyX3_ok 3 (by decide)) rfl rfl hl9 hd (fun H1 locs1 hP hD hS => kk H1 locs1 ls hP hD hS hl)
theorem pf_X3_26 (cx : q_cx g p m c cc nL s args RX3 meth) (hnm : meth.name = "<init>") (hd : decode cc pc = .ok (.putfield 26, 3)) (q0 : Nat) {a : Nat} {fs : List Value} {x : Nat} (he : ws[q0]? = some (a, .inr (4, fs))) (hl9 : 4 < fs.length) (kk : AT p l e R s m args below meth c g nL Q cl sl (pc + 3) lv st (ws.set q0 (a, .inr (4, fs.set 4 (.ref x))))) : AT p l e R s m args below meth c g nL Q cl sl pc lv (.ref x :: .ref a :: st) ws := fun H locs ls hP hD hS hl => va_putF (C := RX3) (T := TX3) (N := 10) cx.1.1 cx.1.2.1 cx.1.2.2.2.2 iw_X3 tyX3 tyX3_ok nmX3 cx.1.2.2.2.1 cx.2.1.2.1 hP hD hS q0 he rfl 4 (by decide) (cx.ok tb_74) (fun _ h9 => h9) rfl hnm rfl (tyX3_ok 4 (by decide)) rfl rfl hl9 hd (fun H1 locs1 hP hD hS => kk H1 locs1 ls hP hD hS hl)
theorem pf_X3_29 (cx : q_cx g p m c cc nL s args RX3 meth) (hnm : meth.name = "<init>") (hd : decode cc pc = .ok (.putfield 29, 3)) (q0 : Nat) {a : Nat} {fs : List Value} {x : Nat} (he : ws[q0]? = some (a, .inr (4, fs))) (hl9 : 5 < fs.length) (kk : AT p l e R s m args below meth c g nL Q cl sl (pc + 3) lv st (ws.set q0 (a, .inr (4, fs.set 5 (.ref x))))) : AT p l e R s m args below meth c g nL Q cl sl pc lv (.ref x :: .ref a :: st) ws := fun H locs ls hP hD hS hl => va_putF (C := RX3) (T := TX3) (N := 10) cx.1.1 cx.1.2.1 cx.1.2.2.2.2 iw_X3 tyX3 tyX3_ok nmX3 cx.1.2.2.2.1 cx.2.1.2.1 hP hD hS q0 he rfl 5 (by decide) (cx.ok tb_75) (fun _ h9 => h9) rfl hnm rfl (tyX3_ok 5 (by decide)) rfl rfl hl9 hd (fun H1 locs1 hP hD hS => kk H1 locs1 ls hP hD hS hl)
theorem nw_X3_33 (cx : q_cx g p m c cc nL s args RX3 meth) (hd : decode cc pc = .ok (.new 33, 3)) (hcells : cl + 1 ≤ R.cells) (hslots : sl + 1 ≤ R.slots) (kk : ∀ (q : Nat), AT p l e R s m args below meth c g nL Q (cl + 1) (sl + 1) (pc + 3) lv (.ref q :: st) (ws ++ [(q, .inr (3, [.null]))])) : AT p l e R s m args below meth c g nL Q cl sl pc lv st ws := q_new (C := RX2) (T := TX2) (N := 1) cx iw_X2 tyX2 tyX2_ok tb_55 tb_56 tb_5 rfl (fun j hj => by rcases (show j = 0 by omega) with rfl <;> rfl) hd hcells hslots kk
theorem k_X3_35 (cx : q_cx g p m c cc nL s args RX3 meth) {post : va_W → Prop} (hM : MetW l g yX2_init cX2_init 1 none rm (.ref b :: As) ws (q_Qv g post)) (hd : decode cc pc = .ok (.invokespecial 35, 3)) (hR : rm.frames + 1 ≤ R.frames ∧ 8 + (1 + 11) + rm.locals ≤ R.locals) (hroom : cl + rm.cells ≤ R.cells ∧ sl + rm.slots ≤ R.slots) (hst : st0 = As.reverse ++ .ref b :: st) (hn : As.length = 0) (hW : (st.map fun v => v.category).sum ≤ 8) (kk : ∀ (u : va_W), post  u → AT p l e R s m args below meth c g nL Q (cl + rm.cells) (sl + rm.slots) (pc + 3) lv (st) u) : AT p l e R s m args below meth c g nL Q cl sl pc lv st0 ws := q_IN cx tn_57 tb_58 tb_5 tb_59 rfl ⟨by decide +kernel, by decide +kernel, by decide +kernel⟩ hM hd hR hroom hst hn hW kk
theorem pf_X3_36 (cx : q_cx g p m c cc nL s args RX3 meth) (hnm : meth.name = "<init>") (hd : decode cc pc = .ok (.putfield 36, 3)) (q0 : Nat) {a : Nat} {fs : List Value} {x : Nat} (he : ws[q0]? = some (a, .inr (4, fs))) (hl9 : 6 < fs.length) (kk : AT p l e R s m args below meth c g nL Q cl sl (pc + 3) lv st (ws.set q0 (a, .inr (4, fs.set 6 (.ref x))))) : AT p l e R s m args below meth c g nL Q cl sl pc lv (.ref x :: .ref a :: st) ws := fun H locs ls hP hD hS hl => va_putF (C := RX3) (T := TX3) (N := 10) cx.1.1 cx.1.2.1 cx.1.2.2.2.2 iw_X3 tyX3 tyX3_ok nmX3 cx.1.2.2.2.1 cx.2.1.2.1 hP hD hS q0 he rfl 6 (by decide) (cx.ok tb_76) (fun _ h9 => h9) rfl hnm rfl (tyX3_ok 6 (by decide)) rfl rfl hl9 hd (fun H1 locs1 hP hD hS => kk H1 locs1 ls hP hD hS hl)
theorem pf_X3_40 (cx : q_cx g p m c cc nL s args RX3 meth)  (hd : decode cc pc = .ok (.putfield 40, 3)) (q0 : Nat) {a : Nat} {fs : List Value} {x : Int64} (he : ws[q0]? = some (a, .inr (4, fs))) (hl9 : 7 < fs.length) (kk : AT p l e R s m args below meth c g nL Q cl sl (pc + 3) lv st (ws.set q0 (a, .inr (4, fs.set 7 (.long x))))) : AT p l e R s m args below meth c g nL Q cl sl pc lv (.long x :: .ref a :: st) ws := fun H locs ls hP hD hS hl => va_put (C := RX3) (T := TX3) (N := 10) cx.1.1 cx.1.2.1 cx.1.2.2.2.2 iw_X3 tyX3 tyX3_ok nmX3 cx.1.2.2.2.1 cx.2.1.2.1 hP hD hS q0 he rfl 7 (by decide) (cx.ok tb_77) (fun _ h9 => h9) rfl (tyX3_ok 7 (by decide)) rfl rfl hl9 hd (fun H1 locs1 hP hD hS => kk H1 locs1 ls hP hD hS hl)
theorem pf_X3_44 (cx : q_cx g p m c cc nL s args RX3 meth)  (hd : decode cc pc = .ok (.putfield 44, 3)) (q0 : Nat) {a : Nat} {fs : List Value} {x : Int32} (he : ws[q0]? = some (a, .inr (4, fs))) (hl9 : 8 < fs.length) (kk : AT p l e R s m args below meth c g nL Q cl sl (pc + 3) lv st (ws.set q0 (a, .inr (4, fs.set 8 (.int x))))) : AT p l e R s m args below meth c g nL Q cl sl pc lv (.int x :: .ref a :: st) ws := fun H locs ls hP hD hS hl => va_put (C := RX3) (T := TX3) (N := 10) cx.1.1 cx.1.2.1 cx.1.2.2.2.2 iw_X3 tyX3 tyX3_ok nmX3 cx.1.2.2.2.1 cx.2.1.2.1 hP hD hS q0 he rfl 8 (by decide) (cx.ok tb_78) (fun _ h9 => h9) rfl (tyX3_ok 8 (by decide)) rfl rfl hl9 hd (fun H1 locs1 hP hD hS => kk H1 locs1 ls hP hD hS hl)
theorem pf_X3_48 (cx : q_cx g p m c cc nL s args RX3 meth)  (hd : decode cc pc = .ok (.putfield 48, 3)) (q0 : Nat) {a : Nat} {fs : List Value} {x : Int32} (he : ws[q0]? = some (a, .inr (4, fs))) (hl9 : 9 < fs.length) (kk : AT p l e R s m args below meth c g nL Q cl sl (pc + 3) lv st (ws.set q0 (a, .inr (4, fs.set 9 (.int x))))) : AT p l e R s m args below meth c g nL Q cl sl pc lv (.int x :: .ref a :: st) ws := fun H locs ls hP hD hS hl => va_put (C := RX3) (T := TX3) (N := 10) cx.1.1 cx.1.2.1 cx.1.2.2.2.2 iw_X3 tyX3 tyX3_ok nmX3 cx.1.2.2.2.1 cx.2.1.2.1 hP hD hS q0 he rfl 9 (by decide) (cx.ok tb_79) (fun _ h9 => h9) rfl (tyX3_ok 9 (by decide)) rfl rfl hl9 hd (fun H1 locs1 hP hD hS => kk H1 locs1 ls hP hD hS hl)
theorem gf_X3_22 (cx : q_cx g p m c cc nL s args RX3 meth) (hd : decode cc pc = .ok (.getfield 22, 3)) (q0 : Nat) {a : Nat} {fs : List Value} {v : Value} (he : ws[q0]? = some (a, .inr (4, fs))) (hv : fs[3]? = some v) (kk : AT p l e R s m args below meth c g nL Q cl sl (pc + 3) lv (v :: st) ws) : AT p l e R s m args below meth c g nL Q cl sl pc lv (.ref a :: st) ws := fun H locs ls hP hD hS hl => va_get (C := RX3) (T := TX3) (N := 10) cx.1.1 cx.1.2.1 cx.1.2.2.2.2 iw_X3 cx.1.2.2.2.1 cx.2.1.2.1 hP q0 he rfl 3 (by decide) (cx.ok tb_73) (fun _ h9 => h9) hv hd (kk H locs ls hP hD hS hl)
theorem k_X3_51 (cx : q_cx g p m c cc nL s args RX3 meth) {post : va_W → Prop} (hM : MetW l g yJ7_fill_53178 cJ7_fill_53178 4 none rm As ws (q_Qv g post)) (hd : decode cc pc = .ok (.invokestatic 51, 3)) (hR : rm.frames + 1 ≤ R.frames ∧ 8 + (4 + 11) + rm.locals ≤ R.locals) (hroom : cl + rm.cells ≤ R.cells ∧ sl + rm.slots ≤ R.slots) (hst : st0 = As.reverse ++ st) (hn : As.length = 2) (hW : (st.map fun v => v.category).sum ≤ 8) (kk : ∀ (u : va_W), post  u → AT p l e R s m args below meth c g nL Q (cl + rm.cells) (sl + rm.slots) (pc + 3) lv (st) u) : AT p l e R s m args below meth c g nL Q cl sl pc lv st0 ws := q_Sv cx (gi_S tb_67 tb_68 tb_6 tb_69) ⟨by decide +kernel, by decide +kernel, by decide +kernel⟩ hM hd hR hroom hst hn hW kk
theorem k_X3_57 (cx : q_cx g p m c cc nL s args RX3 meth) {post : Int32 → va_W → Prop} (hM : MetW l g yX3_isOutside cX3_isOutside 2 (some .boolean) rm As ws (q_Qi g post)) (hd : decode cc pc = .ok (.invokestatic 57, 3)) (hR : rm.frames + 1 ≤ R.frames ∧ 8 + (2 + 11) + rm.locals ≤ R.locals) (hroom : cl + rm.cells ≤ R.cells ∧ sl + rm.slots ≤ R.slots) (hst : st0 = As.reverse ++ st) (hn : As.length = 2) (hW : (st.map fun v => v.category).sum ≤ 8) (kk : ∀ (r : Int32) (u : va_W), post r u → AT p l e R s m args below meth c g nL Q (cl + rm.cells) (sl + rm.slots) (pc + 3) lv (.int r :: st) u) : AT p l e R s m args below meth c g nL Q cl sl pc lv st0 ws := q_Si cx (gi_S tb_126 tb_127 tb_1 tb_128) ⟨by decide +kernel, by decide +kernel, by decide +kernel⟩ hM hd hR hroom hst hn hW kk
theorem gf_X3_48 (cx : q_cx g p m c cc nL s args RX3 meth) (hd : decode cc pc = .ok (.getfield 48, 3)) (q0 : Nat) {a : Nat} {fs : List Value} {v : Value} (he : ws[q0]? = some (a, .inr (4, fs))) (hv : fs[9]? = some v) (kk : AT p l e R s m args below meth c g nL Q cl sl (pc + 3) lv (v :: st) ws) : AT p l e R s m args below meth c g nL Q cl sl pc lv (.ref a :: st) ws := fun H locs ls hP hD hS hl => va_get (C := RX3) (T := TX3) (N := 10) cx.1.1 cx.1.2.1 cx.1.2.2.2.2 iw_X3 cx.1.2.2.2.1 cx.2.1.2.1 hP q0 he rfl 9 (by decide) (cx.ok tb_79) (fun _ h9 => h9) hv hd (kk H locs ls hP hD hS hl)
theorem gf_X3_44 (cx : q_cx g p m c cc nL s args RX3 meth) (hd : decode cc pc = .ok (.getfield 44, 3)) (q0 : Nat) {a : Nat} {fs : List Value} {v : Value} (he : ws[q0]? = some (a, .inr (4, fs))) (hv : fs[8]? = some v) (kk : AT p l e R s m args below meth c g nL Q cl sl (pc + 3) lv (v :: st) ws) : AT p l e R s m args below meth c g nL Q cl sl pc lv (.ref a :: st) ws := fun H locs ls hP hD hS hl => va_get (C := RX3) (T := TX3) (N := 10) cx.1.1 cx.1.2.1 cx.1.2.2.2.2 iw_X3 cx.1.2.2.2.1 cx.2.1.2.1 hP q0 he rfl 8 (by decide) (cx.ok tb_78) (fun _ h9 => h9) hv hd (kk H locs ls hP hD hS hl)
theorem gf_X3_10 (cx : q_cx g p m c cc nL s args RX3 meth) (hd : decode cc pc = .ok (.getfield 10, 3)) (q0 : Nat) {a : Nat} {fs : List Value} {v : Value} (he : ws[q0]? = some (a, .inr (4, fs))) (hv : fs[0]? = some v) (kk : AT p l e R s m args below meth c g nL Q cl sl (pc + 3) lv (v :: st) ws) : AT p l e R s m args below meth c g nL Q cl sl pc lv (.ref a :: st) ws := fun H locs ls hP hD hS hl => va_get (C := RX3) (T := TX3) (N := 10) cx.1.1 cx.1.2.1 cx.1.2.2.2.2 iw_X3 cx.1.2.2.2.1 cx.2.1.2.1 hP q0 he rfl 0 (by decide) (cx.ok tb_70) (fun _ h9 => h9) hv hd (kk H locs ls hP hD hS hl)
theorem k_X3_80 (cx : q_cx g p m c cc nL s args RX3 meth) {post : Int32 → va_W → Prop} (hM : MetW l g yJx4a65c_size_8abf5 cJx4a65c_size_8abf5 1 (some .int) rm (.ref b :: As) ws (q_Qi g post)) (hd : decode cc pc = .ok (.invokevirtual 80, 3)) (q0 : Nat) {fs : List Value} (he : ws[q0]? = some (b, .inr (0, fs))) (hR : rm.frames + 1 ≤ R.frames ∧ 8 + (1 + 11) + rm.locals ≤ R.locals) (hroom : cl + rm.cells ≤ R.cells ∧ sl + rm.slots ≤ R.slots) (hst : st0 = As.reverse ++ .ref b :: st) (hn : As.length = 0) (hW : (st.map fun v => v.category).sum ≤ 8) (kk : ∀ (r : Int32) (u : va_W), post r u → AT p l e R s m args below meth c g nL Q (cl + rm.cells) (sl + rm.slots) (pc + 3) lv (.int r :: st) u) : AT p l e R s m args below meth c g nL Q cl sl pc lv st0 ws := q_Vi (C := RJx4a65c) (ci := 0) cx (gi_V tb_201 tb_202 tb_203 tb_4 tb_204) ⟨rfl, by decide +kernel, by decide +kernel, by decide +kernel⟩ rfl rfl hM hd q0 he hR hroom hst hn hW kk
theorem nw_X3_86 (cx : q_cx g p m c cc nL s args RX3 meth) (hd : decode cc pc = .ok (.new 86, 3)) (hcells : cl + 1 ≤ R.cells) (hslots : sl + 6 ≤ R.slots) (kk : ∀ (q : Nat), AT p l e R s m args below meth c g nL Q (cl + 1) (sl + 6) (pc + 3) lv (.ref q :: st) (ws ++ [(q, .inr (1, [.long 0, .int 0, .int 0, .int 0, .int 0, .int 0]))])) : AT p l e R s m args below meth c g nL Q cl sl pc lv st ws := q_new (C := RX0) (T := TX0) (N := 6) cx iw_X0 tyX0 tyX0_ok tb_219 tb_227 tb_13 rfl (fun j hj => by rcases (show j = 0 ∨ j = 1 ∨ j = 2 ∨ j = 3 ∨ j = 4 ∨ j = 5 by omega) with rfl | rfl | rfl | rfl | rfl | rfl <;> rfl) hd hcells hslots kk
theorem k_X3_88 (cx : q_cx g p m c cc nL s args RX3 meth) {post : Int32 → va_W → Prop} (hM : MetW l g yX3_takeDraft cX3_takeDraft 2 (some .int) rm (.ref b :: As) ws (q_Qi g post)) (hd : decode cc pc = .ok (.invokevirtual 88, 3)) (q0 : Nat) {fs : List Value} (he : ws[q0]? = some (b, .inr (4, fs))) (hR : rm.frames + 1 ≤ R.frames ∧ 8 + (2 + 11) + rm.locals ≤ R.locals) (hroom : cl + rm.cells ≤ R.cells ∧ sl + rm.slots ≤ R.slots) (hst : st0 = As.reverse ++ .ref b :: st) (hn : As.length = 0) (hW : (st.map fun v => v.category).sum ≤ 8) (kk : ∀ (r : Int32) (u : va_W), post r u → AT p l e R s m args below meth c g nL Q (cl + rm.cells) (sl + rm.slots) (pc + 3) lv (.int r :: st) u) : AT p l e R s m args below meth c g nL Q cl sl pc lv st0 ws := q_Vi (C := RX3) (ci := 4) cx (gi_V tb_379 tb_381 ts_13 tb_1 tb_382) ⟨rfl, by decide +kernel, by decide +kernel, by decide +kernel⟩ rfl rfl hM hd q0 he hR hroom hst hn hW kk
theorem k_X3_91 (cx : q_cx g p m c cc nL s args RX3 meth) {post : va_W → Prop} (hM : MetW l g yX0_init cX0_init 8 none rm (.ref b :: As) ws (q_Qv g post)) (hd : decode cc pc = .ok (.invokespecial 91, 3)) (hR : rm.frames + 1 ≤ R.frames ∧ 8 + (8 + 11) + rm.locals ≤ R.locals) (hroom : cl + rm.cells ≤ R.cells ∧ sl + rm.slots ≤ R.slots) (hst : st0 = As.reverse ++ .ref b :: st) (hn : As.length = 6) (hW : (st.map fun v => v.category).sum ≤ 8) (kk : ∀ (u : va_W), post  u → AT p l e R s m args below meth c g nL Q (cl + rm.cells) (sl + rm.slots) (pc + 3) lv (st) u) : AT p l e R s m args below meth c g nL Q cl sl pc lv st0 ws := q_IN cx tn_383 tb_384 tb_13 tb_385 rfl ⟨by decide +kernel, by decide +kernel, by decide +kernel⟩ hM hd hR hroom hst hn hW kk
theorem k_X3_94 (cx : q_cx g p m c cc nL s args RX3 meth) {post : Int32 → va_W → Prop} (hM : MetW l g yJx4a65c_add_9ea2d cJx4a65c_add_9ea2d 2 (some .boolean) rm (.ref b :: As) ws (q_Qi g post)) (hd : decode cc pc = .ok (.invokevirtual 94, 3)) (q0 : Nat) {fs : List Value} (he : ws[q0]? = some (b, .inr (0, fs))) (hR : rm.frames + 1 ≤ R.frames ∧ 8 + (2 + 11) + rm.locals ≤ R.locals) (hroom : cl + rm.cells ≤ R.cells ∧ sl + rm.slots ≤ R.slots) (hst : st0 = As.reverse ++ .ref b :: st) (hn : As.length = 1) (hW : (st.map fun v => v.category).sum ≤ 8) (kk : ∀ (r : Int32) (u : va_W), post r u → AT p l e R s m args below meth c g nL Q (cl + rm.cells) (sl + rm.slots) (pc + 3) lv (.int r :: st) u) : AT p l e R s m args below meth c g nL Q cl sl pc lv st0 ws := q_Vi (C := RJx4a65c) (ci := 0) cx (gi_V tb_413 tb_414 tb_415 tb_4 tb_416) ⟨rfl, by decide +kernel, by decide +kernel, by decide +kernel⟩ rfl rfl hM hd q0 he hR hroom hst hn hW kk
theorem gf_X3_40 (cx : q_cx g p m c cc nL s args RX3 meth) (hd : decode cc pc = .ok (.getfield 40, 3)) (q0 : Nat) {a : Nat} {fs : List Value} {v : Value} (he : ws[q0]? = some (a, .inr (4, fs))) (hv : fs[7]? = some v) (kk : AT p l e R s m args below meth c g nL Q cl sl (pc + 3) lv (v :: st) ws) : AT p l e R s m args below meth c g nL Q cl sl pc lv (.ref a :: st) ws := fun H locs ls hP hD hS hl => va_get (C := RX3) (T := TX3) (N := 10) cx.1.1 cx.1.2.1 cx.1.2.2.2.2 iw_X3 cx.1.2.2.2.1 cx.2.1.2.1 hP q0 he rfl 7 (by decide) (cx.ok tb_77) (fun _ h9 => h9) hv hd (kk H locs ls hP hD hS hl)
theorem gf_X3_26 (cx : q_cx g p m c cc nL s args RX3 meth) (hd : decode cc pc = .ok (.getfield 26, 3)) (q0 : Nat) {a : Nat} {fs : List Value} {v : Value} (he : ws[q0]? = some (a, .inr (4, fs))) (hv : fs[4]? = some v) (kk : AT p l e R s m args below meth c g nL Q cl sl (pc + 3) lv (v :: st) ws) : AT p l e R s m args below meth c g nL Q cl sl pc lv (.ref a :: st) ws := fun H locs ls hP hD hS hl => va_get (C := RX3) (T := TX3) (N := 10) cx.1.1 cx.1.2.1 cx.1.2.2.2.2 iw_X3 cx.1.2.2.2.1 cx.2.1.2.1 hP q0 he rfl 4 (by decide) (cx.ok tb_74) (fun _ h9 => h9) hv hd (kk H locs ls hP hD hS hl)
theorem k_X3_98 (cx : q_cx g p m c cc nL s args RX3 meth) {post : Int32 → va_W → Prop} (hM : MetW l g yX3_drawLines cX3_drawLines 6 (some .int) rm (.ref b :: As) ws (q_Qi g post)) (hd : decode cc pc = .ok (.invokevirtual 98, 3)) (q0 : Nat) {fs : List Value} (he : ws[q0]? = some (b, .inr (4, fs))) (hR : rm.frames + 1 ≤ R.frames ∧ 8 + (6 + 11) + rm.locals ≤ R.locals) (hroom : cl + rm.cells ≤ R.cells ∧ sl + rm.slots ≤ R.slots) (hst : st0 = As.reverse ++ .ref b :: st) (hn : As.length = 1) (hW : (st.map fun v => v.category).sum ≤ 8) (kk : ∀ (r : Int32) (u : va_W), post r u → AT p l e R s m args below meth c g nL Q (cl + rm.cells) (sl + rm.slots) (pc + 3) lv (.int r :: st) u) : AT p l e R s m args below meth c g nL Q cl sl pc lv st0 ws := q_Vi (C := RX3) (ci := 4) cx (gi_V tb_242 tb_244 ts_5 tb_1 tb_245) ⟨rfl, by decide +kernel, by decide +kernel, by decide +kernel⟩ rfl rfl hM hd q0 he hR hroom hst hn hW kk
theorem k_X3_108 (cx : q_cx g p m c cc nL s args RX3 meth) {post : Option Nat → va_W → Prop} (hM : MetW l g yJx4a65c_get_915e3 cJx4a65c_get_915e3 2 (some (.object "java/lang/Object")) rm (.ref b :: As) ws (q_Qq g post)) (hd : decode cc pc = .ok (.invokevirtual 108, 3)) (q0 : Nat) {fs : List Value} (he : ws[q0]? = some (b, .inr (0, fs))) (hR : rm.frames + 1 ≤ R.frames ∧ 8 + (2 + 11) + rm.locals ≤ R.locals) (hroom : cl + rm.cells ≤ R.cells ∧ sl + rm.slots ≤ R.slots) (hst : st0 = As.reverse ++ .ref b :: st) (hn : As.length = 1) (hW : (st.map fun v => v.category).sum ≤ 8) (kk : ∀ (r : Option Nat) (u : va_W), post r u → AT p l e R s m args below meth c g nL Q (cl + rm.cells) (sl + rm.slots) (pc + 3) lv (va_rf r :: st) u) : AT p l e R s m args below meth c g nL Q cl sl pc lv st0 ws := q_Vq (C := RJx4a65c) (ci := 0) cx (gi_V tb_205 tb_206 tb_207 tb_4 tb_208) ⟨rfl, by decide +kernel, by decide +kernel, by decide +kernel⟩ rfl rfl hM hd q0 he hR hroom hst hn hW kk
theorem k_X3_112 (cx : q_cx g p m c cc nL s args RX3 meth) {post : Int32 → va_W → Prop} (hM : MetW l g yX3_formIfThere cX3_formIfThere 2 (some .int) rm (.ref b :: As) ws (q_Qi g post)) (hd : decode cc pc = .ok (.invokevirtual 112, 3)) (q0 : Nat) {fs : List Value} (he : ws[q0]? = some (b, .inr (4, fs))) (hR : rm.frames + 1 ≤ R.frames ∧ 8 + (2 + 11) + rm.locals ≤ R.locals) (hroom : cl + rm.cells ≤ R.cells ∧ sl + rm.slots ≤ R.slots) (hst : st0 = As.reverse ++ .ref b :: st) (hn : As.length = 1) (hW : (st.map fun v => v.category).sum ≤ 8) (kk : ∀ (r : Int32) (u : va_W), post r u → AT p l e R s m args below meth c g nL Q (cl + rm.cells) (sl + rm.slots) (pc + 3) lv (.int r :: st) u) : AT p l e R s m args below meth c g nL Q cl sl pc lv st0 ws := q_Vi (C := RX3) (ci := 4) cx (gi_V tb_251 tb_253 ts_6 tb_1 tb_254) ⟨rfl, by decide +kernel, by decide +kernel, by decide +kernel⟩ rfl rfl hM hd q0 he hR hroom hst hn hW kk
theorem k_X3_118 (cx : q_cx g p m c cc nL s args RX3 meth) {post : Int32 → va_W → Prop} (hM : MetW l g yX3_canStandBehind cX3_canStandBehind 1 (some .boolean) rm As ws (q_Qi g post)) (hd : decode cc pc = .ok (.invokestatic 118, 3)) (hR : rm.frames + 1 ≤ R.frames ∧ 8 + (1 + 11) + rm.locals ≤ R.locals) (hroom : cl + rm.cells ≤ R.cells ∧ sl + rm.slots ≤ R.slots) (hst : st0 = As.reverse ++ st) (hn : As.length = 1) (hW : (st.map fun v => v.category).sum ≤ 8) (kk : ∀ (r : Int32) (u : va_W), post r u → AT p l e R s m args below meth c g nL Q (cl + rm.cells) (sl + rm.slots) (pc + 3) lv (.int r :: st) u) : AT p l e R s m args below meth c g nL Q cl sl pc lv st0 ws := q_Si cx (gi_S tb_494 tb_495 tb_1 tb_496) ⟨by decide +kernel, by decide +kernel, by decide +kernel⟩ hM hd hR hroom hst hn hW kk
theorem gf_X3_16 (cx : q_cx g p m c cc nL s args RX3 meth) (hd : decode cc pc = .ok (.getfield 16, 3)) (q0 : Nat) {a : Nat} {fs : List Value} {v : Value} (he : ws[q0]? = some (a, .inr (4, fs))) (hv : fs[1]? = some v) (kk : AT p l e R s m args below meth c g nL Q cl sl (pc + 3) lv (v :: st) ws) : AT p l e R s m args below meth c g nL Q cl sl pc lv (.ref a :: st) ws := fun H locs ls hP hD hS hl => va_get (C := RX3) (T := TX3) (N := 10) cx.1.1 cx.1.2.1 cx.1.2.2.2.2 iw_X3 cx.1.2.2.2.1 cx.2.1.2.1 hP q0 he rfl 1 (by decide) (cx.ok tb_71) (fun _ h9 => h9) hv hd (kk H locs ls hP hD hS hl)
theorem nw_X3_128 (cx : q_cx g p m c cc nL s args RX3 meth) (hd : decode cc pc = .ok (.new 128, 3)) (hcells : cl + 1 ≤ R.cells) (hslots : sl + 8 ≤ R.slots) (kk : ∀ (q : Nat), AT p l e R s m args below meth c g nL Q (cl + 1) (sl + 8) (pc + 3) lv (.ref q :: st) (ws ++ [(q, .inr (2, [.int 0, .int 0, .int 0, .int 0, .int 0, .int 0, .long 0, .int 0]))])) : AT p l e R s m args below meth c g nL Q cl sl pc lv st ws := q_new (C := RX1) (T := TX1) (N := 8) cx iw_X1 tyX1 tyX1_ok tb_263 tb_267 tb_20 rfl (fun j hj => by rcases (show j = 0 ∨ j = 1 ∨ j = 2 ∨ j = 3 ∨ j = 4 ∨ j = 5 ∨ j = 6 ∨ j = 7 by omega) with rfl | rfl | rfl | rfl | rfl | rfl | rfl | rfl <;> rfl) hd hcells hslots kk
theorem k_X3_130 (cx : q_cx g p m c cc nL s args RX3 meth) {post : va_W → Prop} (hM : MetW l g yX1_init cX1_init 7 none rm (.ref b :: As) ws (q_Qv g post)) (hd : decode cc pc = .ok (.invokespecial 130, 3)) (hR : rm.frames + 1 ≤ R.frames ∧ 8 + (7 + 11) + rm.locals ≤ R.locals) (hroom : cl + rm.cells ≤ R.cells ∧ sl + rm.slots ≤ R.slots) (hst : st0 = As.reverse ++ .ref b :: st) (hn : As.length = 6) (hW : (st.map fun v => v.category).sum ≤ 8) (kk : ∀ (u : va_W), post  u → AT p l e R s m args below meth c g nL Q (cl + rm.cells) (sl + rm.slots) (pc + 3) lv (st) u) : AT p l e R s m args below meth c g nL Q cl sl pc lv st0 ws := q_IN cx tn_500 tb_501 tb_20 tb_502 rfl ⟨by decide +kernel, by decide +kernel, by decide +kernel⟩ hM hd hR hroom hst hn hW kk
theorem gf_X3_135 (cx : q_cx g p m c cc nL s args RX3 meth) (hd : decode cc pc = .ok (.getfield 135, 3)) (q0 : Nat) {a : Nat} {fs : List Value} {v : Value} (he : ws[q0]? = some (a, .inr (2, fs))) (hv : fs[7]? = some v) (kk : AT p l e R s m args below meth c g nL Q cl sl (pc + 3) lv (v :: st) ws) : AT p l e R s m args below meth c g nL Q cl sl pc lv (.ref a :: st) ws := fun H locs ls hP hD hS hl => va_getN (C := RX1) (T := TX1) (N := 8) cx.1.1 cx.1.2.1 cx.1.2.2.2.2 iw_X1 cx.1.2.2.2.1 cx.2.1.2.1 hP q0 he rfl 7 (by decide) (cx.nok tn_513) (fun _ h9 => h9) hv hd (kk H locs ls hP hD hS hl)
theorem k_X3_139 (cx : q_cx g p m c cc nL s args RX3 meth) {post : Int32 → va_W → Prop} (hM : MetW l g yX3_isThere cX3_isThere 2 (some .boolean) rm (.ref b :: As) ws (q_Qi g post)) (hd : decode cc pc = .ok (.invokevirtual 139, 3)) (q0 : Nat) {fs : List Value} (he : ws[q0]? = some (b, .inr (4, fs))) (hR : rm.frames + 1 ≤ R.frames ∧ 8 + (2 + 11) + rm.locals ≤ R.locals) (hroom : cl + rm.cells ≤ R.cells ∧ sl + rm.slots ≤ R.slots) (hst : st0 = As.reverse ++ .ref b :: st) (hn : As.length = 1) (hW : (st.map fun v => v.category).sum ≤ 8) (kk : ∀ (r : Int32) (u : va_W), post r u → AT p l e R s m args below meth c g nL Q (cl + rm.cells) (sl + rm.slots) (pc + 3) lv (.int r :: st) u) : AT p l e R s m args below meth c g nL Q cl sl pc lv st0 ws := q_Vi (C := RX3) (ci := 4) cx (gi_V tb_220 tb_222 ts_2 tb_1 tb_223) ⟨rfl, by decide +kernel, by decide +kernel, by decide +kernel⟩ rfl rfl hM hd q0 he hR hroom hst hn hW kk
theorem k_X3_143 (cx : q_cx g p m c cc nL s args RX3 meth) {post : Int32 → va_W → Prop} (hM : MetW l g yX1_restsOn cX1_restsOn 2 (some .boolean) rm (.ref b :: As) ws (q_Qi g post)) (hd : decode cc pc = .ok (.invokevirtual 143, 3)) (q0 : Nat) {fs : List Value} (he : ws[q0]? = some (b, .inr (2, fs))) (hR : rm.frames + 1 ≤ R.frames ∧ 8 + (2 + 11) + rm.locals ≤ R.locals) (hroom : cl + rm.cells ≤ R.cells ∧ sl + rm.slots ≤ R.slots) (hst : st0 = As.reverse ++ .ref b :: st) (hn : As.length = 1) (hW : (st.map fun v => v.category).sum ≤ 8) (kk : ∀ (r : Int32) (u : va_W), post r u → AT p l e R s m args below meth c g nL Q (cl + rm.cells) (sl + rm.slots) (pc + 3) lv (.int r :: st) u) : AT p l e R s m args below meth c g nL Q cl sl pc lv st0 ws := q_Ni (C := RX1) (ci := 2) cx tn_476 tb_478 ts_17 tb_20 tb_479 ⟨by decide +kernel, by decide +kernel, by decide +kernel⟩ rfl rfl hM hd q0 he hR hroom hst hn hW kk
theorem gf_X3_148 (cx : q_cx g p m c cc nL s args RX3 meth) (hd : decode cc pc = .ok (.getfield 148, 3)) (q0 : Nat) {a : Nat} {fs : List Value} {v : Value} (he : ws[q0]? = some (a, .inr (2, fs))) (hv : fs[6]? = some v) (kk : AT p l e R s m args below meth c g nL Q cl sl (pc + 3) lv (v :: st) ws) : AT p l e R s m args below meth c g nL Q cl sl pc lv (.ref a :: st) ws := fun H locs ls hP hD hS hl => va_getN (C := RX1) (T := TX1) (N := 8) cx.1.1 cx.1.2.1 cx.1.2.2.2.2 iw_X1 cx.1.2.2.2.1 cx.2.1.2.1 hP q0 he rfl 6 (by decide) (cx.nok tn_511) (fun _ h9 => h9) hv hd (kk H locs ls hP hD hS hl)
theorem gf_X3_151 (cx : q_cx g p m c cc nL s args RX3 meth) (hd : decode cc pc = .ok (.getfield 151, 3)) (q0 : Nat) {a : Nat} {fs : List Value} {v : Value} (he : ws[q0]? = some (a, .inr (1, fs))) (hv : fs[0]? = some v) (kk : AT p l e R s m args below meth c g nL Q cl sl (pc + 3) lv (v :: st) ws) : AT p l e R s m args below meth c g nL Q cl sl pc lv (.ref a :: st) ws := fun H locs ls hP hD hS hl => va_getN (C := RX0) (T := TX0) (N := 6) cx.1.1 cx.1.2.1 cx.1.2.2.2.2 iw_X0 cx.1.2.2.2.1 cx.2.1.2.1 hP q0 he rfl 0 (by decide) (cx.nok tn_389) (fun _ h9 => h9) hv hd (kk H locs ls hP hD hS hl)
theorem pf_X3_148 (cx : q_cx g p m c cc nL s args RX3 meth)  (hd : decode cc pc = .ok (.putfield 148, 3)) (q0 : Nat) {a : Nat} {fs : List Value} {x : Int64} (he : ws[q0]? = some (a, .inr (2, fs))) (hl9 : 6 < fs.length) (kk : AT p l e R s m args below meth c g nL Q cl sl (pc + 3) lv st (ws.set q0 (a, .inr (2, fs.set 6 (.long x))))) : AT p l e R s m args below meth c g nL Q cl sl pc lv (.long x :: .ref a :: st) ws := fun H locs ls hP hD hS hl => va_putN (C := RX1) (T := TX1) (N := 8) cx.1.1 cx.1.2.1 cx.1.2.2.2.2 iw_X1 tyX1 tyX1_ok nmX1 cx.1.2.2.2.1 cx.2.1.2.1 hP hD hS q0 he rfl 6 (by decide) (cx.nok tn_511) (fun _ h9 => h9) rfl (tyX1_ok 6 (by decide)) rfl rfl hl9 hd (fun H1 locs1 hP hD hS => kk H1 locs1 ls hP hD hS hl)
theorem k_X3_154 (cx : q_cx g p m c cc nL s args RX3 meth) {post : Int32 → va_W → Prop} (hM : MetW l g yJ13_bitCount_95d88 cJ13_bitCount_95d88 2 (some .int) rm As ws (q_Qi g post)) (hd : decode cc pc = .ok (.invokestatic 154, 3)) (hR : rm.frames + 1 ≤ R.frames ∧ 8 + (2 + 11) + rm.locals ≤ R.locals) (hroom : cl + rm.cells ≤ R.cells ∧ sl + rm.slots ≤ R.slots) (hst : st0 = As.reverse ++ st) (hn : As.length = 1) (hW : (st.map fun v => v.category).sum ≤ 8) (kk : ∀ (r : Int32) (u : va_W), post r u → AT p l e R s m args below meth c g nL Q (cl + rm.cells) (sl + rm.slots) (pc + 3) lv (.int r :: st) u) : AT p l e R s m args below meth c g nL Q cl sl pc lv st0 ws := q_Si cx (gi_S tb_316 tb_317 tb_19 tb_318) ⟨by decide +kernel, by decide +kernel, by decide +kernel⟩ hM hd hR hroom hst hn hW kk
theorem k_X3_164 (cx : q_cx g p m c cc nL s args RX3 meth) {post : Int32 → va_W → Prop} (hM : MetW l g yX3_applyRules cX3_applyRules 7 (some .int) rm (.ref b :: As) ws (q_Qi g post)) (hd : decode cc pc = .ok (.invokevirtual 164, 3)) (q0 : Nat) {fs : List Value} (he : ws[q0]? = some (b, .inr (4, fs))) (hR : rm.frames + 1 ≤ R.frames ∧ 8 + (7 + 11) + rm.locals ≤ R.locals) (hroom : cl + rm.cells ≤ R.cells ∧ sl + rm.slots ≤ R.slots) (hst : st0 = As.reverse ++ .ref b :: st) (hn : As.length = 3) (hW : (st.map fun v => v.category).sum ≤ 8) (kk : ∀ (r : Int32) (u : va_W), post r u → AT p l e R s m args below meth c g nL Q (cl + rm.cells) (sl + rm.slots) (pc + 3) lv (.int r :: st) u) : AT p l e R s m args below meth c g nL Q cl sl pc lv st0 ws := q_Vi (C := RX3) (ci := 4) cx (gi_V tb_259 tb_261 ts_7 tb_1 tb_262) ⟨rfl, by decide +kernel, by decide +kernel, by decide +kernel⟩ rfl rfl hM hd q0 he hR hroom hst hn hW kk
theorem gf_X3_168 (cx : q_cx g p m c cc nL s args RX3 meth) (hd : decode cc pc = .ok (.getfield 168, 3)) (q0 : Nat) {a : Nat} {fs : List Value} {v : Value} (he : ws[q0]? = some (a, .inr (1, fs))) (hv : fs[4]? = some v) (kk : AT p l e R s m args below meth c g nL Q cl sl (pc + 3) lv (v :: st) ws) : AT p l e R s m args below meth c g nL Q cl sl pc lv (.ref a :: st) ws := fun H locs ls hP hD hS hl => va_getN (C := RX0) (T := TX0) (N := 6) cx.1.1 cx.1.2.1 cx.1.2.2.2.2 iw_X0 cx.1.2.2.2.1 cx.2.1.2.1 hP q0 he rfl 4 (by decide) (cx.nok tn_397) (fun _ h9 => h9) hv hd (kk H locs ls hP hD hS hl)
theorem gf_X3_36 (cx : q_cx g p m c cc nL s args RX3 meth) (hd : decode cc pc = .ok (.getfield 36, 3)) (q0 : Nat) {a : Nat} {fs : List Value} {v : Value} (he : ws[q0]? = some (a, .inr (4, fs))) (hv : fs[6]? = some v) (kk : AT p l e R s m args below meth c g nL Q cl sl (pc + 3) lv (v :: st) ws) : AT p l e R s m args below meth c g nL Q cl sl pc lv (.ref a :: st) ws := fun H locs ls hP hD hS hl => va_get (C := RX3) (T := TX3) (N := 10) cx.1.1 cx.1.2.1 cx.1.2.2.2.2 iw_X3 cx.1.2.2.2.1 cx.2.1.2.1 hP q0 he rfl 6 (by decide) (cx.ok tb_76) (fun _ h9 => h9) hv hd (kk H locs ls hP hD hS hl)
theorem gf_X3_171 (cx : q_cx g p m c cc nL s args RX3 meth) (hd : decode cc pc = .ok (.getfield 171, 3)) (q0 : Nat) {a : Nat} {fs : List Value} {v : Value} (he : ws[q0]? = some (a, .inr (1, fs))) (hv : fs[5]? = some v) (kk : AT p l e R s m args below meth c g nL Q cl sl (pc + 3) lv (v :: st) ws) : AT p l e R s m args below meth c g nL Q cl sl pc lv (.ref a :: st) ws := fun H locs ls hP hD hS hl => va_getN (C := RX0) (T := TX0) (N := 6) cx.1.1 cx.1.2.1 cx.1.2.2.2.2 iw_X0 cx.1.2.2.2.1 cx.2.1.2.1 hP q0 he rfl 5 (by decide) (cx.nok tn_399) (fun _ h9 => h9) hv hd (kk H locs ls hP hD hS hl)
theorem gf_X3_174 (cx : q_cx g p m c cc nL s args RX3 meth) (hd : decode cc pc = .ok (.getfield 174, 3)) (q0 : Nat) {a : Nat} {fs : List Value} {v : Value} (he : ws[q0]? = some (a, .inr (1, fs))) (hv : fs[2]? = some v) (kk : AT p l e R s m args below meth c g nL Q cl sl (pc + 3) lv (v :: st) ws) : AT p l e R s m args below meth c g nL Q cl sl pc lv (.ref a :: st) ws := fun H locs ls hP hD hS hl => va_getN (C := RX0) (T := TX0) (N := 6) cx.1.1 cx.1.2.1 cx.1.2.2.2.2 iw_X0 cx.1.2.2.2.1 cx.2.1.2.1 hP q0 he rfl 2 (by decide) (cx.nok tn_393) (fun _ h9 => h9) hv hd (kk H locs ls hP hD hS hl)
theorem gf_X3_177 (cx : q_cx g p m c cc nL s args RX3 meth) (hd : decode cc pc = .ok (.getfield 177, 3)) (q0 : Nat) {a : Nat} {fs : List Value} {v : Value} (he : ws[q0]? = some (a, .inr (1, fs))) (hv : fs[3]? = some v) (kk : AT p l e R s m args below meth c g nL Q cl sl (pc + 3) lv (v :: st) ws) : AT p l e R s m args below meth c g nL Q cl sl pc lv (.ref a :: st) ws := fun H locs ls hP hD hS hl => va_getN (C := RX0) (T := TX0) (N := 6) cx.1.1 cx.1.2.1 cx.1.2.2.2.2 iw_X0 cx.1.2.2.2.1 cx.2.1.2.1 hP q0 he rfl 3 (by decide) (cx.nok tn_395) (fun _ h9 => h9) hv hd (kk H locs ls hP hD hS hl)
theorem k_X3_180 (cx : q_cx g p m c cc nL s args RX3 meth) {post : Int32 → va_W → Prop} (hM : MetW l g yX2_countSteps cX2_countSteps 6 (some .int) rm (.ref b :: As) ws (q_Qi g post)) (hd : decode cc pc = .ok (.invokevirtual 180, 3)) (q0 : Nat) {fs : List Value} (he : ws[q0]? = some (b, .inr (3, fs))) (hR : rm.frames + 1 ≤ R.frames ∧ 8 + (6 + 11) + rm.locals ≤ R.locals) (hroom : cl + rm.cells ≤ R.cells ∧ sl + rm.slots ≤ R.slots) (hst : st0 = As.reverse ++ .ref b :: st) (hn : As.length = 2) (hW : (st.map fun v => v.category).sum ≤ 8) (kk : ∀ (r : Int32) (u : va_W), post r u → AT p l e R s m args below meth c g nL Q (cl + rm.cells) (sl + rm.slots) (pc + 3) lv (.int r :: st) u) : AT p l e R s m args below meth c g nL Q cl sl pc lv st0 ws := q_Ni (C := RX2) (ci := 3) cx tn_277 tb_279 ts_11 tb_5 tb_280 ⟨by decide +kernel, by decide +kernel, by decide +kernel⟩ rfl rfl hM hd q0 he hR hroom hst hn hW kk
theorem k_X3_184 (cx : q_cx g p m c cc nL s args RX3 meth) {post : Int32 → va_W → Prop} (hM : MetW l g yX3_mostToldForm cX3_mostToldForm 8 (some .int) rm (.ref b :: As) ws (q_Qi g post)) (hd : decode cc pc = .ok (.invokevirtual 184, 3)) (q0 : Nat) {fs : List Value} (he : ws[q0]? = some (b, .inr (4, fs))) (hR : rm.frames + 1 ≤ R.frames ∧ 8 + (8 + 11) + rm.locals ≤ R.locals) (hroom : cl + rm.cells ≤ R.cells ∧ sl + rm.slots ≤ R.slots) (hst : st0 = As.reverse ++ .ref b :: st) (hn : As.length = 2) (hW : (st.map fun v => v.category).sum ≤ 8) (kk : ∀ (r : Int32) (u : va_W), post r u → AT p l e R s m args below meth c g nL Q (cl + rm.cells) (sl + rm.slots) (pc + 3) lv (.int r :: st) u) : AT p l e R s m args below meth c g nL Q cl sl pc lv st0 ws := q_Vi (C := RX3) (ci := 4) cx (gi_V tb_197 tb_199 ts_1 tb_1 tb_200) ⟨rfl, by decide +kernel, by decide +kernel, by decide +kernel⟩ rfl rfl hM hd q0 he hR hroom hst hn hW kk
theorem k_X3_189 (cx : q_cx g p m c cc nL s args RX3 meth) {post : Int64 → va_W → Prop} (hM : MetW l g yX3_interviewsOf cX3_interviewsOf 6 (some .long) rm (.ref b :: As) ws (q_Ql g post)) (hd : decode cc pc = .ok (.invokevirtual 189, 3)) (q0 : Nat) {fs : List Value} (he : ws[q0]? = some (b, .inr (4, fs))) (hR : rm.frames + 1 ≤ R.frames ∧ 8 + (6 + 11) + rm.locals ≤ R.locals) (hroom : cl + rm.cells ≤ R.cells ∧ sl + rm.slots ≤ R.slots) (hst : st0 = As.reverse ++ .ref b :: st) (hn : As.length = 1) (hW : (st.map fun v => v.category).sum ≤ 8) (kk : ∀ (r : Int64) (u : va_W), post r u → AT p l e R s m args below meth c g nL Q (cl + rm.cells) (sl + rm.slots) (pc + 3) lv (.long r :: st) u) : AT p l e R s m args below meth c g nL Q cl sl pc lv st0 ws := q_Vl (C := RX3) (ci := 4) cx (gi_V tb_536 tb_538 ts_18 tb_1 tb_539) ⟨rfl, by decide +kernel, by decide +kernel, by decide +kernel⟩ rfl rfl hM hd q0 he hR hroom hst hn hW kk
theorem k_X3_195 (cx : q_cx g p m c cc nL s args RX3 meth) {post : va_W → Prop} (hM : MetW l g yX1_restNoMoreOn cX1_restNoMoreOn 3 none rm (.ref b :: As) ws (q_Qv g post)) (hd : decode cc pc = .ok (.invokevirtual 195, 3)) (q0 : Nat) {fs : List Value} (he : ws[q0]? = some (b, .inr (2, fs))) (hR : rm.frames + 1 ≤ R.frames ∧ 8 + (3 + 11) + rm.locals ≤ R.locals) (hroom : cl + rm.cells ≤ R.cells ∧ sl + rm.slots ≤ R.slots) (hst : st0 = As.reverse ++ .ref b :: st) (hn : As.length = 1) (hW : (st.map fun v => v.category).sum ≤ 8) (kk : ∀ (u : va_W), post  u → AT p l e R s m args below meth c g nL Q (cl + rm.cells) (sl + rm.slots) (pc + 3) lv (st) u) : AT p l e R s m args below meth c g nL Q cl sl pc lv st0 ws := q_Nv (C := RX1) (ci := 2) cx tn_540 tb_542 ts_19 tb_20 tb_543 ⟨by decide +kernel, by decide +kernel, by decide +kernel⟩ rfl rfl hM hd q0 he hR hroom hst hn hW kk
theorem gf_X3_29 (cx : q_cx g p m c cc nL s args RX3 meth) (hd : decode cc pc = .ok (.getfield 29, 3)) (q0 : Nat) {a : Nat} {fs : List Value} {v : Value} (he : ws[q0]? = some (a, .inr (4, fs))) (hv : fs[5]? = some v) (kk : AT p l e R s m args below meth c g nL Q cl sl (pc + 3) lv (v :: st) ws) : AT p l e R s m args below meth c g nL Q cl sl pc lv (.ref a :: st) ws := fun H locs ls hP hD hS hl => va_get (C := RX3) (T := TX3) (N := 10) cx.1.1 cx.1.2.1 cx.1.2.2.2.2 iw_X3 cx.1.2.2.2.1 cx.2.1.2.1 hP q0 he rfl 5 (by decide) (cx.ok tb_75) (fun _ h9 => h9) hv hd (kk H locs ls hP hD hS hl)
theorem gf_X3_19 (cx : q_cx g p m c cc nL s args RX3 meth) (hd : decode cc pc = .ok (.getfield 19, 3)) (q0 : Nat) {a : Nat} {fs : List Value} {v : Value} (he : ws[q0]? = some (a, .inr (4, fs))) (hv : fs[2]? = some v) (kk : AT p l e R s m args below meth c g nL Q cl sl (pc + 3) lv (v :: st) ws) : AT p l e R s m args below meth c g nL Q cl sl pc lv (.ref a :: st) ws := fun H locs ls hP hD hS hl => va_get (C := RX3) (T := TX3) (N := 10) cx.1.1 cx.1.2.1 cx.1.2.2.2.2 iw_X3 cx.1.2.2.2.1 cx.2.1.2.1 hP q0 he rfl 2 (by decide) (cx.ok tb_72) (fun _ h9 => h9) hv hd (kk H locs ls hP hD hS hl)
theorem gf_X3_205 (cx : q_cx g p m c cc nL s args RX3 meth) (hd : decode cc pc = .ok (.getfield 205, 3)) (q0 : Nat) {a : Nat} {fs : List Value} {v : Value} (he : ws[q0]? = some (a, .inr (1, fs))) (hv : fs[1]? = some v) (kk : AT p l e R s m args below meth c g nL Q cl sl (pc + 3) lv (v :: st) ws) : AT p l e R s m args below meth c g nL Q cl sl pc lv (.ref a :: st) ws := fun H locs ls hP hD hS hl => va_getN (C := RX0) (T := TX0) (N := 6) cx.1.1 cx.1.2.1 cx.1.2.2.2.2 iw_X0 cx.1.2.2.2.1 cx.2.1.2.1 hP q0 he rfl 1 (by decide) (cx.nok tn_391) (fun _ h9 => h9) hv hd (kk H locs ls hP hD hS hl)
theorem k_X3_208 (cx : q_cx g p m c cc nL s args RX3 meth) {post : Int32 → va_W → Prop} (hM : MetW l g yX1_goesAt cX1_goesAt 3 (some .boolean) rm (.ref b :: As) ws (q_Qi g post)) (hd : decode cc pc = .ok (.invokevirtual 208, 3)) (q0 : Nat) {fs : List Value} (he : ws[q0]? = some (b, .inr (2, fs))) (hR : rm.frames + 1 ≤ R.frames ∧ 8 + (3 + 11) + rm.locals ≤ R.locals) (hroom : cl + rm.cells ≤ R.cells ∧ sl + rm.slots ≤ R.slots) (hst : st0 = As.reverse ++ .ref b :: st) (hn : As.length = 2) (hW : (st.map fun v => v.category).sum ≤ 8) (kk : ∀ (r : Int32) (u : va_W), post r u → AT p l e R s m args below meth c g nL Q (cl + rm.cells) (sl + rm.slots) (pc + 3) lv (.int r :: st) u) : AT p l e R s m args below meth c g nL Q cl sl pc lv st0 ws := q_Ni (C := RX1) (ci := 2) cx tn_264 tb_266 ts_8 tb_20 tb_268 ⟨by decide +kernel, by decide +kernel, by decide +kernel⟩ rfl rfl hM hd q0 he hR hroom hst hn hW kk
theorem k_X3_211 (cx : q_cx g p m c cc nL s args RX3 meth) {post : Int32 → va_W → Prop} (hM : MetW l g yX1_applyTo cX1_applyTo 9 (some .int) rm (.ref b :: As) ws (q_Qi g post)) (hd : decode cc pc = .ok (.invokevirtual 211, 3)) (q0 : Nat) {fs : List Value} (he : ws[q0]? = some (b, .inr (2, fs))) (hR : rm.frames + 1 ≤ R.frames ∧ 8 + (9 + 11) + rm.locals ≤ R.locals) (hroom : cl + rm.cells ≤ R.cells ∧ sl + rm.slots ≤ R.slots) (hst : st0 = As.reverse ++ .ref b :: st) (hn : As.length = 1) (hW : (st.map fun v => v.category).sum ≤ 8) (kk : ∀ (r : Int32) (u : va_W), post r u → AT p l e R s m args below meth c g nL Q (cl + rm.cells) (sl + rm.slots) (pc + 3) lv (.int r :: st) u) : AT p l e R s m args below meth c g nL Q cl sl pc lv st0 ws := q_Ni (C := RX1) (ci := 2) cx tn_269 tb_271 ts_9 tb_20 tb_272 ⟨by decide +kernel, by decide +kernel, by decide +kernel⟩ rfl rfl hM hd q0 he hR hroom hst hn hW kk
theorem k_X3_214 (cx : q_cx g p m c cc nL s args RX3 meth) {post : Int32 → va_W → Prop} (hM : MetW l g yX0_isFor cX0_isFor 3 (some .boolean) rm (.ref b :: As) ws (q_Qi g post)) (hd : decode cc pc = .ok (.invokevirtual 214, 3)) (q0 : Nat) {fs : List Value} (he : ws[q0]? = some (b, .inr (1, fs))) (hR : rm.frames + 1 ≤ R.frames ∧ 8 + (3 + 11) + rm.locals ≤ R.locals) (hroom : cl + rm.cells ≤ R.cells ∧ sl + rm.slots ≤ R.slots) (hst : st0 = As.reverse ++ .ref b :: st) (hn : As.length = 2) (hW : (st.map fun v => v.category).sum ≤ 8) (kk : ∀ (r : Int32) (u : va_W), post r u → AT p l e R s m args below meth c g nL Q (cl + rm.cells) (sl + rm.slots) (pc + 3) lv (.int r :: st) u) : AT p l e R s m args below meth c g nL Q cl sl pc lv st0 ws := q_Ni (C := RX0) (ci := 1) cx tn_224 tb_226 ts_3 tb_13 tb_228 ⟨by decide +kernel, by decide +kernel, by decide +kernel⟩ rfl rfl hM hd q0 he hR hroom hst hn hW kk
theorem k_X3_217 (cx : q_cx g p m c cc nL s args RX3 meth) {post : Int32 → va_W → Prop} (hM : MetW l g yX3_countLike cX3_countLike 5 (some .int) rm (.ref b :: As) ws (q_Qi g post)) (hd : decode cc pc = .ok (.invokevirtual 217, 3)) (q0 : Nat) {fs : List Value} (he : ws[q0]? = some (b, .inr (4, fs))) (hR : rm.frames + 1 ≤ R.frames ∧ 8 + (5 + 11) + rm.locals ≤ R.locals) (hroom : cl + rm.cells ≤ R.cells ∧ sl + rm.slots ≤ R.slots) (hst : st0 = As.reverse ++ .ref b :: st) (hn : As.length = 1) (hW : (st.map fun v => v.category).sum ≤ 8) (kk : ∀ (r : Int32) (u : va_W), post r u → AT p l e R s m args below meth c g nL Q (cl + rm.cells) (sl + rm.slots) (pc + 3) lv (.int r :: st) u) : AT p l e R s m args below meth c g nL Q cl sl pc lv st0 ws := q_Vi (C := RX3) (ci := 4) cx (gi_V tb_229 tb_231 ts_4 tb_1 tb_232) ⟨rfl, by decide +kernel, by decide +kernel, by decide +kernel⟩ rfl rfl hM hd q0 he hR hroom hst hn hW kk
theorem k_Jxc12de_1 (cx : q_cx g p m c cc nL s args RJxc12de meth) {post : va_W → Prop} (hM : MetW l g yJxa1e45_init_da8c8 cJxa1e45_init_da8c8 1 none rm (.ref b :: As) ws (q_Qv g post)) (hd : decode cc pc = .ok (.invokespecial 1, 3)) (hR : rm.frames + 1 ≤ R.frames ∧ 8 + (1 + 11) + rm.locals ≤ R.locals) (hroom : cl + rm.cells ≤ R.cells ∧ sl + rm.slots ≤ R.slots) (hst : st0 = As.reverse ++ .ref b :: st) (hn : As.length = 0) (hW : (st.map fun v => v.category).sum ≤ 8) (kk : ∀ (u : va_W), post  u → AT p l e R s m args below meth c g nL Q (cl + rm.cells) (sl + rm.slots) (pc + 3) lv (st) u) : AT p l e R s m args below meth c g nL Q cl sl pc lv st0 ws := q_I cx tb_37 tb_38 tb_2 tb_39 rfl ⟨by decide +kernel, by decide +kernel, by decide +kernel⟩ hM hd hR hroom hst hn hW kk
theorem k_Jx4a65c_1 (cx : q_cx g p m c cc nL s args RJx4a65c meth) {post : va_W → Prop} (hM : MetW l g yJxc12de_init_da8c8 cJxc12de_init_da8c8 1 none rm (.ref b :: As) ws (q_Qv g post)) (hd : decode cc pc = .ok (.invokespecial 1, 3)) (hR : rm.frames + 1 ≤ R.frames ∧ 8 + (1 + 11) + rm.locals ≤ R.locals) (hroom : cl + rm.cells ≤ R.cells ∧ sl + rm.slots ≤ R.slots) (hst : st0 = As.reverse ++ .ref b :: st) (hn : As.length = 0) (hW : (st.map fun v => v.category).sum ≤ 8) (kk : ∀ (u : va_W), post  u → AT p l e R s m args below meth c g nL Q (cl + rm.cells) (sl + rm.slots) (pc + 3) lv (st) u) : AT p l e R s m args below meth c g nL Q cl sl pc lv st0 ws := q_I cx tb_34 tb_35 tb_3 tb_36 rfl ⟨by decide +kernel, by decide +kernel, by decide +kernel⟩ hM hd hR hroom hst hn hW kk
theorem pf_Jx4a65c_9 (cx : q_cx g p m c cc nL s args RJx4a65c meth)  (hd : decode cc pc = .ok (.putfield 9, 3)) (q0 : Nat) {a : Nat} {fs : List Value} {x : Nat} (he : ws[q0]? = some (a, .inr (0, fs))) (hl9 : 1 < fs.length) (kk : AT p l e R s m args below meth c g nL Q cl sl (pc + 3) lv st (ws.set q0 (a, .inr (0, fs.set 1 (.ref x))))) : AT p l e R s m args below meth c g nL Q cl sl pc lv (.ref x :: .ref a :: st) ws := fun H locs ls hP hD hS hl => va_put (C := RJx4a65c) (T := TJx4a65c) (N := 3) cx.1.1 cx.1.2.1 cx.1.2.2.2.2 iw_Jx4a65c tyJx4a65c tyJx4a65c_ok nmJx4a65c cx.1.2.2.2.1 cx.2.1.2.1 hP hD hS q0 he rfl 1 (by decide) (cx.ok tb_43) (fun _ h9 => h9) rfl (tyJx4a65c_ok 1 (by decide)) rfl rfl hl9 hd (fun H1 locs1 hP hD hS => kk H1 locs1 ls hP hD hS hl)
theorem gf_Jx4a65c_9 (cx : q_cx g p m c cc nL s args RJx4a65c meth) (hd : decode cc pc = .ok (.getfield 9, 3)) (q0 : Nat) {a : Nat} {fs : List Value} {v : Value} (he : ws[q0]? = some (a, .inr (0, fs))) (hv : fs[1]? = some v) (kk : AT p l e R s m args below meth c g nL Q cl sl (pc + 3) lv (v :: st) ws) : AT p l e R s m args below meth c g nL Q cl sl pc lv (.ref a :: st) ws := fun H locs ls hP hD hS hl => va_get (C := RJx4a65c) (T := TJx4a65c) (N := 3) cx.1.1 cx.1.2.1 cx.1.2.2.2.2 iw_Jx4a65c cx.1.2.2.2.1 cx.2.1.2.1 hP q0 he rfl 1 (by decide) (cx.ok tb_43) (fun _ h9 => h9) hv hd (kk H locs ls hP hD hS hl)
theorem k_Jx4a65c_73 (cx : q_cx g p m c cc nL s args RJx4a65c meth) {post : Int32 → va_W → Prop} (hM : MetW l g yJ8_newLength_cabcc cJ8_newLength_cabcc 4 (some .int) rm As ws (q_Qi g post)) (hd : decode cc pc = .ok (.invokestatic 73, 3)) (hR : rm.frames + 1 ≤ R.frames ∧ 8 + (4 + 11) + rm.locals ≤ R.locals) (hroom : cl + rm.cells ≤ R.cells ∧ sl + rm.slots ≤ R.slots) (hst : st0 = As.reverse ++ st) (hn : As.length = 3) (hW : (st.map fun v => v.category).sum ≤ 8) (kk : ∀ (r : Int32) (u : va_W), post r u → AT p l e R s m args below meth c g nL Q (cl + rm.cells) (sl + rm.slots) (pc + 3) lv (.int r :: st) u) : AT p l e R s m args below meth c g nL Q cl sl pc lv st0 ws := q_Si cx (gi_S tb_429 tb_430 tb_14 tb_431) ⟨by decide +kernel, by decide +kernel, by decide +kernel⟩ hM hd hR hroom hst hn hW kk
theorem k_Jx4a65c_66 (cx : q_cx g p m c cc nL s args RJx4a65c meth) {post : Option Nat → va_W → Prop} (hM : MetW l g yJ7_copyOf_1904c cJ7_copyOf_1904c 2 (some (.array (.object "java/lang/Object"))) rm As ws (q_Qq g post)) (hd : decode cc pc = .ok (.invokestatic 66, 3)) (hR : rm.frames + 1 ≤ R.frames ∧ 8 + (2 + 11) + rm.locals ≤ R.locals) (hroom : cl + rm.cells ≤ R.cells ∧ sl + rm.slots ≤ R.slots) (hst : st0 = As.reverse ++ st) (hn : As.length = 2) (hW : (st.map fun v => v.category).sum ≤ 8) (kk : ∀ (r : Option Nat) (u : va_W), post r u → AT p l e R s m args below meth c g nL Q (cl + rm.cells) (sl + rm.slots) (pc + 3) lv (va_rf r :: st) u) : AT p l e R s m args below meth c g nL Q cl sl pc lv st0 ws := q_Sq cx (gi_S tb_439 tb_440 tb_6 tb_441) ⟨by decide +kernel, by decide +kernel, by decide +kernel⟩ hM hd hR hroom hst hn hW kk
theorem k_Jx4a65c_79 (cx : q_cx g p m c cc nL s args RJx4a65c meth) {post : Int32 → va_W → Prop} (hM : MetW l g yJ9_max_7cf53 cJ9_max_7cf53 2 (some .int) rm As ws (q_Qi g post)) (hd : decode cc pc = .ok (.invokestatic 79, 3)) (hR : rm.frames + 1 ≤ R.frames ∧ 8 + (2 + 11) + rm.locals ≤ R.locals) (hroom : cl + rm.cells ≤ R.cells ∧ sl + rm.slots ≤ R.slots) (hst : st0 = As.reverse ++ st) (hn : As.length = 2) (hW : (st.map fun v => v.category).sum ≤ 8) (kk : ∀ (r : Int32) (u : va_W), post r u → AT p l e R s m args below meth c g nL Q (cl + rm.cells) (sl + rm.slots) (pc + 3) lv (.int r :: st) u) : AT p l e R s m args below meth c g nL Q cl sl pc lv st0 ws := q_Si cx (gi_S tb_464 tb_433 tb_15 tb_434) ⟨by decide +kernel, by decide +kernel, by decide +kernel⟩ hM hd hR hroom hst hn hW kk
theorem gf_Jx4a65c_48 (cx : q_cx g p m c cc nL s args RJx4a65c meth) (hd : decode cc pc = .ok (.getfield 48, 3)) (q0 : Nat) {a : Nat} {fs : List Value} {v : Value} (he : ws[q0]? = some (a, .inr (0, fs))) (hv : fs[2]? = some v) (kk : AT p l e R s m args below meth c g nL Q cl sl (pc + 3) lv (v :: st) ws) : AT p l e R s m args below meth c g nL Q cl sl pc lv (.ref a :: st) ws := fun H locs ls hP hD hS hl => va_get (C := RJx4a65c) (T := TJx4a65c) (N := 3) cx.1.1 cx.1.2.1 cx.1.2.2.2.2 iw_Jx4a65c cx.1.2.2.2.1 cx.2.1.2.1 hP q0 he rfl 2 (by decide) (cx.ok tb_44) (fun _ h9 => h9) hv hd (kk H locs ls hP hD hS hl)
theorem k_Jx4a65c_69 (cx : q_cx g p m c cc nL s args RJx4a65c meth) {post : Option Nat → va_W → Prop} (hM : MetW l g yJx4a65c_grow_92f84 cJx4a65c_grow_92f84 4 (some (.array (.object "java/lang/Object"))) rm (.ref b :: As) ws (q_Qq g post)) (hd : decode cc pc = .ok (.invokevirtual 69, 3)) (q0 : Nat) {fs : List Value} (he : ws[q0]? = some (b, .inr (0, fs))) (hR : rm.frames + 1 ≤ R.frames ∧ 8 + (4 + 11) + rm.locals ≤ R.locals) (hroom : cl + rm.cells ≤ R.cells ∧ sl + rm.slots ≤ R.slots) (hst : st0 = As.reverse ++ .ref b :: st) (hn : As.length = 1) (hW : (st.map fun v => v.category).sum ≤ 8) (kk : ∀ (r : Option Nat) (u : va_W), post r u → AT p l e R s m args below meth c g nL Q (cl + rm.cells) (sl + rm.slots) (pc + 3) lv (va_rf r :: st) u) : AT p l e R s m args below meth c g nL Q cl sl pc lv st0 ws := q_Vq (C := RJx4a65c) (ci := 0) cx (gi_V tb_425 tb_427 ts_16 tb_4 tb_428) ⟨rfl, by decide +kernel, by decide +kernel, by decide +kernel⟩ rfl rfl hM hd q0 he hR hroom hst hn hW kk
theorem k_Jx4a65c_118 (cx : q_cx g p m c cc nL s args RJx4a65c meth) {post : Int32 → va_W → Prop} (hM : MetW l g yJ15_checkIndex_7cf53 cJ15_checkIndex_7cf53 2 (some .int) rm As ws (q_Qi g post)) (hd : decode cc pc = .ok (.invokestatic 118, 3)) (hR : rm.frames + 1 ≤ R.frames ∧ 8 + (2 + 11) + rm.locals ≤ R.locals) (hroom : cl + rm.cells ≤ R.cells ∧ sl + rm.slots ≤ R.slots) (hst : st0 = As.reverse ++ st) (hn : As.length = 2) (hW : (st.map fun v => v.category).sum ≤ 8) (kk : ∀ (r : Int32) (u : va_W), post r u → AT p l e R s m args below meth c g nL Q (cl + rm.cells) (sl + rm.slots) (pc + 3) lv (.int r :: st) u) : AT p l e R s m args below meth c g nL Q cl sl pc lv st0 ws := q_Si cx (gi_S tb_209 tb_210 tb_17 tb_211) ⟨by decide +kernel, by decide +kernel, by decide +kernel⟩ hM hd hR hroom hst hn hW kk
theorem k_Jx4a65c_123 (cx : q_cx g p m c cc nL s args RJx4a65c meth) {post : Option Nat → va_W → Prop} (hM : MetW l g yJx4a65c_elementData_915e3 cJx4a65c_elementData_915e3 2 (some (.object "java/lang/Object")) rm (.ref b :: As) ws (q_Qq g post)) (hd : decode cc pc = .ok (.invokevirtual 123, 3)) (q0 : Nat) {fs : List Value} (he : ws[q0]? = some (b, .inr (0, fs))) (hR : rm.frames + 1 ≤ R.frames ∧ 8 + (2 + 11) + rm.locals ≤ R.locals) (hroom : cl + rm.cells ≤ R.cells ∧ sl + rm.slots ≤ R.slots) (hst : st0 = As.reverse ++ .ref b :: st) (hn : As.length = 1) (hW : (st.map fun v => v.category).sum ≤ 8) (kk : ∀ (r : Option Nat) (u : va_W), post r u → AT p l e R s m args below meth c g nL Q (cl + rm.cells) (sl + rm.slots) (pc + 3) lv (va_rf r :: st) u) : AT p l e R s m args below meth c g nL Q cl sl pc lv st0 ws := q_Vq (C := RJx4a65c) (ci := 0) cx (gi_V tb_215 tb_216 tb_217 tb_4 tb_218) ⟨rfl, by decide +kernel, by decide +kernel, by decide +kernel⟩ rfl rfl hM hd q0 he hR hroom hst hn hW kk
theorem k_Jx4a65c_129 (cx : q_cx g p m c cc nL s args RJx4a65c meth) {post : Option Nat → va_W → Prop} (hM : MetW l g yJx4a65c_grow_d5877 cJx4a65c_grow_d5877 1 (some (.array (.object "java/lang/Object"))) rm (.ref b :: As) ws (q_Qq g post)) (hd : decode cc pc = .ok (.invokevirtual 129, 3)) (q0 : Nat) {fs : List Value} (he : ws[q0]? = some (b, .inr (0, fs))) (hR : rm.frames + 1 ≤ R.frames ∧ 8 + (1 + 11) + rm.locals ≤ R.locals) (hroom : cl + rm.cells ≤ R.cells ∧ sl + rm.slots ≤ R.slots) (hst : st0 = As.reverse ++ .ref b :: st) (hn : As.length = 0) (hW : (st.map fun v => v.category).sum ≤ 8) (kk : ∀ (r : Option Nat) (u : va_W), post r u → AT p l e R s m args below meth c g nL Q (cl + rm.cells) (sl + rm.slots) (pc + 3) lv (va_rf r :: st) u) : AT p l e R s m args below meth c g nL Q cl sl pc lv st0 ws := q_Vq (C := RJx4a65c) (ci := 0) cx (gi_V tb_421 tb_423 ts_15 tb_4 tb_424) ⟨rfl, by decide +kernel, by decide +kernel, by decide +kernel⟩ rfl rfl hM hd q0 he hR hroom hst hn hW kk
theorem pf_Jx4a65c_48 (cx : q_cx g p m c cc nL s args RJx4a65c meth)  (hd : decode cc pc = .ok (.putfield 48, 3)) (q0 : Nat) {a : Nat} {fs : List Value} {x : Int32} (he : ws[q0]? = some (a, .inr (0, fs))) (hl9 : 2 < fs.length) (kk : AT p l e R s m args below meth c g nL Q cl sl (pc + 3) lv st (ws.set q0 (a, .inr (0, fs.set 2 (.int x))))) : AT p l e R s m args below meth c g nL Q cl sl pc lv (.int x :: .ref a :: st) ws := fun H locs ls hP hD hS hl => va_put (C := RJx4a65c) (T := TJx4a65c) (N := 3) cx.1.1 cx.1.2.1 cx.1.2.2.2.2 iw_Jx4a65c tyJx4a65c tyJx4a65c_ok nmJx4a65c cx.1.2.2.2.1 cx.2.1.2.1 hP hD hS q0 he rfl 2 (by decide) (cx.ok tb_44) (fun _ h9 => h9) rfl (tyJx4a65c_ok 2 (by decide)) rfl rfl hl9 hd (fun H1 locs1 hP hD hS => kk H1 locs1 ls hP hD hS hl)
theorem gf_Jx4a65c_63 (cx : q_cx g p m c cc nL s args RJx4a65c meth) (hd : decode cc pc = .ok (.getfield 63, 3)) (q0 : Nat) {a : Nat} {fs : List Value} {v : Value} (he : ws[q0]? = some (a, .inr (0, fs))) (hv : fs[0]? = some v) (kk : AT p l e R s m args below meth c g nL Q cl sl (pc + 3) lv (v :: st) ws) : AT p l e R s m args below meth c g nL Q cl sl pc lv (.ref a :: st) ws := fun H locs ls hP hD hS hl => va_get (C := RJx4a65c) (T := TJx4a65c) (N := 3) cx.1.1 cx.1.2.1 cx.1.2.2.2.2 iw_Jx4a65c cx.1.2.2.2.1 cx.2.1.2.1 hP q0 he rfl 0 (by decide) (cx.ok tb_46) (fun x h9 => u_same (cx.ok tb_47) x h9) hv hd (kk H locs ls hP hD hS hl)
theorem pf_Jx4a65c_63 (cx : q_cx g p m c cc nL s args RJx4a65c meth)  (hd : decode cc pc = .ok (.putfield 63, 3)) (q0 : Nat) {a : Nat} {fs : List Value} {x : Int32} (he : ws[q0]? = some (a, .inr (0, fs))) (hl9 : 0 < fs.length) (kk : AT p l e R s m args below meth c g nL Q cl sl (pc + 3) lv st (ws.set q0 (a, .inr (0, fs.set 0 (.int x))))) : AT p l e R s m args below meth c g nL Q cl sl pc lv (.int x :: .ref a :: st) ws := fun H locs ls hP hD hS hl => va_put (C := RJx4a65c) (T := TJx4a65c) (N := 3) cx.1.1 cx.1.2.1 cx.1.2.2.2.2 iw_Jx4a65c tyJx4a65c tyJx4a65c_ok nmJx4a65c cx.1.2.2.2.1 cx.2.1.2.1 hP hD hS q0 he rfl 0 (by decide) (cx.ok tb_46) (fun x h9 => u_same (cx.ok tb_47) x h9) rfl (tyJx4a65c_ok 0 (by decide)) rfl rfl hl9 hd (fun H1 locs1 hP hD hS => kk H1 locs1 ls hP hD hS hl)
theorem k_Jx4a65c_131 (cx : q_cx g p m c cc nL s args RJx4a65c meth) {post : va_W → Prop} (hM : MetW l g yJx4a65c_add_72be8 cJx4a65c_add_72be8 4 none rm (.ref b :: As) ws (q_Qv g post)) (hd : decode cc pc = .ok (.invokevirtual 131, 3)) (q0 : Nat) {fs : List Value} (he : ws[q0]? = some (b, .inr (0, fs))) (hR : rm.frames + 1 ≤ R.frames ∧ 8 + (4 + 11) + rm.locals ≤ R.locals) (hroom : cl + rm.cells ≤ R.cells ∧ sl + rm.slots ≤ R.slots) (hst : st0 = As.reverse ++ .ref b :: st) (hn : As.length = 3) (hW : (st.map fun v => v.category).sum ≤ 8) (kk : ∀ (u : va_W), post  u → AT p l e R s m args below meth c g nL Q (cl + rm.cells) (sl + rm.slots) (pc + 3) lv (st) u) : AT p l e R s m args below meth c g nL Q cl sl pc lv st0 ws := q_Vv (C := RJx4a65c) (ci := 0) cx (gi_V tb_417 tb_419 ts_14 tb_4 tb_420) ⟨rfl, by decide +kernel, by decide +kernel, by decide +kernel⟩ rfl rfl hM hd q0 he hR hroom hst hn hW kk
theorem k_J7_300 (cx : q_cx g p m c cc nL s args RJ7 meth) {post : Option Nat → va_W → Prop} (hM : MetW l g yJ7_copyOf_6403c cJ7_copyOf_6403c 4 (some (.array (.object "java/lang/Object"))) rm As ws (q_Qq g post)) (hd : decode cc pc = .ok (.invokestatic 300, 3)) (hR : rm.frames + 1 ≤ R.frames ∧ 8 + (4 + 11) + rm.locals ≤ R.locals) (hroom : cl + rm.cells ≤ R.cells ∧ sl + rm.slots ≤ R.slots) (hst : st0 = As.reverse ++ st) (hn : As.length = 3) (hW : (st.map fun v => v.category).sum ≤ 8) (kk : ∀ (r : Option Nat) (u : va_W), post r u → AT p l e R s m args below meth c g nL Q (cl + rm.cells) (sl + rm.slots) (pc + 3) lv (va_rf r :: st) u) : AT p l e R s m args below meth c g nL Q cl sl pc lv st0 ws := q_Sq cx (gi_S tb_454 tb_455 tb_6 tb_456) ⟨by decide +kernel, by decide +kernel, by decide +kernel⟩ hM hd hR hroom hst hn hW kk
theorem k_J7_304 (cx : q_cx g p m c cc nL s args RJ7 meth) {post : Int32 → va_W → Prop} (hM : MetW l g yJ9_min_7cf53 cJ9_min_7cf53 2 (some .int) rm As ws (q_Qi g post)) (hd : decode cc pc = .ok (.invokestatic 304, 3)) (hR : rm.frames + 1 ≤ R.frames ∧ 8 + (2 + 11) + rm.locals ≤ R.locals) (hroom : cl + rm.cells ≤ R.cells ∧ sl + rm.slots ≤ R.slots) (hst : st0 = As.reverse ++ st) (hn : As.length = 2) (hW : (st.map fun v => v.category).sum ≤ 8) (kk : ∀ (r : Int32) (u : va_W), post r u → AT p l e R s m args below meth c g nL Q (cl + rm.cells) (sl + rm.slots) (pc + 3) lv (.int r :: st) u) : AT p l e R s m args below meth c g nL Q cl sl pc lv st0 ws := q_Si cx (gi_S tb_460 tb_286 tb_15 tb_287) ⟨by decide +kernel, by decide +kernel, by decide +kernel⟩ hM hd hR hroom hst hn hW kk
theorem k_J15_105 (cx : q_cx g p m c cc nL s args RJ15 meth) {post : Int32 → va_W → Prop} (hM : MetW l g yJ3_checkIndex_8e157 cJ3_checkIndex_8e157 3 (some .int) rm As ws (q_Qi g post)) (hd : decode cc pc = .ok (.invokestatic 105, 3)) (hR : rm.frames + 1 ≤ R.frames ∧ 8 + (3 + 11) + rm.locals ≤ R.locals) (hroom : cl + rm.cells ≤ R.cells ∧ sl + rm.slots ≤ R.slots) (hst : st0 = As.reverse ++ st) (hn : As.length = 3) (hW : (st.map fun v => v.category).sum ≤ 8) (kk : ∀ (r : Int32) (u : va_W), post r u → AT p l e R s m args below meth c g nL Q (cl + rm.cells) (sl + rm.slots) (pc + 3) lv (.int r :: st) u) : AT p l e R s m args below meth c g nL Q cl sl pc lv st0 ws := q_Si cx (gi_S tb_212 tb_213 tb_18 tb_214) ⟨by decide +kernel, by decide +kernel, by decide +kernel⟩ hM hd hR hroom hst hn hW kk
theorem k_J8_194 (cx : q_cx g p m c cc nL s args RJ8 meth) {post : Int32 → va_W → Prop} (hM : MetW l g yJ9_max_7cf53 cJ9_max_7cf53 2 (some .int) rm As ws (q_Qi g post)) (hd : decode cc pc = .ok (.invokestatic 194, 3)) (hR : rm.frames + 1 ≤ R.frames ∧ 8 + (2 + 11) + rm.locals ≤ R.locals) (hroom : cl + rm.cells ≤ R.cells ∧ sl + rm.slots ≤ R.slots) (hst : st0 = As.reverse ++ st) (hn : As.length = 2) (hW : (st.map fun v => v.category).sum ≤ 8) (kk : ∀ (r : Int32) (u : va_W), post r u → AT p l e R s m args below meth c g nL Q (cl + rm.cells) (sl + rm.slots) (pc + 3) lv (.int r :: st) u) : AT p l e R s m args below meth c g nL Q cl sl pc lv st0 ws := q_Si cx (gi_S tb_432 tb_433 tb_15 tb_434) ⟨by decide +kernel, by decide +kernel, by decide +kernel⟩ hM hd hR hroom hst hn hW kk
theorem k_J8_201 (cx : q_cx g p m c cc nL s args RJ8 meth) {post : Int32 → va_W → Prop} (hM : MetW l g yJ8_hugeLength_7cf53 cJ8_hugeLength_7cf53 3 (some .int) rm As ws (q_Qi g post)) (hd : decode cc pc = .ok (.invokestatic 201, 3)) (hR : rm.frames + 1 ≤ R.frames ∧ 8 + (3 + 11) + rm.locals ≤ R.locals) (hroom : cl + rm.cells ≤ R.cells ∧ sl + rm.slots ≤ R.slots) (hst : st0 = As.reverse ++ st) (hn : As.length = 2) (hW : (st.map fun v => v.category).sum ≤ 8) (kk : ∀ (r : Int32) (u : va_W), post r u → AT p l e R s m args below meth c g nL Q (cl + rm.cells) (sl + rm.slots) (pc + 3) lv (.int r :: st) u) : AT p l e R s m args below meth c g nL Q cl sl pc lv st0 ws := q_Si cx (gi_S tb_436 tb_437 tb_14 tb_438) ⟨by decide +kernel, by decide +kernel, by decide +kernel⟩ hM hd hR hroom hst hn hW kk
theorem k_L_10 (cx : q_cx g p m c cc nL s args RL meth) {post : Int32 → va_W → Prop} {pe : String → va_W → Prop} (hM : MetX l g yX3_sound cX3_sound 2 (some .int) rm (.ref b :: As) ws (q_Qi g post) pe) (hd : decode cc pc = .ok (.invokevirtual 10, 3)) (q0 : Nat) {fs : List Value} (he : ws[q0]? = some (b, .inr (4, fs))) (hR : rm.frames + 1 ≤ R.frames ∧ 8 + (2 + 11) + rm.locals ≤ R.locals) (hroom : cl + rm.cells ≤ R.cells ∧ sl + rm.slots ≤ R.slots) (hst : st0 = As.reverse ++ .ref b :: st) (hn : As.length = 1) (hW : (st.map fun v => v.category).sum ≤ 8) (kx : ∀ (E : String) (u : va_W), pe E u → ∀ (H : Heap) (locs : List Loc) (ls : Array Slot) (q9 : Addr) (ce : Cell), va_P g.1 vwCl u H → va_D (q_A g) u → va_S (q_A g) s.heap H locs → lv_has ls nL lv → H[q9]? = some ce → ce.vm = .none → s.vm.findClass E = some ce.cls → vx_W p l e R s m args below meth c H locs (cl + rm.cells) (sl + rm.slots) Q (F0 m pc ls st) q9) (kk : ∀ (r : Int32) (u : va_W), post r u → AT p l e R s m args below meth c g nL Q (cl + rm.cells) (sl + rm.slots) (pc + 3) lv (.int r :: st) u) : AT p l e R s m args below meth c g nL Q cl sl pc lv st0 ws := q_Xi (C := RX3) (ci := 4) cx (gi_V tb_352 tb_353 tb_354 tb_1 tb_355) ⟨rfl, by decide +kernel, by decide +kernel, by decide +kernel⟩ rfl rfl hM hd q0 he hR hroom hst hn hW kx kk
theorem k_L_16 (cx : q_cx g p m c cc nL s args RL meth) {post : Int32 → va_W → Prop} {pe : String → va_W → Prop} (hM : MetX l g yX3_interview cX3_interview 8 (some .int) rm (.ref b :: As) ws (q_Qi g post) pe) (hd : decode cc pc = .ok (.invokevirtual 16, 3)) (q0 : Nat) {fs : List Value} (he : ws[q0]? = some (b, .inr (4, fs))) (hR : rm.frames + 1 ≤ R.frames ∧ 8 + (8 + 11) + rm.locals ≤ R.locals) (hroom : cl + rm.cells ≤ R.cells ∧ sl + rm.slots ≤ R.slots) (hst : st0 = As.reverse ++ .ref b :: st) (hn : As.length = 4) (hW : (st.map fun v => v.category).sum ≤ 8) (kx : ∀ (E : String) (u : va_W), pe E u → ∀ (H : Heap) (locs : List Loc) (ls : Array Slot) (q9 : Addr) (ce : Cell), va_P g.1 vwCl u H → va_D (q_A g) u → va_S (q_A g) s.heap H locs → lv_has ls nL lv → H[q9]? = some ce → ce.vm = .none → s.vm.findClass E = some ce.cls → vx_W p l e R s m args below meth c H locs (cl + rm.cells) (sl + rm.slots) Q (F0 m pc ls st) q9) (kk : ∀ (r : Int32) (u : va_W), post r u → AT p l e R s m args below meth c g nL Q (cl + rm.cells) (sl + rm.slots) (pc + 3) lv (.int r :: st) u) : AT p l e R s m args below meth c g nL Q cl sl pc lv st0 ws := q_Xi (C := RX3) (ci := 4) cx (gi_V tb_373 tb_374 tb_375 tb_1 tb_376) ⟨rfl, by decide +kernel, by decide +kernel, by decide +kernel⟩ rfl rfl hM hd q0 he hR hroom hst hn hW kx kk
theorem k_L_20 (cx : q_cx g p m c cc nL s args RL meth) {post : Int32 → va_W → Prop} {pe : String → va_W → Prop} (hM : MetX l g yX3_setRoot cX3_setRoot 3 (some .int) rm (.ref b :: As) ws (q_Qi g post) pe) (hd : decode cc pc = .ok (.invokevirtual 20, 3)) (q0 : Nat) {fs : List Value} (he : ws[q0]? = some (b, .inr (4, fs))) (hR : rm.frames + 1 ≤ R.frames ∧ 8 + (3 + 11) + rm.locals ≤ R.locals) (hroom : cl + rm.cells ≤ R.cells ∧ sl + rm.slots ≤ R.slots) (hst : st0 = As.reverse ++ .ref b :: st) (hn : As.length = 1) (hW : (st.map fun v => v.category).sum ≤ 8) (kx : ∀ (E : String) (u : va_W), pe E u → ∀ (H : Heap) (locs : List Loc) (ls : Array Slot) (q9 : Addr) (ce : Cell), va_P g.1 vwCl u H → va_D (q_A g) u → va_S (q_A g) s.heap H locs → lv_has ls nL lv → H[q9]? = some ce → ce.vm = .none → s.vm.findClass E = some ce.cls → vx_W p l e R s m args below meth c H locs (cl + rm.cells) (sl + rm.slots) Q (F0 m pc ls st) q9) (kk : ∀ (r : Int32) (u : va_W), post r u → AT p l e R s m args below meth c g nL Q (cl + rm.cells) (sl + rm.slots) (pc + 3) lv (.int r :: st) u) : AT p l e R s m args below meth c g nL Q cl sl pc lv st0 ws := q_Xi (C := RX3) (ci := 4) cx (gi_V tb_466 tb_467 tb_468 tb_1 tb_469) ⟨rfl, by decide +kernel, by decide +kernel, by decide +kernel⟩ rfl rfl hM hd q0 he hR hroom hst hn hW kx kk
theorem k_L_23 (cx : q_cx g p m c cc nL s args RL meth) {post : Int32 → va_W → Prop} {pe : String → va_W → Prop} (hM : MetX l g yX3_rest cX3_rest 5 (some .int) rm (.ref b :: As) ws (q_Qi g post) pe) (hd : decode cc pc = .ok (.invokevirtual 23, 3)) (q0 : Nat) {fs : List Value} (he : ws[q0]? = some (b, .inr (4, fs))) (hR : rm.frames + 1 ≤ R.frames ∧ 8 + (5 + 11) + rm.locals ≤ R.locals) (hroom : cl + rm.cells ≤ R.cells ∧ sl + rm.slots ≤ R.slots) (hst : st0 = As.reverse ++ .ref b :: st) (hn : As.length = 2) (hW : (st.map fun v => v.category).sum ≤ 8) (kx : ∀ (E : String) (u : va_W), pe E u → ∀ (H : Heap) (locs : List Loc) (ls : Array Slot) (q9 : Addr) (ce : Cell), va_P g.1 vwCl u H → va_D (q_A g) u → va_S (q_A g) s.heap H locs → lv_has ls nL lv → H[q9]? = some ce → ce.vm = .none → s.vm.findClass E = some ce.cls → vx_W p l e R s m args below meth c H locs (cl + rm.cells) (sl + rm.slots) Q (F0 m pc ls st) q9) (kk : ∀ (r : Int32) (u : va_W), post r u → AT p l e R s m args below meth c g nL Q (cl + rm.cells) (sl + rm.slots) (pc + 3) lv (.int r :: st) u) : AT p l e R s m args below meth c g nL Q cl sl pc lv st0 ws := q_Xi (C := RX3) (ci := 4) cx (gi_V tb_471 tb_472 tb_473 tb_1 tb_474) ⟨rfl, by decide +kernel, by decide +kernel, by decide +kernel⟩ rfl rfl hM hd q0 he hR hroom hst hn hW kx kk
theorem k_L_27 (cx : q_cx g p m c cc nL s args RL meth) {post : Int32 → va_W → Prop} {pe : String → va_W → Prop} (hM : MetX l g yX3_quote cX3_quote 4 (some .int) rm (.ref b :: As) ws (q_Qi g post) pe) (hd : decode cc pc = .ok (.invokevirtual 27, 3)) (q0 : Nat) {fs : List Value} (he : ws[q0]? = some (b, .inr (4, fs))) (hR : rm.frames + 1 ≤ R.frames ∧ 8 + (4 + 11) + rm.locals ≤ R.locals) (hroom : cl + rm.cells ≤ R.cells ∧ sl + rm.slots ≤ R.slots) (hst : st0 = As.reverse ++ .ref b :: st) (hn : As.length = 1) (hW : (st.map fun v => v.category).sum ≤ 8) (kx : ∀ (E : String) (u : va_W), pe E u → ∀ (H : Heap) (locs : List Loc) (ls : Array Slot) (q9 : Addr) (ce : Cell), va_P g.1 vwCl u H → va_D (q_A g) u → va_S (q_A g) s.heap H locs → lv_has ls nL lv → H[q9]? = some ce → ce.vm = .none → s.vm.findClass E = some ce.cls → vx_W p l e R s m args below meth c H locs (cl + rm.cells) (sl + rm.slots) Q (F0 m pc ls st) q9) (kk : ∀ (r : Int32) (u : va_W), post r u → AT p l e R s m args below meth c g nL Q (cl + rm.cells) (sl + rm.slots) (pc + 3) lv (.int r :: st) u) : AT p l e R s m args below meth c g nL Q cl sl pc lv st0 ws := q_Xi (C := RX3) (ci := 4) cx (gi_V tb_481 tb_482 tb_483 tb_1 tb_484) ⟨rfl, by decide +kernel, by decide +kernel, by decide +kernel⟩ rfl rfl hM hd q0 he hR hroom hst hn hW kx kk
theorem k_L_32 (cx : q_cx g p m c cc nL s args RL meth) {post : Int32 → va_W → Prop} (hM : MetW l g yL_applied cL_applied 10 (some .int) rm As ws (q_Qi g post)) (hd : decode cc pc = .ok (.invokestatic 32, 3)) (hR : rm.frames + 1 ≤ R.frames ∧ 8 + (10 + 11) + rm.locals ≤ R.locals) (hroom : cl + rm.cells ≤ R.cells ∧ sl + rm.slots ≤ R.slots) (hst : st0 = As.reverse ++ st) (hn : As.length = 3) (hW : (st.map fun v => v.category).sum ≤ 8) (kk : ∀ (r : Int32) (u : va_W), post r u → AT p l e R s m args below meth c g nL Q (cl + rm.cells) (sl + rm.slots) (pc + 3) lv (.int r :: st) u) : AT p l e R s m args below meth c g nL Q cl sl pc lv st0 ws := q_Si cx (gi_S tb_291 tb_292 tb_0 tb_293) ⟨by decide +kernel, by decide +kernel, by decide +kernel⟩ hM hd hR hroom hst hn hW kk
theorem k_L_38 (cx : q_cx g p m c cc nL s args RL meth) {post : Int32 → va_W → Prop} (hM : MetW l g yL_sounds cL_sounds 4 (some .int) rm As ws (q_Qi g post)) (hd : decode cc pc = .ok (.invokestatic 38, 3)) (hR : rm.frames + 1 ≤ R.frames ∧ 8 + (4 + 11) + rm.locals ≤ R.locals) (hroom : cl + rm.cells ≤ R.cells ∧ sl + rm.slots ≤ R.slots) (hst : st0 = As.reverse ++ st) (hn : As.length = 2) (hW : (st.map fun v => v.category).sum ≤ 8) (kk : ∀ (r : Int32) (u : va_W), post r u → AT p l e R s m args below meth c g nL Q (cl + rm.cells) (sl + rm.slots) (pc + 3) lv (.int r :: st) u) : AT p l e R s m args below meth c g nL Q cl sl pc lv st0 ws := q_Si cx (gi_S tb_297 tb_298 tb_0 tb_299) ⟨by decide +kernel, by decide +kernel, by decide +kernel⟩ hM hd hR hroom hst hn hW kk
theorem k_L_42 (cx : q_cx g p m c cc nL s args RL meth) {post : Int32 → va_W → Prop} (hM : MetW l g yL_there cL_there 5 (some .boolean) rm As ws (q_Qi g post)) (hd : decode cc pc = .ok (.invokestatic 42, 3)) (hR : rm.frames + 1 ≤ R.frames ∧ 8 + (5 + 11) + rm.locals ≤ R.locals) (hroom : cl + rm.cells ≤ R.cells ∧ sl + rm.slots ≤ R.slots) (hst : st0 = As.reverse ++ st) (hn : As.length = 5) (hW : (st.map fun v => v.category).sum ≤ 8) (kk : ∀ (r : Int32) (u : va_W), post r u → AT p l e R s m args below meth c g nL Q (cl + rm.cells) (sl + rm.slots) (pc + 3) lv (.int r :: st) u) : AT p l e R s m args below meth c g nL Q cl sl pc lv st0 ws := q_Si cx (gi_S tb_119 tb_120 tb_0 tb_121) ⟨by decide +kernel, by decide +kernel, by decide +kernel⟩ hM hd hR hroom hst hn hW kk
theorem k_L_46 (cx : q_cx g p m c cc nL s args RL meth) {post : Int32 → va_W → Prop} (hM : MetW l g yL_formAt cL_formAt 10 (some .int) rm As ws (q_Qi g post)) (hd : decode cc pc = .ok (.invokestatic 46, 3)) (hR : rm.frames + 1 ≤ R.frames ∧ 8 + (10 + 11) + rm.locals ≤ R.locals) (hroom : cl + rm.cells ≤ R.cells ∧ sl + rm.slots ≤ R.slots) (hst : st0 = As.reverse ++ st) (hn : As.length = 5) (hW : (st.map fun v => v.category).sum ≤ 8) (kk : ∀ (r : Int32) (u : va_W), post r u → AT p l e R s m args below meth c g nL Q (cl + rm.cells) (sl + rm.slots) (pc + 3) lv (.int r :: st) u) : AT p l e R s m args below meth c g nL Q cl sl pc lv st0 ws := q_Si cx (gi_S tb_116 tb_117 tb_0 tb_118) ⟨by decide +kernel, by decide +kernel, by decide +kernel⟩ hM hd hR hroom hst hn hW kk
theorem k_L_50 (cx : q_cx g p m c cc nL s args RL meth) {post : Int32 → va_W → Prop} {pe : String → va_W → Prop} (hM : MetX l g yX3_formAt cX3_formAt 3 (some .int) rm (.ref b :: As) ws (q_Qi g post) pe) (hd : decode cc pc = .ok (.invokevirtual 50, 3)) (q0 : Nat) {fs : List Value} (he : ws[q0]? = some (b, .inr (4, fs))) (hR : rm.frames + 1 ≤ R.frames ∧ 8 + (3 + 11) + rm.locals ≤ R.locals) (hroom : cl + rm.cells ≤ R.cells ∧ sl + rm.slots ≤ R.slots) (hst : st0 = As.reverse ++ .ref b :: st) (hn : As.length = 2) (hW : (st.map fun v => v.category).sum ≤ 8) (kx : ∀ (E : String) (u : va_W), pe E u → ∀ (H : Heap) (locs : List Loc) (ls : Array Slot) (q9 : Addr) (ce : Cell), va_P g.1 vwCl u H → va_D (q_A g) u → va_S (q_A g) s.heap H locs → lv_has ls nL lv → H[q9]? = some ce → ce.vm = .none → s.vm.findClass E = some ce.cls → vx_W p l e R s m args below meth c H locs (cl + rm.cells) (sl + rm.slots) Q (F0 m pc ls st) q9) (kk : ∀ (r : Int32) (u : va_W), post r u → AT p l e R s m args below meth c g nL Q (cl + rm.cells) (sl + rm.slots) (pc + 3) lv (.int r :: st) u) : AT p l e R s m args below meth c g nL Q cl sl pc lv st0 ws := q_Xi (C := RX3) (ci := 4) cx (gi_V tb_122 tb_123 tb_124 tb_1 tb_125) ⟨rfl, by decide +kernel, by decide +kernel, by decide +kernel⟩ rfl rfl hM hd q0 he hR hroom hst hn hW kx kk
theorem k_L_52 (cx : q_cx g p m c cc nL s args RL meth) {post : Int32 → va_W → Prop} {pe : String → va_W → Prop} (hM : MetX l g yX3_lines cX3_lines 2 (some .int) rm (.ref b :: As) ws (q_Qi g post) pe) (hd : decode cc pc = .ok (.invokevirtual 52, 3)) (q0 : Nat) {fs : List Value} (he : ws[q0]? = some (b, .inr (4, fs))) (hR : rm.frames + 1 ≤ R.frames ∧ 8 + (2 + 11) + rm.locals ≤ R.locals) (hroom : cl + rm.cells ≤ R.cells ∧ sl + rm.slots ≤ R.slots) (hst : st0 = As.reverse ++ .ref b :: st) (hn : As.length = 1) (hW : (st.map fun v => v.category).sum ≤ 8) (kx : ∀ (E : String) (u : va_W), pe E u → ∀ (H : Heap) (locs : List Loc) (ls : Array Slot) (q9 : Addr) (ce : Cell), va_P g.1 vwCl u H → va_D (q_A g) u → va_S (q_A g) s.heap H locs → lv_has ls nL lv → H[q9]? = some ce → ce.vm = .none → s.vm.findClass E = some ce.cls → vx_W p l e R s m args below meth c H locs (cl + rm.cells) (sl + rm.slots) Q (F0 m pc ls st) q9) (kk : ∀ (r : Int32) (u : va_W), post r u → AT p l e R s m args below meth c g nL Q (cl + rm.cells) (sl + rm.slots) (pc + 3) lv (.int r :: st) u) : AT p l e R s m args below meth c g nL Q cl sl pc lv st0 ws := q_Xi (C := RX3) (ci := 4) cx (gi_V tb_233 tb_234 tb_235 tb_1 tb_236) ⟨rfl, by decide +kernel, by decide +kernel, by decide +kernel⟩ rfl rfl hM hd q0 he hR hroom hst hn hW kx kk
theorem k_L_55 (cx : q_cx g p m c cc nL s args RL meth) {post : Int32 → va_W → Prop} {pe : String → va_W → Prop} (hM : MetX l g yX3_linesByForms cX3_linesByForms 2 (some .int) rm (.ref b :: As) ws (q_Qi g post) pe) (hd : decode cc pc = .ok (.invokevirtual 55, 3)) (q0 : Nat) {fs : List Value} (he : ws[q0]? = some (b, .inr (4, fs))) (hR : rm.frames + 1 ≤ R.frames ∧ 8 + (2 + 11) + rm.locals ≤ R.locals) (hroom : cl + rm.cells ≤ R.cells ∧ sl + rm.slots ≤ R.slots) (hst : st0 = As.reverse ++ .ref b :: st) (hn : As.length = 1) (hW : (st.map fun v => v.category).sum ≤ 8) (kx : ∀ (E : String) (u : va_W), pe E u → ∀ (H : Heap) (locs : List Loc) (ls : Array Slot) (q9 : Addr) (ce : Cell), va_P g.1 vwCl u H → va_D (q_A g) u → va_S (q_A g) s.heap H locs → lv_has ls nL lv → H[q9]? = some ce → ce.vm = .none → s.vm.findClass E = some ce.cls → vx_W p l e R s m args below meth c H locs (cl + rm.cells) (sl + rm.slots) Q (F0 m pc ls st) q9) (kk : ∀ (r : Int32) (u : va_W), post r u → AT p l e R s m args below meth c g nL Q (cl + rm.cells) (sl + rm.slots) (pc + 3) lv (.int r :: st) u) : AT p l e R s m args below meth c g nL Q cl sl pc lv st0 ws := q_Xi (C := RX3) (ci := 4) cx (gi_V tb_238 tb_239 tb_240 tb_1 tb_241) ⟨rfl, by decide +kernel, by decide +kernel, by decide +kernel⟩ rfl rfl hM hd q0 he hR hroom hst hn hW kx kk
theorem k_L_58 (cx : q_cx g p m c cc nL s args RL meth) {post : Int32 → va_W → Prop} (hM : MetW l g yL_low cL_low 2 (some .int) rm As ws (q_Qi g post)) (hd : decode cc pc = .ok (.invokestatic 58, 3)) (hR : rm.frames + 1 ≤ R.frames ∧ 8 + (2 + 11) + rm.locals ≤ R.locals) (hroom : cl + rm.cells ≤ R.cells ∧ sl + rm.slots ≤ R.slots) (hst : st0 = As.reverse ++ st) (hn : As.length = 2) (hW : (st.map fun v => v.category).sum ≤ 8) (kk : ∀ (r : Int32) (u : va_W), post r u → AT p l e R s m args below meth c g nL Q (cl + rm.cells) (sl + rm.slots) (pc + 3) lv (.int r :: st) u) : AT p l e R s m args below meth c g nL Q cl sl pc lv st0 ws := q_Si cx (gi_S tb_106 tb_107 tb_0 tb_108) ⟨by decide +kernel, by decide +kernel, by decide +kernel⟩ hM hd hR hroom hst hn hW kk
theorem k_L_61 (cx : q_cx g p m c cc nL s args RL meth) {post : Int32 → va_W → Prop} (hM : MetW l g yL_isMap cL_isMap 10 (some .boolean) rm As ws (q_Qi g post)) (hd : decode cc pc = .ok (.invokestatic 61, 3)) (hR : rm.frames + 1 ≤ R.frames ∧ 8 + (10 + 11) + rm.locals ≤ R.locals) (hroom : cl + rm.cells ≤ R.cells ∧ sl + rm.slots ≤ R.slots) (hst : st0 = As.reverse ++ st) (hn : As.length = 5) (hW : (st.map fun v => v.category).sum ≤ 8) (kk : ∀ (r : Int32) (u : va_W), post r u → AT p l e R s m args below meth c g nL Q (cl + rm.cells) (sl + rm.slots) (pc + 3) lv (.int r :: st) u) : AT p l e R s m args below meth c g nL Q cl sl pc lv st0 ws := q_Si cx (gi_S tb_113 tb_114 tb_0 tb_115) ⟨by decide +kernel, by decide +kernel, by decide +kernel⟩ hM hd hR hroom hst hn hW kk
theorem k_L_65 (cx : q_cx g p m c cc nL s args RL meth) {post : Int32 → va_W → Prop} {pe : String → va_W → Prop} (hM : MetX l g yX3_form cX3_form 2 (some .int) rm (.ref b :: As) ws (q_Qi g post) pe) (hd : decode cc pc = .ok (.invokevirtual 65, 3)) (q0 : Nat) {fs : List Value} (he : ws[q0]? = some (b, .inr (4, fs))) (hR : rm.frames + 1 ≤ R.frames ∧ 8 + (2 + 11) + rm.locals ≤ R.locals) (hroom : cl + rm.cells ≤ R.cells ∧ sl + rm.slots ≤ R.slots) (hst : st0 = As.reverse ++ .ref b :: st) (hn : As.length = 1) (hW : (st.map fun v => v.category).sum ≤ 8) (kx : ∀ (E : String) (u : va_W), pe E u → ∀ (H : Heap) (locs : List Loc) (ls : Array Slot) (q9 : Addr) (ce : Cell), va_P g.1 vwCl u H → va_D (q_A g) u → va_S (q_A g) s.heap H locs → lv_has ls nL lv → H[q9]? = some ce → ce.vm = .none → s.vm.findClass E = some ce.cls → vx_W p l e R s m args below meth c H locs (cl + rm.cells) (sl + rm.slots) Q (F0 m pc ls st) q9) (kk : ∀ (r : Int32) (u : va_W), post r u → AT p l e R s m args below meth c g nL Q (cl + rm.cells) (sl + rm.slots) (pc + 3) lv (.int r :: st) u) : AT p l e R s m args below meth c g nL Q cl sl pc lv st0 ws := q_Xi (C := RX3) (ci := 4) cx (gi_V tb_246 tb_247 tb_248 tb_1 tb_249) ⟨rfl, by decide +kernel, by decide +kernel, by decide +kernel⟩ rfl rfl hM hd q0 he hR hroom hst hn hW kx kk
theorem k_L_68 (cx : q_cx g p m c cc nL s args RL meth) {post : Int32 → va_W → Prop} {pe : String → va_W → Prop} (hM : MetX l g yX3_far cX3_far 4 (some .int) rm (.ref b :: As) ws (q_Qi g post) pe) (hd : decode cc pc = .ok (.invokevirtual 68, 3)) (q0 : Nat) {fs : List Value} (he : ws[q0]? = some (b, .inr (4, fs))) (hR : rm.frames + 1 ≤ R.frames ∧ 8 + (4 + 11) + rm.locals ≤ R.locals) (hroom : cl + rm.cells ≤ R.cells ∧ sl + rm.slots ≤ R.slots) (hst : st0 = As.reverse ++ .ref b :: st) (hn : As.length = 1) (hW : (st.map fun v => v.category).sum ≤ 8) (kx : ∀ (E : String) (u : va_W), pe E u → ∀ (H : Heap) (locs : List Loc) (ls : Array Slot) (q9 : Addr) (ce : Cell), va_P g.1 vwCl u H → va_D (q_A g) u → va_S (q_A g) s.heap H locs → lv_has ls nL lv → H[q9]? = some ce → ce.vm = .none → s.vm.findClass E = some ce.cls → vx_W p l e R s m args below meth c H locs (cl + rm.cells) (sl + rm.slots) Q (F0 m pc ls st) q9) (kk : ∀ (r : Int32) (u : va_W), post r u → AT p l e R s m args below meth c g nL Q (cl + rm.cells) (sl + rm.slots) (pc + 3) lv (.int r :: st) u) : AT p l e R s m args below meth c g nL Q cl sl pc lv st0 ws := q_Xi (C := RX3) (ci := 4) cx (gi_V tb_255 tb_256 tb_257 tb_1 tb_258) ⟨rfl, by decide +kernel, by decide +kernel, by decide +kernel⟩ rfl rfl hM hd q0 he hR hroom hst hn hW kx kk
theorem k_L_71 (cx : q_cx g p m c cc nL s args RL meth) {post : Int32 → va_W → Prop} (hM : MetW l g yL_expected cL_expected 8 (some .int) rm As ws (q_Qi g post)) (hd : decode cc pc = .ok (.invokestatic 71, 3)) (hR : rm.frames + 1 ≤ R.frames ∧ 8 + (8 + 11) + rm.locals ≤ R.locals) (hroom : cl + rm.cells ≤ R.cells ∧ sl + rm.slots ≤ R.slots) (hst : st0 = As.reverse ++ st) (hn : As.length = 5) (hW : (st.map fun v => v.category).sum ≤ 8) (kk : ∀ (r : Int32) (u : va_W), post r u → AT p l e R s m args below meth c g nL Q (cl + rm.cells) (sl + rm.slots) (pc + 3) lv (.int r :: st) u) : AT p l e R s m args below meth c g nL Q cl sl pc lv st0 ws := q_Si cx (gi_S tb_288 tb_289 tb_0 tb_290) ⟨by decide +kernel, by decide +kernel, by decide +kernel⟩ hM hd hR hroom hst hn hW kk
theorem k_L_75 (cx : q_cx g p m c cc nL s args RL meth) {post : Int32 → va_W → Prop} (hM : MetW l g yL_steps cL_steps 13 (some .int) rm As ws (q_Qi g post)) (hd : decode cc pc = .ok (.invokestatic 75, 3)) (hR : rm.frames + 1 ≤ R.frames ∧ 8 + (13 + 11) + rm.locals ≤ R.locals) (hroom : cl + rm.cells ≤ R.cells ∧ sl + rm.slots ≤ R.slots) (hst : st0 = As.reverse ++ st) (hn : As.length = 5) (hW : (st.map fun v => v.category).sum ≤ 8) (kk : ∀ (r : Int32) (u : va_W), post r u → AT p l e R s m args below meth c g nL Q (cl + rm.cells) (sl + rm.slots) (pc + 3) lv (.int r :: st) u) : AT p l e R s m args below meth c g nL Q cl sl pc lv st0 ws := q_Si cx (gi_S tb_294 tb_295 tb_0 tb_296) ⟨by decide +kernel, by decide +kernel, by decide +kernel⟩ hM hd hR hroom hst hn hW kk
theorem k_L_78 (cx : q_cx g p m c cc nL s args RL meth) {post : Int32 → va_W → Prop} {pe : String → va_W → Prop} (hM : MetX l g yX3_stands cX3_stands 2 (some .boolean) rm (.ref b :: As) ws (q_Qi g post) pe) (hd : decode cc pc = .ok (.invokevirtual 78, 3)) (q0 : Nat) {fs : List Value} (he : ws[q0]? = some (b, .inr (4, fs))) (hR : rm.frames + 1 ≤ R.frames ∧ 8 + (2 + 11) + rm.locals ≤ R.locals) (hroom : cl + rm.cells ≤ R.cells ∧ sl + rm.slots ≤ R.slots) (hst : st0 = As.reverse ++ .ref b :: st) (hn : As.length = 1) (hW : (st.map fun v => v.category).sum ≤ 8) (kx : ∀ (E : String) (u : va_W), pe E u → ∀ (H : Heap) (locs : List Loc) (ls : Array Slot) (q9 : Addr) (ce : Cell), va_P g.1 vwCl u H → va_D (q_A g) u → va_S (q_A g) s.heap H locs → lv_has ls nL lv → H[q9]? = some ce → ce.vm = .none → s.vm.findClass E = some ce.cls → vx_W p l e R s m args below meth c H locs (cl + rm.cells) (sl + rm.slots) Q (F0 m pc ls st) q9) (kk : ∀ (r : Int32) (u : va_W), post r u → AT p l e R s m args below meth c g nL Q (cl + rm.cells) (sl + rm.slots) (pc + 3) lv (.int r :: st) u) : AT p l e R s m args below meth c g nL Q cl sl pc lv st0 ws := q_Xi (C := RX3) (ci := 4) cx (gi_V tb_300 tb_301 tb_302 tb_1 tb_303) ⟨rfl, by decide +kernel, by decide +kernel, by decide +kernel⟩ rfl rfl hM hd q0 he hR hroom hst hn hW kx kk
theorem k_L_82 (cx : q_cx g p m c cc nL s args RL meth) {post : Int32 → va_W → Prop} {pe : String → va_W → Prop} (hM : MetX l g yX3_quoted cX3_quoted 2 (some .int) rm (.ref b :: As) ws (q_Qi g post) pe) (hd : decode cc pc = .ok (.invokevirtual 82, 3)) (q0 : Nat) {fs : List Value} (he : ws[q0]? = some (b, .inr (4, fs))) (hR : rm.frames + 1 ≤ R.frames ∧ 8 + (2 + 11) + rm.locals ≤ R.locals) (hroom : cl + rm.cells ≤ R.cells ∧ sl + rm.slots ≤ R.slots) (hst : st0 = As.reverse ++ .ref b :: st) (hn : As.length = 1) (hW : (st.map fun v => v.category).sum ≤ 8) (kx : ∀ (E : String) (u : va_W), pe E u → ∀ (H : Heap) (locs : List Loc) (ls : Array Slot) (q9 : Addr) (ce : Cell), va_P g.1 vwCl u H → va_D (q_A g) u → va_S (q_A g) s.heap H locs → lv_has ls nL lv → H[q9]? = some ce → ce.vm = .none → s.vm.findClass E = some ce.cls → vx_W p l e R s m args below meth c H locs (cl + rm.cells) (sl + rm.slots) Q (F0 m pc ls st) q9) (kk : ∀ (r : Int32) (u : va_W), post r u → AT p l e R s m args below meth c g nL Q (cl + rm.cells) (sl + rm.slots) (pc + 3) lv (.int r :: st) u) : AT p l e R s m args below meth c g nL Q cl sl pc lv st0 ws := q_Xi (C := RX3) (ci := 4) cx (gi_V tb_305 tb_306 tb_307 tb_1 tb_308) ⟨rfl, by decide +kernel, by decide +kernel, by decide +kernel⟩ rfl rfl hM hd q0 he hR hroom hst hn hW kx kk
theorem k_L_85 (cx : q_cx g p m c cc nL s args RL meth) {post : Int32 → va_W → Prop} {pe : String → va_W → Prop} (hM : MetX l g yX3_owed cX3_owed 2 (some .int) rm (.ref b :: As) ws (q_Qi g post) pe) (hd : decode cc pc = .ok (.invokevirtual 85, 3)) (q0 : Nat) {fs : List Value} (he : ws[q0]? = some (b, .inr (4, fs))) (hR : rm.frames + 1 ≤ R.frames ∧ 8 + (2 + 11) + rm.locals ≤ R.locals) (hroom : cl + rm.cells ≤ R.cells ∧ sl + rm.slots ≤ R.slots) (hst : st0 = As.reverse ++ .ref b :: st) (hn : As.length = 1) (hW : (st.map fun v => v.category).sum ≤ 8) (kx : ∀ (E : String) (u : va_W), pe E u → ∀ (H : Heap) (locs : List Loc) (ls : Array Slot) (q9 : Addr) (ce : Cell), va_P g.1 vwCl u H → va_D (q_A g) u → va_S (q_A g) s.heap H locs → lv_has ls nL lv → H[q9]? = some ce → ce.vm = .none → s.vm.findClass E = some ce.cls → vx_W p l e R s m args below meth c H locs (cl + rm.cells) (sl + rm.slots) Q (F0 m pc ls st) q9) (kk : ∀ (r : Int32) (u : va_W), post r u → AT p l e R s m args below meth c g nL Q (cl + rm.cells) (sl + rm.slots) (pc + 3) lv (.int r :: st) u) : AT p l e R s m args below meth c g nL Q cl sl pc lv st0 ws := q_Xi (C := RX3) (ci := 4) cx (gi_V tb_310 tb_311 tb_312 tb_1 tb_313) ⟨rfl, by decide +kernel, by decide +kernel, by decide +kernel⟩ rfl rfl hM hd q0 he hR hroom hst hn hW kx kk
theorem k_L_88 (cx : q_cx g p m c cc nL s args RL meth) {post : Int32 → va_W → Prop} (hM : MetW l g yL_bits cL_bits 3 (some .int) rm As ws (q_Qi g post)) (hd : decode cc pc = .ok (.invokestatic 88, 3)) (hR : rm.frames + 1 ≤ R.frames ∧ 8 + (3 + 11) + rm.locals ≤ R.locals) (hroom : cl + rm.cells ≤ R.cells ∧ sl + rm.slots ≤ R.slots) (hst : st0 = As.reverse ++ st) (hn : As.length = 1) (hW : (st.map fun v => v.category).sum ≤ 8) (kk : ∀ (r : Int32) (u : va_W), post r u → AT p l e R s m args below meth c g nL Q (cl + rm.cells) (sl + rm.slots) (pc + 3) lv (.int r :: st) u) : AT p l e R s m args below meth c g nL Q cl sl pc lv st0 ws := q_Si cx (gi_S tb_322 tb_323 tb_0 tb_324) ⟨by decide +kernel, by decide +kernel, by decide +kernel⟩ hM hd hR hroom hst hn hW kk
theorem k_L_91 (cx : q_cx g p m c cc nL s args RL meth) {post : Int32 → va_W → Prop} {pe : String → va_W → Prop} (hM : MetX l g yX3_expected cX3_expected 4 (some .int) rm (.ref b :: As) ws (q_Qi g post) pe) (hd : decode cc pc = .ok (.invokevirtual 91, 3)) (q0 : Nat) {fs : List Value} (he : ws[q0]? = some (b, .inr (4, fs))) (hR : rm.frames + 1 ≤ R.frames ∧ 8 + (4 + 11) + rm.locals ≤ R.locals) (hroom : cl + rm.cells ≤ R.cells ∧ sl + rm.slots ≤ R.slots) (hst : st0 = As.reverse ++ .ref b :: st) (hn : As.length = 3) (hW : (st.map fun v => v.category).sum ≤ 8) (kx : ∀ (E : String) (u : va_W), pe E u → ∀ (H : Heap) (locs : List Loc) (ls : Array Slot) (q9 : Addr) (ce : Cell), va_P g.1 vwCl u H → va_D (q_A g) u → va_S (q_A g) s.heap H locs → lv_has ls nL lv → H[q9]? = some ce → ce.vm = .none → s.vm.findClass E = some ce.cls → vx_W p l e R s m args below meth c H locs (cl + rm.cells) (sl + rm.slots) Q (F0 m pc ls st) q9) (kk : ∀ (r : Int32) (u : va_W), post r u → AT p l e R s m args below meth c g nL Q (cl + rm.cells) (sl + rm.slots) (pc + 3) lv (.int r :: st) u) : AT p l e R s m args below meth c g nL Q cl sl pc lv st0 ws := q_Xi (C := RX3) (ci := 4) cx (gi_V tb_325 tb_326 tb_327 tb_1 tb_328) ⟨rfl, by decide +kernel, by decide +kernel, by decide +kernel⟩ rfl rfl hM hd q0 he hR hroom hst hn hW kx kk
theorem k_L_94 (cx : q_cx g p m c cc nL s args RL meth) {post : Int32 → va_W → Prop} (hM : MetH l g yL_calls cL_calls 7 (some .int) [(0, 62, 63, 30)] rm As ws (q_Qi g post)) (hd : decode cc pc = .ok (.invokestatic 94, 3)) (hR : rm.frames + 1 ≤ R.frames ∧ 8 + (7 + 11) + rm.locals ≤ R.locals) (hroom : cl + rm.cells ≤ R.cells ∧ sl + rm.slots ≤ R.slots) (hst : st0 = As.reverse ++ st) (hn : As.length = 6) (hW : (st.map fun v => v.category).sum ≤ 8) (kk : ∀ (r : Int32) (u : va_W), post r u → AT p l e R s m args below meth c g nL Q (cl + rm.cells) (sl + rm.slots) (pc + 3) lv (.int r :: st) u) : AT p l e R s m args below meth c g nL Q cl sl pc lv st0 ws := q_SWi cx (gi_S tb_348 tb_349 tb_0 tb_350) ⟨by decide +kernel, by decide +kernel, by decide +kernel⟩ hM hd hR hroom hst hn hW kk
theorem k_L_98 (cx : q_cx g p m c cc nL s args RL meth) {post : Int32 → va_W → Prop} {pe : String → va_W → Prop} (hM : MetX l g yX3_rule cX3_rule 8 (some .int) rm (.ref b :: As) ws (q_Qi g post) pe) (hd : decode cc pc = .ok (.invokevirtual 98, 3)) (q0 : Nat) {fs : List Value} (he : ws[q0]? = some (b, .inr (4, fs))) (hR : rm.frames + 1 ≤ R.frames ∧ 8 + (8 + 11) + rm.locals ≤ R.locals) (hroom : cl + rm.cells ≤ R.cells ∧ sl + rm.slots ≤ R.slots) (hst : st0 = As.reverse ++ .ref b :: st) (hn : As.length = 6) (hW : (st.map fun v => v.category).sum ≤ 8) (kx : ∀ (E : String) (u : va_W), pe E u → ∀ (H : Heap) (locs : List Loc) (ls : Array Slot) (q9 : Addr) (ce : Cell), va_P g.1 vwCl u H → va_D (q_A g) u → va_S (q_A g) s.heap H locs → lv_has ls nL lv → H[q9]? = some ce → ce.vm = .none → s.vm.findClass E = some ce.cls → vx_W p l e R s m args below meth c H locs (cl + rm.cells) (sl + rm.slots) Q (F0 m pc ls st) q9) (kk : ∀ (r : Int32) (u : va_W), post r u → AT p l e R s m args below meth c g nL Q (cl + rm.cells) (sl + rm.slots) (pc + 3) lv (.int r :: st) u) : AT p l e R s m args below meth c g nL Q cl sl pc lv st0 ws := q_Xi (C := RX3) (ci := 4) cx (gi_V tb_489 tb_490 tb_491 tb_1 tb_492) ⟨rfl, by decide +kernel, by decide +kernel, by decide +kernel⟩ rfl rfl hM hd q0 he hR hroom hst hn hW kx kk
theorem k_L_102 (cx : q_cx g p m c cc nL s args RL meth) {post : Int32 → va_W → Prop} {pe : String → va_W → Prop} (hM : MetX l g yX3_forget cX3_forget 5 (some .int) rm (.ref b :: As) ws (q_Qi g post) pe) (hd : decode cc pc = .ok (.invokevirtual 102, 3)) (q0 : Nat) {fs : List Value} (he : ws[q0]? = some (b, .inr (4, fs))) (hR : rm.frames + 1 ≤ R.frames ∧ 8 + (5 + 11) + rm.locals ≤ R.locals) (hroom : cl + rm.cells ≤ R.cells ∧ sl + rm.slots ≤ R.slots) (hst : st0 = As.reverse ++ .ref b :: st) (hn : As.length = 1) (hW : (st.map fun v => v.category).sum ≤ 8) (kx : ∀ (E : String) (u : va_W), pe E u → ∀ (H : Heap) (locs : List Loc) (ls : Array Slot) (q9 : Addr) (ce : Cell), va_P g.1 vwCl u H → va_D (q_A g) u → va_S (q_A g) s.heap H locs → lv_has ls nL lv → H[q9]? = some ce → ce.vm = .none → s.vm.findClass E = some ce.cls → vx_W p l e R s m args below meth c H locs (cl + rm.cells) (sl + rm.slots) Q (F0 m pc ls st) q9) (kk : ∀ (r : Int32) (u : va_W), post r u → AT p l e R s m args below meth c g nL Q (cl + rm.cells) (sl + rm.slots) (pc + 3) lv (.int r :: st) u) : AT p l e R s m args below meth c g nL Q cl sl pc lv st0 ws := q_Xi (C := RX3) (ci := 4) cx (gi_V tb_531 tb_532 tb_533 tb_1 tb_534) ⟨rfl, by decide +kernel, by decide +kernel, by decide +kernel⟩ rfl rfl hM hd q0 he hR hroom hst hn hW kx kk
theorem k_L_105 (cx : q_cx g p m c cc nL s args RL meth) {post : Int32 → va_W → Prop} {pe : String → va_W → Prop} (hM : MetX l g yX3_copy cX3_copy 2 (some .int) rm (.ref b :: As) ws (q_Qi g post) pe) (hd : decode cc pc = .ok (.invokevirtual 105, 3)) (q0 : Nat) {fs : List Value} (he : ws[q0]? = some (b, .inr (4, fs))) (hR : rm.frames + 1 ≤ R.frames ∧ 8 + (2 + 11) + rm.locals ≤ R.locals) (hroom : cl + rm.cells ≤ R.cells ∧ sl + rm.slots ≤ R.slots) (hst : st0 = As.reverse ++ .ref b :: st) (hn : As.length = 1) (hW : (st.map fun v => v.category).sum ≤ 8) (kx : ∀ (E : String) (u : va_W), pe E u → ∀ (H : Heap) (locs : List Loc) (ls : Array Slot) (q9 : Addr) (ce : Cell), va_P g.1 vwCl u H → va_D (q_A g) u → va_S (q_A g) s.heap H locs → lv_has ls nL lv → H[q9]? = some ce → ce.vm = .none → s.vm.findClass E = some ce.cls → vx_W p l e R s m args below meth c H locs (cl + rm.cells) (sl + rm.slots) Q (F0 m pc ls st) q9) (kk : ∀ (r : Int32) (u : va_W), post r u → AT p l e R s m args below meth c g nL Q (cl + rm.cells) (sl + rm.slots) (pc + 3) lv (.int r :: st) u) : AT p l e R s m args below meth c g nL Q cl sl pc lv st0 ws := q_Xi (C := RX3) (ci := 4) cx (gi_V tb_545 tb_546 tb_547 tb_1 tb_548) ⟨rfl, by decide +kernel, by decide +kernel, by decide +kernel⟩ rfl rfl hM hd q0 he hR hroom hst hn hW kx kk
theorem k_L_108 (cx : q_cx g p m c cc nL s args RL meth) {post : Int32 → va_W → Prop} {pe : String → va_W → Prop} (hM : MetX l g yX3_tell cX3_tell 4 (some .int) rm (.ref b :: As) ws (q_Qi g post) pe) (hd : decode cc pc = .ok (.invokevirtual 108, 3)) (q0 : Nat) {fs : List Value} (he : ws[q0]? = some (b, .inr (4, fs))) (hR : rm.frames + 1 ≤ R.frames ∧ 8 + (4 + 11) + rm.locals ≤ R.locals) (hroom : cl + rm.cells ≤ R.cells ∧ sl + rm.slots ≤ R.slots) (hst : st0 = As.reverse ++ .ref b :: st) (hn : As.length = 1) (hW : (st.map fun v => v.category).sum ≤ 8) (kx : ∀ (E : String) (u : va_W), pe E u → ∀ (H : Heap) (locs : List Loc) (ls : Array Slot) (q9 : Addr) (ce : Cell), va_P g.1 vwCl u H → va_D (q_A g) u → va_S (q_A g) s.heap H locs → lv_has ls nL lv → H[q9]? = some ce → ce.vm = .none → s.vm.findClass E = some ce.cls → vx_W p l e R s m args below meth c H locs (cl + rm.cells) (sl + rm.slots) Q (F0 m pc ls st) q9) (kk : ∀ (r : Int32) (u : va_W), post r u → AT p l e R s m args below meth c g nL Q (cl + rm.cells) (sl + rm.slots) (pc + 3) lv (.int r :: st) u) : AT p l e R s m args below meth c g nL Q cl sl pc lv st0 ws := q_Xi (C := RX3) (ci := 4) cx (gi_V tb_549 tb_550 tb_551 tb_1 tb_552) ⟨rfl, by decide +kernel, by decide +kernel, by decide +kernel⟩ rfl rfl hM hd q0 he hR hroom hst hn hW kx kk
theorem nw_L_11 (cx : q_cx g p m c cc nL s args RL meth) (hd : decode cc pc = .ok (.new 11, 3)) (hcells : cl + 1 ≤ R.cells) (hslots : sl + 10 ≤ R.slots) (kk : ∀ (q : Nat), AT p l e R s m args below meth c g nL Q (cl + 1) (sl + 10) (pc + 3) lv (.ref q :: st) (ws ++ [(q, .inr (4, [.null, .null, .null, .null, .null, .null, .null, .long 0, .int 0, .int 0]))])) : AT p l e R s m args below meth c g nL Q cl sl pc lv st ws := q_new (C := RX3) (T := TX3) (N := 10) cx iw_X3 tyX3 tyX3_ok tb_21 tb_22 tb_1 rfl (fun j hj => by rcases (show j = 0 ∨ j = 1 ∨ j = 2 ∨ j = 3 ∨ j = 4 ∨ j = 5 ∨ j = 6 ∨ j = 7 ∨ j = 8 ∨ j = 9 by omega) with rfl | rfl | rfl | rfl | rfl | rfl | rfl | rfl | rfl | rfl <;> rfl) hd hcells hslots kk
theorem k_L_111 (cx : q_cx g p m c cc nL s args RL meth) {post : va_W → Prop} (hM : MetW l g yX3_init cX3_init 1 none rm (.ref b :: As) ws (q_Qv g post)) (hd : decode cc pc = .ok (.invokespecial 111, 3)) (hR : rm.frames + 1 ≤ R.frames ∧ 8 + (1 + 11) + rm.locals ≤ R.locals) (hroom : cl + rm.cells ≤ R.cells ∧ sl + rm.slots ≤ R.slots) (hst : st0 = As.reverse ++ .ref b :: st) (hn : As.length = 0) (hW : (st.map fun v => v.category).sum ≤ 8) (kk : ∀ (u : va_W), post  u → AT p l e R s m args below meth c g nL Q (cl + rm.cells) (sl + rm.slots) (pc + 3) lv (st) u) : AT p l e R s m args below meth c g nL Q cl sl pc lv st0 ws := q_I cx tb_23 tb_24 tb_1 tb_25 rfl ⟨by decide +kernel, by decide +kernel, by decide +kernel⟩ hM hd hR hroom hst hn hW kk
theorem k_L_112 (cx : q_cx g p m c cc nL s args RL meth) {post : Int32 → va_W → Prop} (hM : MetW l g yL_cell cL_cell 2 (some .int) rm As ws (q_Qi g post)) (hd : decode cc pc = .ok (.invokestatic 112, 3)) (hR : rm.frames + 1 ≤ R.frames ∧ 8 + (2 + 11) + rm.locals ≤ R.locals) (hroom : cl + rm.cells ≤ R.cells ∧ sl + rm.slots ≤ R.slots) (hst : st0 = As.reverse ++ st) (hn : As.length = 2) (hW : (st.map fun v => v.category).sum ≤ 8) (kk : ∀ (r : Int32) (u : va_W), post r u → AT p l e R s m args below meth c g nL Q (cl + rm.cells) (sl + rm.slots) (pc + 3) lv (.int r :: st) u) : AT p l e R s m args below meth c g nL Q cl sl pc lv st0 ws := q_Si cx (gi_S tb_101 tb_102 tb_0 tb_103) ⟨by decide +kernel, by decide +kernel, by decide +kernel⟩ hM hd hR hroom hst hn hW kk
theorem k_L_116 (cx : q_cx g p m c cc nL s args RL meth) {post : Int32 → va_W → Prop} (hM : MetW l g yL_drafts cL_drafts 11 (some .boolean) rm As ws (q_Qi g post)) (hd : decode cc pc = .ok (.invokestatic 116, 3)) (hR : rm.frames + 1 ≤ R.frames ∧ 8 + (11 + 11) + rm.locals ≤ R.locals) (hroom : cl + rm.cells ≤ R.cells ∧ sl + rm.slots ≤ R.slots) (hst : st0 = As.reverse ++ st) (hn : As.length = 6) (hW : (st.map fun v => v.category).sum ≤ 8) (kk : ∀ (r : Int32) (u : va_W), post r u → AT p l e R s m args below meth c g nL Q (cl + rm.cells) (sl + rm.slots) (pc + 3) lv (.int r :: st) u) : AT p l e R s m args below meth c g nL Q cl sl pc lv st0 ws := q_Si cx (gi_S tb_345 tb_346 tb_0 tb_347) ⟨by decide +kernel, by decide +kernel, by decide +kernel⟩ hM hd hR hroom hst hn hW kk
theorem k_L_120 (cx : q_cx g p m c cc nL s args RL meth) {post : Int32 → va_W → Prop} (hM : MetW l g yL_rules cL_rules 11 (some .boolean) rm As ws (q_Qi g post)) (hd : decode cc pc = .ok (.invokestatic 120, 3)) (hR : rm.frames + 1 ≤ R.frames ∧ 8 + (11 + 11) + rm.locals ≤ R.locals) (hroom : cl + rm.cells ≤ R.cells ∧ sl + rm.slots ≤ R.slots) (hst : st0 = As.reverse ++ st) (hn : As.length = 8) (hW : (st.map fun v => v.category).sum ≤ 8) (kk : ∀ (r : Int32) (u : va_W), post r u → AT p l e R s m args below meth c g nL Q (cl + rm.cells) (sl + rm.slots) (pc + 3) lv (.int r :: st) u) : AT p l e R s m args below meth c g nL Q cl sl pc lv st0 ws := q_Si cx (gi_S tb_486 tb_487 tb_0 tb_488) ⟨by decide +kernel, by decide +kernel, by decide +kernel⟩ hM hd hR hroom hst hn hW kk
theorem k_L_124 (cx : q_cx g p m c cc nL s args RL meth) {post : Int32 → va_W → Prop} (hM : MetW l g yL_isSo cL_isSo 14 (some .boolean) rm As ws (q_Qi g post)) (hd : decode cc pc = .ok (.invokestatic 124, 3)) (hR : rm.frames + 1 ≤ R.frames ∧ 8 + (14 + 11) + rm.locals ≤ R.locals) (hroom : cl + rm.cells ≤ R.cells ∧ sl + rm.slots ≤ R.slots) (hst : st0 = As.reverse ++ st) (hn : As.length = 10) (hW : (st.map fun v => v.category).sum ≤ 8) (kk : ∀ (r : Int32) (u : va_W), post r u → AT p l e R s m args below meth c g nL Q (cl + rm.cells) (sl + rm.slots) (pc + 3) lv (.int r :: st) u) : AT p l e R s m args below meth c g nL Q cl sl pc lv st0 ws := q_Si cx (gi_S tb_110 tb_111 tb_0 tb_112) ⟨by decide +kernel, by decide +kernel, by decide +kernel⟩ hM hd hR hroom hst hn hW kk
end SITES
end
section
/-! numbers in a range, texts of forms, how a rule changes a form -/
def inR (x : Int32) (n : Nat) : Bool := decide (0 ≤ x.toInt ∧ x.toInt < n)
theorem i_lt (a b : Int32) : a < b ↔ a.toInt < b.toInt := Int32.lt_iff_toInt_lt
theorem i_le (a b : Int32) : a ≤ b ↔ a.toInt ≤ b.toInt := Int32.le_iff_toInt_le
theorem i_eq (a b : Int32) : a = b ↔ a.toInt = b.toInt := Int32.toInt_inj.symm
theorem i_0 : (0 : Int32).toInt = 0 := rfl
theorem inR_f1 {x : Int32} {n : Nat} (h : x < 0) : inR x n = false := by
  rw [i_lt, i_0] at h
  simp only [inR, decide_eq_false_iff_not]
  omega
theorem inR_f2 {x : Int32} {n : Nat} (hn : n < 2147483648) (h : ¬ x < nI n) : inR x n = false := by
  rw [i_lt, nI_toInt hn] at h
  simp only [inR, decide_eq_false_iff_not]
  omega
theorem inR_t {x : Int32} {n : Nat} (hn : n < 2147483648) (h : ¬ x < 0) (h2 : x < nI n) : inR x n = true := by
  rw [i_lt, nI_toInt hn] at h2
  rw [i_lt, i_0] at h
  simp only [inR, decide_eq_true_eq]
  omega
theorem inR_of {x : Int32} {n : Nat} (h : inR x n = true) (hn : n ≤ 2147483648) : ∃ j : Nat, j < n ∧ x = nI j := by
  simp only [inR, decide_eq_true_eq] at h
  refine ⟨x.toInt.toNat, by omega, ?_⟩
  rw [i_eq, nI_toInt (by omega)]
  omega
theorem inR_nI {j n : Nat} (hj : j < 2147483648) : inR (nI j) n = decide (j < n) := by
  simp only [inR, nI_toInt hj]
  by_cases h : j < n
  · rw [decide_eq_true h, decide_eq_true (by omega)]
  · rw [decide_eq_false h, decide_eq_false (by omega)]
theorem inR_mono {x : Int32} {n k : Nat} (h : inR x n = true) (hk : n ≤ k) : inR x k = true := by
  simp only [inR, decide_eq_true_eq] at h ⊢
  omega
theorem inR_10a {x : Int32} (h : x = nI 8) : inR x 10 = true := by subst h; decide
theorem inR_10b {x : Int32} (h : x = nI 9) : inR x 10 = true := by subst h; decide
theorem inR_10c {x : Int32} (h8 : ¬ x = nI 8) (h9 : ¬ x = nI 9) : inR x 10 = inR x 8 := by
  rw [i_eq, nI_toInt (by decide)] at h8 h9
  simp only [inR]
  by_cases h : 0 ≤ x.toInt ∧ x.toInt < (8 : Nat)
  · rw [decide_eq_true h, decide_eq_true (by omega)]
  · rw [decide_eq_false h, decide_eq_false (by omega)]
/-- a bit of a set -/
def hasB (t b : Int64) : Bool := !decide (t &&& b = 0)
theorem lcmp_z (x y : Int64) : lg_cmp x y = 0 ↔ x = y := by
  unfold lg_cmp
  split
  · rename_i h
    constructor
    · intro z; exact absurd z (by decide)
    · intro z; subst z; exact absurd h (by simp [Int64.lt_iff_toInt_lt])
  · split
    · rename_i h1 h2
      simp_all
    · rename_i h1 h2
      constructor
      · intro z; exact absurd z (by decide)
      · intro z; subst z; exact absurd rfl h2
theorem hasB_f {t b : Int64} (h : lg_cmp (t &&& b) 0 = 0) : hasB t b = false := by rw [hasB, decide_eq_true ((lcmp_z _ _).mp h)]; rfl
theorem hasB_t {t b : Int64} (h : ¬ lg_cmp (t &&& b) 0 = 0) : hasB t b = true := by rw [hasB, decide_eq_false (fun z => h ((lcmp_z _ _).mpr z))]; rfl
/-- the objects' cells -/
def oI (bt : Int64) (i p y w f : Int32) : va_E := .inr (1, [.long bt, .int i, .int p, .int y, .int w, .int f])
def oR (s t b f l y : Int32) (gr : Int64) (fa : Bool) : va_E := .inr (2, [.int s, .int t, .int b, .int f, .int l, .int y, .long gr, .int (bI fa)])
/-- the number of a form -/
def num (l : List Nat) : Nat := l.foldl (fun a s => 9 * a + s + 1) 0
theorem num_nil : num [] = 0 := rfl
theorem num_snoc (l : List Nat) (s : Nat) : num (l ++ [s]) = 9 * num l + s + 1 := by simp [num, List.foldl_append]
theorem num_fold (a : Nat) (l : List Nat) : l.foldl (fun a s => 9 * a + s + 1) a = a * 9 ^ l.length + num l := by
  induction l generalizing a with
  | nil => simp [num]
  | cons x xs ih =>
    have e : num (x :: xs) = (9 * 0 + x + 1) * 9 ^ xs.length + num xs := by rw [← ih]; rfl
    rw [List.foldl_cons, ih, e, List.length_cons, Nat.pow_succ]
    simp only [Nat.mul_zero, Nat.zero_add, Nat.add_mul, Nat.one_mul]
    have : 9 * a * 9 ^ xs.length = a * (9 ^ xs.length * 9) := by rw [Nat.mul_comm 9 a, Nat.mul_assoc, Nat.mul_comm 9]
    omega
theorem num_cons (x : Nat) (l : List Nat) : num (x :: l) = (x + 1) * 9 ^ l.length + num l := by
  rw [num, List.foldl_cons, num_fold]
  simp
theorem num_app (a b : List Nat) : num (a ++ b) = num a * 9 ^ b.length + num b := by rw [num, List.foldl_append, ← num, num_fold]
/-- a row of sounds -/
def snd (l : List Nat) : Prop := ∀ x ∈ l, x < 8
theorem snd_nil : snd [] := fun _ h => by cases h
theorem snd_cons {x : Nat} {l : List Nat} : snd (x :: l) ↔ x < 8 ∧ snd l := by simp [snd]
theorem snd_app {a b : List Nat} : snd (a ++ b) ↔ snd a ∧ snd b := by
  simp only [snd, List.mem_append]
  exact ⟨fun h => ⟨fun x hx => h x (Or.inl hx), fun x hx => h x (Or.inr hx)⟩, fun h x hx => hx.elim (h.1 x) (h.2 x)⟩
theorem num_lt (l : List Nat) (h : snd l) : num l < 9 ^ l.length := by
  induction l with
  | nil => simp [num]
  | cons x xs ih =>
    have h1 := ih (snd_cons.mp h).2
    have h2 : (x + 1) * 9 ^ xs.length ≤ 8 * 9 ^ xs.length := Nat.mul_le_mul_right _ (by have := (snd_cons.mp h).1; omega)
    rw [num_cons, List.length_cons, Nat.pow_succ]
    omega
theorem p9 {n : Nat} (h : n ≤ 8) : 9 ^ n ≤ 43046721 := Nat.pow_le_pow_right (n := 9) (by decide) h
theorem num_bd {l : List Nat} (h : snd l) (hl : l.length ≤ 8) : num l < 43046721 := Nat.lt_of_lt_of_le (num_lt l h) (p9 hl)
theorem num_pos {l : List Nat} (h : l ≠ []) : 0 < num l := by
  cases l with
  | nil => exact absurd rfl h
  | cons x xs =>
    rw [num_cons]
    have : 0 < 9 ^ xs.length := Nat.pow_pos (by decide)
    have : 1 * 9 ^ xs.length ≤ (x + 1) * 9 ^ xs.length := Nat.mul_le_mul_right _ (by omega)
    omega
theorem num_zero {l : List Nat} : num l = 0 ↔ l = [] := ⟨fun h => Classical.byContradiction fun z => by have := num_pos z; omega, fun h => by rw [h]; rfl⟩
/-- what stands behind, in a rest of a form -/
def fol (l : List Nat) : Nat := l.headD 8
def chg (so : Nat) (be : Nat) (x f : Nat) : Bool := decide (x = so) && (decide (be = 9) || decide (be = f))
def pce (so : Nat) (to : Option Nat) (be : Nat) (x f : Nat) : List Nat := if chg so be x f then to.toList else [x]
def apL (so : Nat) (to : Option Nat) (be : Nat) : List Nat → List Nat
  | [] => []
  | x :: xs => pce so to be x (fol xs) ++ apL so to be xs
def apR (so : Nat) (to : Option Nat) (be : Nat) (l : List Nat) : List Nat := if apL so to be l = [] then l else apL so to be l
theorem apL_len (so : Nat) (to : Option Nat) (be : Nat) (l : List Nat) : (apL so to be l).length ≤ l.length := by
  induction l with
  | nil => exact Nat.le_refl _
  | cons x xs ih =>
    have : (pce so to be x (fol xs)).length ≤ 1 := by
      unfold pce
      split
      · cases to <;> simp
      · simp
    simp only [apL, List.length_append, List.length_cons]
    omega
theorem apL_snd {so : Nat} {to : Option Nat} {be : Nat} {l : List Nat} (ht : ∀ t, to = some t → t < 8) (h : snd l) : snd (apL so to be l) := by
  induction l with
  | nil => exact snd_nil
  | cons x xs ih =>
    have h2 := snd_cons.mp h
    refine snd_app.mpr ⟨?_, ih h2.2⟩
    unfold pce
    split
    · cases to with
      | none => exact snd_nil
      | some t => exact snd_cons.mpr ⟨ht t rfl, snd_nil⟩
    · exact snd_cons.mpr ⟨h2.1, snd_nil⟩
theorem apR_len (so : Nat) (to : Option Nat) (be : Nat) (l : List Nat) : (apR so to be l).length ≤ l.length := by
  unfold apR
  split
  · exact Nat.le_refl _
  · exact apL_len so to be l
theorem apR_snd {so : Nat} {to : Option Nat} {be : Nat} {l : List Nat} (ht : ∀ t, to = some t → t < 8) (h : snd l) : snd (apR so to be l) := by
  unfold apR
  split
  · exact h
  · exact apL_snd ht h
theorem apR_ne {so : Nat} {to : Option Nat} {be : Nat} {l : List Nat} (h : l ≠ []) : apR so to be l ≠ [] := by
  unfold apR
  split
  · exact h
  · assumption
def toI : Option Nat → Int32
  | none => -1
  | some t => nI t
theorem nI_inj {a b : Nat} (ha : a < 2147483648) (hb : b < 2147483648) : nI a = nI b ↔ a = b := nI_eq ha hb
theorem nI_nm1 {a : Nat} (ha : a < 2147483648) : nI a ≠ -1 := by
  rw [Ne, i_eq, nI_toInt ha]
  have : (-1 : Int32).toInt = -1 := rfl
  omega
end
section
set_option maxHeartbeats 4000000 in
set_option maxRecDepth 100000 in
theorem c_isOutside (l : Launch) (g : q_G) (ws : va_W) (x : Int32) (n : Nat) (hn : n < 2147483648) : MetW l g yX3_isOutside cX3_isOutside 2 (some .boolean) ({ frames := 0, cells := 0, slots := 0, locals := 0 } : Room) [.int x, .int (nI n)] (ws) (q_Qi g (fun r w => r = bI (!inR x n) ∧ w = ws)) := by
  refine q_met (own := RX3) (by decide +kernel) rfl (Nat.le_of_ble_eq_true rfl) (fun p e s m args below meth c cx hr hnm => ?_)
  refine r_lv (lv2 := [(0, .int x), (1, .int (nI n))]) (q_pk [0, 1] rfl) ?_
  refine r_iload_n cx dX3_isOutside_0 rfl rfl ?_
  refine r_iflt (tgt := 9) cx dX3_isOutside_1 (by decide) (fun h_1 => ?_) (fun h_1 => ?_)
  · skip
    refine r_iconst (v := nI 1) cx dX3_isOutside_9 (by decide) ?_
    refine r_goto (tgt := 14) cx dX3_isOutside_10 (by decide) ?_
    exact r_zret cx dX3_isOutside_14 hr rfl (⟨by first | (rw [inR_f1 h_1]; rfl) | (rw [inR_f2 hn h_6]; rfl) | (rw [inR_t hn h_1 h_6]; rfl), rfl⟩) (Nat.le_of_ble_eq_true rfl) (Nat.le_of_ble_eq_true rfl)
  · skip
    refine r_iload_n cx dX3_isOutside_4 rfl rfl ?_
    refine r_iload_n cx dX3_isOutside_5 rfl rfl ?_
    refine r_icmplt (tgt := 13) cx dX3_isOutside_6 (by decide) (fun h_6 => ?_) (fun h_6 => ?_)
    · skip
      refine r_iconst (v := nI 0) cx dX3_isOutside_13 (by decide) ?_
      exact r_zret cx dX3_isOutside_14 hr rfl (⟨by first | (rw [inR_f1 h_1]; rfl) | (rw [inR_f2 hn h_6]; rfl) | (rw [inR_t hn h_1 h_6]; rfl), rfl⟩) (Nat.le_of_ble_eq_true rfl) (Nat.le_of_ble_eq_true rfl)
    · skip
      refine r_iconst (v := nI 1) cx dX3_isOutside_9 (by decide) ?_
      refine r_goto (tgt := 14) cx dX3_isOutside_10 (by decide) ?_
      exact r_zret cx dX3_isOutside_14 hr rfl (⟨by first | (rw [inR_f1 h_1]; rfl) | (rw [inR_f2 hn h_6]; rfl) | (rw [inR_t hn h_1 h_6]; rfl), rfl⟩) (Nat.le_of_ble_eq_true rfl) (Nat.le_of_ble_eq_true rfl)
set_option maxHeartbeats 4000000 in
set_option maxRecDepth 100000 in
theorem c_canStandBehind (l : Launch) (g : q_G) (ws : va_W) (x : Int32) : MetW l g yX3_canStandBehind cX3_canStandBehind 1 (some .boolean) ({ frames := 1, cells := 0, slots := 0, locals := 21 } : Room) [.int x] (ws) (q_Qi g (fun r w => r = bI (inR x 10) ∧ w = ws)) := by
  refine q_met (own := RX3) (by decide +kernel) rfl (Nat.le_of_ble_eq_true rfl) (fun p e s m args below meth c cx hr hnm => ?_)
  refine r_lv (lv2 := [(0, .int x)]) (q_pk [0] rfl) ?_
  refine r_iload_n cx dX3_canStandBehind_0 rfl rfl ?_
  refine r_bipush (v := nI 8) cx dX3_canStandBehind_1 (by decide) ?_
  refine r_icmpeq (tgt := 21) cx dX3_canStandBehind_3 (by decide) (fun h_3 => ?_) (fun h_3 => ?_)
  · skip
    refine r_iconst (v := nI 1) cx dX3_canStandBehind_21 (by decide) ?_
    refine r_goto (tgt := 26) cx dX3_canStandBehind_22 (by decide) ?_
    exact r_zret cx dX3_canStandBehind_26 hr rfl (⟨by first | (rw [inR_10a h_3]; rfl) | (rw [inR_10b h_9]; rfl) | (rw [inR_10c h_3 h_9, (by simpa using h_18 : inR x 8 = true)]; rfl) | (rw [inR_10c h_3 h_9, (by simpa using h_18 : inR x 8 = false)]; rfl), rfl⟩) (Nat.le_of_ble_eq_true rfl) (Nat.le_of_ble_eq_true rfl)
  · skip
    refine r_iload_n cx dX3_canStandBehind_6 rfl rfl ?_
    refine r_bipush (v := nI 9) cx dX3_canStandBehind_7 (by decide) ?_
    refine r_icmpeq (tgt := 21) cx dX3_canStandBehind_9 (by decide) (fun h_9 => ?_) (fun h_9 => ?_)
    · skip
      refine r_iconst (v := nI 1) cx dX3_canStandBehind_21 (by decide) ?_
      refine r_goto (tgt := 26) cx dX3_canStandBehind_22 (by decide) ?_
      exact r_zret cx dX3_canStandBehind_26 hr rfl (⟨by first | (rw [inR_10a h_3]; rfl) | (rw [inR_10b h_9]; rfl) | (rw [inR_10c h_3 h_9, (by simpa using h_18 : inR x 8 = true)]; rfl) | (rw [inR_10c h_3 h_9, (by simpa using h_18 : inR x 8 = false)]; rfl), rfl⟩) (Nat.le_of_ble_eq_true rfl) (Nat.le_of_ble_eq_true rfl)
    · skip
      refine r_iload_n cx dX3_canStandBehind_12 rfl rfl ?_
      refine r_bipush (v := nI 8) cx dX3_canStandBehind_13 (by decide) ?_
      refine k_X3_57 cx (c_isOutside l g _ x 8 (by decide)) dX3_canStandBehind_15 ⟨Nat.le_of_ble_eq_true rfl, Nat.le_of_ble_eq_true rfl⟩ ⟨Nat.le_of_ble_eq_true rfl, Nat.le_of_ble_eq_true rfl⟩ rfl rfl (Nat.le_of_ble_eq_true rfl) (fun r w hp => ?_)
      obtain ⟨rfl, rfl⟩ := hp
      refine r_ifneb (tgt := 25) cx dX3_canStandBehind_18 (by decide) (fun h_18 => ?_) (fun h_18 => ?_)
      · skip
        refine r_iconst (v := nI 0) cx dX3_canStandBehind_25 (by decide) ?_
        exact r_zret cx dX3_canStandBehind_26 hr rfl (⟨by first | (rw [inR_10a h_3]; rfl) | (rw [inR_10b h_9]; rfl) | (rw [inR_10c h_3 h_9, (by simpa using h_18 : inR x 8 = true)]; rfl) | (rw [inR_10c h_3 h_9, (by simpa using h_18 : inR x 8 = false)]; rfl), rfl⟩) (Nat.le_of_ble_eq_true rfl) (Nat.le_of_ble_eq_true rfl)
      · skip
        refine r_iconst (v := nI 1) cx dX3_canStandBehind_21 (by decide) ?_
        refine r_goto (tgt := 26) cx dX3_canStandBehind_22 (by decide) ?_
        exact r_zret cx dX3_canStandBehind_26 hr rfl (⟨by first | (rw [inR_10a h_3]; rfl) | (rw [inR_10b h_9]; rfl) | (rw [inR_10c h_3 h_9, (by simpa using h_18 : inR x 8 = true)]; rfl) | (rw [inR_10c h_3 h_9, (by simpa using h_18 : inR x 8 = false)]; rfl), rfl⟩) (Nat.le_of_ble_eq_true rfl) (Nat.le_of_ble_eq_true rfl)
set_option maxHeartbeats 4000000 in
set_option maxRecDepth 100000 in
theorem c_takeDraft (l : Launch) (g : q_G) (wr : va_W) (a0 : Nat) (r0 r1 r2 r3 r4 r5 r6 : Value) (th : Int64) (dr dl : Int32) : MetW l g yX3_takeDraft cX3_takeDraft 2 (some .int) ({ frames := 0, cells := 0, slots := 0, locals := 0 } : Room) [.ref a0] ((a0, .inr (4, [r0, r1, r2, r3, r4, r5, r6, .long th, .int dr, .int dl])) :: wr) (q_Qi g (fun r w => r = dr ∧ w = (a0, .inr (4, [r0, r1, r2, r3, r4, r5, r6, .long th, .int 0, .int 0])) :: wr)) := by
  refine q_met (own := RX3) (by decide +kernel) rfl (Nat.le_of_ble_eq_true rfl) (fun p e s m args below meth c cx hr hnm => ?_)
  refine r_lv (lv2 := [(0, .ref a0)]) (q_pk [0] rfl) ?_
  refine r_aload_n cx dX3_takeDraft_0 rfl rfl ?_
  refine gf_X3_44 cx dX3_takeDraft_1 0 rfl rfl ?_
  refine r_istore_n cx dX3_takeDraft_4 rfl (by decide) rfl ?_
  refine r_aload_n cx dX3_takeDraft_5 rfl rfl ?_
  refine r_iconst (v := 0) cx dX3_takeDraft_6 (by decide) ?_
  refine pf_X3_44 cx dX3_takeDraft_7 0 rfl (Nat.le_of_ble_eq_true rfl) ?_
  refine r_aload_n cx dX3_takeDraft_10 rfl rfl ?_
  refine r_iconst (v := 0) cx dX3_takeDraft_11 (by decide) ?_
  refine pf_X3_48 cx dX3_takeDraft_12 0 rfl (Nat.le_of_ble_eq_true rfl) ?_
  refine r_iload_n cx dX3_takeDraft_15 rfl rfl ?_
  exact r_iret cx dX3_takeDraft_16 hr (⟨rfl, rfl⟩) (Nat.le_of_ble_eq_true rfl) (Nat.le_of_ble_eq_true rfl)
set_option maxHeartbeats 4000000 in
set_option maxRecDepth 100000 in
theorem c_isThere (l : Launch) (g : q_G) (ws : va_W) (q0 q1 a0 a1 : Nat) (r0 r1 r2 r3 r4 r5 r6 : Value) (th : Int64) (dr dl : Int32) (bt : Int64) (inf pl yr wd fo : Int32) (h0 : ws[q0]? = some (a0, .inr (4, [r0, r1, r2, r3, r4, r5, r6, .long th, .int dr, .int dl]))) (h1 : ws[q1]? = some (a1, oI bt inf pl yr wd fo)) : MetW l g yX3_isThere cX3_isThere 2 (some .boolean) ({ frames := 0, cells := 0, slots := 0, locals := 0 } : Room) [.ref a0, .ref a1] (ws) (q_Qi g (fun r w => r = bI (hasB th bt) ∧ w = ws)) := by
  refine q_met (own := RX3) (by decide +kernel) rfl (Nat.le_of_ble_eq_true rfl) (fun p e s m args below meth c cx hr hnm => ?_)
  refine r_lv (lv2 := [(0, .ref a0), (1, .ref a1)]) (q_pk [0, 1] rfl) ?_
  refine r_aload_n cx dX3_isThere_0 rfl rfl ?_
  refine gf_X3_40 cx dX3_isThere_1 q0 h0 rfl ?_
  refine r_aload_n cx dX3_isThere_4 rfl rfl ?_
  refine gf_X3_151 cx dX3_isThere_5 q1 h1 rfl ?_
  refine r_land cx dX3_isThere_8 ?_
  refine r_lconst (v := 0) cx dX3_isThere_9 rfl ?_
  refine r_lcmp cx dX3_isThere_10 ?_
  refine r_ifeq (tgt := 18) cx dX3_isThere_11 (by decide) (fun h_11 => ?_) (fun h_11 => ?_)
  · skip
    refine r_iconst (v := nI 0) cx dX3_isThere_18 (by decide) ?_
    exact r_zret cx dX3_isThere_19 hr rfl (⟨by first | (rw [hasB_f h_11]; rfl) | (rw [hasB_t h_11]; rfl), rfl⟩) (Nat.le_of_ble_eq_true rfl) (Nat.le_of_ble_eq_true rfl)
  · skip
    refine r_iconst (v := nI 1) cx dX3_isThere_14 (by decide) ?_
    refine r_goto (tgt := 19) cx dX3_isThere_15 (by decide) ?_
    exact r_zret cx dX3_isThere_19 hr rfl (⟨by first | (rw [hasB_f h_11]; rfl) | (rw [hasB_t h_11]; rfl), rfl⟩) (Nat.le_of_ble_eq_true rfl) (Nat.le_of_ble_eq_true rfl)
set_option maxHeartbeats 4000000 in
set_option maxRecDepth 100000 in
theorem c_formIfThere (l : Launch) (g : q_G) (ws : va_W) (q0 q1 a0 a1 : Nat) (r0 r1 r2 r3 r4 r5 r6 : Value) (th : Int64) (dr dl : Int32) (bt : Int64) (inf pl yr wd fo : Int32) (h0 : ws[q0]? = some (a0, .inr (4, [r0, r1, r2, r3, r4, r5, r6, .long th, .int dr, .int dl]))) (h1 : ws[q1]? = some (a1, oI bt inf pl yr wd fo)) : MetW l g yX3_formIfThere cX3_formIfThere 2 (some .int) ({ frames := 1, cells := 0, slots := 0, locals := 21 } : Room) [.ref a0, .ref a1] (ws) (q_Qi g (fun r w => r = (if hasB th bt then fo else -1) ∧ w = ws)) := by
  refine q_met (own := RX3) (by decide +kernel) rfl (Nat.le_of_ble_eq_true rfl) (fun p e s m args below meth c cx hr hnm => ?_)
  refine r_lv (lv2 := [(0, .ref a0), (1, .ref a1)]) (q_pk [0, 1] rfl) ?_
  refine r_aload_n cx dX3_formIfThere_0 rfl rfl ?_
  refine r_aload_n cx dX3_formIfThere_1 rfl rfl ?_
  refine k_X3_139 cx (c_isThere l g ws q0 q1 a0 a1 r0 r1 r2 r3 r4 r5 r6 th dr dl bt inf pl yr wd fo h0 h1) dX3_formIfThere_2 q0 h0 ⟨Nat.le_of_ble_eq_true rfl, Nat.le_of_ble_eq_true rfl⟩ ⟨Nat.le_of_ble_eq_true rfl, Nat.le_of_ble_eq_true rfl⟩ rfl rfl (Nat.le_of_ble_eq_true rfl) (fun r w hp => ?_)
  obtain ⟨rfl, rfl⟩ := hp
  refine r_ifeqb (tgt := 15) cx dX3_formIfThere_5 (by decide) (fun h_5 => ?_) (fun h_5 => ?_)
  · skip
    refine r_iconst (v := -1) cx dX3_formIfThere_15 (by decide) ?_
    exact r_iret cx dX3_formIfThere_16 hr (⟨by rw [h_5]; rfl, rfl⟩) (Nat.le_of_ble_eq_true rfl) (Nat.le_of_ble_eq_true rfl)
  · skip
    refine r_aload_n cx dX3_formIfThere_8 rfl rfl ?_
    refine gf_X3_171 cx dX3_formIfThere_9 q1 h1 rfl ?_
    refine r_goto (tgt := 16) cx dX3_formIfThere_12 (by decide) ?_
    exact r_iret cx dX3_formIfThere_16 hr (⟨by rw [h_5]; rfl, rfl⟩) (Nat.le_of_ble_eq_true rfl) (Nat.le_of_ble_eq_true rfl)
set_option maxHeartbeats 4000000 in
set_option maxRecDepth 100000 in
theorem c_isFor (l : Launch) (g : q_G) (ws : va_W) (q1 a1 : Nat) (bt : Int64) (inf pl yr wd fo : Int32) (w0 p0 : Int32) (h1 : ws[q1]? = some (a1, oI bt inf pl yr wd fo)) : MetW l g yX0_isFor cX0_isFor 3 (some .boolean) ({ frames := 0, cells := 0, slots := 0, locals := 0 } : Room) [.ref a1, .int w0, .int p0] (ws) (q_Qi g (fun r w => r = bI (decide (wd = w0) && decide (pl = p0)) ∧ w = ws)) := by
  refine q_met (own := RX0) (by decide +kernel) rfl (Nat.le_of_ble_eq_true rfl) (fun p e s m args below meth c cx hr hnm => ?_)
  refine r_lv (lv2 := [(0, .ref a1), (1, .int w0), (2, .int p0)]) (q_pk [0, 1, 2] rfl) ?_
  refine r_aload_n cx dX0_isFor_0 rfl rfl ?_
  refine gf_X0_23 cx dX0_isFor_1 q1 h1 rfl ?_
  refine r_iload_n cx dX0_isFor_4 rfl rfl ?_
  refine r_icmpne (tgt := 20) cx dX0_isFor_5 (by decide) (fun h_5 => ?_) (fun h_5 => ?_)
  · skip
    refine r_iconst (v := nI 0) cx dX0_isFor_20 (by decide) ?_
    exact r_zret cx dX0_isFor_21 hr rfl (⟨by first | (rw [decide_eq_false h_5]; rfl) | (rw [decide_eq_true h_5, decide_eq_false h_13]; rfl) | (rw [decide_eq_true h_5, decide_eq_true h_13]; rfl), rfl⟩) (Nat.le_of_ble_eq_true rfl) (Nat.le_of_ble_eq_true rfl)
  · skip
    refine r_aload_n cx dX0_isFor_8 rfl rfl ?_
    refine gf_X0_17 cx dX0_isFor_9 q1 h1 rfl ?_
    refine r_iload_n cx dX0_isFor_12 rfl rfl ?_
    refine r_icmpne (tgt := 20) cx dX0_isFor_13 (by decide) (fun h_13 => ?_) (fun h_13 => ?_)
    · skip
      refine r_iconst (v := nI 0) cx dX0_isFor_20 (by decide) ?_
      exact r_zret cx dX0_isFor_21 hr rfl (⟨by first | (rw [decide_eq_false h_5]; rfl) | (rw [decide_eq_true h_5, decide_eq_false h_13]; rfl) | (rw [decide_eq_true h_5, decide_eq_true h_13]; rfl), rfl⟩) (Nat.le_of_ble_eq_true rfl) (Nat.le_of_ble_eq_true rfl)
    · skip
      refine r_iconst (v := nI 1) cx dX0_isFor_16 (by decide) ?_
      refine r_goto (tgt := 21) cx dX0_isFor_17 (by decide) ?_
      exact r_zret cx dX0_isFor_21 hr rfl (⟨by first | (rw [decide_eq_false h_5]; rfl) | (rw [decide_eq_true h_5, decide_eq_false h_13]; rfl) | (rw [decide_eq_true h_5, decide_eq_true h_13]; rfl), rfl⟩) (Nat.le_of_ble_eq_true rfl) (Nat.le_of_ble_eq_true rfl)
set_option maxHeartbeats 4000000 in
set_option maxRecDepth 100000 in
theorem c_Interview (l : Launch) (g : q_G) (wr : va_W) (a0 : Nat) (bt : Int64) (inf pl yr wd fo : Int32) : MetW l g yX0_init cX0_init 8 none ({ frames := 1, cells := 0, slots := 0, locals := 20 } : Room) [.ref a0, .long bt, .int inf, .int pl, .int yr, .int wd, .int fo] ((a0, .inr (1, [.long 0, .int 0, .int 0, .int 0, .int 0, .int 0])) :: wr) (q_Qv g (fun w => w = (a0, oI bt inf pl yr wd fo) :: wr)) := by
  refine q_met (own := RX0) (by decide +kernel) rfl (Nat.le_of_ble_eq_true rfl) (fun p e s m args below meth c cx hr hnm => ?_)
  refine r_lv (lv2 := [(0, .ref a0), (1, .long bt), (3, .int inf), (4, .int pl), (5, .int yr), (6, .int wd), (7, .int fo)]) (q_pk [0, 1, 2, 3, 4, 5, 6] rfl) ?_
  refine r_aload_n cx dX0_init_0 rfl rfl ?_
  refine r_objInit cx tb_386 tb_27 tb_28 dX0_init_1 (Nat.le_of_ble_eq_true rfl) (Nat.le_of_ble_eq_true rfl) ?_
  refine r_aload_n cx dX0_init_4 rfl rfl ?_
  refine r_lload_n cx dX0_init_5 rfl rfl ?_
  refine pf_X0_7 cx hnm dX0_init_6 0 rfl (Nat.le_of_ble_eq_true rfl) ?_
  refine r_aload_n cx dX0_init_9 rfl rfl ?_
  refine r_iload_n cx dX0_init_10 rfl rfl ?_
  refine pf_X0_13 cx hnm dX0_init_11 0 rfl (Nat.le_of_ble_eq_true rfl) ?_
  refine r_aload_n cx dX0_init_14 rfl rfl ?_
  refine r_iload cx dX0_init_15 rfl ?_
  refine pf_X0_17 cx hnm dX0_init_17 0 rfl (Nat.le_of_ble_eq_true rfl) ?_
  refine r_aload_n cx dX0_init_20 rfl rfl ?_
  refine r_iload cx dX0_init_21 rfl ?_
  refine pf_X0_20 cx hnm dX0_init_23 0 rfl (Nat.le_of_ble_eq_true rfl) ?_
  refine r_aload_n cx dX0_init_26 rfl rfl ?_
  refine r_iload cx dX0_init_27 rfl ?_
  refine pf_X0_23 cx hnm dX0_init_29 0 rfl (Nat.le_of_ble_eq_true rfl) ?_
  refine r_aload_n cx dX0_init_32 rfl rfl ?_
  refine r_iload cx dX0_init_33 rfl ?_
  refine pf_X0_26 cx hnm dX0_init_35 0 rfl (Nat.le_of_ble_eq_true rfl) ?_
  exact r_vret cx dX0_init_38 hr (rfl) (Nat.le_of_ble_eq_true rfl) (Nat.le_of_ble_eq_true rfl)
set_option maxHeartbeats 4000000 in
set_option maxRecDepth 100000 in
theorem c_Rule (l : Launch) (g : q_G) (wr : va_W) (a0 : Nat) (so to be fi la yr : Int32) : MetW l g yX1_init cX1_init 7 none ({ frames := 1, cells := 0, slots := 0, locals := 20 } : Room) [.ref a0, .int so, .int to, .int be, .int fi, .int la, .int yr] ((a0, .inr (2, [.int 0, .int 0, .int 0, .int 0, .int 0, .int 0, .long 0, .int 0])) :: wr) (q_Qv g (fun w => w = (a0, oR so to be fi la yr 0 false) :: wr)) := by
  refine q_met (own := RX1) (by decide +kernel) rfl (Nat.le_of_ble_eq_true rfl) (fun p e s m args below meth c cx hr hnm => ?_)
  refine r_lv (lv2 := [(0, .ref a0), (1, .int so), (2, .int to), (3, .int be), (4, .int fi), (5, .int la), (6, .int yr)]) (q_pk [0, 1, 2, 3, 4, 5, 6] rfl) ?_
  refine r_aload_n cx dX1_init_0 rfl rfl ?_
  refine r_objInit cx tb_503 tb_27 tb_28 dX1_init_1 (Nat.le_of_ble_eq_true rfl) (Nat.le_of_ble_eq_true rfl) ?_
  refine r_aload_n cx dX1_init_4 rfl rfl ?_
  refine r_lconst (v := 0) cx dX1_init_5 rfl ?_
  refine pf_X1_9 cx dX1_init_6 0 rfl (Nat.le_of_ble_eq_true rfl) ?_
  refine r_aload_n cx dX1_init_9 rfl rfl ?_
  refine r_iconst (v := bI false) cx dX1_init_10 (by decide) ?_
  refine pf_X1_15 cx dX1_init_11 0 rfl (Nat.le_of_ble_eq_true rfl) ?_
  refine r_aload_n cx dX1_init_14 rfl rfl ?_
  refine r_iload_n cx dX1_init_15 rfl rfl ?_
  refine pf_X1_19 cx hnm dX1_init_16 0 rfl (Nat.le_of_ble_eq_true rfl) ?_
  refine r_aload_n cx dX1_init_19 rfl rfl ?_
  refine r_iload_n cx dX1_init_20 rfl rfl ?_
  refine pf_X1_23 cx hnm dX1_init_21 0 rfl (Nat.le_of_ble_eq_true rfl) ?_
  refine r_aload_n cx dX1_init_24 rfl rfl ?_
  refine r_iload_n cx dX1_init_25 rfl rfl ?_
  refine pf_X1_26 cx hnm dX1_init_26 0 rfl (Nat.le_of_ble_eq_true rfl) ?_
  refine r_aload_n cx dX1_init_29 rfl rfl ?_
  refine r_iload cx dX1_init_30 rfl ?_
  refine pf_X1_29 cx hnm dX1_init_32 0 rfl (Nat.le_of_ble_eq_true rfl) ?_
  refine r_aload_n cx dX1_init_35 rfl rfl ?_
  refine r_iload cx dX1_init_36 rfl ?_
  refine pf_X1_32 cx hnm dX1_init_38 0 rfl (Nat.le_of_ble_eq_true rfl) ?_
  refine r_aload_n cx dX1_init_41 rfl rfl ?_
  refine r_iload cx dX1_init_42 rfl ?_
  refine pf_X1_35 cx hnm dX1_init_44 0 rfl (Nat.le_of_ble_eq_true rfl) ?_
  exact r_vret cx dX1_init_47 hr (rfl) (Nat.le_of_ble_eq_true rfl) (Nat.le_of_ble_eq_true rfl)
set_option maxHeartbeats 4000000 in
set_option maxRecDepth 100000 in
theorem c_restsOn (l : Launch) (g : q_G) (ws : va_W) (q0 q1 a0 a1 : Nat) (so to be fi la yr : Int32) (gr : Int64) (fa : Bool) (bt : Int64) (inf pl iy wd fo : Int32) (h0 : ws[q0]? = some (a0, oR so to be fi la yr gr fa)) (h1 : ws[q1]? = some (a1, oI bt inf pl iy wd fo)) : MetW l g yX1_restsOn cX1_restsOn 2 (some .boolean) ({ frames := 0, cells := 0, slots := 0, locals := 0 } : Room) [.ref a0, .ref a1] (ws) (q_Qi g (fun r w => r = bI (hasB gr bt) ∧ w = ws)) := by
  refine q_met (own := RX1) (by decide +kernel) rfl (Nat.le_of_ble_eq_true rfl) (fun p e s m args below meth c cx hr hnm => ?_)
  refine r_lv (lv2 := [(0, .ref a0), (1, .ref a1)]) (q_pk [0, 1] rfl) ?_
  refine r_aload_n cx dX1_restsOn_0 rfl rfl ?_
  refine gf_X1_9 cx dX1_restsOn_1 q0 h0 rfl ?_
  refine r_aload_n cx dX1_restsOn_4 rfl rfl ?_
  refine gf_X1_38 cx dX1_restsOn_5 q1 h1 rfl ?_
  refine r_land cx dX1_restsOn_8 ?_
  refine r_lconst (v := 0) cx dX1_restsOn_9 rfl ?_
  refine r_lcmp cx dX1_restsOn_10 ?_
  refine r_ifeq (tgt := 18) cx dX1_restsOn_11 (by decide) (fun h_11 => ?_) (fun h_11 => ?_)
  · skip
    refine r_iconst (v := nI 0) cx dX1_restsOn_18 (by decide) ?_
    exact r_zret cx dX1_restsOn_19 hr rfl (⟨by first | (rw [hasB_f h_11]; rfl) | (rw [hasB_t h_11]; rfl), rfl⟩) (Nat.le_of_ble_eq_true rfl) (Nat.le_of_ble_eq_true rfl)
  · skip
    refine r_iconst (v := nI 1) cx dX1_restsOn_14 (by decide) ?_
    refine r_goto (tgt := 19) cx dX1_restsOn_15 (by decide) ?_
    exact r_zret cx dX1_restsOn_19 hr rfl (⟨by first | (rw [hasB_f h_11]; rfl) | (rw [hasB_t h_11]; rfl), rfl⟩) (Nat.le_of_ble_eq_true rfl) (Nat.le_of_ble_eq_true rfl)
set_option maxHeartbeats 4000000 in
set_option maxRecDepth 100000 in
theorem c_restNoMoreOn (l : Launch) (g : q_G) (wr : va_W) (a0 : Nat) (so to be fi la yr : Int32) (gr : Int64) (fa : Bool) (fg : Int64) : MetW l g yX1_restNoMoreOn cX1_restNoMoreOn 3 none ({ frames := 0, cells := 0, slots := 0, locals := 0 } : Room) [.ref a0, .long fg] ((a0, oR so to be fi la yr gr fa) :: wr) (q_Qv g (fun w => w = (a0, oR so to be fi la yr (if hasB gr fg then gr &&& (fg ^^^ (-1)) else gr) (if hasB gr fg then decide (gr &&& (fg ^^^ (-1)) = 0) else fa)) :: wr)) := by
  refine q_met (own := RX1) (by decide +kernel) rfl (Nat.le_of_ble_eq_true rfl) (fun p e s m args below meth c cx hr hnm => ?_)
  refine r_lv (lv2 := [(0, .ref a0), (1, .long fg)]) (q_pk [0, 1] rfl) ?_
  refine r_aload_n cx dX1_restNoMoreOn_0 rfl rfl ?_
  refine gf_X1_9 cx dX1_restNoMoreOn_1 0 rfl rfl ?_
  refine r_lload_n cx dX1_restNoMoreOn_4 rfl rfl ?_
  refine r_land cx dX1_restNoMoreOn_5 ?_
  refine r_lconst (v := 0) cx dX1_restNoMoreOn_6 rfl ?_
  refine r_lcmp cx dX1_restNoMoreOn_7 ?_
  refine r_ifeq (tgt := 43) cx dX1_restNoMoreOn_8 (by decide) (fun h_8 => ?_) (fun h_8 => ?_)
  · skip
    exact r_vret cx dX1_restNoMoreOn_43 hr (by first | (rw [hasB_f h_8]; rfl) | (rw [hasB_t h_8, decide_eq_true ((lcmp_z _ _).mp (Classical.not_not.mp h_32))]; rfl) | (rw [hasB_t h_8, decide_eq_true ((lcmp_z _ _).mp h_32)]; rfl) | (rw [hasB_t h_8, decide_eq_false (fun z => h_32 ((lcmp_z _ _).mpr z))]; rfl)) (Nat.le_of_ble_eq_true rfl) (Nat.le_of_ble_eq_true rfl)
  · skip
    refine r_aload_n cx dX1_restNoMoreOn_11 rfl rfl ?_
    refine r_dup cx dX1_restNoMoreOn_12 rfl ?_
    refine gf_X1_9 cx dX1_restNoMoreOn_13 0 rfl rfl ?_
    refine r_lload_n cx dX1_restNoMoreOn_16 rfl rfl ?_
    refine r_ldc2 cx dX1_restNoMoreOn_17 tb_544 ?_
    refine r_lxor cx dX1_restNoMoreOn_20 ?_
    refine r_land cx dX1_restNoMoreOn_21 ?_
    refine pf_X1_9 cx dX1_restNoMoreOn_22 0 rfl (Nat.le_of_ble_eq_true rfl) ?_
    refine r_aload_n cx dX1_restNoMoreOn_25 rfl rfl ?_
    refine r_aload_n cx dX1_restNoMoreOn_26 rfl rfl ?_
    refine gf_X1_9 cx dX1_restNoMoreOn_27 0 rfl rfl ?_
    refine r_lconst (v := 0) cx dX1_restNoMoreOn_30 rfl ?_
    refine r_lcmp cx dX1_restNoMoreOn_31 ?_
    refine r_ifne (tgt := 39) cx dX1_restNoMoreOn_32 (by decide) (fun h_32 => ?_) (fun h_32 => ?_)
    · skip
      refine r_iconst (v := bI false) cx dX1_restNoMoreOn_39 (by decide) ?_
      refine pf_X1_15 cx dX1_restNoMoreOn_40 0 rfl (Nat.le_of_ble_eq_true rfl) ?_
      exact r_vret cx dX1_restNoMoreOn_43 hr (by first | (rw [hasB_f h_8]; rfl) | (rw [hasB_t h_8, decide_eq_true ((lcmp_z _ _).mp (Classical.not_not.mp h_32))]; rfl) | (rw [hasB_t h_8, decide_eq_true ((lcmp_z _ _).mp h_32)]; rfl) | (rw [hasB_t h_8, decide_eq_false (fun z => h_32 ((lcmp_z _ _).mpr z))]; rfl)) (Nat.le_of_ble_eq_true rfl) (Nat.le_of_ble_eq_true rfl)
    · skip
      refine r_iconst (v := bI true) cx dX1_restNoMoreOn_35 (by decide) ?_
      refine r_goto (tgt := 40) cx dX1_restNoMoreOn_36 (by decide) ?_
      refine pf_X1_15 cx dX1_restNoMoreOn_40 0 rfl (Nat.le_of_ble_eq_true rfl) ?_
      exact r_vret cx dX1_restNoMoreOn_43 hr (by first | (rw [hasB_f h_8]; rfl) | (rw [hasB_t h_8, decide_eq_true ((lcmp_z _ _).mp (Classical.not_not.mp h_32))]; rfl) | (rw [hasB_t h_8, decide_eq_true ((lcmp_z _ _).mp h_32)]; rfl) | (rw [hasB_t h_8, decide_eq_false (fun z => h_32 ((lcmp_z _ _).mpr z))]; rfl)) (Nat.le_of_ble_eq_true rfl) (Nat.le_of_ble_eq_true rfl)
set_option maxHeartbeats 4000000 in
set_option maxRecDepth 100000 in
theorem c_goesAt (l : Launch) (g : q_G) (ws : va_W) (q0 a0 : Nat) (so to be fi la yr : Int32) (gr : Int64) (fa : Bool) (p0 y0 : Int32) (h0 : ws[q0]? = some (a0, oR so to be fi la yr gr fa)) : MetW l g yX1_goesAt cX1_goesAt 3 (some .boolean) ({ frames := 0, cells := 0, slots := 0, locals := 0 } : Room) [.ref a0, .int p0, .int y0] (ws) (q_Qi g (fun r w => r = bI (!fa && decide (fi ≤ p0) && decide (p0 ≤ la) && decide (yr ≤ y0)) ∧ w = ws)) := by
  refine q_met (own := RX1) (by decide +kernel) rfl (Nat.le_of_ble_eq_true rfl) (fun p e s m args below meth c cx hr hnm => ?_)
  refine r_lv (lv2 := [(0, .ref a0), (1, .int p0), (2, .int y0)]) (q_pk [0, 1, 2] rfl) ?_
  refine r_aload_n cx dX1_goesAt_0 rfl rfl ?_
  refine gf_X1_15 cx dX1_goesAt_1 q0 h0 rfl ?_
  refine r_ifneb (tgt := 35) cx dX1_goesAt_4 (by decide) (fun h_4 => ?_) (fun h_4 => ?_)
  · skip
    refine r_iconst (v := nI 0) cx dX1_goesAt_35 (by decide) ?_
    exact r_zret cx dX1_goesAt_36 hr rfl (⟨by first | (rw [h_4]; rfl) | (rw [h_4, decide_eq_false (Int32.not_le.mpr h_12)]; rfl) | (rw [h_4, decide_eq_true (Int32.not_lt.mp h_12), decide_eq_false (Int32.not_le.mpr h_20)]; rfl) | (rw [h_4, decide_eq_true (Int32.not_lt.mp h_12), decide_eq_true (Int32.not_lt.mp h_20), decide_eq_false (Int32.not_le.mpr h_28)]; rfl) | (rw [h_4, decide_eq_true (Int32.not_lt.mp h_12), decide_eq_true (Int32.not_lt.mp h_20), decide_eq_true (Int32.not_lt.mp h_28)]; rfl), rfl⟩) (Nat.le_of_ble_eq_true rfl) (Nat.le_of_ble_eq_true rfl)
  · skip
    refine r_aload_n cx dX1_goesAt_7 rfl rfl ?_
    refine gf_X1_29 cx dX1_goesAt_8 q0 h0 rfl ?_
    refine r_iload_n cx dX1_goesAt_11 rfl rfl ?_
    refine r_icmpgt (tgt := 35) cx dX1_goesAt_12 (by decide) (fun h_12 => ?_) (fun h_12 => ?_)
    · skip
      refine r_iconst (v := nI 0) cx dX1_goesAt_35 (by decide) ?_
      exact r_zret cx dX1_goesAt_36 hr rfl (⟨by first | (rw [h_4]; rfl) | (rw [h_4, decide_eq_false (Int32.not_le.mpr h_12)]; rfl) | (rw [h_4, decide_eq_true (Int32.not_lt.mp h_12), decide_eq_false (Int32.not_le.mpr h_20)]; rfl) | (rw [h_4, decide_eq_true (Int32.not_lt.mp h_12), decide_eq_true (Int32.not_lt.mp h_20), decide_eq_false (Int32.not_le.mpr h_28)]; rfl) | (rw [h_4, decide_eq_true (Int32.not_lt.mp h_12), decide_eq_true (Int32.not_lt.mp h_20), decide_eq_true (Int32.not_lt.mp h_28)]; rfl), rfl⟩) (Nat.le_of_ble_eq_true rfl) (Nat.le_of_ble_eq_true rfl)
    · skip
      refine r_iload_n cx dX1_goesAt_15 rfl rfl ?_
      refine r_aload_n cx dX1_goesAt_16 rfl rfl ?_
      refine gf_X1_32 cx dX1_goesAt_17 q0 h0 rfl ?_
      refine r_icmpgt (tgt := 35) cx dX1_goesAt_20 (by decide) (fun h_20 => ?_) (fun h_20 => ?_)
      · skip
        refine r_iconst (v := nI 0) cx dX1_goesAt_35 (by decide) ?_
        exact r_zret cx dX1_goesAt_36 hr rfl (⟨by first | (rw [h_4]; rfl) | (rw [h_4, decide_eq_false (Int32.not_le.mpr h_12)]; rfl) | (rw [h_4, decide_eq_true (Int32.not_lt.mp h_12), decide_eq_false (Int32.not_le.mpr h_20)]; rfl) | (rw [h_4, decide_eq_true (Int32.not_lt.mp h_12), decide_eq_true (Int32.not_lt.mp h_20), decide_eq_false (Int32.not_le.mpr h_28)]; rfl) | (rw [h_4, decide_eq_true (Int32.not_lt.mp h_12), decide_eq_true (Int32.not_lt.mp h_20), decide_eq_true (Int32.not_lt.mp h_28)]; rfl), rfl⟩) (Nat.le_of_ble_eq_true rfl) (Nat.le_of_ble_eq_true rfl)
      · skip
        refine r_aload_n cx dX1_goesAt_23 rfl rfl ?_
        refine gf_X1_35 cx dX1_goesAt_24 q0 h0 rfl ?_
        refine r_iload_n cx dX1_goesAt_27 rfl rfl ?_
        refine r_icmpgt (tgt := 35) cx dX1_goesAt_28 (by decide) (fun h_28 => ?_) (fun h_28 => ?_)
        · skip
          refine r_iconst (v := nI 0) cx dX1_goesAt_35 (by decide) ?_
          exact r_zret cx dX1_goesAt_36 hr rfl (⟨by first | (rw [h_4]; rfl) | (rw [h_4, decide_eq_false (Int32.not_le.mpr h_12)]; rfl) | (rw [h_4, decide_eq_true (Int32.not_lt.mp h_12), decide_eq_false (Int32.not_le.mpr h_20)]; rfl) | (rw [h_4, decide_eq_true (Int32.not_lt.mp h_12), decide_eq_true (Int32.not_lt.mp h_20), decide_eq_false (Int32.not_le.mpr h_28)]; rfl) | (rw [h_4, decide_eq_true (Int32.not_lt.mp h_12), decide_eq_true (Int32.not_lt.mp h_20), decide_eq_true (Int32.not_lt.mp h_28)]; rfl), rfl⟩) (Nat.le_of_ble_eq_true rfl) (Nat.le_of_ble_eq_true rfl)
        · skip
          refine r_iconst (v := nI 1) cx dX1_goesAt_31 (by decide) ?_
          refine r_goto (tgt := 36) cx dX1_goesAt_32 (by decide) ?_
          exact r_zret cx dX1_goesAt_36 hr rfl (⟨by first | (rw [h_4]; rfl) | (rw [h_4, decide_eq_false (Int32.not_le.mpr h_12)]; rfl) | (rw [h_4, decide_eq_true (Int32.not_lt.mp h_12), decide_eq_false (Int32.not_le.mpr h_20)]; rfl) | (rw [h_4, decide_eq_true (Int32.not_lt.mp h_12), decide_eq_true (Int32.not_lt.mp h_20), decide_eq_false (Int32.not_le.mpr h_28)]; rfl) | (rw [h_4, decide_eq_true (Int32.not_lt.mp h_12), decide_eq_true (Int32.not_lt.mp h_20), decide_eq_true (Int32.not_lt.mp h_28)]; rfl), rfl⟩) (Nat.le_of_ble_eq_true rfl) (Nat.le_of_ble_eq_true rfl)
set_option maxHeartbeats 4000000 in
set_option maxRecDepth 100000 in
theorem c_changes (l : Launch) (g : q_G) (ws : va_W) (q0 a0 : Nat) (so to be fi la yr : Int32) (gr : Int64) (fa : Bool) (x f : Int32) (h0 : ws[q0]? = some (a0, oR so to be fi la yr gr fa)) : MetW l g yX1_changes cX1_changes 3 (some .boolean) ({ frames := 0, cells := 0, slots := 0, locals := 0 } : Room) [.ref a0, .int x, .int f] (ws) (q_Qi g (fun r w => r = bI (decide (x = so) && (decide (be = nI 9) || decide (be = f))) ∧ w = ws)) := by
  refine q_met (own := RX1) (by decide +kernel) rfl (Nat.le_of_ble_eq_true rfl) (fun p e s m args below meth c cx hr hnm => ?_)
  refine r_lv (lv2 := [(0, .ref a0), (1, .int x), (2, .int f)]) (q_pk [0, 1, 2] rfl) ?_
  refine r_iload_n cx dX1_changes_0 rfl rfl ?_
  refine r_aload_n cx dX1_changes_1 rfl rfl ?_
  refine gf_X1_19 cx dX1_changes_2 q0 h0 rfl ?_
  refine r_icmpne (tgt := 29) cx dX1_changes_5 (by decide) (fun h_5 => ?_) (fun h_5 => ?_)
  · skip
    refine r_iconst (v := nI 0) cx dX1_changes_29 (by decide) ?_
    exact r_zret cx dX1_changes_30 hr rfl (⟨by first | (rw [decide_eq_false h_5]; rfl) | (rw [decide_eq_true h_5, decide_eq_true h_14]; rfl) | (rw [decide_eq_true h_5, decide_eq_false h_14, decide_eq_true h_22]; rfl) | (rw [decide_eq_true h_5, decide_eq_false h_14, decide_eq_false h_22]; rfl), rfl⟩) (Nat.le_of_ble_eq_true rfl) (Nat.le_of_ble_eq_true rfl)
  · skip
    refine r_aload_n cx dX1_changes_8 rfl rfl ?_
    refine gf_X1_26 cx dX1_changes_9 q0 h0 rfl ?_
    refine r_bipush (v := nI 9) cx dX1_changes_12 (by decide) ?_
    refine r_icmpeq (tgt := 25) cx dX1_changes_14 (by decide) (fun h_14 => ?_) (fun h_14 => ?_)
    · skip
      refine r_iconst (v := nI 1) cx dX1_changes_25 (by decide) ?_
      refine r_goto (tgt := 30) cx dX1_changes_26 (by decide) ?_
      exact r_zret cx dX1_changes_30 hr rfl (⟨by first | (rw [decide_eq_false h_5]; rfl) | (rw [decide_eq_true h_5, decide_eq_true h_14]; rfl) | (rw [decide_eq_true h_5, decide_eq_false h_14, decide_eq_true h_22]; rfl) | (rw [decide_eq_true h_5, decide_eq_false h_14, decide_eq_false h_22]; rfl), rfl⟩) (Nat.le_of_ble_eq_true rfl) (Nat.le_of_ble_eq_true rfl)
    · skip
      refine r_aload_n cx dX1_changes_17 rfl rfl ?_
      refine gf_X1_26 cx dX1_changes_18 q0 h0 rfl ?_
      refine r_iload_n cx dX1_changes_21 rfl rfl ?_
      refine r_icmpne (tgt := 29) cx dX1_changes_22 (by decide) (fun h_22 => ?_) (fun h_22 => ?_)
      · skip
        refine r_iconst (v := nI 0) cx dX1_changes_29 (by decide) ?_
        exact r_zret cx dX1_changes_30 hr rfl (⟨by first | (rw [decide_eq_false h_5]; rfl) | (rw [decide_eq_true h_5, decide_eq_true h_14]; rfl) | (rw [decide_eq_true h_5, decide_eq_false h_14, decide_eq_true h_22]; rfl) | (rw [decide_eq_true h_5, decide_eq_false h_14, decide_eq_false h_22]; rfl), rfl⟩) (Nat.le_of_ble_eq_true rfl) (Nat.le_of_ble_eq_true rfl)
      · skip
        refine r_iconst (v := nI 1) cx dX1_changes_25 (by decide) ?_
        refine r_goto (tgt := 30) cx dX1_changes_26 (by decide) ?_
        exact r_zret cx dX1_changes_30 hr rfl (⟨by first | (rw [decide_eq_false h_5]; rfl) | (rw [decide_eq_true h_5, decide_eq_true h_14]; rfl) | (rw [decide_eq_true h_5, decide_eq_false h_14, decide_eq_true h_22]; rfl) | (rw [decide_eq_true h_5, decide_eq_false h_14, decide_eq_false h_22]; rfl), rfl⟩) (Nat.le_of_ble_eq_true rfl) (Nat.le_of_ble_eq_true rfl)
end
section
section LROWS
variable {p : Program} {l : Launch} {e : Env} {R : Room} {s : State} {m : MethodId} {args : Array Value} {below : List Frame} {meth : Method} {c : Code} {g : q_G} {nL : Nat} {Q : State → Prop} {cl sl : Nat} {cc : ByteArray} {own : String} {pc : Nat} {lv : List (Nat × Value)} {st : List Value} {ws : va_W}
theorem r_cast (cx : q_cx g p m c cc nL s args own meth) {nm : String} {index a : Nat} (m1 : Cond.classLink own index nm ∈ WS) (hd : decode cc pc = .ok (.checkcast index, 3)) (q0 : Nat) {ci : Nat} {q : vw_C} {fs : List Value} (hc : vwCl[ci]? = some q) (hq : q.1 = nm) (he : ws[q0]? = some (a, .inr (ci, fs))) (k : AT p l e R s m args below meth c g nL Q cl sl (pc + 3) lv (.ref a :: st) ws) : AT p l e R s m args below meth c g nL Q cl sl pc lv (.ref a :: st) ws := fun H locs ls hP hD hS hl =>
  va_castS (cC := g.1.1 ci) cx.1.1 cx.1.2.1 cx.1.2.2.2.1 (cx.ok m1) (hq ▸ (cx.2.1.2.1.1 ci q hc).2) (hq ▸ va_recv cx.2.1.2.1 hP hc he) hd (k H locs ls hP hD hS hl)
theorem r_min (cx : q_cx g p m c cc nL s args own meth) {index : Nat} {x y : Int32} (m1 : Cond.methodLink own index Lib.Math.min.name ∈ WS) (m2 : Cond.static Lib.Math.min.name ∈ WS) (m3 : Cond.initialized "java/lang/Math" ∈ WS) (m4 : Cond.code Lib.Math.min.name Lib.Math.min.code 2 (some .int) ∈ WS) (hd : decode cc pc = .ok (.invokestatic index, 3)) (hf : 1 ≤ R.frames) (hlo : (st.map fun v => v.category).sum + 13 ≤ R.locals) (hc : cl ≤ R.cells) (hs : sl ≤ R.slots) (k : AT p l e R s m args below meth c g nL Q cl sl (pc + 3) lv (.int (if y < x then y else x) :: st) ws) : AT p l e R s m args below meth c g nL Q cl sl pc lv (.int y :: .int x :: st) ws := fun H locs ls hP hD hS hl =>
  va_mmin cx.1.1 cx.1.2.1 (cx.1.2.2.1.trans hl.1.symm) cx.1.2.2.2.1 (cx.ok m1) (cx.ok m2) (cx.ok m3) (cx.ok m4) hf hlo hc hs hd (k H locs ls hP hD hS hl)
theorem r_max (cx : q_cx g p m c cc nL s args own meth) {index : Nat} {x y : Int32} (m1 : Cond.methodLink own index Lib.Math.max.name ∈ WS) (m2 : Cond.static Lib.Math.max.name ∈ WS) (m3 : Cond.initialized "java/lang/Math" ∈ WS) (m4 : Cond.code Lib.Math.max.name Lib.Math.max.code 2 (some .int) ∈ WS) (hd : decode cc pc = .ok (.invokestatic index, 3)) (hf : 1 ≤ R.frames) (hlo : (st.map fun v => v.category).sum + 13 ≤ R.locals) (hc : cl ≤ R.cells) (hs : sl ≤ R.slots) (k : AT p l e R s m args below meth c g nL Q cl sl (pc + 3) lv (.int (if x < y then y else x) :: st) ws) : AT p l e R s m args below meth c g nL Q cl sl pc lv (.int y :: .int x :: st) ws := fun H locs ls hP hD hS hl =>
  va_mmax cx.1.1 cx.1.2.1 (cx.1.2.2.1.trans hl.1.symm) cx.1.2.2.2.1 (cx.ok m1) (cx.ok m2) (cx.ok m3) (cx.ok m4) hf hlo hc hs hd (k H locs ls hP hD hS hl)
end LROWS
/-- a list of n objects in a world: its cell, and the array behind it -/
def lsV (g : q_G) (ws : va_W) (li n : Nat) (a : Nat → Nat) : Prop := ∃ (ql : Nat) (mc : Int32) (el : Nat), ws[ql]? = some (li, .inr (0, [.int mc, .ref el, .int (nI n)])) ∧ n < 2147483648 ∧
  (n = 0 ∨ ∃ (qe cap : Nat) (f : Nat → Option Nat), ws[qe]? = some (el, .inl (q_cO g, cap, .inr (.inr (.inr (.inr f))))) ∧ n ≤ cap ∧ cap < 2147483648 ∧ ∀ i, i < n → f i = some (a i))
set_option maxHeartbeats 4000000 in
set_option maxRecDepth 100000 in
theorem c_checkIndex3 (l : Launch) (g : q_G) (ws : va_W) (i n : Nat) (hi : i < n) (hn : n < 2147483648) : MetW l g yJ3_checkIndex_8e157 cJ3_checkIndex_8e157 3 (some .int) ({ frames := 0, cells := 0, slots := 0, locals := 0 } : Room) [.int (nI i), .int (nI n), .null] (ws) (q_Qi g (fun r w => r = nI i ∧ w = ws)) := by
  refine q_met (own := RJ3) (by decide +kernel) rfl (Nat.le_of_ble_eq_true rfl) (fun p e s m args below meth c cx hr hnm => ?_)
  refine r_lv (lv2 := [(0, .int (nI i)), (1, .int (nI n)), (2, .null)]) (q_pk [0, 1, 2] rfl) ?_
  refine r_iload_n cx dJ3_checkIndex_8e157_0 rfl rfl ?_
  refine r_ifltN (tgt := 9) cx (by omega) dJ3_checkIndex_8e157_1 (by decide) ?_
  refine r_iload_n cx dJ3_checkIndex_8e157_4 rfl rfl ?_
  refine r_iload_n cx dJ3_checkIndex_8e157_5 rfl rfl ?_
  refine r_icmpltN (tgt := 16) cx (by omega) (by omega) dJ3_checkIndex_8e157_6 (by decide) (fun h_6 => ?_) (fun h_6 => ?_)
  · skip
    refine r_iload_n cx dJ3_checkIndex_8e157_16 rfl rfl ?_
    exact r_iret cx dJ3_checkIndex_8e157_17 hr (⟨rfl, rfl⟩) (Nat.le_of_ble_eq_true rfl) (Nat.le_of_ble_eq_true rfl)
  · exact absurd h_6 (by omega)
set_option maxHeartbeats 4000000 in
set_option maxRecDepth 100000 in
theorem c_checkIndex (l : Launch) (g : q_G) (ws : va_W) (i n : Nat) (hi : i < n) (hn : n < 2147483648) : MetW l g yJ15_checkIndex_7cf53 cJ15_checkIndex_7cf53 2 (some .int) ({ frames := 1, cells := 0, slots := 0, locals := 22 } : Room) [.int (nI i), .int (nI n)] (ws) (q_Qi g (fun r w => r = nI i ∧ w = ws)) := by
  refine q_met (own := RJ15) (by decide +kernel) rfl (Nat.le_of_ble_eq_true rfl) (fun p e s m args below meth c cx hr hnm => ?_)
  refine r_lv (lv2 := [(0, .int (nI i)), (1, .int (nI n))]) (q_pk [0, 1] rfl) ?_
  refine r_iload_n cx dJ15_checkIndex_7cf53_0 rfl rfl ?_
  refine r_iload_n cx dJ15_checkIndex_7cf53_1 rfl rfl ?_
  refine r_null cx dJ15_checkIndex_7cf53_2 ?_
  refine k_J15_105 cx (c_checkIndex3 l g ws i n hi hn) dJ15_checkIndex_7cf53_3 ⟨Nat.le_of_ble_eq_true rfl, Nat.le_of_ble_eq_true rfl⟩ ⟨Nat.le_of_ble_eq_true rfl, Nat.le_of_ble_eq_true rfl⟩ rfl rfl (Nat.le_of_ble_eq_true rfl) (fun r w hp => ?_)
  obtain ⟨rfl, rfl⟩ := hp
  exact r_iret cx dJ15_checkIndex_7cf53_6 hr (⟨rfl, rfl⟩) (Nat.le_of_ble_eq_true rfl) (Nat.le_of_ble_eq_true rfl)
set_option maxHeartbeats 4000000 in
set_option maxRecDepth 100000 in
theorem c_lsize (l : Launch) (g : q_G) (ws : va_W) (li n : Nat) (a : Nat → Nat) (h : lsV g ws li n a) : MetW l g yJx4a65c_size_8abf5 cJx4a65c_size_8abf5 1 (some .int) ({ frames := 0, cells := 0, slots := 0, locals := 0 } : Room) [.ref li] (ws) (q_Qi g (fun r w => r = nI n ∧ w = ws)) := by
  refine q_met (own := RJx4a65c) (by decide +kernel) rfl (Nat.le_of_ble_eq_true rfl) (fun p e s m args below meth c cx hr hnm => ?_)
  obtain ⟨ql, mc, el, h1, hn, h2⟩ := h
  refine r_lv (lv2 := [(0, .ref li)]) (q_pk [0] rfl) ?_
  refine r_aload_n cx dJx4a65c_size_8abf5_0 rfl rfl ?_
  refine gf_Jx4a65c_48 cx dJx4a65c_size_8abf5_1 ql h1 rfl ?_
  exact r_iret cx dJx4a65c_size_8abf5_4 hr (⟨rfl, rfl⟩) (Nat.le_of_ble_eq_true rfl) (Nat.le_of_ble_eq_true rfl)
set_option maxHeartbeats 4000000 in
set_option maxRecDepth 100000 in
theorem c_lelem (l : Launch) (g : q_G) (ws : va_W) (li n i : Nat) (a : Nat → Nat) (h : lsV g ws li n a) (hi : i < n) : MetW l g yJx4a65c_elementData_915e3 cJx4a65c_elementData_915e3 2 (some (.object "java/lang/Object")) ({ frames := 0, cells := 0, slots := 0, locals := 0 } : Room) [.ref li, .int (nI i)] (ws) (q_Qq g (fun r w => r = some (a i) ∧ w = ws)) := by
  refine q_met (own := RJx4a65c) (by decide +kernel) rfl (Nat.le_of_ble_eq_true rfl) (fun p e s m args below meth c cx hr hnm => ?_)
  obtain ⟨ql, mc, el, h1, hn, h2⟩ := h
  obtain ⟨qe, cap, f, h3, h4, h5, h6⟩ := h2.resolve_left (by omega)
  refine r_lv (lv2 := [(0, .ref li), (1, .int (nI i))]) (q_pk [0, 1] rfl) ?_
  refine r_aload_n cx dJx4a65c_elementData_915e3_0 rfl rfl ?_
  refine gf_Jx4a65c_9 cx dJx4a65c_elementData_915e3_1 ql h1 rfl ?_
  refine r_iload_n cx dJx4a65c_elementData_915e3_4 rfl rfl ?_
  refine r_aldq cx qe 3 dJx4a65c_elementData_915e3_5 h3 rfl (vp_in_nI (by omega) (by omega)) ?_
  rw [nI_clamp (by omega)]
  exact r_aret cx dJx4a65c_elementData_915e3_6 hr (Or.inl ⟨_, rfl⟩) (⟨h6 i hi, rfl⟩) (Nat.le_of_ble_eq_true rfl) (Nat.le_of_ble_eq_true rfl)
set_option maxHeartbeats 4000000 in
set_option maxRecDepth 100000 in
theorem c_lget (l : Launch) (g : q_G) (ws : va_W) (li n i : Nat) (a : Nat → Nat) (h : lsV g ws li n a) (hi : i < n) : MetW l g yJx4a65c_get_915e3 cJx4a65c_get_915e3 2 (some (.object "java/lang/Object")) ({ frames := 2, cells := 0, slots := 0, locals := 43 } : Room) [.ref li, .int (nI i)] (ws) (q_Qq g (fun r w => r = some (a i) ∧ w = ws)) := by
  refine q_met (own := RJx4a65c) (by decide +kernel) rfl (Nat.le_of_ble_eq_true rfl) (fun p e s m args below meth c cx hr hnm => ?_)
  have h0 := h
  obtain ⟨ql, mc, el, h1, hn, h2⟩ := h
  refine r_lv (lv2 := [(0, .ref li), (1, .int (nI i))]) (q_pk [0, 1] rfl) ?_
  refine r_iload_n cx dJx4a65c_get_915e3_0 rfl rfl ?_
  refine r_aload_n cx dJx4a65c_get_915e3_1 rfl rfl ?_
  refine gf_Jx4a65c_48 cx dJx4a65c_get_915e3_2 ql h1 rfl ?_
  refine k_Jx4a65c_118 cx (c_checkIndex l g ws i n hi hn) dJx4a65c_get_915e3_5 ⟨Nat.le_of_ble_eq_true rfl, Nat.le_of_ble_eq_true rfl⟩ ⟨Nat.le_of_ble_eq_true rfl, Nat.le_of_ble_eq_true rfl⟩ rfl rfl (Nat.le_of_ble_eq_true rfl) (fun r w hp => ?_)
  obtain ⟨rfl, rfl⟩ := hp
  refine r_pop cx dJx4a65c_get_915e3_8 rfl ?_
  refine r_aload_n cx dJx4a65c_get_915e3_9 rfl rfl ?_
  refine r_iload_n cx dJx4a65c_get_915e3_10 rfl rfl ?_
  refine k_Jx4a65c_123 cx (c_lelem l g w li n i a h0 hi) dJx4a65c_get_915e3_11 ql h1 ⟨Nat.le_of_ble_eq_true rfl, Nat.le_of_ble_eq_true rfl⟩ ⟨Nat.le_of_ble_eq_true rfl, Nat.le_of_ble_eq_true rfl⟩ rfl rfl (Nat.le_of_ble_eq_true rfl) (fun r w2 hp => ?_)
  obtain ⟨rfl, rfl⟩ := hp
  exact r_aret cx dJx4a65c_get_915e3_14 hr (Or.inl ⟨_, rfl⟩) (⟨rfl, rfl⟩) (Nat.le_of_ble_eq_true rfl) (Nat.le_of_ble_eq_true rfl)
end
section
theorem l_snoc {l : List Nat} (h : l ≠ []) : ∃ (l3 : List Nat) (y : Nat), l = l3 ++ [y] := by
  rcases List.eq_nil_or_concat l with e | ⟨a, b, e⟩
  · exact absurd e h
  · exact ⟨a, b, by rw [e, List.concat_eq_append]⟩
theorem chg_eq {so be x f : Nat} (h1 : so < 8) (h2 : be < 10) (h3 : x < 8) (h4 : f < 9) : (decide (nI x = nI so) && (decide (nI be = nI 9) || decide (nI be = nI f))) = chg so be x f := by
  unfold chg
  congr 1
  · exact decide_eq_decide.mpr (nI_inj (by omega) (by omega))
  · congr 1
    · exact decide_eq_decide.mpr (nI_inj (by omega) (by omega))
    · exact decide_eq_decide.mpr (nI_inj (by omega) (by omega))
theorem fol_lt {l : List Nat} (h : snd l) : fol l < 9 := by
  cases l with
  | nil => decide
  | cons x xs => exact Nat.lt_trans (snd_cons.mp h).1 (by decide)
theorem apL_one {so : Nat} {to : Option Nat} {be x t : Nat} {l : List Nat} (h : pce so to be x (fol l) = [t]) : num (apL so to be (x :: l)) = num (apL so to be l) + (t + 1) * 9 ^ (apL so to be l).length ∧ (apL so to be (x :: l)).length = (apL so to be l).length + 1 := by
  rw [apL, h]
  exact ⟨by rw [List.singleton_append, num_cons, Nat.add_comm], by simp⟩
theorem apL_keep {so : Nat} {to : Option Nat} {be x : Nat} {l : List Nat} (h : chg so be x (fol l) = false) : num (apL so to be (x :: l)) = num (apL so to be l) + (x + 1) * 9 ^ (apL so to be l).length ∧ (apL so to be (x :: l)).length = (apL so to be l).length + 1 := apL_one (by rw [pce, h]; rfl)
theorem apL_some {so t be x : Nat} {l : List Nat} (h : chg so be x (fol l) = true) : num (apL so (some t) be (x :: l)) = num (apL so (some t) be l) + (t + 1) * 9 ^ (apL so (some t) be l).length ∧ (apL so (some t) be (x :: l)).length = (apL so (some t) be l).length + 1 := apL_one (by rw [pce, h]; rfl)
theorem apL_none {so be x : Nat} {l : List Nat} (h : chg so be x (fol l) = true) : apL so none be (x :: l) = apL so none be l := by rw [apL, pce, h]; rfl
theorem toI_none {to : Option Nat} (ht : ∀ t, to = some t → t < 8) (h : toI to = -1) : to = none := by
  cases to with
  | none => rfl
  | some t => exact absurd h (nI_nm1 (by have := ht t rfl; omega))
theorem toI_some {to : Option Nat} (h : ¬ toI to = -1) : ∃ t, to = some t := by
  cases to with
  | none => exact absurd rfl h
  | some t => exact ⟨t, rfl⟩
set_option maxHeartbeats 4000000 in
set_option maxRecDepth 100000 in
theorem c_applyTo (l : Launch) (g : q_G) (ws : va_W) (q0 a0 : Nat) (so be : Nat) (to : Option Nat) (fi la yr : Int32) (gr : Int64) (fa : Bool) (l0 : List Nat) (hso : so < 8) (hbe : be < 10) (hto : ∀ t, to = some t → t < 8) (hl0 : snd l0) (hn0 : l0.length ≤ 8) (h0 : ws[q0]? = some (a0, oR (nI so) (toI to) (nI be) fi la yr gr fa)) : MetW l g yX1_applyTo cX1_applyTo 9 (some .int) ({ frames := 1, cells := 0, slots := 0, locals := 22 } : Room) [.ref a0, .int (nI (num l0))] (ws) (q_Qi g (fun r w => r = nI (num (apR so to be l0)) ∧ w = ws)) := by
  refine q_met (own := RX1) (by decide +kernel) rfl (Nat.le_of_ble_eq_true rfl) (fun p e s m args below meth c cx hr hnm => ?_)
  refine r_lv (lv2 := [(0, .ref a0), (1, .int (nI (num l0)))]) (q_pk [0, 1] rfl) ?_
  refine r_iconst (v := nI 0) cx dX1_applyTo_0 (by decide) ?_
  refine r_istore_n cx dX1_applyTo_1 rfl (by decide) rfl ?_
  refine r_iconst (v := nI 1) cx dX1_applyTo_2 (by decide) ?_
  refine r_istore_n cx dX1_applyTo_3 rfl (by decide) rfl ?_
  refine r_iload_n cx dX1_applyTo_4 rfl rfl ?_
  refine r_istore cx dX1_applyTo_5 (by decide) rfl ?_
  refine r_bipush (v := nI 8) cx dX1_applyTo_7 (by decide) ?_
  refine r_istore cx dX1_applyTo_9 (by decide) rfl ?_
  refine r_iconst (v := nI 0) cx dX1_applyTo_11 (by decide) ?_
  refine r_istore cx dX1_applyTo_12 (by decide) rfl ?_
  refine at_loop (fun (x : List Nat × List Nat) => x.1 ++ x.2 = l0) (fun x => [(0, .ref a0), (1, .int (nI (num l0))), (2, .int (nI (num (apL so to be x.2)))), (3, .int (nI (9 ^ (apL so to be x.2).length))), (4, .int (nI (num x.1))), (5, .int (nI (fol x.2))), (6, .int (nI x.2.length))]) (fun x => ws) (fun x => x.1.length) (l0, []) (List.append_nil l0) (q_pk [5, 6, 4, 3, 2, 1, 0] rfl) rfl (fun x hx ih => ?_)
  obtain ⟨l1, l2⟩ := x
  try dsimp only at hx ⊢
  have hlen : l1.length + l2.length = l0.length := by rw [← hx, List.length_append]
  have hs1 : snd l1 := (snd_app.mp (hx ▸ hl0)).1
  have hs2 : snd l2 := (snd_app.mp (hx ▸ hl0)).2
  have hb1 := num_bd hs1 (by omega)
  have hal := apL_len so to be l2
  have hb2 := num_bd (apL_snd (so := so) (be := be) hto hs2) (by omega)
  have hb3 := p9 (n := (apL so to be l2).length) (by omega)
  have hf := fol_lt hs2
  refine r_iload cx dX1_applyTo_14 rfl ?_
  refine r_bipush (v := nI 8) cx dX1_applyTo_16 (by decide) ?_
  refine r_icmpgeN (tgt := 94) cx (by omega) (by omega) dX1_applyTo_18 (by decide) (fun h_18 => ?_) (fun h_18 => ?_)
  · skip
    obtain rfl : l1 = [] := List.eq_nil_of_length_eq_zero (by omega)
    obtain rfl : l2 = l0 := by simpa using hx
    refine r_iload_n cx dX1_applyTo_94 rfl rfl ?_
    refine r_ifneN (tgt := 102) cx (by omega) dX1_applyTo_95 (by decide) (fun h_95 => ?_) (fun h_95 => ?_)
    · skip
      refine r_iload_n cx dX1_applyTo_102 rfl rfl ?_
      exact r_iret cx dX1_applyTo_103 hr (⟨by first | (rw [apR, if_neg (fun z => h_95 (num_zero.mpr z))]; done) | (rw [apR, if_pos (num_zero.mp h_95)]; done), rfl⟩) (Nat.le_of_ble_eq_true rfl) (Nat.le_of_ble_eq_true rfl)
    · skip
      refine r_iload_n cx dX1_applyTo_98 rfl rfl ?_
      refine r_goto (tgt := 103) cx dX1_applyTo_99 (by decide) ?_
      exact r_iret cx dX1_applyTo_103 hr (⟨by first | (rw [apR, if_neg (fun z => h_95 (num_zero.mpr z))]; done) | (rw [apR, if_pos (num_zero.mp h_95)]; done), rfl⟩) (Nat.le_of_ble_eq_true rfl) (Nat.le_of_ble_eq_true rfl)
  · skip
    refine r_iload cx dX1_applyTo_21 rfl ?_
    refine r_ifleN (tgt := 94) cx (by omega) dX1_applyTo_23 (by decide) (fun h_23 => ?_) (fun h_23 => ?_)
    · skip
      obtain rfl : l1 = [] := num_zero.mp h_23
      obtain rfl : l2 = l0 := by simpa using hx
      refine r_iload_n cx dX1_applyTo_94 rfl rfl ?_
      refine r_ifneN (tgt := 102) cx (by omega) dX1_applyTo_95 (by decide) (fun h_95 => ?_) (fun h_95 => ?_)
      · skip
        refine r_iload_n cx dX1_applyTo_102 rfl rfl ?_
        exact r_iret cx dX1_applyTo_103 hr (⟨by first | (rw [apR, if_neg (fun z => h_95 (num_zero.mpr z))]; done) | (rw [apR, if_pos (num_zero.mp h_95)]; done), rfl⟩) (Nat.le_of_ble_eq_true rfl) (Nat.le_of_ble_eq_true rfl)
      · skip
        refine r_iload_n cx dX1_applyTo_98 rfl rfl ?_
        refine r_goto (tgt := 103) cx dX1_applyTo_99 (by decide) ?_
        exact r_iret cx dX1_applyTo_103 hr (⟨by first | (rw [apR, if_neg (fun z => h_95 (num_zero.mpr z))]; done) | (rw [apR, if_pos (num_zero.mp h_95)]; done), rfl⟩) (Nat.le_of_ble_eq_true rfl) (Nat.le_of_ble_eq_true rfl)
    · skip
      obtain ⟨l1, x, rfl⟩ : ∃ l3 y, l1 = l3 ++ [y] := l_snoc (fun z => by rw [z] at h_23; exact absurd h_23 (by decide))
      have hx8 : x < 8 := hs1 x (by simp)
      have hsn := num_snoc l1 x
      rw [List.length_append, List.length_singleton] at hlen
      refine r_iload cx dX1_applyTo_26 rfl ?_
      refine r_bipush (v := nI 9) cx dX1_applyTo_28 (by decide) ?_
      refine r_iremN cx dX1_applyTo_30 (by omega) (by omega) (by omega) ?_
      refine r_iconst (v := nI 1) cx dX1_applyTo_31 (by decide) ?_
      first | refine r_isubN cx dX1_applyTo_32 (by omega) ?_ | refine r_isub cx dX1_applyTo_32 ?_
      refine r_eqi (y := nI x) (congrArg nI (by omega)) ?_
      refine r_istore cx dX1_applyTo_33 (by decide) rfl ?_
      refine r_aload_n cx dX1_applyTo_35 rfl rfl ?_
      refine r_iload cx dX1_applyTo_36 rfl ?_
      refine r_iload cx dX1_applyTo_38 rfl ?_
      refine k_X1_45 cx (c_changes l g ws q0 a0 (nI so) (toI to) (nI be) fi la yr gr fa (nI x) (nI (fol l2)) h0) dX1_applyTo_40 q0 h0 ⟨Nat.le_of_ble_eq_true rfl, Nat.le_of_ble_eq_true rfl⟩ ⟨Nat.le_of_ble_eq_true rfl, Nat.le_of_ble_eq_true rfl⟩ rfl rfl (Nat.le_of_ble_eq_true rfl) (fun r w hp => ?_)
      obtain ⟨rfl, rfl⟩ := hp
      rw [chg_eq hso hbe hx8 hf]
      refine at_join (tgt := 77) (fun (z : Unit) => True) (fun z => [(0, .ref a0), (1, .int (nI (num l0))), (2, .int (nI (num (apL so to be (x :: l2))))), (3, .int (nI (9 ^ (apL so to be (x :: l2)).length))), (4, .int (nI (num (l1 ++ [x])))), (6, .int (nI l2.length)), (7, .int (nI x))]) (fun z => []) (fun z => w) ?_ (fun J_77 => ?_)
      · intro z hz
        try dsimp only at hz ⊢
        refine r_iload cx dX1_applyTo_77 rfl ?_
        refine r_istore cx dX1_applyTo_79 (by decide) rfl ?_
        refine r_iload cx dX1_applyTo_81 rfl ?_
        refine r_bipush (v := nI 9) cx dX1_applyTo_83 (by decide) ?_
        refine r_idivN cx dX1_applyTo_85 (by omega) (by omega) (by omega) ?_
        refine r_eqi (y := nI (num l1)) (congrArg nI (by omega)) ?_
        refine r_istore cx dX1_applyTo_86 (by decide) rfl ?_
        refine r_iincN (j := 1) cx dX1_applyTo_88 rfl rfl (by decide) rfl ?_
        refine r_goto (tgt := 14) cx dX1_applyTo_91 (by decide) ?_
        exact r_lv (q_pk [3, 4, 5, 6, 1, 2, 0] rfl) (ih (l1, x :: l2) (by rw [← hx]; simp) (by simp))
      · skip
        refine r_ifeqb (tgt := 53) cx dX1_applyTo_43 (by decide) (fun h_43 => ?_) (fun h_43 => ?_)
        · skip
          refine r_iload cx dX1_applyTo_53 rfl ?_
          refine r_istore cx dX1_applyTo_55 (by decide) rfl ?_
          refine r_iload cx dX1_applyTo_57 rfl ?_
          refine r_iconst (v := -1) cx dX1_applyTo_59 (by decide) ?_
          refine r_icmpeq (tgt := 77) cx dX1_applyTo_60 (by decide) (fun h_60 => ?_) (fun h_60 => ?_)
          · exact absurd h_60 (nI_nm1 (by omega))
          · skip
            have hk := apL_keep (to := to) h_43
            refine r_iload_n cx dX1_applyTo_63 rfl rfl ?_
            refine r_iload cx dX1_applyTo_64 rfl ?_
            refine r_iconst (v := nI 1) cx dX1_applyTo_66 (by decide) ?_
            first | refine r_iaddN cx dX1_applyTo_67 ?_ | refine r_iadd cx dX1_applyTo_67 ?_
            refine r_iload_n cx dX1_applyTo_68 rfl rfl ?_
            first | refine r_imulN cx dX1_applyTo_69 ?_ | refine r_imul cx dX1_applyTo_69 ?_
            first | refine r_iaddN cx dX1_applyTo_70 ?_ | refine r_iadd cx dX1_applyTo_70 ?_
            refine r_eqi (y := nI (num (apL so to be (x :: l2)))) (congrArg nI (hk.1.symm)) ?_
            refine r_istore_n cx dX1_applyTo_71 rfl (by decide) rfl ?_
            refine r_iload_n cx dX1_applyTo_72 rfl rfl ?_
            refine r_bipush (v := nI 9) cx dX1_applyTo_73 (by decide) ?_
            first | refine r_imulN cx dX1_applyTo_75 ?_ | refine r_imul cx dX1_applyTo_75 ?_
            refine r_eqi (y := nI (9 ^ (apL so to be (x :: l2)).length)) (congrArg nI (by rw [hk.2, Nat.pow_succ])) ?_
            refine r_istore_n cx dX1_applyTo_76 rfl (by decide) rfl ?_
            exact r_lv (q_pk [4, 5, 1, 0, 6, 8, 3] rfl) (J_77 () trivial)
        · skip
          refine r_aload_n cx dX1_applyTo_46 rfl rfl ?_
          refine gf_X1_23 cx dX1_applyTo_47 q0 h0 rfl ?_
          refine r_goto (tgt := 55) cx dX1_applyTo_50 (by decide) ?_
          refine r_istore cx dX1_applyTo_55 (by decide) rfl ?_
          refine r_iload cx dX1_applyTo_57 rfl ?_
          refine r_iconst (v := -1) cx dX1_applyTo_59 (by decide) ?_
          refine r_icmpeq (tgt := 77) cx dX1_applyTo_60 (by decide) (fun h_60 => ?_) (fun h_60 => ?_)
          · skip
            obtain rfl := toI_none hto h_60
            have J2 := J_77 () trivial
            dsimp only at J2
            rw [apL_none h_43] at J2
            exact r_lv (q_pk [2, 3, 4, 5, 6, 8, 1] rfl) (J2)
          · skip
            obtain ⟨t, rfl⟩ := toI_some h_60
            have ht8 := hto t rfl
            have hk := apL_some (t := t) h_43
            refine r_iload_n cx dX1_applyTo_63 rfl rfl ?_
            refine r_iload cx dX1_applyTo_64 rfl ?_
            refine r_iconst (v := nI 1) cx dX1_applyTo_66 (by decide) ?_
            first | refine r_iaddN cx dX1_applyTo_67 ?_ | refine r_iadd cx dX1_applyTo_67 ?_
            refine r_iload_n cx dX1_applyTo_68 rfl rfl ?_
            first | refine r_imulN cx dX1_applyTo_69 ?_ | refine r_imul cx dX1_applyTo_69 ?_
            first | refine r_iaddN cx dX1_applyTo_70 ?_ | refine r_iadd cx dX1_applyTo_70 ?_
            refine r_eqi (y := nI (num (apL so (some t) be (x :: l2)))) (congrArg nI (hk.1.symm)) ?_
            refine r_istore_n cx dX1_applyTo_71 rfl (by decide) rfl ?_
            refine r_iload_n cx dX1_applyTo_72 rfl rfl ?_
            refine r_bipush (v := nI 9) cx dX1_applyTo_73 (by decide) ?_
            first | refine r_imulN cx dX1_applyTo_75 ?_ | refine r_imul cx dX1_applyTo_75 ?_
            refine r_eqi (y := nI (9 ^ (apL so (some t) be (x :: l2)).length)) (congrArg nI (by rw [hk.2, Nat.pow_succ])) ?_
            refine r_istore_n cx dX1_applyTo_76 rfl (by decide) rfl ?_
            exact r_lv (q_pk [4, 5, 1, 0, 6, 8, 3] rfl) (J_77 () trivial)
end
section
def levI (x : Nat) (f : List Nat → Nat) : List Nat → Nat
  | [] => f [] + 1
  | y :: v => min (f v + if x = y then 0 else 1) (min (f (y :: v)) (levI x f v) + 1)
def lev : List Nat → List Nat → Nat
  | [] => fun b => b.length
  | x :: a => levI x (lev a)
theorem levI_le (x : Nat) (f : List Nat → Nat) : ∀ v, levI x f v ≤ f v + 1
  | [] => Nat.le_refl _
  | y :: v => by
    rw [levI]
    omega
theorem lev_le : ∀ (a b : List Nat), lev a b ≤ a.length + b.length
  | [], b => by simp [lev]
  | x :: a, b => by
    have h1 := levI_le x (lev a) b
    have h2 := lev_le a b
    rw [lev, List.length_cons]
    omega
theorem q_min {a b : Nat} (ha : a < 2147483648) (hb : b < 2147483648) : (if nI b < nI a then nI b else nI a) = nI (min a b) := by
  by_cases h : b < a
  · rw [if_pos ((nI_ltI hb ha).mpr h), Nat.min_eq_right (Nat.le_of_lt h)]
  · rw [if_neg (fun z => h ((nI_ltI hb ha).mp z)), Nat.min_eq_left (by omega)]
theorem suf_len {b u v u2 v2 : List Nat} (h : b = u ++ v) (h2 : b = u2 ++ v2) (hl : v.length = v2.length) : v = v2 := (List.append_inj_right' (h.symm.trans h2) hl)
set_option maxHeartbeats 4000000 in
set_option maxRecDepth 100000 in
theorem c_StepCounter (l : Launch) (g : q_G) (wr : va_W) (a0 : Nat) : MetW l g yX2_init cX2_init 1 none ({ frames := 1, cells := 1, slots := 9, locals := 20 } : Room) [.ref a0] ((a0, .inr (3, [.null])) :: wr) (q_Qv g (fun w => ∃ q : Nat, w = ((a0, .inr (3, [.ref q])) :: wr) ++ [(q, .inl (q_cI g, 9, .inl (fun _ => 0)))])) := by
  refine q_met (own := RX2) (by decide +kernel) rfl (Nat.le_of_ble_eq_true rfl) (fun p e s m args below meth c cx hr hnm => ?_)
  refine r_lv (lv2 := [(0, .ref a0)]) (q_pk [0] rfl) ?_
  refine r_aload_n cx dX2_init_0 rfl rfl ?_
  refine r_objInit cx tb_60 tb_27 tb_28 dX2_init_1 (Nat.le_of_ble_eq_true rfl) (Nat.le_of_ble_eq_true rfl) ?_
  refine r_aload_n cx dX2_init_4 rfl rfl ?_
  refine r_bipush (v := nI 9) cx dX2_init_5 (by decide) ?_
  refine r_newarr (atype := .int) (N := 9) (a0 := (9, .inl (fun _ => 0))) cx 0 tb_65 rfl rfl trivial (fun _ => rfl) (by decide) (by decide) dX2_init_7 (Nat.le_of_ble_eq_true rfl) (Nat.le_of_ble_eq_true rfl) (fun q => ?_)
  refine pf_X2_9 cx hnm dX2_init_9 0 rfl (Nat.le_of_ble_eq_true rfl) ?_
  exact r_vret cx dX2_init_12 hr (⟨q, rfl⟩) (Nat.le_of_ble_eq_true rfl) (Nat.le_of_ble_eq_true rfl)
set_option maxHeartbeats 4000000 in
set_option maxRecDepth 100000 in
theorem c_goThrough (l : Launch) (g : q_G) (wr : va_W) (a0 a1 : Nat) (row : Nat → Int32) (x0 : Nat) (b : List Nat) (f : List Nat → Nat) (hf : ∀ v, v.length ≤ 8 → f v ≤ 1000) (hx0 : x0 < 8) (hb : snd b) (hbl : b.length ≤ 8) (hrow : ∀ u v, b = u ++ v → row v.length = nI (f v)) : MetW l g yX2_goThrough cX2_goThrough 8 (some .int) ({ frames := 1, cells := 0, slots := 0, locals := 30 } : Room) [.ref a0, .int (nI (x0 + 1)), .int (nI (num b))] ((a0, .inr (3, [.ref a1])) :: (a1, .inl (q_cI g, 9, .inl row)) :: wr) (q_Qi g (fun r w => r = nI (levI x0 f b) ∧ ∃ row2 : Nat → Int32, w = ((a0, .inr (3, [.ref a1])) :: (a1, .inl (q_cI g, 9, .inl row2)) :: wr) ∧ ∀ u v, b = u ++ v → row2 v.length = nI (levI x0 f v))) := by
  refine q_met (own := RX2) (by decide +kernel) rfl (Nat.le_of_ble_eq_true rfl) (fun p e s m args below meth c cx hr hnm => ?_)
  refine r_lv (lv2 := [(0, .ref a0), (1, .int (nI (x0 + 1))), (2, .int (nI (num b)))]) (q_pk [0, 1, 2] rfl) ?_
  refine r_aload_n cx dX2_goThrough_0 rfl rfl ?_
  refine gf_X2_9 cx dX2_goThrough_1 0 rfl rfl ?_
  refine r_iconst (v := nI 0) cx dX2_goThrough_4 (by decide) ?_
  first | refine r_ialdN cx 1 0 dX2_goThrough_5 rfl rfl (by omega) (by omega) ?_ | refine r_iald cx 1 0 dX2_goThrough_5 rfl rfl (by omega) ?_
  refine r_eqi (y := nI (f [])) (hrow b [] (by simp)) ?_
  refine r_istore_n cx dX2_goThrough_6 rfl (by decide) rfl ?_
  refine r_aload_n cx dX2_goThrough_7 rfl rfl ?_
  refine gf_X2_9 cx dX2_goThrough_8 0 rfl rfl ?_
  refine r_iconst (v := nI 0) cx dX2_goThrough_11 (by decide) ?_
  refine r_iload_n cx dX2_goThrough_12 rfl rfl ?_
  refine r_iconst (v := nI 1) cx dX2_goThrough_13 (by decide) ?_
  first | refine r_iaddN cx dX2_goThrough_14 ?_ | refine r_iadd cx dX2_goThrough_14 ?_
  first | refine r_iastN cx 1 0 dX2_goThrough_15 rfl rfl (by omega) (by omega) ?_ | refine r_iast cx 1 0 dX2_goThrough_15 rfl rfl (by omega) ?_
  refine r_aload_n cx dX2_goThrough_16 rfl rfl ?_
  refine gf_X2_9 cx dX2_goThrough_17 0 rfl rfl ?_
  refine r_iconst (v := nI 0) cx dX2_goThrough_20 (by decide) ?_
  first | refine r_ialdN cx 1 0 dX2_goThrough_21 rfl rfl (by omega) (by omega) ?_ | refine r_iald cx 1 0 dX2_goThrough_21 rfl rfl (by omega) ?_
  refine r_eqi (y := nI (levI x0 f [])) rfl ?_
  refine r_istore cx dX2_goThrough_22 (by decide) rfl ?_
  refine r_iload_n cx dX2_goThrough_24 rfl rfl ?_
  refine r_istore cx dX2_goThrough_25 (by decide) rfl ?_
  refine r_iconst (v := nI 1) cx dX2_goThrough_27 (by decide) ?_
  refine r_istore cx dX2_goThrough_28 (by decide) rfl ?_
  refine at_loop (fun (x : (List Nat × List Nat) × (Nat → Int32)) => x.1.1 ++ x.1.2 = b ∧ (∀ u v, b = u ++ v → v.length ≤ x.1.2.length → x.2 v.length = nI (levI x0 f v)) ∧ (∀ u v, b = u ++ v → x.1.2.length < v.length → x.2 v.length = nI (f v))) (fun x => [(0, .ref a0), (1, .int (nI (x0 + 1))), (3, .int (nI (f x.1.2))), (4, .int (nI (levI x0 f x.1.2))), (5, .int (nI (num x.1.1))), (6, .int (nI (x.1.2.length + 1)))]) (fun x => (a0, .inr (3, [.ref a1])) :: (a1, .inl (q_cI g, 9, .inl x.2)) :: wr) (fun x => x.1.1.length) ((b, []), upd row 0 (nI (f [] + 1))) ⟨List.append_nil b, fun u v hu hv => by
    obtain rfl : v = [] := List.eq_nil_of_length_eq_zero (Nat.le_zero.mp hv)
    rfl, fun u v hu hv => by
    have h9 : v.length ≠ 0 := by simp only [List.length_nil] at hv; omega
    show upd row 0 _ v.length = _
    rw [pk_un h9]
    exact hrow u v hu⟩ (q_pk [4, 5, 3, 2, 1, 0] rfl) rfl (fun x hx ih => ?_)
  obtain ⟨⟨b1, b2⟩, rw1⟩ := x
  try dsimp only at hx ⊢
  obtain ⟨hx1, hx2, hx3⟩ := hx
  have hlen : b1.length + b2.length = b.length := by rw [← hx1, List.length_append]
  have hs1 : snd b1 := (snd_app.mp (hx1 ▸ hb)).1
  have hb1 := num_bd hs1 (by omega)
  have hf1 := hf b2 (by omega)
  have hf2 := levI_le x0 f b2
  refine r_iload cx dX2_goThrough_30 rfl ?_
  refine r_aload_n cx dX2_goThrough_32 rfl rfl ?_
  refine gf_X2_9 cx dX2_goThrough_33 0 rfl rfl ?_
  refine r_alen (v := nI 9) cx 1 0 dX2_goThrough_36 rfl rfl rfl ?_
  refine r_icmpgeN (tgt := 115) cx (by omega) (by omega) dX2_goThrough_37 (by decide) (fun h_37 => ?_) (fun h_37 => ?_)
  · skip
    obtain rfl : b1 = [] := List.eq_nil_of_length_eq_zero (by omega)
    obtain rfl : b2 = b := by simpa using hx1
    refine r_iload cx dX2_goThrough_115 rfl ?_
    exact r_iret cx dX2_goThrough_117 hr (⟨rfl, rw1, rfl, fun u v hu => hx2 u v hu (by rw [hu]; simp)⟩) (Nat.le_of_ble_eq_true rfl) (Nat.le_of_ble_eq_true rfl)
  · skip
    refine r_iload cx dX2_goThrough_40 rfl ?_
    refine r_ifleN (tgt := 115) cx (by omega) dX2_goThrough_42 (by decide) (fun h_42 => ?_) (fun h_42 => ?_)
    · skip
      obtain rfl : b1 = [] := num_zero.mp h_42
      obtain rfl : b2 = b := by simpa using hx1
      refine r_iload cx dX2_goThrough_115 rfl ?_
      exact r_iret cx dX2_goThrough_117 hr (⟨rfl, rw1, rfl, fun u v hu => hx2 u v hu (by rw [hu]; simp)⟩) (Nat.le_of_ble_eq_true rfl) (Nat.le_of_ble_eq_true rfl)
    · skip
      obtain ⟨b1, y, rfl⟩ := l_snoc (l := b1) (fun z => by rw [z] at h_42; exact absurd h_42 (by decide))
      have hy8 : y < 8 := hs1 y (by simp)
      have hsn := num_snoc b1 y
      rw [List.length_append, List.length_singleton] at hlen
      have hf3 := hf (y :: b2) (by simp only [List.length_cons]; omega)
      have hf4 := levI_le x0 f (y :: b2)
      refine r_iload cx dX2_goThrough_45 rfl ?_
      refine r_bipush (v := nI 9) cx dX2_goThrough_47 (by decide) ?_
      refine r_iremN cx dX2_goThrough_49 (by omega) (by omega) (by omega) ?_
      refine r_iload_n cx dX2_goThrough_50 rfl rfl ?_
      refine r_icmpneN (tgt := 58) cx (by omega) (by omega) dX2_goThrough_51 (by decide) (fun h_51 => ?_) (fun h_51 => ?_)
      · skip
        refine r_iload_n cx dX2_goThrough_58 rfl rfl ?_
        refine r_iconst (v := nI 1) cx dX2_goThrough_59 (by decide) ?_
        first | refine r_iaddN cx dX2_goThrough_60 ?_ | refine r_iadd cx dX2_goThrough_60 ?_
        refine r_istore cx dX2_goThrough_61 (by decide) rfl ?_
        refine r_aload_n cx dX2_goThrough_63 rfl rfl ?_
        refine gf_X2_9 cx dX2_goThrough_64 0 rfl rfl ?_
        refine r_iload cx dX2_goThrough_67 rfl ?_
        first | refine r_ialdN cx 1 0 dX2_goThrough_69 rfl rfl (by omega) (by omega) ?_ | refine r_iald cx 1 0 dX2_goThrough_69 rfl rfl (by omega) ?_
        refine r_eqi (y := nI (f (y :: b2))) (hx3 b1 (y :: b2) (by simp [← hx1]) (by simp)) ?_
        refine r_istore_n cx dX2_goThrough_70 rfl (by decide) rfl ?_
        refine r_iload cx dX2_goThrough_71 rfl ?_
        refine r_iload_n cx dX2_goThrough_73 rfl rfl ?_
        refine r_aload_n cx dX2_goThrough_74 rfl rfl ?_
        refine gf_X2_9 cx dX2_goThrough_75 0 rfl rfl ?_
        refine r_iload cx dX2_goThrough_78 rfl ?_
        refine r_iconst (v := nI 1) cx dX2_goThrough_80 (by decide) ?_
        first | refine r_isubN cx dX2_goThrough_81 (by omega) ?_ | refine r_isub cx dX2_goThrough_81 ?_
        first | refine r_ialdN cx 1 0 dX2_goThrough_82 rfl rfl (by omega) (by omega) ?_ | refine r_iald cx 1 0 dX2_goThrough_82 rfl rfl (by omega) ?_
        rw [Nat.add_sub_cancel]
        refine r_eqi (y := nI (levI x0 f b2)) (hx2 (b1 ++ [y]) b2 (by simp [← hx1]) (Nat.le_refl _)) ?_
        refine r_min cx tb_285 tb_286 tb_15 tb_287 dX2_goThrough_83 (Nat.le_of_ble_eq_true rfl) (Nat.le_of_ble_eq_true rfl) (Nat.le_of_ble_eq_true rfl) (Nat.le_of_ble_eq_true rfl) ?_
        rw [q_min (by omega) (by omega)]
        refine r_iconst (v := nI 1) cx dX2_goThrough_86 (by decide) ?_
        first | refine r_iaddN cx dX2_goThrough_87 ?_ | refine r_iadd cx dX2_goThrough_87 ?_
        refine r_min cx tb_285 tb_286 tb_15 tb_287 dX2_goThrough_88 (Nat.le_of_ble_eq_true rfl) (Nat.le_of_ble_eq_true rfl) (Nat.le_of_ble_eq_true rfl) (Nat.le_of_ble_eq_true rfl) ?_
        rw [q_min (by omega) (by omega)]
        refine r_eqi (y := nI (levI x0 f (y :: b2))) (congrArg nI (by rw [levI, if_neg (by omega : ¬ x0 = y)])) ?_
        refine r_istore cx dX2_goThrough_91 (by decide) rfl ?_
        refine r_aload_n cx dX2_goThrough_93 rfl rfl ?_
        refine gf_X2_9 cx dX2_goThrough_94 0 rfl rfl ?_
        refine r_iload cx dX2_goThrough_97 rfl ?_
        refine r_iload cx dX2_goThrough_99 rfl ?_
        first | refine r_iastN cx 1 0 dX2_goThrough_101 rfl rfl (by omega) (by omega) ?_ | refine r_iast cx 1 0 dX2_goThrough_101 rfl rfl (by omega) ?_
        refine r_iload cx dX2_goThrough_102 rfl ?_
        refine r_bipush (v := nI 9) cx dX2_goThrough_104 (by decide) ?_
        refine r_idivN cx dX2_goThrough_106 (by omega) (by omega) (by omega) ?_
        refine r_eqi (y := nI (num b1)) (congrArg nI (by omega)) ?_
        refine r_istore cx dX2_goThrough_107 (by decide) rfl ?_
        refine r_iincN (j := 1) cx dX2_goThrough_109 rfl rfl (by decide) rfl ?_
        refine r_goto (tgt := 30) cx dX2_goThrough_112 (by decide) ?_
        exact r_lv (q_pk [5, 6, 3, 2, 1, 0] rfl) (ih ((b1, y :: b2), upd rw1 (b2.length + 1) (nI (levI x0 f (y :: b2)))) ⟨by rw [← hx1]; simp, fun u v hu hv => by
    show upd rw1 _ _ v.length = _
    by_cases h9 : v.length = b2.length + 1
    · obtain rfl : v = y :: b2 := suf_len hu (by rw [← hx1]; simp : b = b1 ++ (y :: b2)) (by simp [h9])
      exact (congrArg _ h9).trans pk_us
    · rw [pk_un h9]
      exact hx2 u v hu (by simp only [List.length_cons] at hv; omega), fun u v hu hv => by
    show upd rw1 _ _ v.length = _
    simp only [List.length_cons] at hv
    rw [pk_un (by omega)]
    exact hx3 u v hu (by omega)⟩ (by simp))
      · skip
        refine r_iload_n cx dX2_goThrough_54 rfl rfl ?_
        refine r_goto (tgt := 61) cx dX2_goThrough_55 (by decide) ?_
        refine r_istore cx dX2_goThrough_61 (by decide) rfl ?_
        refine r_aload_n cx dX2_goThrough_63 rfl rfl ?_
        refine gf_X2_9 cx dX2_goThrough_64 0 rfl rfl ?_
        refine r_iload cx dX2_goThrough_67 rfl ?_
        first | refine r_ialdN cx 1 0 dX2_goThrough_69 rfl rfl (by omega) (by omega) ?_ | refine r_iald cx 1 0 dX2_goThrough_69 rfl rfl (by omega) ?_
        refine r_eqi (y := nI (f (y :: b2))) (hx3 b1 (y :: b2) (by simp [← hx1]) (by simp)) ?_
        refine r_istore_n cx dX2_goThrough_70 rfl (by decide) rfl ?_
        refine r_iload cx dX2_goThrough_71 rfl ?_
        refine r_iload_n cx dX2_goThrough_73 rfl rfl ?_
        refine r_aload_n cx dX2_goThrough_74 rfl rfl ?_
        refine gf_X2_9 cx dX2_goThrough_75 0 rfl rfl ?_
        refine r_iload cx dX2_goThrough_78 rfl ?_
        refine r_iconst (v := nI 1) cx dX2_goThrough_80 (by decide) ?_
        first | refine r_isubN cx dX2_goThrough_81 (by omega) ?_ | refine r_isub cx dX2_goThrough_81 ?_
        first | refine r_ialdN cx 1 0 dX2_goThrough_82 rfl rfl (by omega) (by omega) ?_ | refine r_iald cx 1 0 dX2_goThrough_82 rfl rfl (by omega) ?_
        rw [Nat.add_sub_cancel]
        refine r_eqi (y := nI (levI x0 f b2)) (hx2 (b1 ++ [y]) b2 (by simp [← hx1]) (Nat.le_refl _)) ?_
        refine r_min cx tb_285 tb_286 tb_15 tb_287 dX2_goThrough_83 (Nat.le_of_ble_eq_true rfl) (Nat.le_of_ble_eq_true rfl) (Nat.le_of_ble_eq_true rfl) (Nat.le_of_ble_eq_true rfl) ?_
        rw [q_min (by omega) (by omega)]
        refine r_iconst (v := nI 1) cx dX2_goThrough_86 (by decide) ?_
        first | refine r_iaddN cx dX2_goThrough_87 ?_ | refine r_iadd cx dX2_goThrough_87 ?_
        refine r_min cx tb_285 tb_286 tb_15 tb_287 dX2_goThrough_88 (Nat.le_of_ble_eq_true rfl) (Nat.le_of_ble_eq_true rfl) (Nat.le_of_ble_eq_true rfl) (Nat.le_of_ble_eq_true rfl) ?_
        rw [q_min (by omega) (by omega)]
        refine r_eqi (y := nI (levI x0 f (y :: b2))) (congrArg nI (by rw [levI, if_pos (by omega : x0 = y)]; rfl)) ?_
        refine r_istore cx dX2_goThrough_91 (by decide) rfl ?_
        refine r_aload_n cx dX2_goThrough_93 rfl rfl ?_
        refine gf_X2_9 cx dX2_goThrough_94 0 rfl rfl ?_
        refine r_iload cx dX2_goThrough_97 rfl ?_
        refine r_iload cx dX2_goThrough_99 rfl ?_
        first | refine r_iastN cx 1 0 dX2_goThrough_101 rfl rfl (by omega) (by omega) ?_ | refine r_iast cx 1 0 dX2_goThrough_101 rfl rfl (by omega) ?_
        refine r_iload cx dX2_goThrough_102 rfl ?_
        refine r_bipush (v := nI 9) cx dX2_goThrough_104 (by decide) ?_
        refine r_idivN cx dX2_goThrough_106 (by omega) (by omega) (by omega) ?_
        refine r_eqi (y := nI (num b1)) (congrArg nI (by omega)) ?_
        refine r_istore cx dX2_goThrough_107 (by decide) rfl ?_
        refine r_iincN (j := 1) cx dX2_goThrough_109 rfl rfl (by decide) rfl ?_
        refine r_goto (tgt := 30) cx dX2_goThrough_112 (by decide) ?_
        exact r_lv (q_pk [5, 6, 3, 2, 1, 0] rfl) (ih ((b1, y :: b2), upd rw1 (b2.length + 1) (nI (levI x0 f (y :: b2)))) ⟨by rw [← hx1]; simp, fun u v hu hv => by
    show upd rw1 _ _ v.length = _
    by_cases h9 : v.length = b2.length + 1
    · obtain rfl : v = y :: b2 := suf_len hu (by rw [← hx1]; simp : b = b1 ++ (y :: b2)) (by simp [h9])
      exact (congrArg _ h9).trans pk_us
    · rw [pk_un h9]
      exact hx2 u v hu (by simp only [List.length_cons] at hv; omega), fun u v hu hv => by
    show upd rw1 _ _ v.length = _
    simp only [List.length_cons] at hv
    rw [pk_un (by omega)]
    exact hx3 u v hu (by omega)⟩ (by simp))
set_option maxHeartbeats 4000000 in
set_option maxRecDepth 100000 in
theorem c_countSteps (l : Launch) (g : q_G) (wr : va_W) (s0 s1 : Nat) (row : Nat → Int32) (a b : List Nat) (ha : snd a) (hal : a.length ≤ 8) (hb : snd b) (hbl : b.length ≤ 8) (hne : a ≠ []) : MetW l g yX2_countSteps cX2_countSteps 6 (some .int) ({ frames := 2, cells := 0, slots := 0, locals := 57 } : Room) [.ref s0, .int (nI (num a)), .int (nI (num b))] ((s0, .inr (3, [.ref s1])) :: (s1, .inl (q_cI g, 9, .inl row)) :: wr) (q_Qi g (fun r w => r = nI (lev a b) ∧ ∃ row2 : Nat → Int32, w = ((s0, .inr (3, [.ref s1])) :: (s1, .inl (q_cI g, 9, .inl row2)) :: wr))) := by
  refine q_met (own := RX2) (by decide +kernel) rfl (Nat.le_of_ble_eq_true rfl) (fun p e s m args below meth c cx hr hnm => ?_)
  refine r_lv (lv2 := [(0, .ref s0), (1, .int (nI (num a))), (2, .int (nI (num b)))]) (q_pk [0, 1, 2] rfl) ?_
  refine r_iconst (v := nI 0) cx dX2_countSteps_0 (by decide) ?_
  refine r_istore_n cx dX2_countSteps_1 rfl (by decide) rfl ?_
  refine at_loop (fun (x : Nat × (Nat → Int32)) => x.1 ≤ 9 ∧ ∀ j, j < x.1 → x.2 j = nI j) (fun x => [(0, .ref s0), (1, .int (nI (num a))), (2, .int (nI (num b))), (3, .int (nI x.1))]) (fun x => (s0, .inr (3, [.ref s1])) :: (s1, .inl (q_cI g, 9, .inl x.2)) :: wr) (fun x => 9 - x.1) (0, row) ⟨Nat.zero_le _, fun j hj => absurd hj (Nat.not_lt_zero j)⟩ (q_pk [1, 2, 3, 0] rfl) rfl (fun x hx ih => ?_)
  obtain ⟨j, rw1⟩ := x
  try dsimp only at hx ⊢
  obtain ⟨hx1, hx2⟩ := hx
  refine r_iload_n cx dX2_countSteps_2 rfl rfl ?_
  refine r_aload_n cx dX2_countSteps_3 rfl rfl ?_
  refine gf_X2_9 cx dX2_countSteps_4 0 rfl rfl ?_
  refine r_alen (v := nI 9) cx 1 0 dX2_countSteps_7 rfl rfl rfl ?_
  refine r_icmpgeN (tgt := 24) cx (by omega) (by omega) dX2_countSteps_8 (by decide) (fun h_8 => ?_) (fun h_8 => ?_)
  · skip
    obtain rfl : j = 9 := by omega
    refine r_iload_n cx dX2_countSteps_24 rfl rfl ?_
    refine r_istore_n cx dX2_countSteps_25 rfl (by decide) rfl ?_
    refine r_aload_n cx dX2_countSteps_26 rfl rfl ?_
    refine gf_X2_9 cx dX2_countSteps_27 0 rfl rfl ?_
    refine r_iconst (v := nI 0) cx dX2_countSteps_30 (by decide) ?_
    first | refine r_ialdN cx 1 0 dX2_countSteps_31 rfl rfl (by omega) (by omega) ?_ | refine r_iald cx 1 0 dX2_countSteps_31 rfl rfl (by omega) ?_
    refine r_istore cx dX2_countSteps_32 (by decide) rfl ?_
    refine r_iconst (v := nI 0) cx dX2_countSteps_34 (by decide) ?_
    refine r_istore cx dX2_countSteps_35 (by decide) rfl ?_
    refine at_loop (fun (x : (List Nat × List Nat) × (Nat → Int32)) => x.1.1 ++ x.1.2 = a ∧ (∀ u v, b = u ++ v → x.2 v.length = nI (lev x.1.2 v))) (fun x => [(0, .ref s0), (2, .int (nI (num b))), (3, .int (nI (num x.1.1))), (4, .int (if x.1.2 = [] then rw1 0 else nI (lev x.1.2 b))), (5, .int (nI x.1.2.length))]) (fun x => (s0, .inr (3, [.ref s1])) :: (s1, .inl (q_cI g, 9, .inl x.2)) :: wr) (fun x => x.1.1.length) ((a, []), rw1) ⟨List.append_nil a, fun u v hu => by
    have h8 : v.length ≤ 8 := by have := congrArg List.length hu; simp only [List.length_append] at this; omega
    exact hx2 v.length (by omega)⟩ (q_pk [3, 5, 2, 1, 0] rfl) rfl (fun x hx ih => ?_)
    obtain ⟨⟨a1, a2⟩, rw2⟩ := x
    try dsimp only at hx ⊢
    obtain ⟨hx1, hx3⟩ := hx
    have hlen : a1.length + a2.length = a.length := by rw [← hx1, List.length_append]
    have hs1 : snd a1 := (snd_app.mp (hx1 ▸ ha)).1
    have hb1 := num_bd hs1 (by omega)
    refine r_iload cx dX2_countSteps_37 rfl ?_
    refine r_bipush (v := nI 8) cx dX2_countSteps_39 (by decide) ?_
    refine r_icmpgeN (tgt := 70) cx (by omega) (by omega) dX2_countSteps_41 (by decide) (fun h_41 => ?_) (fun h_41 => ?_)
    · skip
      obtain rfl : a1 = [] := List.eq_nil_of_length_eq_zero (by omega)
      obtain rfl : a2 = a := by simpa using hx1
      refine r_iload cx dX2_countSteps_70 rfl ?_
      exact r_iret cx dX2_countSteps_72 hr (⟨by rw [if_neg hne], rw2, rfl⟩) (Nat.le_of_ble_eq_true rfl) (Nat.le_of_ble_eq_true rfl)
    · skip
      refine r_iload_n cx dX2_countSteps_44 rfl rfl ?_
      refine r_ifleN (tgt := 70) cx (by omega) dX2_countSteps_45 (by decide) (fun h_45 => ?_) (fun h_45 => ?_)
      · skip
        obtain rfl : a1 = [] := num_zero.mp h_45
        obtain rfl : a2 = a := by simpa using hx1
        refine r_iload cx dX2_countSteps_70 rfl ?_
        exact r_iret cx dX2_countSteps_72 hr (⟨by rw [if_neg hne], rw2, rfl⟩) (Nat.le_of_ble_eq_true rfl) (Nat.le_of_ble_eq_true rfl)
      · skip
        obtain ⟨a1, y, rfl⟩ := l_snoc (l := a1) (fun z => by rw [z] at h_45; exact absurd h_45 (by decide))
        have hy8 : y < 8 := hs1 y (by simp)
        have hsn := num_snoc a1 y
        rw [List.length_append, List.length_singleton] at hlen
        refine r_aload_n cx dX2_countSteps_48 rfl rfl ?_
        refine r_iload_n cx dX2_countSteps_49 rfl rfl ?_
        refine r_bipush (v := nI 9) cx dX2_countSteps_50 (by decide) ?_
        refine r_iremN cx dX2_countSteps_52 (by omega) (by omega) (by omega) ?_
        refine r_eqi (y := nI (y + 1)) (congrArg nI (by omega)) ?_
        refine r_iload_n cx dX2_countSteps_53 rfl rfl ?_
        refine k_X2_15 cx (c_goThrough l g wr s0 s1 rw2 y b (lev a2) (fun v hv => by have := lev_le a2 v; omega) hy8 hb hbl hx3) dX2_countSteps_54 0 rfl ⟨Nat.le_of_ble_eq_true rfl, Nat.le_of_ble_eq_true rfl⟩ ⟨Nat.le_of_ble_eq_true rfl, Nat.le_of_ble_eq_true rfl⟩ rfl rfl (Nat.le_of_ble_eq_true rfl) (fun r w hp => ?_)
        obtain ⟨rfl, row2, rfl, hr2⟩ := hp
        refine r_eqi (y := (if (y :: a2) = [] then rw1 0 else nI (lev (y :: a2) b))) rfl ?_
        refine r_istore cx dX2_countSteps_57 (by decide) rfl ?_
        refine r_iload_n cx dX2_countSteps_59 rfl rfl ?_
        refine r_bipush (v := nI 9) cx dX2_countSteps_60 (by decide) ?_
        refine r_idivN cx dX2_countSteps_62 (by omega) (by omega) (by omega) ?_
        refine r_eqi (y := nI (num a1)) (congrArg nI (by omega)) ?_
        refine r_istore_n cx dX2_countSteps_63 rfl (by decide) rfl ?_
        refine r_iincN (j := 1) cx dX2_countSteps_64 rfl rfl (by decide) rfl ?_
        refine r_goto (tgt := 37) cx dX2_countSteps_67 (by decide) ?_
        exact r_lv (q_pk [3, 4, 1, 2, 0] rfl) (ih ((a1, y :: a2), row2) ⟨by rw [← hx1]; simp, hr2⟩ (by simp))
  · skip
    refine r_aload_n cx dX2_countSteps_11 rfl rfl ?_
    refine gf_X2_9 cx dX2_countSteps_12 0 rfl rfl ?_
    refine r_iload_n cx dX2_countSteps_15 rfl rfl ?_
    refine r_iload_n cx dX2_countSteps_16 rfl rfl ?_
    first | refine r_iastN cx 1 0 dX2_countSteps_17 rfl rfl (by omega) (by omega) ?_ | refine r_iast cx 1 0 dX2_countSteps_17 rfl rfl (by omega) ?_
    refine r_iincN (j := 1) cx dX2_countSteps_18 rfl rfl (by decide) rfl ?_
    refine r_goto (tgt := 2) cx dX2_countSteps_21 (by decide) ?_
    exact r_lv (q_pk [1, 2, 3, 0] rfl) (ih (j + 1, upd rw1 j (nI j)) ⟨by omega, fun k hk => by
    show upd rw1 j (nI j) k = nI k
    by_cases h9 : k = j
    · rw [h9, pk_us]
    · rw [pk_un h9]
      exact hx2 k (by omega)⟩ (by show 9 - (j + 1) < 9 - j; omega))
end
section
/-- what a world shows of the interviews -/
def ivV (g : q_G) (ws : va_W) (a0 aI : Nat) (th : Int64) (n : Nat) (ia : Nat → Nat) (bt : Nat → Int64) (fi : Nat → Nat → Int32) : Prop :=
  (∃ (q0 : Nat) (r1 r2 r3 r4 r5 r6 : Value) (dr dl : Int32), ws[q0]? = some (a0, .inr (4, [.ref aI, r1, r2, r3, r4, r5, r6, .long th, .int dr, .int dl]))) ∧ lsV g ws aI n ia ∧ n ≤ 40 ∧ ∀ i, i < n → ∃ qi : Nat, ws[qi]? = some (ia i, oI (bt i) (fi 0 i) (fi 1 i) (fi 2 i) (fi 3 i) (fi 4 i))
/-- what a world shows of the rules -/
def rlV (g : q_G) (ws : va_W) (a0 aR : Nat) (rn : Nat) (ra : Nat → Nat) (so be : Nat → Nat) (to : Nat → Option Nat) (rl : Nat → Nat → Int32) (gr : Nat → Int64) (fa : Nat → Bool) : Prop :=
  (∃ (q0 : Nat) (r0 r2 r3 r4 r5 r6 : Value) (th : Int64) (dr dl : Int32), ws[q0]? = some (a0, .inr (4, [r0, .ref aR, r2, r3, r4, r5, r6, .long th, .int dr, .int dl]))) ∧ lsV g ws aR rn ra ∧ rn ≤ 20 ∧ (∀ r, r < rn → so r < 8 ∧ be r < 10 ∧ ∀ t, to r = some t → t < 8) ∧ ∀ r, r < rn → ∃ q : Nat, ws[q]? = some (ra r, oR (nI (so r)) (toI (to r)) (nI (be r)) (rl 0 r) (rl 1 r) (rl 2 r) (gr r) (fa r))
def mtc (hr : Nat → Bool) (fi : Nat → Nat → Int32) (w p : Int32) (k : Nat) : Bool := hr k && (decide (fi 3 k = w) && decide (fi 1 k = p))
def cntF (hr : Nat → Bool) (fi : Nat → Nat → Int32) (w p f : Int32) : Nat → Nat
  | 0 => 0
  | k + 1 => if mtc hr fi w p k && decide (fi 4 k = f) then cntF hr fi w p f k + 1 else cntF hr fi w p f k
theorem cntF_no {hr : Nat → Bool} {fi : Nat → Nat → Int32} {w p f : Int32} {k : Nat} (h : (mtc hr fi w p k && decide (fi 4 k = f)) = false) : cntF hr fi w p f (k + 1) = cntF hr fi w p f k := by rw [cntF, h]; rfl
theorem cntF_yes {hr : Nat → Bool} {fi : Nat → Nat → Int32} {w p f : Int32} {k : Nat} (h : (mtc hr fi w p k && decide (fi 4 k = f)) = true) : cntF hr fi w p f (k + 1) = cntF hr fi w p f k + 1 := by rw [cntF, h]; rfl
theorem cntF_le (hr : Nat → Bool) (fi : Nat → Nat → Int32) (w p f : Int32) : ∀ k, cntF hr fi w p f k ≤ k
  | 0 => Nat.le_refl _
  | k + 1 => by
    have h := cntF_le hr fi w p f k
    rw [cntF]
    split <;> omega
/-- the form told most, and by how many, over the first k interviews -/
def mstF (hr : Nat → Bool) (fi : Nat → Nat → Int32) (n : Nat) (w p : Int32) : Nat → Int32 × Nat
  | 0 => (-1, 0)
  | k + 1 => if mtc hr fi w p k && decide ((mstF hr fi n w p k).2 < cntF hr fi w p (fi 4 k) n) then (fi 4 k, cntF hr fi w p (fi 4 k) n) else mstF hr fi n w p k
theorem mstF_no {hr : Nat → Bool} {fi : Nat → Nat → Int32} {n : Nat} {w p : Int32} {k : Nat} (h : (mtc hr fi w p k && decide ((mstF hr fi n w p k).2 < cntF hr fi w p (fi 4 k) n)) = false) : mstF hr fi n w p (k + 1) = mstF hr fi n w p k := by rw [mstF, h]; rfl
theorem mstF_yes {hr : Nat → Bool} {fi : Nat → Nat → Int32} {n : Nat} {w p : Int32} {k : Nat} (h : (mtc hr fi w p k && decide ((mstF hr fi n w p k).2 < cntF hr fi w p (fi 4 k) n)) = true) : mstF hr fi n w p (k + 1) = (fi 4 k, cntF hr fi w p (fi 4 k) n) := by rw [mstF, h]; rfl
theorem mstF_le (hr : Nat → Bool) (fi : Nat → Nat → Int32) (n : Nat) (w p : Int32) : ∀ k, (mstF hr fi n w p k).2 ≤ n
  | 0 => Nat.zero_le _
  | k + 1 => by
    rw [mstF]
    split
    · exact cntF_le hr fi w p _ n
    · exact mstF_le hr fi n w p k
def mst (hr : Nat → Bool) (fi : Nat → Nat → Int32) (n : Nat) (w p : Int32) : Int32 := (mstF hr fi n w p n).1
def lnc (ms : Nat → Int32) (k : Nat) : Bool := decide (ms k ≠ -1) && (decide (ms (k + 1) ≠ -1) && decide (ms k ≠ ms (k + 1)))
def drwF (ms : Nat → Int32) : Nat → Int32
  | 0 => 0
  | k + 1 => if lnc ms k then drwF ms k ||| (nI 1 <<< (nI k &&& 31)) else drwF ms k
theorem drwF_no {ms : Nat → Int32} {k : Nat} (h : lnc ms k = false) : drwF ms (k + 1) = drwF ms k := by rw [drwF, h]; rfl
theorem drwF_yes {ms : Nat → Int32} {k : Nat} (h : lnc ms k = true) : drwF ms (k + 1) = drwF ms k ||| (nI 1 <<< (nI k &&& 31)) := by rw [drwF, h]; rfl
def drw (hr : Nat → Bool) (fi : Nat → Nat → Int32) (n : Nat) (w : Int32) : Int32 := drwF (fun k => mst hr fi n w (nI k)) 9
def ivoF (th : Int64) (bt : Nat → Int64) (fi : Nat → Nat → Int32) (who : Int32) : Nat → Int64
  | 0 => 0
  | k + 1 => if hasB th (bt k) && decide (fi 0 k = who) then ivoF th bt fi who k ||| bt k else ivoF th bt fi who k
theorem ivoF_no {th : Int64} {bt : Nat → Int64} {fi : Nat → Nat → Int32} {who : Int32} {k : Nat} (h : (hasB th (bt k) && decide (fi 0 k = who)) = false) : ivoF th bt fi who (k + 1) = ivoF th bt fi who k := by rw [ivoF, h]; rfl
theorem ivoF_yes {th : Int64} {bt : Nat → Int64} {fi : Nat → Nat → Int32} {who : Int32} {k : Nat} (h : (hasB th (bt k) && decide (fi 0 k = who)) = true) : ivoF th bt fi who (k + 1) = ivoF th bt fi who k ||| bt k := by rw [ivoF, h]; rfl
def goF (rl : Nat → Nat → Int32) (fa : Nat → Bool) (p y : Int32) (r : Nat) : Bool := !fa r && decide (rl 0 r ≤ p) && decide (p ≤ rl 1 r) && decide (rl 2 r ≤ y)
def expF (gs : Nat → Bool) (so be : Nat → Nat) (to : Nat → Option Nat) (l : List Nat) : Nat → List Nat
  | 0 => l
  | k + 1 => if gs k then apR (so k) (to k) (be k) (expF gs so be to l k) else expF gs so be to l k
theorem expF_no {gs : Nat → Bool} {so be : Nat → Nat} {to : Nat → Option Nat} {l : List Nat} {k : Nat} (h : gs k = false) : expF gs so be to l (k + 1) = expF gs so be to l k := by rw [expF, h]; rfl
theorem expF_yes {gs : Nat → Bool} {so be : Nat → Nat} {to : Nat → Option Nat} {l : List Nat} {k : Nat} (h : gs k = true) : expF gs so be to l (k + 1) = apR (so k) (to k) (be k) (expF gs so be to l k) := by rw [expF, h]; rfl
theorem expF_ok {gs : Nat → Bool} {so be : Nat → Nat} {to : Nat → Option Nat} {l : List Nat} {n : Nat} (hto : ∀ r, r < n → ∀ t, to r = some t → t < 8) (hl : snd l) (hn : l.length ≤ 8) : ∀ k, k ≤ n → snd (expF gs so be to l k) ∧ (expF gs so be to l k).length ≤ 8
  | 0, _ => ⟨hl, hn⟩
  | k + 1, hk => by
    have h := expF_ok (gs := gs) (so := so) (be := be) hto hl hn k (by omega)
    rw [expF]
    split
    · exact ⟨apR_snd (hto k (by omega)) h.1, Nat.le_trans (apR_len _ _ _ _) h.2⟩
    · exact h
theorem expF_ne {gs : Nat → Bool} {so be : Nat → Nat} {to : Nat → Option Nat} {l : List Nat} (h : l ≠ []) : ∀ k, expF gs so be to l k ≠ []
  | 0 => h
  | k + 1 => by
    rw [expF]
    split
    · exact apR_ne (expF_ne h k)
    · exact expF_ne h k
def roI : Option (List Nat) → Int32
  | none => -1
  | some l => nI (num l)
theorem roI_some {o : Option (List Nat)} (h : ¬ roI o = -1) : ∃ l, o = some l := by
  cases o with
  | none => exact absurd rfl h
  | some l => exact ⟨l, rfl⟩
theorem roI_none {o : Option (List Nat)} (hl : ∀ l, o = some l → snd l ∧ l.length ≤ 8) (h : roI o = -1) : o = none := by
  cases o with
  | none => rfl
  | some l =>
    have h2 := hl l rfl
    exact absurd h (nI_nm1 (by have := num_bd h2.1 h2.2; omega))
set_option maxHeartbeats 4000000 in
set_option maxRecDepth 100000 in
theorem c_countLike (l : Launch) (g : q_G) (ws : va_W) (a0 aI : Nat) (th : Int64) (n : Nat) (ia : Nat → Nat) (bt : Nat → Int64) (fi : Nat → Nat → Int32) (j : Nat) (hj : j < n) (hv : ivV g ws a0 aI th n ia bt fi) : MetW l g yX3_countLike cX3_countLike 5 (some .int) ({ frames := 3, cells := 0, slots := 0, locals := 64 } : Room) [.ref a0, .ref (ia j)] (ws) (q_Qi g (fun r w => r = nI (cntF (fun i => hasB th (bt i)) fi (fi 3 j) (fi 1 j) (fi 4 j) n) ∧ w = ws)) := by
  refine q_met (own := RX3) (by decide +kernel) rfl (Nat.le_of_ble_eq_true rfl) (fun p e s m args below meth c cx hr hnm => ?_)
  obtain ⟨⟨q0, r1, r2, r3, r4, r5, r6, dr, dl, h0⟩, hls, hn40, hob⟩ := hv
  obtain ⟨ql, mc, el, hl1, hl2, hl3⟩ := id hls
  obtain ⟨qj, hqj⟩ := hob j hj
  refine r_lv (lv2 := [(0, .ref a0), (1, .ref (ia j))]) (q_pk [0, 1] rfl) ?_
  refine r_iconst (v := nI 0) cx dX3_countLike_0 (by decide) ?_
  refine r_istore_n cx dX3_countLike_1 rfl (by decide) rfl ?_
  refine r_iconst (v := nI 0) cx dX3_countLike_2 (by decide) ?_
  refine r_istore_n cx dX3_countLike_3 rfl (by decide) rfl ?_
  refine at_loop (fun (x : Nat) => x ≤ n) (fun x => [(0, .ref a0), (1, .ref (ia j)), (2, .int (nI (cntF (fun i => hasB th (bt i)) fi (fi 3 j) (fi 1 j) (fi 4 j) x))), (3, .int (nI x))]) (fun x => ws) (fun x => n - x) 0 (Nat.zero_le n) (q_pk [2, 3, 1, 0] rfl) rfl (fun i hx ih => ?_)
  try dsimp only at hx ⊢
  have hc := cntF_le (fun i => hasB th (bt i)) fi (fi 3 j) (fi 1 j) (fi 4 j) i
  refine r_iload_n cx dX3_countLike_4 rfl rfl ?_
  refine r_aload_n cx dX3_countLike_5 rfl rfl ?_
  refine gf_X3_10 cx dX3_countLike_6 q0 h0 rfl ?_
  refine k_X3_80 cx (c_lsize l g _ aI n ia hls) dX3_countLike_9 ql hl1 ⟨Nat.le_of_ble_eq_true rfl, Nat.le_of_ble_eq_true rfl⟩ ⟨Nat.le_of_ble_eq_true rfl, Nat.le_of_ble_eq_true rfl⟩ rfl rfl (Nat.le_of_ble_eq_true rfl) (fun r w hp => ?_)
  obtain ⟨rfl, rfl⟩ := hp
  refine r_icmpgeN (tgt := 74) cx (by omega) (by omega) dX3_countLike_12 (by decide) (fun h_12 => ?_) (fun h_12 => ?_)
  · skip
    obtain rfl : i = n := by omega
    refine r_iload_n cx dX3_countLike_74 rfl rfl ?_
    exact r_iret cx dX3_countLike_75 hr (⟨rfl, rfl⟩) (Nat.le_of_ble_eq_true rfl) (Nat.le_of_ble_eq_true rfl)
  · skip
    refine r_aload_n cx dX3_countLike_15 rfl rfl ?_
    refine gf_X3_10 cx dX3_countLike_16 q0 h0 rfl ?_
    refine r_iload_n cx dX3_countLike_19 rfl rfl ?_
    refine k_X3_108 cx (c_lget l g _ aI n i ia hls h_12) dX3_countLike_20 ql hl1 ⟨Nat.le_of_ble_eq_true rfl, Nat.le_of_ble_eq_true rfl⟩ ⟨Nat.le_of_ble_eq_true rfl, Nat.le_of_ble_eq_true rfl⟩ rfl rfl (Nat.le_of_ble_eq_true rfl) (fun r w hp => ?_)
    obtain ⟨rfl, rfl⟩ := hp
    obtain ⟨qi, hqi⟩ := hob i h_12
    refine r_eqv (y := .ref (ia i)) rfl ?_
    refine r_cast (ci := 1) cx tb_219 dX3_countLike_23 qi rfl rfl hqi ?_
    refine r_astore cx dX3_countLike_26 (by decide) rfl ?_
    refine r_aload_n cx dX3_countLike_28 rfl rfl ?_
    refine r_aload cx dX3_countLike_29 rfl ?_
    refine k_X3_139 cx (c_isThere l g _ q0 qi _ _ _ _ _ _ _ _ _ _ _ _ _ _ _ _ _ _ h0 hqi) dX3_countLike_31 q0 h0 ⟨Nat.le_of_ble_eq_true rfl, Nat.le_of_ble_eq_true rfl⟩ ⟨Nat.le_of_ble_eq_true rfl, Nat.le_of_ble_eq_true rfl⟩ rfl rfl (Nat.le_of_ble_eq_true rfl) (fun r w hp => ?_)
    obtain ⟨rfl, rfl⟩ := hp
    refine r_ifeqb (tgt := 68) cx dX3_countLike_34 (by decide) (fun h_34 => ?_) (fun h_34 => ?_)
    · skip
      refine r_iincN (j := 1) cx dX3_countLike_68 rfl rfl (by decide) rfl ?_
      refine r_goto (tgt := 4) cx dX3_countLike_71 (by decide) ?_
      have z := ih (i + 1) (by omega) (by omega)
      dsimp only at z
      rw [cntF_no (by simp [mtc, h_34])] at z
      exact r_lv (q_pk [2, 3, 4, 0] rfl) (z)
    · skip
      refine r_aload cx dX3_countLike_37 rfl ?_
      refine r_aload_n cx dX3_countLike_39 rfl rfl ?_
      refine gf_X3_168 cx dX3_countLike_40 qj hqj rfl ?_
      refine r_aload_n cx dX3_countLike_43 rfl rfl ?_
      refine gf_X3_174 cx dX3_countLike_44 qj hqj rfl ?_
      refine k_X3_214 cx (c_isFor l g _ qi _ _ _ _ _ _ _ (fi 3 j) (fi 1 j) hqi) dX3_countLike_47 qi hqi ⟨Nat.le_of_ble_eq_true rfl, Nat.le_of_ble_eq_true rfl⟩ ⟨Nat.le_of_ble_eq_true rfl, Nat.le_of_ble_eq_true rfl⟩ rfl rfl (Nat.le_of_ble_eq_true rfl) (fun r w hp => ?_)
      obtain ⟨rfl, rfl⟩ := hp
      refine r_ifeqb (tgt := 68) cx dX3_countLike_50 (by decide) (fun h_50 => ?_) (fun h_50 => ?_)
      · skip
        refine r_iincN (j := 1) cx dX3_countLike_68 rfl rfl (by decide) rfl ?_
        refine r_goto (tgt := 4) cx dX3_countLike_71 (by decide) ?_
        have z := ih (i + 1) (by omega) (by omega)
        dsimp only at z
        rw [cntF_no (by simp only [mtc, h_50, Bool.and_false, Bool.false_and])] at z
        exact r_lv (q_pk [2, 3, 4, 0] rfl) (z)
      · skip
        refine r_aload cx dX3_countLike_53 rfl ?_
        refine gf_X3_171 cx dX3_countLike_55 qi hqi rfl ?_
        refine r_aload_n cx dX3_countLike_58 rfl rfl ?_
        refine gf_X3_171 cx dX3_countLike_59 qj hqj rfl ?_
        refine r_icmpne (tgt := 68) cx dX3_countLike_62 (by decide) (fun h_62 => ?_) (fun h_62 => ?_)
        · skip
          refine r_iincN (j := 1) cx dX3_countLike_68 rfl rfl (by decide) rfl ?_
          refine r_goto (tgt := 4) cx dX3_countLike_71 (by decide) ?_
          have z := ih (i + 1) (by omega) (by omega)
          dsimp only at z
          rw [cntF_no (by simp [h_62])] at z
          exact r_lv (q_pk [2, 3, 4, 0] rfl) (z)
        · skip
          refine r_iincN (j := 1) cx dX3_countLike_65 rfl rfl (by decide) rfl ?_
          refine r_iincN (j := 1) cx dX3_countLike_68 rfl rfl (by decide) rfl ?_
          refine r_goto (tgt := 4) cx dX3_countLike_71 (by decide) ?_
          have z := ih (i + 1) (by omega) (by omega)
          dsimp only at z
          rw [cntF_yes (by simp only [mtc, h_34, h_50, h_62, decide_true, Bool.and_self])] at z
          exact r_lv (q_pk [3, 4, 1, 0] rfl) (z)
set_option maxHeartbeats 4000000 in
set_option maxRecDepth 100000 in
theorem c_most (l : Launch) (g : q_G) (ws : va_W) (a0 aI : Nat) (th : Int64) (n : Nat) (ia : Nat → Nat) (bt : Nat → Int64) (fi : Nat → Nat → Int32) (w0 p0 : Int32) (hv : ivV g ws a0 aI th n ia bt fi) : MetW l g yX3_mostToldForm cX3_mostToldForm 8 (some .int) ({ frames := 4, cells := 0, slots := 0, locals := 88 } : Room) [.ref a0, .int w0, .int p0] (ws) (q_Qi g (fun r w => r = mst (fun i => hasB th (bt i)) fi n w0 p0 ∧ w = ws)) := by
  refine q_met (own := RX3) (by decide +kernel) rfl (Nat.le_of_ble_eq_true rfl) (fun p e s m args below meth c cx hr hnm => ?_)
  obtain ⟨⟨q0, r1, r2, r3, r4, r5, r6, dr, dl, h0⟩, hls, hn40, hob⟩ := hv
  obtain ⟨ql, mc, el, hl1, hl2, hl3⟩ := id hls
  refine r_lv (lv2 := [(0, .ref a0), (1, .int w0), (2, .int p0)]) (q_pk [0, 1, 2] rfl) ?_
  refine r_iconst (v := -1) cx dX3_mostToldForm_0 (by decide) ?_
  refine r_istore_n cx dX3_mostToldForm_1 rfl (by decide) rfl ?_
  refine r_iconst (v := nI 0) cx dX3_mostToldForm_2 (by decide) ?_
  refine r_istore cx dX3_mostToldForm_3 (by decide) rfl ?_
  refine r_iconst (v := nI 0) cx dX3_mostToldForm_5 (by decide) ?_
  refine r_istore cx dX3_mostToldForm_6 (by decide) rfl ?_
  refine at_loop (fun (x : Nat) => x ≤ n) (fun x => [(0, .ref a0), (1, .int w0), (2, .int p0), (3, .int (mstF (fun i => hasB th (bt i)) fi n w0 p0 x).1), (4, .int (nI (mstF (fun i => hasB th (bt i)) fi n w0 p0 x).2)), (5, .int (nI x))]) (fun x => ws) (fun x => n - x) 0 (Nat.zero_le n) (q_pk [3, 4, 5, 2, 1, 0] rfl) rfl (fun i hx ih => ?_)
  try dsimp only at hx ⊢
  have hc := mstF_le (fun i => hasB th (bt i)) fi n w0 p0 i
  refine r_iload cx dX3_mostToldForm_8 rfl ?_
  refine r_aload_n cx dX3_mostToldForm_10 rfl rfl ?_
  refine gf_X3_10 cx dX3_mostToldForm_11 q0 h0 rfl ?_
  refine k_X3_80 cx (c_lsize l g _ aI n ia hls) dX3_mostToldForm_14 ql hl1 ⟨Nat.le_of_ble_eq_true rfl, Nat.le_of_ble_eq_true rfl⟩ ⟨Nat.le_of_ble_eq_true rfl, Nat.le_of_ble_eq_true rfl⟩ rfl rfl (Nat.le_of_ble_eq_true rfl) (fun r w hp => ?_)
  obtain ⟨rfl, rfl⟩ := hp
  refine r_icmpgeN (tgt := 84) cx (by omega) (by omega) dX3_mostToldForm_17 (by decide) (fun h_17 => ?_) (fun h_17 => ?_)
  · skip
    obtain rfl : i = n := by omega
    refine r_iload_n cx dX3_mostToldForm_84 rfl rfl ?_
    exact r_iret cx dX3_mostToldForm_85 hr (⟨rfl, rfl⟩) (Nat.le_of_ble_eq_true rfl) (Nat.le_of_ble_eq_true rfl)
  · skip
    refine r_aload_n cx dX3_mostToldForm_20 rfl rfl ?_
    refine gf_X3_10 cx dX3_mostToldForm_21 q0 h0 rfl ?_
    refine r_iload cx dX3_mostToldForm_24 rfl ?_
    refine k_X3_108 cx (c_lget l g _ aI n i ia hls h_17) dX3_mostToldForm_26 ql hl1 ⟨Nat.le_of_ble_eq_true rfl, Nat.le_of_ble_eq_true rfl⟩ ⟨Nat.le_of_ble_eq_true rfl, Nat.le_of_ble_eq_true rfl⟩ rfl rfl (Nat.le_of_ble_eq_true rfl) (fun r w hp => ?_)
    obtain ⟨rfl, rfl⟩ := hp
    obtain ⟨qi, hqi⟩ := hob i h_17
    refine r_eqv (y := .ref (ia i)) rfl ?_
    refine r_cast (ci := 1) cx tb_219 dX3_mostToldForm_29 qi rfl rfl hqi ?_
    refine r_astore cx dX3_mostToldForm_32 (by decide) rfl ?_
    refine r_aload_n cx dX3_mostToldForm_34 rfl rfl ?_
    refine r_aload cx dX3_mostToldForm_35 rfl ?_
    refine k_X3_139 cx (c_isThere l g _ q0 qi _ _ _ _ _ _ _ _ _ _ _ _ _ _ _ _ _ _ h0 hqi) dX3_mostToldForm_37 q0 h0 ⟨Nat.le_of_ble_eq_true rfl, Nat.le_of_ble_eq_true rfl⟩ ⟨Nat.le_of_ble_eq_true rfl, Nat.le_of_ble_eq_true rfl⟩ rfl rfl (Nat.le_of_ble_eq_true rfl) (fun r w hp => ?_)
    obtain ⟨rfl, rfl⟩ := hp
    refine r_ifeqb (tgt := 78) cx dX3_mostToldForm_40 (by decide) (fun h_40 => ?_) (fun h_40 => ?_)
    · skip
      refine r_iincN (j := 1) cx dX3_mostToldForm_78 rfl rfl (by decide) rfl ?_
      refine r_goto (tgt := 8) cx dX3_mostToldForm_81 (by decide) ?_
      have z := ih (i + 1) (by omega) (by omega)
      dsimp only at z
      rw [mstF_no (by simp [mtc, h_40])] at z
      exact r_lv (q_pk [2, 3, 4, 5, 6, 0] rfl) (z)
    · skip
      refine r_aload cx dX3_mostToldForm_43 rfl ?_
      refine r_iload_n cx dX3_mostToldForm_45 rfl rfl ?_
      refine r_iload_n cx dX3_mostToldForm_46 rfl rfl ?_
      refine k_X3_214 cx (c_isFor l g _ qi _ _ _ _ _ _ _ w0 p0 hqi) dX3_mostToldForm_47 qi hqi ⟨Nat.le_of_ble_eq_true rfl, Nat.le_of_ble_eq_true rfl⟩ ⟨Nat.le_of_ble_eq_true rfl, Nat.le_of_ble_eq_true rfl⟩ rfl rfl (Nat.le_of_ble_eq_true rfl) (fun r w hp => ?_)
      obtain ⟨rfl, rfl⟩ := hp
      refine r_ifeqb (tgt := 78) cx dX3_mostToldForm_50 (by decide) (fun h_50 => ?_) (fun h_50 => ?_)
      · skip
        refine r_iincN (j := 1) cx dX3_mostToldForm_78 rfl rfl (by decide) rfl ?_
        refine r_goto (tgt := 8) cx dX3_mostToldForm_81 (by decide) ?_
        have z := ih (i + 1) (by omega) (by omega)
        dsimp only at z
        rw [mstF_no (by simp only [mtc, h_50, Bool.and_false, Bool.false_and])] at z
        exact r_lv (q_pk [2, 3, 4, 5, 6, 0] rfl) (z)
      · skip
        refine r_aload_n cx dX3_mostToldForm_53 rfl rfl ?_
        refine r_aload cx dX3_mostToldForm_54 rfl ?_
        refine k_X3_217 cx (c_countLike l g _ a0 aI th n ia bt fi i h_17 ⟨⟨q0, r1, r2, r3, r4, r5, r6, dr, dl, h0⟩, hls, hn40, hob⟩) dX3_mostToldForm_56 q0 h0 ⟨Nat.le_of_ble_eq_true rfl, Nat.le_of_ble_eq_true rfl⟩ ⟨Nat.le_of_ble_eq_true rfl, Nat.le_of_ble_eq_true rfl⟩ rfl rfl (Nat.le_of_ble_eq_true rfl) (fun r w hp => ?_)
        obtain ⟨rfl, rfl⟩ := hp
        have hwp : fi 3 i = w0 ∧ fi 1 i = p0 := by simpa using h_50
        rw [hwp.1, hwp.2]
        have hc2 := cntF_le (fun i => hasB th (bt i)) fi w0 p0 (fi 4 i) n
        refine r_istore cx dX3_mostToldForm_59 (by decide) rfl ?_
        refine r_iload cx dX3_mostToldForm_61 rfl ?_
        refine r_iload cx dX3_mostToldForm_63 rfl ?_
        refine r_icmpleN (tgt := 78) cx (by omega) (by omega) dX3_mostToldForm_65 (by decide) (fun h_65 => ?_) (fun h_65 => ?_)
        · skip
          refine r_iincN (j := 1) cx dX3_mostToldForm_78 rfl rfl (by decide) rfl ?_
          refine r_goto (tgt := 8) cx dX3_mostToldForm_81 (by decide) ?_
          have z := ih (i + 1) (by omega) (by omega)
          dsimp only at z
          rw [mstF_no (by rw [decide_eq_false (by omega), Bool.and_false])] at z
          exact r_lv (q_pk [3, 4, 5, 6, 7, 0] rfl) (z)
        · skip
          refine r_iload cx dX3_mostToldForm_68 rfl ?_
          refine r_istore cx dX3_mostToldForm_70 (by decide) rfl ?_
          refine r_aload cx dX3_mostToldForm_72 rfl ?_
          refine gf_X3_171 cx dX3_mostToldForm_74 qi hqi rfl ?_
          refine r_istore_n cx dX3_mostToldForm_77 rfl (by decide) rfl ?_
          refine r_iincN (j := 1) cx dX3_mostToldForm_78 rfl rfl (by decide) rfl ?_
          refine r_goto (tgt := 8) cx dX3_mostToldForm_81 (by decide) ?_
          have z := ih (i + 1) (by omega) (by omega)
          dsimp only at z
          rw [mstF_yes (by rw [decide_eq_true h_65]; simp only [mtc, h_40, h_50, Bool.and_self])] at z
          exact r_lv (q_pk [5, 6, 7, 1, 2, 0] rfl) (z)
set_option maxHeartbeats 4000000 in
set_option maxRecDepth 100000 in
theorem c_drawLines (l : Launch) (g : q_G) (ws : va_W) (a0 aI : Nat) (th : Int64) (n : Nat) (ia : Nat → Nat) (bt : Nat → Int64) (fi : Nat → Nat → Int32) (w0 : Int32) (hv : ivV g ws a0 aI th n ia bt fi) : MetW l g yX3_drawLines cX3_drawLines 6 (some .int) ({ frames := 5, cells := 0, slots := 0, locals := 115 } : Room) [.ref a0, .int w0] (ws) (q_Qi g (fun r w => r = drw (fun i => hasB th (bt i)) fi n w0 ∧ w = ws)) := by
  refine q_met (own := RX3) (by decide +kernel) rfl (Nat.le_of_ble_eq_true rfl) (fun p e s m args below meth c cx hr hnm => ?_)
  obtain ⟨⟨q0, r1, r2, r3, r4, r5, r6, dr, dl, h0⟩, hls, hn40, hob⟩ := hv
  obtain ⟨ql, mc, el, hl1, hl2, hl3⟩ := id hls
  refine r_lv (lv2 := [(0, .ref a0), (1, .int w0)]) (q_pk [0, 1] rfl) ?_
  refine r_iconst (v := 0) cx dX3_drawLines_0 (by decide) ?_
  refine r_istore_n cx dX3_drawLines_1 rfl (by decide) rfl ?_
  refine r_aload_n cx dX3_drawLines_2 rfl rfl ?_
  refine r_iload_n cx dX3_drawLines_3 rfl rfl ?_
  refine r_iconst (v := nI 0) cx dX3_drawLines_4 (by decide) ?_
  refine k_X3_184 cx (c_most l g _ a0 aI th n ia bt fi w0 (nI 0) ⟨⟨q0, r1, r2, r3, r4, r5, r6, dr, dl, h0⟩, hls, hn40, hob⟩) dX3_drawLines_5 q0 h0 ⟨Nat.le_of_ble_eq_true rfl, Nat.le_of_ble_eq_true rfl⟩ ⟨Nat.le_of_ble_eq_true rfl, Nat.le_of_ble_eq_true rfl⟩ rfl rfl (Nat.le_of_ble_eq_true rfl) (fun r w hp => ?_)
  obtain ⟨rfl, rfl⟩ := hp
  refine r_istore_n cx dX3_drawLines_8 rfl (by decide) rfl ?_
  refine r_iconst (v := nI 0) cx dX3_drawLines_9 (by decide) ?_
  refine r_istore cx dX3_drawLines_10 (by decide) rfl ?_
  refine at_loop (fun (x : Nat) => x ≤ 9) (fun x => [(0, .ref a0), (1, .int w0), (2, .int (drwF (fun k => mst (fun i => hasB th (bt i)) fi n w0 (nI k)) x)), (3, .int ((fun k => mst (fun i => hasB th (bt i)) fi n w0 (nI k)) x)), (4, .int (nI x))]) (fun x => w) (fun x => 9 - x) 0 (Nat.zero_le 9) (q_pk [3, 4, 2, 1, 0] rfl) rfl (fun i hx ih => ?_)
  try dsimp only at hx ⊢
  refine r_iload cx dX3_drawLines_12 rfl ?_
  refine r_iconst (v := nI 1) cx dX3_drawLines_14 (by decide) ?_
  first | refine r_iaddN cx dX3_drawLines_15 ?_ | refine r_iadd cx dX3_drawLines_15 ?_
  refine r_bipush (v := nI 10) cx dX3_drawLines_16 (by decide) ?_
  refine r_icmpgeN (tgt := 65) cx (by omega) (by omega) dX3_drawLines_18 (by decide) (fun h_18 => ?_) (fun h_18 => ?_)
  · skip
    obtain rfl : i = 9 := by omega
    refine r_iload_n cx dX3_drawLines_65 rfl rfl ?_
    exact r_iret cx dX3_drawLines_66 hr (⟨rfl, rfl⟩) (Nat.le_of_ble_eq_true rfl) (Nat.le_of_ble_eq_true rfl)
  · skip
    refine r_aload_n cx dX3_drawLines_21 rfl rfl ?_
    refine r_iload_n cx dX3_drawLines_22 rfl rfl ?_
    refine r_iload cx dX3_drawLines_23 rfl ?_
    refine r_iconst (v := nI 1) cx dX3_drawLines_25 (by decide) ?_
    first | refine r_iaddN cx dX3_drawLines_26 ?_ | refine r_iadd cx dX3_drawLines_26 ?_
    refine k_X3_184 cx (c_most l g _ a0 aI th n ia bt fi w0 (nI (i + 1)) ⟨⟨q0, r1, r2, r3, r4, r5, r6, dr, dl, h0⟩, hls, hn40, hob⟩) dX3_drawLines_27 q0 h0 ⟨Nat.le_of_ble_eq_true rfl, Nat.le_of_ble_eq_true rfl⟩ ⟨Nat.le_of_ble_eq_true rfl, Nat.le_of_ble_eq_true rfl⟩ rfl rfl (Nat.le_of_ble_eq_true rfl) (fun r w hp => ?_)
    obtain ⟨rfl, rfl⟩ := hp
    refine r_istore cx dX3_drawLines_30 (by decide) rfl ?_
    refine r_iload_n cx dX3_drawLines_32 rfl rfl ?_
    refine r_iconst (v := -1) cx dX3_drawLines_33 (by decide) ?_
    refine r_icmpeq (tgt := 56) cx dX3_drawLines_34 (by decide) (fun h_34 => ?_) (fun h_34 => ?_)
    · skip
      refine r_iload cx dX3_drawLines_56 rfl ?_
      refine r_istore_n cx dX3_drawLines_58 rfl (by decide) rfl ?_
      refine r_iincN (j := 1) cx dX3_drawLines_59 rfl rfl (by decide) rfl ?_
      refine r_goto (tgt := 12) cx dX3_drawLines_62 (by decide) ?_
      have z := ih (i + 1) (by omega) (by omega)
      dsimp only at z
      rw [drwF_no (ms := (fun k => mst (fun i => hasB th (bt i)) fi n w0 (nI k))) (by simp [lnc, h_34])] at z
      exact r_lv (q_pk [3, 4, 5, 1, 0] rfl) (z)
    · skip
      refine r_iload cx dX3_drawLines_37 rfl ?_
      refine r_iconst (v := -1) cx dX3_drawLines_39 (by decide) ?_
      refine r_icmpeq (tgt := 56) cx dX3_drawLines_40 (by decide) (fun h_40 => ?_) (fun h_40 => ?_)
      · skip
        refine r_iload cx dX3_drawLines_56 rfl ?_
        refine r_istore_n cx dX3_drawLines_58 rfl (by decide) rfl ?_
        refine r_iincN (j := 1) cx dX3_drawLines_59 rfl rfl (by decide) rfl ?_
        refine r_goto (tgt := 12) cx dX3_drawLines_62 (by decide) ?_
        have z := ih (i + 1) (by omega) (by omega)
        dsimp only at z
        rw [drwF_no (ms := (fun k => mst (fun i => hasB th (bt i)) fi n w0 (nI k))) (by simp [lnc, h_40])] at z
        exact r_lv (q_pk [3, 4, 5, 1, 0] rfl) (z)
      · skip
        refine r_iload_n cx dX3_drawLines_43 rfl rfl ?_
        refine r_iload cx dX3_drawLines_44 rfl ?_
        refine r_icmpeq (tgt := 56) cx dX3_drawLines_46 (by decide) (fun h_46 => ?_) (fun h_46 => ?_)
        · skip
          refine r_iload cx dX3_drawLines_56 rfl ?_
          refine r_istore_n cx dX3_drawLines_58 rfl (by decide) rfl ?_
          refine r_iincN (j := 1) cx dX3_drawLines_59 rfl rfl (by decide) rfl ?_
          refine r_goto (tgt := 12) cx dX3_drawLines_62 (by decide) ?_
          have z := ih (i + 1) (by omega) (by omega)
          dsimp only at z
          rw [drwF_no (ms := (fun k => mst (fun i => hasB th (bt i)) fi n w0 (nI k))) (by simp [lnc, h_46])] at z
          exact r_lv (q_pk [3, 4, 5, 1, 0] rfl) (z)
        · skip
          refine r_iload_n cx dX3_drawLines_49 rfl rfl ?_
          refine r_iconst (v := nI 1) cx dX3_drawLines_50 (by decide) ?_
          refine r_iload cx dX3_drawLines_51 rfl ?_
          refine r_ishl cx dX3_drawLines_53 ?_
          refine r_ior cx dX3_drawLines_54 ?_
          refine r_istore_n cx dX3_drawLines_55 rfl (by decide) rfl ?_
          refine r_iload cx dX3_drawLines_56 rfl ?_
          refine r_istore_n cx dX3_drawLines_58 rfl (by decide) rfl ?_
          refine r_iincN (j := 1) cx dX3_drawLines_59 rfl rfl (by decide) rfl ?_
          refine r_goto (tgt := 12) cx dX3_drawLines_62 (by decide) ?_
          have z := ih (i + 1) (by omega) (by omega)
          dsimp only at z
          rw [drwF_yes (ms := (fun k => mst (fun i => hasB th (bt i)) fi n w0 (nI k))) (by simp [lnc, h_34, h_40, h_46])] at z
          exact r_lv (q_pk [4, 5, 2, 1, 0] rfl) (z)
set_option maxHeartbeats 4000000 in
set_option maxRecDepth 100000 in
theorem c_interviewsOf (l : Launch) (g : q_G) (ws : va_W) (a0 aI : Nat) (th : Int64) (n : Nat) (ia : Nat → Nat) (bt : Nat → Int64) (fi : Nat → Nat → Int32) (who : Int32) (hv : ivV g ws a0 aI th n ia bt fi) : MetW l g yX3_interviewsOf cX3_interviewsOf 6 (some .long) ({ frames := 3, cells := 0, slots := 0, locals := 64 } : Room) [.ref a0, .int who] (ws) (q_Ql g (fun r w => r = ivoF th bt fi who n ∧ w = ws)) := by
  refine q_met (own := RX3) (by decide +kernel) rfl (Nat.le_of_ble_eq_true rfl) (fun p e s m args below meth c cx hr hnm => ?_)
  obtain ⟨⟨q0, r1, r2, r3, r4, r5, r6, dr, dl, h0⟩, hls, hn40, hob⟩ := hv
  obtain ⟨ql, mc, el, hl1, hl2, hl3⟩ := id hls
  refine r_lv (lv2 := [(0, .ref a0), (1, .int who)]) (q_pk [0, 1] rfl) ?_
  refine r_lconst (v := 0) cx dX3_interviewsOf_0 rfl ?_
  refine r_lstore_n cx dX3_interviewsOf_1 rfl (by decide) rfl ?_
  refine r_iconst (v := nI 0) cx dX3_interviewsOf_2 (by decide) ?_
  refine r_istore cx dX3_interviewsOf_3 (by decide) rfl ?_
  refine at_loop (fun (x : Nat) => x ≤ n) (fun x => [(0, .ref a0), (1, .int who), (2, .long (ivoF th bt fi who x)), (4, .int (nI x))]) (fun x => ws) (fun x => n - x) 0 (Nat.zero_le n) (q_pk [2, 3, 1, 0] rfl) rfl (fun i hx ih => ?_)
  try dsimp only at hx ⊢
  refine r_iload cx dX3_interviewsOf_5 rfl ?_
  refine r_aload_n cx dX3_interviewsOf_7 rfl rfl ?_
  refine gf_X3_10 cx dX3_interviewsOf_8 q0 h0 rfl ?_
  refine k_X3_80 cx (c_lsize l g _ aI n ia hls) dX3_interviewsOf_11 ql hl1 ⟨Nat.le_of_ble_eq_true rfl, Nat.le_of_ble_eq_true rfl⟩ ⟨Nat.le_of_ble_eq_true rfl, Nat.le_of_ble_eq_true rfl⟩ rfl rfl (Nat.le_of_ble_eq_true rfl) (fun r w hp => ?_)
  obtain ⟨rfl, rfl⟩ := hp
  refine r_icmpgeN (tgt := 63) cx (by omega) (by omega) dX3_interviewsOf_14 (by decide) (fun h_14 => ?_) (fun h_14 => ?_)
  · skip
    obtain rfl : i = n := by omega
    refine r_lload_n cx dX3_interviewsOf_63 rfl rfl ?_
    exact r_lret cx dX3_interviewsOf_64 hr (⟨rfl, rfl⟩) (Nat.le_of_ble_eq_true rfl) (Nat.le_of_ble_eq_true rfl)
  · skip
    refine r_aload_n cx dX3_interviewsOf_17 rfl rfl ?_
    refine gf_X3_10 cx dX3_interviewsOf_18 q0 h0 rfl ?_
    refine r_iload cx dX3_interviewsOf_21 rfl ?_
    refine k_X3_108 cx (c_lget l g _ aI n i ia hls h_14) dX3_interviewsOf_23 ql hl1 ⟨Nat.le_of_ble_eq_true rfl, Nat.le_of_ble_eq_true rfl⟩ ⟨Nat.le_of_ble_eq_true rfl, Nat.le_of_ble_eq_true rfl⟩ rfl rfl (Nat.le_of_ble_eq_true rfl) (fun r w hp => ?_)
    obtain ⟨rfl, rfl⟩ := hp
    obtain ⟨qi, hqi⟩ := hob i h_14
    refine r_eqv (y := .ref (ia i)) rfl ?_
    refine r_cast (ci := 1) cx tb_219 dX3_interviewsOf_26 qi rfl rfl hqi ?_
    refine r_astore cx dX3_interviewsOf_29 (by decide) rfl ?_
    refine r_aload_n cx dX3_interviewsOf_31 rfl rfl ?_
    refine r_aload cx dX3_interviewsOf_32 rfl ?_
    refine k_X3_139 cx (c_isThere l g _ q0 qi _ _ _ _ _ _ _ _ _ _ _ _ _ _ _ _ _ _ h0 hqi) dX3_interviewsOf_34 q0 h0 ⟨Nat.le_of_ble_eq_true rfl, Nat.le_of_ble_eq_true rfl⟩ ⟨Nat.le_of_ble_eq_true rfl, Nat.le_of_ble_eq_true rfl⟩ rfl rfl (Nat.le_of_ble_eq_true rfl) (fun r w hp => ?_)
    obtain ⟨rfl, rfl⟩ := hp
    refine r_ifeqb (tgt := 57) cx dX3_interviewsOf_37 (by decide) (fun h_37 => ?_) (fun h_37 => ?_)
    · skip
      refine r_iincN (j := 1) cx dX3_interviewsOf_57 rfl rfl (by decide) rfl ?_
      refine r_goto (tgt := 5) cx dX3_interviewsOf_60 (by decide) ?_
      have z := ih (i + 1) (by omega) (by omega)
      dsimp only at z
      rw [ivoF_no (by simp [h_37])] at z
      exact r_lv (q_pk [2, 3, 4, 0] rfl) (z)
    · skip
      refine r_aload cx dX3_interviewsOf_40 rfl ?_
      refine gf_X3_205 cx dX3_interviewsOf_42 qi hqi rfl ?_
      refine r_iload_n cx dX3_interviewsOf_45 rfl rfl ?_
      refine r_icmpne (tgt := 57) cx dX3_interviewsOf_46 (by decide) (fun h_46 => ?_) (fun h_46 => ?_)
      · skip
        refine r_iincN (j := 1) cx dX3_interviewsOf_57 rfl rfl (by decide) rfl ?_
        refine r_goto (tgt := 5) cx dX3_interviewsOf_60 (by decide) ?_
        have z := ih (i + 1) (by omega) (by omega)
        dsimp only at z
        rw [ivoF_no (by simp [h_46])] at z
        exact r_lv (q_pk [2, 3, 4, 0] rfl) (z)
      · skip
        refine r_lload_n cx dX3_interviewsOf_49 rfl rfl ?_
        refine r_aload cx dX3_interviewsOf_50 rfl ?_
        refine gf_X3_151 cx dX3_interviewsOf_52 qi hqi rfl ?_
        refine r_lor cx dX3_interviewsOf_55 ?_
        refine r_lstore_n cx dX3_interviewsOf_56 rfl (by decide) rfl ?_
        refine r_iincN (j := 1) cx dX3_interviewsOf_57 rfl rfl (by decide) rfl ?_
        refine r_goto (tgt := 5) cx dX3_interviewsOf_60 (by decide) ?_
        have z := ih (i + 1) (by omega) (by omega)
        dsimp only at z
        rw [ivoF_yes (by simp [h_37, h_46])] at z
        exact r_lv (q_pk [3, 4, 1, 0] rfl) (z)
set_option maxHeartbeats 4000000 in
set_option maxRecDepth 100000 in
theorem c_applyRules (l : Launch) (g : q_G) (ws : va_W) (a0 aR rn : Nat) (ra so be : Nat → Nat) (to : Nat → Option Nat) (rl : Nat → Nat → Int32) (gr : Nat → Int64) (fa : Nat → Bool) (o : Option (List Nat)) (p0 y0 : Int32) (ho : ∀ l, o = some l → snd l ∧ l.length ≤ 8) (hv : rlV g ws a0 aR rn ra so be to rl gr fa) : MetW l g yX3_applyRules cX3_applyRules 7 (some .int) ({ frames := 3, cells := 0, slots := 0, locals := 64 } : Room) [.ref a0, .int (roI o), .int p0, .int y0] (ws) (q_Qi g (fun r w => r = roI (o.map (fun l => expF (goF rl fa p0 y0) so be to l rn)) ∧ w = ws)) := by
  refine q_met (own := RX3) (by decide +kernel) rfl (Nat.le_of_ble_eq_true rfl) (fun p e s m args below meth c cx hr hnm => ?_)
  obtain ⟨⟨q0, r0, r2, r3, r4, r5, r6, th, dr, dl, h0⟩, hls, hn20, hpr, hob⟩ := hv
  obtain ⟨ql, mc, el, hl1, hl2, hl3⟩ := id hls
  refine r_lv (lv2 := [(0, .ref a0), (1, .int (roI o)), (2, .int p0), (3, .int y0)]) (q_pk [0, 1, 2, 3] rfl) ?_
  refine r_iload_n cx dX3_applyRules_0 rfl rfl ?_
  refine r_iconst (v := -1) cx dX3_applyRules_1 (by decide) ?_
  refine r_icmpne (tgt := 7) cx dX3_applyRules_2 (by decide) (fun h_2 => ?_) (fun h_2 => ?_)
  · skip
    obtain ⟨l0, rfl⟩ := roI_some h_2
    obtain ⟨hl0, hn0⟩ := ho l0 rfl
    refine r_iload_n cx dX3_applyRules_7 rfl rfl ?_
    refine r_istore cx dX3_applyRules_8 (by decide) rfl ?_
    refine r_iconst (v := nI 0) cx dX3_applyRules_10 (by decide) ?_
    refine r_istore cx dX3_applyRules_11 (by decide) rfl ?_
    refine at_loop (fun (x : Nat) => x ≤ rn) (fun x => [(0, .ref a0), (2, .int p0), (3, .int y0), (4, .int (nI (num (expF (goF rl fa p0 y0) so be to l0 x)))), (5, .int (nI x))]) (fun x => ws) (fun x => rn - x) 0 (Nat.zero_le rn) (q_pk [2, 4, 5, 1, 0] rfl) rfl (fun i hx ih => ?_)
    try dsimp only at hx ⊢
    have hok := expF_ok (gs := goF rl fa p0 y0) (so := so) (be := be) (n := rn) (fun r hr9 => (hpr r hr9).2.2) hl0 hn0 i hx
    refine r_iload cx dX3_applyRules_13 rfl ?_
    refine r_aload_n cx dX3_applyRules_15 rfl rfl ?_
    refine gf_X3_16 cx dX3_applyRules_16 q0 h0 rfl ?_
    refine k_X3_80 cx (c_lsize l g _ aR rn ra hls) dX3_applyRules_19 ql hl1 ⟨Nat.le_of_ble_eq_true rfl, Nat.le_of_ble_eq_true rfl⟩ ⟨Nat.le_of_ble_eq_true rfl, Nat.le_of_ble_eq_true rfl⟩ rfl rfl (Nat.le_of_ble_eq_true rfl) (fun r w hp => ?_)
    obtain ⟨rfl, rfl⟩ := hp
    refine r_icmpgeN (tgt := 64) cx (by omega) (by omega) dX3_applyRules_22 (by decide) (fun h_22 => ?_) (fun h_22 => ?_)
    · skip
      obtain rfl : i = rn := by omega
      refine r_iload cx dX3_applyRules_64 rfl ?_
      exact r_iret cx dX3_applyRules_66 hr (⟨rfl, rfl⟩) (Nat.le_of_ble_eq_true rfl) (Nat.le_of_ble_eq_true rfl)
    · skip
      refine r_aload_n cx dX3_applyRules_25 rfl rfl ?_
      refine gf_X3_16 cx dX3_applyRules_26 q0 h0 rfl ?_
      refine r_iload cx dX3_applyRules_29 rfl ?_
      refine k_X3_108 cx (c_lget l g _ aR rn i ra hls h_22) dX3_applyRules_31 ql hl1 ⟨Nat.le_of_ble_eq_true rfl, Nat.le_of_ble_eq_true rfl⟩ ⟨Nat.le_of_ble_eq_true rfl, Nat.le_of_ble_eq_true rfl⟩ rfl rfl (Nat.le_of_ble_eq_true rfl) (fun r w hp => ?_)
      obtain ⟨rfl, rfl⟩ := hp
      obtain ⟨qi, hqi⟩ := hob i h_22
      refine r_eqv (y := .ref (ra i)) rfl ?_
      refine r_cast (ci := 2) cx tb_263 dX3_applyRules_34 qi rfl rfl hqi ?_
      refine r_astore cx dX3_applyRules_37 (by decide) rfl ?_
      refine r_aload cx dX3_applyRules_39 rfl ?_
      refine r_iload_n cx dX3_applyRules_41 rfl rfl ?_
      refine r_iload_n cx dX3_applyRules_42 rfl rfl ?_
      refine k_X3_208 cx (c_goesAt l g _ qi _ _ _ _ _ _ _ _ _ p0 y0 hqi) dX3_applyRules_43 qi hqi ⟨Nat.le_of_ble_eq_true rfl, Nat.le_of_ble_eq_true rfl⟩ ⟨Nat.le_of_ble_eq_true rfl, Nat.le_of_ble_eq_true rfl⟩ rfl rfl (Nat.le_of_ble_eq_true rfl) (fun r w hp => ?_)
      obtain ⟨rfl, rfl⟩ := hp
      refine r_ifeqb (tgt := 58) cx dX3_applyRules_46 (by decide) (fun h_46 => ?_) (fun h_46 => ?_)
      · skip
        refine r_iincN (j := 1) cx dX3_applyRules_58 rfl rfl (by decide) rfl ?_
        refine r_goto (tgt := 13) cx dX3_applyRules_61 (by decide) ?_
        have z := ih (i + 1) (by omega) (by omega)
        dsimp only at z
        rw [expF_no (gs := goF rl fa p0 y0) h_46] at z
        exact r_lv (q_pk [2, 3, 4, 5, 0] rfl) (z)
      · skip
        refine r_aload cx dX3_applyRules_49 rfl ?_
        refine r_iload cx dX3_applyRules_51 rfl ?_
        refine k_X3_211 cx (c_applyTo l g _ qi _ (so i) (be i) (to i) _ _ _ _ _ _ (hpr i h_22).1 (hpr i h_22).2.1 (hpr i h_22).2.2 hok.1 hok.2 hqi) dX3_applyRules_53 qi hqi ⟨Nat.le_of_ble_eq_true rfl, Nat.le_of_ble_eq_true rfl⟩ ⟨Nat.le_of_ble_eq_true rfl, Nat.le_of_ble_eq_true rfl⟩ rfl rfl (Nat.le_of_ble_eq_true rfl) (fun r w hp => ?_)
        obtain ⟨rfl, rfl⟩ := hp
        refine r_istore cx dX3_applyRules_56 (by decide) rfl ?_
        refine r_iincN (j := 1) cx dX3_applyRules_58 rfl rfl (by decide) rfl ?_
        refine r_goto (tgt := 13) cx dX3_applyRules_61 (by decide) ?_
        have z := ih (i + 1) (by omega) (by omega)
        dsimp only at z
        rw [expF_yes (gs := goF rl fa p0 y0) h_46] at z
        exact r_lv (q_pk [3, 4, 5, 1, 0] rfl) (z)
  · skip
    obtain rfl := roI_none ho h_2
    refine r_iconst (v := -1) cx dX3_applyRules_5 (by decide) ?_
    exact r_iret cx dX3_applyRules_6 hr (⟨rfl, rfl⟩) (Nat.le_of_ble_eq_true rfl) (Nat.le_of_ble_eq_true rfl)
end
section
theorem wb_tb (n : Nat) : (lN n).toBitVec = BitVec.ofNat 64 n := rfl
theorem wb_inj {a b : Int64} (h : a.toBitVec = b.toBitVec) : a = b := Int64.toBitVec_inj.mp h
theorem wb_tn {n : Nat} (h : n < 2 ^ 64) : (lN n).toBitVec.toNat = n := by rw [wb_tb, BitVec.toNat_ofNat, Nat.mod_eq_of_lt h]
theorem wb_c : ∀ k, k < 64 → ((nI k).toInt64 &&& 63) = lN k := by decide +kernel
theorem wb_cu : ∀ k, k < 64 → ((nI k).toInt64.toUInt64 &&& Int64.toUInt64 63) = UInt64.ofNat k := by decide +kernel
theorem wb_sm : ∀ k, k < 64 → (BitVec.ofNat 64 k).smod 64 = BitVec.ofNat 64 k := by decide +kernel
theorem wb_shl (n : Nat) {k : Nat} (hk : k < 64) : lN n <<< ((nI k).toInt64 &&& 63) = lN (n * 2 ^ k) := by
  rw [wb_c k hk]
  apply wb_inj
  rw [Int64.toBitVec_shiftLeft, wb_tb, wb_tb, wb_tb, wb_sm k hk]
  apply BitVec.eq_of_toNat_eq
  rw [BitVec.shiftLeft_eq', BitVec.toNat_shiftLeft, BitVec.toNat_ofNat, BitVec.toNat_ofNat, BitVec.toNat_ofNat, Nat.mod_eq_of_lt (show k < 2 ^ 64 by omega), Nat.shiftLeft_eq, Nat.mul_mod, Nat.mod_mod, ← Nat.mul_mod]
theorem pf_lI {a : Nat} (h : a < 2 ^ 63) : (lN a).toInt = (a : Int) := lg_ofNat_toInt h
theorem pf_shr {a d : Nat} {D : Int64} (hD : (D.toBitVec.smod 64).toNat = d) (h : a < 2 ^ 62) : lN a >>> D = lN (a / 2 ^ d) := by
  have hd : a / 2 ^ d ≤ a := Nat.div_le_self _ _
  apply Int64.toInt_inj.mp
  have e : (lN a >>> D).toInt = (lN a).toInt >>> d := by
    rw [← hD]
    exact BitVec.toInt_sshiftRight ..
  rw [e, Int.shiftRight_eq_div_pow, pf_lI (by omega), pf_lI (by omega)]
  rfl
theorem pf_ushr {a d : Nat} {D : UInt64} (hD : D.toNat % 64 = d) (h : a < 2 ^ 62) : ((lN a).toUInt64 >>> D).toInt64 = lN (a / 2 ^ d) := by
  have hd : a / 2 ^ d ≤ a := Nat.div_le_self _ _
  have e : (lN a).toUInt64 >>> D = UInt64.ofNat (a / 2 ^ d) := UInt64.toNat_inj.mp (by
    rw [UInt64.toNat_shiftRight, hD, Nat.shiftRight_eq_div_pow, UInt64.toNat_ofNat']
    show (UInt64.ofNat a).toNat / 2 ^ d = _
    rw [UInt64.toNat_ofNat', Nat.mod_eq_of_lt (by omega), Nat.mod_eq_of_lt (by omega)])
  rw [e]
  rfl
theorem fb_andL (a b : Nat) : lN a &&& lN b = lN (a &&& b) := by
  apply Int64.toBitVec_inj.1
  show BitVec.ofNat 64 a &&& BitVec.ofNat 64 b = BitVec.ofNat 64 (a &&& b)
  apply BitVec.eq_of_getLsbD_eq
  intro i hi
  simp [hi]
theorem fb_orL (a b : Nat) : lN a ||| lN b = lN (a ||| b) := by
  apply Int64.toBitVec_inj.1
  show BitVec.ofNat 64 a ||| BitVec.ofNat 64 b = BitVec.ofNat 64 (a ||| b)
  apply BitVec.eq_of_getLsbD_eq
  intro i hi
  simp [hi]
theorem fb_xorL (a b : Nat) : lN a ^^^ lN b = lN (a ^^^ b) := by
  apply Int64.toBitVec_inj.1
  show BitVec.ofNat 64 a ^^^ BitVec.ofNat 64 b = BitVec.ofNat 64 (a ^^^ b)
  apply BitVec.eq_of_getLsbD_eq
  intro i hi
  simp [hi]
theorem fb_lN_inj {a b : Nat} (ha : a < 2 ^ 63) (hb : b < 2 ^ 63) : lN a = lN b ↔ a = b := by
  constructor
  · intro h
    have h1 : (BitVec.ofNat 64 a).toNat = (BitVec.ofNat 64 b).toNat := congrArg (fun x : Int64 => x.toBitVec.toNat) h
    rw [BitVec.toNat_ofNat, BitVec.toNat_ofNat, Nat.mod_eq_of_lt (by omega), Nat.mod_eq_of_lt (by omega)] at h1
    exact h1
  · rintro rfl; rfl
theorem fb_bit_nat (n j : Nat) : n &&& 2 ^ j = 0 ↔ n.testBit j = false := by
  constructor
  · intro h
    have h1 : (n &&& 2 ^ j).testBit j = false := by rw [h]; simp
    rw [Nat.testBit_and] at h1
    simpa using h1
  · intro h
    apply Nat.eq_of_testBit_eq
    intro i
    rw [Nat.testBit_and]
    by_cases hi : j = i
    · subst hi; simp [h]
    · first | (simp [Nat.testBit_two_pow, hi]; done) | (simp [Nat.testBit_two_pow_of_ne hi]; done)
theorem fb_bitL {n j : Nat} (hj : j < 63) : lN n &&& lN (2 ^ j) = 0 ↔ n.testBit j = false := by
  have h2 : (2 : Nat) ^ j < 2 ^ 63 := Nat.pow_lt_pow_right (by decide) hj
  have hle : n &&& 2 ^ j ≤ 2 ^ j := Nat.and_le_right
  rw [fb_andL, ← fb_bit_nat, show (0 : Int64) = lN 0 from rfl]
  exact fb_lN_inj (by omega) (by decide)
theorem fb_bit_set (n j i : Nat) : (n ||| 2 ^ j).testBit i = (n.testBit i || decide (i = j)) := by
  rw [Nat.testBit_or]
  by_cases h : j = i
  · subst h; simp
  · have h2 : ¬ i = j := fun e => h e.symm
    first | (simp [Nat.testBit_two_pow, h, h2]; done) | (simp [Nat.testBit_two_pow_of_ne h, h2]; done)
theorem fa_and (a b : Nat) : nI a &&& nI b = nI (a &&& b) := by
  apply Int32.toBitVec_inj.1
  show BitVec.ofNat 32 a &&& BitVec.ofNat 32 b = BitVec.ofNat 32 (a &&& b)
  apply BitVec.eq_of_getLsbD_eq
  intro i hi
  simp [hi]
/-! the number of bits, byte by byte -/
def mapB (f : Nat → Nat) : Nat → Nat → Nat
  | 0, _ => 0
  | n + 1, N => f (N % 256) + 256 * mapB f n (N / 256)
def maskB (m : Nat) : Nat → Nat
  | 0 => 0
  | n + 1 => m + 256 * maskB m n
theorem mapB_id : ∀ (n N : Nat), N < 256 ^ n → mapB (fun a => a) n N = N
  | 0, N, h => by rw [Nat.pow_zero] at h; simp only [mapB]; omega
  | n + 1, N, h => by
    have h2 := mapB_id n (N / 256) (by rw [Nat.pow_succ] at h; exact Nat.div_lt_of_lt_mul (by rw [Nat.mul_comm]; exact h))
    simp only [mapB, h2]
    omega
theorem mapB_add (f h : Nat → Nat) : ∀ (n N : Nat), mapB f n N + mapB h n N = mapB (fun a => f a + h a) n N
  | 0, N => rfl
  | n + 1, N => by
    have h2 := mapB_add f h n (N / 256)
    simp only [mapB, ← h2]
    omega
theorem mapB_congr {f h : Nat → Nat} (e : ∀ a, a < 256 → f a = h a) : ∀ (n N : Nat), mapB f n N = mapB h n N
  | 0, N => rfl
  | n + 1, N => by rw [mapB, mapB, mapB_congr e n, e _ (Nat.mod_lt _ (by decide))]
theorem mapB_comp {f h : Nat → Nat} (e : ∀ a, a < 256 → h a < 256) : ∀ (n N : Nat), mapB f n (mapB h n N) = mapB (fun a => f (h a)) n N
  | 0, N => rfl
  | n + 1, N => by
    have h2 := e (N % 256) (Nat.mod_lt _ (by decide))
    have e1 : mapB h (n + 1) N % 256 = h (N % 256) := by rw [mapB]; omega
    have e2 : mapB h (n + 1) N / 256 = mapB h n (N / 256) := by rw [mapB]; omega
    rw [mapB, e1, e2, mapB_comp e n]
    rfl
theorem mapB_lt {f : Nat → Nat} (e : ∀ a, a < 256 → f a < 256) : ∀ (n N : Nat), mapB f n N < 256 ^ n
  | 0, N => by simp [mapB]
  | n + 1, N => by
    have h1 := mapB_lt e n (N / 256)
    have h2 := e (N % 256) (Nat.mod_lt _ (by decide))
    rw [mapB, Nat.pow_succ]
    omega
theorem and_byte (X m M : Nat) (hm : m < 256) : X &&& (m + 256 * M) = (X % 256 &&& m) + 256 * (X / 256 &&& M) := by
  have e1 : (X &&& (m + 256 * M)) % 256 = X % 256 &&& m := by
    have := Nat.and_mod_two_pow (a := X) (b := m + 256 * M) (n := 8)
    rw [show (2 : Nat) ^ 8 = 256 from rfl] at this
    rw [this, show (m + 256 * M) % 256 = m by omega]
  have e2 : (X &&& (m + 256 * M)) / 256 = X / 256 &&& M := by
    have := Nat.and_div_two_pow (a := X) (b := m + 256 * M) (n := 8)
    rw [show (2 : Nat) ^ 8 = 256 from rfl] at this
    rw [this, show (m + 256 * M) / 256 = M by omega]
  omega
theorem and_shr (s m : Nat) (hm : m < 256) (key : ∀ a, a < 256 → ∀ v, v < 256 → ((a + 256 * v) / 2 ^ s) % 256 &&& m = a / 2 ^ s &&& m) (hs : s ≤ 8) : ∀ (n N : Nat), (N / 2 ^ s) &&& maskB m n = mapB (fun a => a / 2 ^ s &&& m) n N
  | 0, N => by simp [maskB, mapB]
  | n + 1, N => by
    have h2 := and_shr s m hm key hs n (N / 256)
    rw [maskB, and_byte _ _ _ hm, mapB, ← h2, Nat.div_div_eq_div_mul, Nat.div_div_eq_div_mul, Nat.mul_comm (2 ^ s) 256]
    congr 1
    rw [← key (N % 256) (Nat.mod_lt _ (by decide)) (N / 256 % 256) (Nat.mod_lt _ (by decide))]
    congr 1
    have e : N = (N % 256 + 256 * (N / 256 % 256)) + 65536 * (N / 65536) := by omega
    have e3 : 65536 * (N / 65536) = 2 ^ s * (2 ^ (8 - s) * (256 * (N / 65536))) := by
      rw [← Nat.mul_assoc, ← Nat.pow_add, show s + (8 - s) = 8 by omega]
      omega
    conv => lhs; rw [e, e3, Nat.add_mul_div_left _ _ (Nat.pow_pos (by decide))]
    rw [show 2 ^ (8 - s) * (256 * (N / 65536)) = 256 * (2 ^ (8 - s) * (N / 65536)) by rw [Nat.mul_left_comm], Nat.add_mul_mod_self_left]
theorem k1 : ∀ a, a < 256 → ∀ v, v < 2 → ((a + 256 * v) / 2 ^ 1) % 256 &&& 85 = a / 2 ^ 1 &&& 85 := by decide +kernel
theorem k2 : ∀ a, a < 256 → ∀ v, v < 4 → ((a + 256 * v) / 2 ^ 2) % 256 &&& 51 = a / 2 ^ 2 &&& 51 := by decide +kernel
theorem k0 : ∀ a, a < 256 → a &&& 51 = a / 2 ^ 0 &&& 51 := by decide +kernel
def b1 (a : Nat) : Nat := a - (a / 2 ^ 1 &&& 85)
def b2 (a : Nat) : Nat := (b1 a / 2 ^ 0 &&& 51) + (b1 a / 2 ^ 2 &&& 51)
def b3 (a : Nat) : Nat := (b2 a + b2 a / 16) % 16
def pop8 (a : Nat) : Nat := a % 2 + a / 2 % 2 + a / 4 % 2 + a / 8 % 2 + a / 16 % 2 + a / 32 % 2 + a / 64 % 2 + a / 128 % 2
theorem b1_lt : ∀ a, a < 256 → b1 a < 256 ∧ (a / 2 ^ 1 &&& 85) ≤ a := by decide +kernel
theorem b2_lt : ∀ a, a < 256 → b2 a < 256 ∧ b2 a % 16 ≤ 4 ∧ b2 a / 16 ≤ 4 := by decide +kernel
theorem b3_pop : ∀ a, a < 256 → b3 a = pop8 a := by decide +kernel
theorem swar1 {n N : Nat} (h : N < 256 ^ n) : N - (N / 2 ^ 1 &&& maskB 85 n) = mapB b1 n N := by
  rw [and_shr 1 85 (by decide) (fun a ha v _ => by rw [← k1 a ha (v % 2) (Nat.mod_lt _ (by decide))]; congr 1; omega) (by decide)]
  have e := mapB_add b1 (fun a => a / 2 ^ 1 &&& 85) n N
  rw [mapB_congr (f := fun a => b1 a + (a / 2 ^ 1 &&& 85)) (h := fun a => a) (fun a ha => by have := (b1_lt a ha).2; simp only [b1]; omega) n N, mapB_id n N h] at e
  omega
theorem and_0 (m n N : Nat) (hm : m < 256) : N &&& maskB m n = mapB (fun a => a / 2 ^ 0 &&& m) n N := by
  have := and_shr 0 m hm (fun a ha v _ => by rw [Nat.pow_zero, Nat.div_one, Nat.div_one]; congr 1; omega) (by decide) n N
  rwa [Nat.pow_zero, Nat.div_one] at this
theorem swar2 {n N : Nat} : (mapB b1 n N &&& maskB 51 n) + (mapB b1 n N / 2 ^ 2 &&& maskB 51 n) = mapB b2 n N := by
  rw [and_0 51 n _ (by decide), and_shr 2 51 (by decide) (fun a ha v _ => by rw [← k2 a ha (v % 4) (Nat.mod_lt _ (by decide))]; congr 1; omega) (by decide), mapB_add, mapB_comp (fun a ha => (b1_lt a ha).1)]
  rfl
theorem swar3 : ∀ (n N : Nat), (mapB b2 n N + mapB b2 n N / 16) &&& maskB 15 n = mapB b3 n N ∧ mapB b2 n N % 16 ≤ 4
  | 0, N => by simp [mapB, maskB]
  | n + 1, N => by
    obtain ⟨h1, h2⟩ := swar3 n (N / 256)
    obtain ⟨g1, g2, g3⟩ := b2_lt (N % 256) (Nat.mod_lt _ (by decide))
    have e : mapB b2 (n + 1) N = b2 (N % 256) + 256 * mapB b2 n (N / 256) := rfl
    refine ⟨?_, by omega⟩
    rw [maskB, and_byte _ _ _ (by decide), show mapB b3 (n + 1) N = b3 (N % 256) + 256 * mapB b3 n (N / 256) from rfl, ← h1, e]
    congr 1
    · have := Nat.and_two_pow_sub_one_eq_mod ((b2 (N % 256) + 256 * mapB b2 n (N / 256) + (b2 (N % 256) + 256 * mapB b2 n (N / 256)) / 16) % 256) 4
      rw [show (2 : Nat) ^ 4 - 1 = 15 from rfl, show (2 : Nat) ^ 4 = 16 from rfl] at this
      rw [this, b3]
      omega
    · congr 2
      omega
/-- bits 0 .. k-1 of a number, counted -/
def bcS (N : Nat) : Nat → Nat
  | 0 => 0
  | k + 1 => bcS N k + N / 2 ^ k % 2
def bc (N : Nat) : Nat := bcS N 40
theorem bcS_le (N : Nat) : ∀ k, bcS N k ≤ k
  | 0 => Nat.le_refl _
  | k + 1 => by
    have := bcS_le N k
    rw [bcS]
    omega
theorem bcS_8 (N k : Nat) : bcS N (k + 8) = bcS N k + pop8 (N / 2 ^ k % 256) := by
  have e (i : Nat) : N / 2 ^ (k + i) = N / 2 ^ k / 2 ^ i := by rw [Nat.pow_add, Nat.div_div_eq_div_mul]
  have h0 : bcS N (k + 8) = bcS N k + N / 2 ^ k % 2 + N / 2 ^ (k + 1) % 2 + N / 2 ^ (k + 2) % 2 + N / 2 ^ (k + 3) % 2 + N / 2 ^ (k + 4) % 2 + N / 2 ^ (k + 5) % 2 + N / 2 ^ (k + 6) % 2 + N / 2 ^ (k + 7) % 2 := rfl
  rw [h0, e 1, e 2, e 3, e 4, e 5, e 6, e 7]
  generalize N / 2 ^ k = M
  unfold pop8
  omega
theorem bc_pop (N : Nat) : bc N = pop8 (N % 256) + (pop8 (N / 256 % 256) + (pop8 (N / 65536 % 256) + (pop8 (N / 16777216 % 256) + pop8 (N / 4294967296 % 256)))) := by
  have h0 := bcS_8 N 0
  have h1 := bcS_8 N 8
  have h2 := bcS_8 N 16
  have h3 := bcS_8 N 24
  have h4 := bcS_8 N 32
  have z : bcS N 0 = 0 := rfl
  rw [show N / 2 ^ 0 = N from Nat.div_one N] at h0
  rw [show (2 : Nat) ^ 8 = 256 from rfl] at h1
  rw [show (2 : Nat) ^ 16 = 65536 from rfl] at h2
  rw [show (2 : Nat) ^ 24 = 16777216 from rfl] at h3
  rw [show (2 : Nat) ^ 32 = 4294967296 from rfl] at h4
  rw [bc, show (40 : Nat) = 32 + 8 from rfl, h4, show (32 : Nat) = 24 + 8 from rfl, h3, show (24 : Nat) = 16 + 8 from rfl, h2, show (16 : Nat) = 8 + 8 from rfl, h1, show (8 : Nat) = 0 + 8 from rfl, h0, z, Nat.zero_add]
  simp only [Nat.add_assoc]
theorem pop8_le (a : Nat) : pop8 a ≤ 8 := by
  unfold pop8
  omega
theorem mapB3_8 (N : Nat) (h : N < 1099511627776) : mapB b3 8 N = pop8 (N % 256) + 256 * (pop8 (N / 256 % 256) + 256 * (pop8 (N / 65536 % 256) + 256 * (pop8 (N / 16777216 % 256) + 256 * pop8 (N / 4294967296 % 256)))) := by
  rw [mapB_congr b3_pop]
  simp only [mapB]
  have e1 : N / 256 / 256 = N / 65536 := by omega
  have e2 : N / 65536 / 256 = N / 16777216 := by omega
  have e3 : N / 16777216 / 256 = N / 4294967296 := by omega
  have e4 : N / 4294967296 / 256 = 0 := by omega
  have z : pop8 0 = 0 := rfl
  simp only [e1, e2, e3, e4, Nat.zero_div, Nat.zero_mod, z]
  omega
theorem swar_end (N : Nat) (h : N < 1099511627776) {m : Nat} (e : m = mapB b3 8 N) : ((m + m / 2 ^ 8) + (m + m / 2 ^ 8) / 2 ^ 16 + ((m + m / 2 ^ 8) + (m + m / 2 ^ 8) / 2 ^ 16) / 2 ^ 32) % 128 = bc N := by
  rw [mapB3_8 N h] at e
  rw [bc_pop]
  have h0 := pop8_le (N % 256)
  have h1 := pop8_le (N / 256 % 256)
  have h2 := pop8_le (N / 65536 % 256)
  have h3 := pop8_le (N / 16777216 % 256)
  have h4 := pop8_le (N / 4294967296 % 256)
  generalize pop8 (N % 256) = c0 at *
  generalize pop8 (N / 256 % 256) = c1 at *
  generalize pop8 (N / 65536 % 256) = c2 at *
  generalize pop8 (N / 16777216 % 256) = c3 at *
  generalize pop8 (N / 4294967296 % 256) = c4 at *
  have e8 : m / 2 ^ 8 = c1 + 256 * (c2 + 256 * (c3 + 256 * c4)) := by omega
  generalize hA : m + m / 2 ^ 8 = A
  have hA2 : A = (c0 + c1) + 256 * ((c1 + c2) + 256 * ((c2 + c3) + 256 * ((c3 + c4) + 256 * c4))) := by omega
  have e16 : A / 2 ^ 16 = (c2 + c3) + 256 * ((c3 + c4) + 256 * c4) := by omega
  generalize hB : A + A / 2 ^ 16 = B
  have hB2 : B = (c0 + c1 + c2 + c3) + 256 * ((c1 + c2 + c3 + c4) + 256 * ((c2 + c3 + c4) + 256 * ((c3 + c4) + 256 * c4))) := by omega
  have e32 : B / 2 ^ 32 = c4 := by omega
  omega
theorem swar {N : Nat} (h : N < 1099511627776) {m1 m2 m3 : Nat} (e1 : m1 = N - (N / 2 ^ 1 &&& 6148914691236517205)) (e2 : m2 = (m1 &&& 3689348814741910323) + (m1 / 2 ^ 2 &&& 3689348814741910323)) (e3 : m3 = (m2 + m2 / 2 ^ 4) &&& 1085102592571150095) : m1 = mapB b1 8 N ∧ m2 = mapB b2 8 N ∧ m3 = mapB b3 8 N := by
  have a1 : m1 = mapB b1 8 N := by rw [e1, ← swar1 (n := 8) (by omega)]; rfl
  have a2 : m2 = mapB b2 8 N := by rw [e2, a1, ← swar2]; rfl
  have a3 : m3 = mapB b3 8 N := by rw [e3, a2, ← (swar3 8 N).1]; rfl
  exact ⟨a1, a2, a3⟩
theorem u_sh {a d : Nat} (hd : d < 64) (ha : a < 4611686018427387904) : ((lN a).toUInt64 >>> ((nI d).toInt64.toUInt64 &&& Int64.toUInt64 63)).toInt64 = lN (a / 2 ^ d) := pf_ushr (by rw [wb_cu d hd, UInt64.toNat_ofNat']; omega) (by omega)
theorem s_sh {a d : Nat} (hd : d < 64) (ha : a < 4611686018427387904) : lN a >>> ((nI d).toInt64 &&& 63) = lN (a / 2 ^ d) := pf_shr (by rw [wb_c d hd, wb_tb, wb_sm d hd, BitVec.toNat_ofNat]; omega) (by omega)
set_option maxHeartbeats 4000000 in
set_option maxRecDepth 100000 in
theorem c_bitCount (l : Launch) (g : q_G) (ws : va_W) (N : Nat) (hN : N < 1099511627776) : MetW l g yJ13_bitCount_95d88 cJ13_bitCount_95d88 2 (some .int) ({ frames := 0, cells := 0, slots := 0, locals := 0 } : Room) [.long (lN N)] (ws) (q_Qi g (fun r w => r = nI (bc N) ∧ w = ws)) := by
  refine q_met (own := RJ13) (by decide +kernel) rfl (Nat.le_of_ble_eq_true rfl) (fun p e s m args below meth c cx hr hnm => ?_)
  obtain ⟨m1, e1⟩ : ∃ m, m = N - (N / 2 ^ 1 &&& 6148914691236517205) := ⟨_, rfl⟩
  obtain ⟨m2, e2⟩ : ∃ m, m = (m1 &&& 3689348814741910323) + (m1 / 2 ^ 2 &&& 3689348814741910323) := ⟨_, rfl⟩
  obtain ⟨m3, e3⟩ : ∃ m, m = (m2 + m2 / 2 ^ 4) &&& 1085102592571150095 := ⟨_, rfl⟩
  obtain ⟨hm1, hm2, hm3⟩ := swar hN e1 e2 e3
  have hl1 : m1 ≤ N := by omega
  have hl2 : m2 ≤ 2 * m1 := by have h1 := Nat.and_le_left (n := m1) (m := 3689348814741910323); have h2 := Nat.and_le_left (n := m1 / 2 ^ 2) (m := 3689348814741910323); omega
  have hl3 : m3 ≤ 2 * m2 := by have h1 := Nat.and_le_left (n := m2 + m2 / 2 ^ 4) (m := 1085102592571150095); omega
  refine r_lv (lv2 := [(0, .long (lN N))]) (q_pk [0] rfl) ?_
  refine r_lload_n cx dJ13_bitCount_95d88_0 rfl rfl ?_
  refine r_lload_n cx dJ13_bitCount_95d88_1 rfl rfl ?_
  refine r_iconst (v := nI 1) cx dJ13_bitCount_95d88_2 (by decide) ?_
  refine r_lushr (v := lN (N / 2 ^ 1)) cx dJ13_bitCount_95d88_3 (u_sh (by decide) (by omega)) ?_
  refine r_ldc2 cx dJ13_bitCount_95d88_4 tb_319 ?_
  refine r_land cx dJ13_bitCount_95d88_7 ?_
  refine r_lsub cx dJ13_bitCount_95d88_8 ?_
  refine r_eql (y := lN m1) (by rw [show (6148914691236517205 : Int64) = lN 6148914691236517205 from rfl, fb_andL, lN_sub (Nat.le_trans (Nat.and_le_left) (Nat.div_le_self _ _)), ← e1]) ?_
  refine r_lstore_n cx dJ13_bitCount_95d88_9 rfl (by decide) rfl ?_
  refine r_lload_n cx dJ13_bitCount_95d88_10 rfl rfl ?_
  refine r_ldc2 cx dJ13_bitCount_95d88_11 tb_320 ?_
  refine r_land cx dJ13_bitCount_95d88_14 ?_
  refine r_lload_n cx dJ13_bitCount_95d88_15 rfl rfl ?_
  refine r_iconst (v := nI 2) cx dJ13_bitCount_95d88_16 (by decide) ?_
  refine r_lushr (v := lN (m1 / 2 ^ 2)) cx dJ13_bitCount_95d88_17 (u_sh (by decide) (by omega)) ?_
  refine r_ldc2 cx dJ13_bitCount_95d88_18 tb_320 ?_
  refine r_land cx dJ13_bitCount_95d88_21 ?_
  refine r_ladd cx dJ13_bitCount_95d88_22 ?_
  refine r_eql (y := lN m2) (by rw [show (3689348814741910323 : Int64) = lN 3689348814741910323 from rfl, fb_andL, fb_andL, lN_add, ← e2]) ?_
  refine r_lstore_n cx dJ13_bitCount_95d88_23 rfl (by decide) rfl ?_
  refine r_lload_n cx dJ13_bitCount_95d88_24 rfl rfl ?_
  refine r_lload_n cx dJ13_bitCount_95d88_25 rfl rfl ?_
  refine r_iconst (v := nI 4) cx dJ13_bitCount_95d88_26 (by decide) ?_
  refine r_lushr (v := lN (m2 / 2 ^ 4)) cx dJ13_bitCount_95d88_27 (u_sh (by decide) (by omega)) ?_
  refine r_ladd cx dJ13_bitCount_95d88_28 ?_
  refine r_ldc2 cx dJ13_bitCount_95d88_29 tb_321 ?_
  refine r_land cx dJ13_bitCount_95d88_32 ?_
  refine r_eql (y := lN m3) (by rw [show (1085102592571150095 : Int64) = lN 1085102592571150095 from rfl, lN_add, fb_andL, ← e3]) ?_
  refine r_lstore_n cx dJ13_bitCount_95d88_33 rfl (by decide) rfl ?_
  refine r_lload_n cx dJ13_bitCount_95d88_34 rfl rfl ?_
  refine r_lload_n cx dJ13_bitCount_95d88_35 rfl rfl ?_
  refine r_bipush (v := nI 8) cx dJ13_bitCount_95d88_36 (by decide) ?_
  refine r_lushr (v := lN (m3 / 2 ^ 8)) cx dJ13_bitCount_95d88_38 (u_sh (by decide) (by omega)) ?_
  refine r_ladd cx dJ13_bitCount_95d88_39 ?_
  rw [lN_add]
  refine r_lstore_n cx dJ13_bitCount_95d88_40 rfl (by decide) rfl ?_
  refine r_lload_n cx dJ13_bitCount_95d88_41 rfl rfl ?_
  refine r_lload_n cx dJ13_bitCount_95d88_42 rfl rfl ?_
  refine r_bipush (v := nI 16) cx dJ13_bitCount_95d88_43 (by decide) ?_
  refine r_lushr (v := lN ((m3 + m3 / 2 ^ 8) / 2 ^ 16)) cx dJ13_bitCount_95d88_45 (u_sh (by decide) (by omega)) ?_
  refine r_ladd cx dJ13_bitCount_95d88_46 ?_
  rw [lN_add]
  refine r_lstore_n cx dJ13_bitCount_95d88_47 rfl (by decide) rfl ?_
  refine r_lload_n cx dJ13_bitCount_95d88_48 rfl rfl ?_
  refine r_lload_n cx dJ13_bitCount_95d88_49 rfl rfl ?_
  refine r_bipush (v := nI 32) cx dJ13_bitCount_95d88_50 (by decide) ?_
  refine r_lushr (v := lN (((m3 + m3 / 2 ^ 8) + (m3 + m3 / 2 ^ 8) / 2 ^ 16) / 2 ^ 32)) cx dJ13_bitCount_95d88_52 (u_sh (by decide) (by omega)) ?_
  refine r_ladd cx dJ13_bitCount_95d88_53 ?_
  rw [lN_add]
  refine r_lstore_n cx dJ13_bitCount_95d88_54 rfl (by decide) rfl ?_
  refine r_lload_n cx dJ13_bitCount_95d88_55 rfl rfl ?_
  refine r_l2i (v := nI ((m3 + m3 / 2 ^ 8) + (m3 + m3 / 2 ^ 8) / 2 ^ 16 + ((m3 + m3 / 2 ^ 8) + (m3 + m3 / 2 ^ 8) / 2 ^ 16) / 2 ^ 32)) cx dJ13_bitCount_95d88_56 (lN_i _) ?_
  refine r_bipush (v := nI 127) cx dJ13_bitCount_95d88_57 (by decide) ?_
  refine r_iand cx dJ13_bitCount_95d88_59 ?_
  refine r_eqi (y := nI (bc N)) (by rw [fa_and, show (127 : Nat) = 2 ^ 7 - 1 from rfl, Nat.and_two_pow_sub_one_eq_mod, show (2 : Nat) ^ 7 = 128 from rfl, swar_end N hN hm3]) ?_
  exact r_iret cx dJ13_bitCount_95d88_60 hr (⟨rfl, rfl⟩) (Nat.le_of_ble_eq_true rfl) (Nat.le_of_ble_eq_true rfl)
end
section
theorem q_max {a b : Nat} (ha : a < 2147483648) (hb : b < 2147483648) : (if nI a < nI b then nI b else nI a) = nI (max a b) := by
  by_cases h : a < b
  · rw [if_pos ((nI_ltI ha hb).mpr h), Nat.max_eq_right (Nat.le_of_lt h)]
  · rw [if_neg (fun z => h ((nI_ltI ha hb).mp z)), Nat.max_eq_left (by omega)]
section JROWS
variable {p : Program} {l : Launch} {e : Env} {R : Room} {s : State} {m : MethodId} {args : Array Value} {below : List Frame} {meth : Method} {c : Code} {g : q_G} {nL : Nat} {Q : State → Prop} {cl sl : Nat} {cc : ByteArray} {own : String} {pc : Nat} {lv : List (Nat × Value)} {st : List Value} {ws : va_W}
theorem r_tlen (cx : q_cx g p m c cc nL s args own meth) (hd : decode cc pc = .ok (.arraylength, 1)) (k : AT p l e R s m args below meth c g nL Q cl sl (pc + 1) lv (.int (nI 0) :: st) ws) : AT p l e R s m args below meth c g nL Q cl sl pc lv (.ref g.2.2.2.1 :: st) ws := fun H locs ls hP hD hS hl =>
  va_tlen cx.1.1 cx.1.2.1 cx.2.1.2.2.2.2.2.2.2.2.1 hS rfl hd (k H locs ls hP hD hS hl)
theorem r_gets (cx : q_cx g p m c cc nL s args RJx4a65c meth) (hd : decode cc pc = .ok (.getstatic 39, 3)) (k : AT p l e R s m args below meth c g nL Q cl sl (pc + 3) lv (.ref g.2.2.2.1 :: st) ws) : AT p l e R s m args below meth c g nL Q cl sl pc lv st ws := fun H locs ls hP hD hS hl =>
  va_gets cx.1.1 cx.1.2.1 cx.2.1.2.2.2.2.2.2.2.1 hS cx.1.2.2.2.1 (cx.ok tb_41) (fun _ h => h) hd (k H locs ls hP hD hS hl)
theorem r_acmpE (cx : q_cx g p m c cc nL s args own meth) {x : Nat} {off : Int} {tgt : Nat} (hd : decode cc pc = .ok (.if_acmp .eq off, 3)) (ht : (pc : Int) + off = (tgt : Int)) (k : AT p l e R s m args below meth c g nL Q cl sl tgt lv st ws) : AT p l e R s m args below meth c g nL Q cl sl pc lv (.ref x :: .ref x :: st) ws := fun H locs ls hP hD hS hl =>
  lv_acmp_eq (rx := some x) (ry := some x) cx.1.1 cx.1.2.1 hd ht (fun _ => k H locs ls hP hD hS hl) (fun h => absurd rfl h)
theorem r_acmpN (cx : q_cx g p m c cc nL s args own meth) {x : Nat} {off : Int} {tgt : Nat} (hd : decode cc pc = .ok (.if_acmp .ne off, 3)) (ht : (pc : Int) + off = (tgt : Int)) (k : AT p l e R s m args below meth c g nL Q cl sl (pc + 3) lv st ws) : AT p l e R s m args below meth c g nL Q cl sl pc lv (.ref x :: .ref x :: st) ws := fun H locs ls hP hD hS hl =>
  lv_acmp_ne (rx := some x) (ry := some x) cx.1.1 cx.1.2.1 hd ht (fun h => absurd rfl h) (fun _ => k H locs ls hP hD hS hl)
theorem q_cOn (cx : q_cx g p m c cc nL s args own meth) : s.vm.findClass "[Ljava/lang/Object;" = some (q_cO g) := by
  obtain ⟨kA, comp, h1, h2, h3, h4⟩ := (cx.2.1.2.1.2 3 (q_cO g, .object "java/lang/Object") rfl).2
  have e9 : "[" ++ (FieldType.object "java/lang/Object").toString = "[Ljava/lang/Object;" := by decide +kernel
  rw [e9] at h4
  exact h4
theorem r_newq (cx : q_cx g p m c cc nL s args own meth) {index N : Nat} (m1 : Cond.classLink own index "java/lang/Object" ∈ WS) (hN : N ≤ 100) (hd : decode cc pc = .ok (.anewarray index, 3)) (hcells : cl + 1 ≤ R.cells) (hslots : sl + N ≤ R.slots) (kk : ∀ q : Nat, AT p l e R s m args below meth c g nL Q (cl + 1) (sl + N) (pc + 3) lv (.ref q :: st) (ws ++ [(q, .inl (q_cO g, N, .inr (.inr (.inr (.inr (fun _ => none))))))])) : AT p l e R s m args below meth c g nL Q cl sl pc lv (.int (nI N) :: st) ws := fun H locs ls hP hD hS hl => by
  refine va_newq cx.1.1 cx.1.2.1 cx.1.2.2.2.1 (cx.ok m1) cx.2.1.2.2.2.2.2.2.2.2.2.1 cx.2.1.2.1 hP hD hS cx.hA (nI_pos (by omega)) (nI_clamp (by omega)) (by omega) hcells hslots hd (fun q cA2 H1 hK hP hD hS => ?_)
  have h1 := (hK.2 (q_tys g).length (cA2, .object "java/lang/Object") (by rw [List.getElem?_append_right (Nat.le_refl _), Nat.sub_self]; rfl)).2
  have h2 := (cx.2.1.2.1.2 3 (q_cO g, .object "java/lang/Object") rfl).2
  obtain ⟨kA, comp, -, -, -, h4⟩ := h1
  obtain ⟨kA2, comp2, -, -, -, h5⟩ := h2
  have e : cA2 = q_cO g := Option.some.inj (h4.symm.trans h5)
  rw [e] at hP hD
  exact kk q H1 locs ls hP hD hS hl
theorem r_getC (cx : q_cx g p m c cc nL s args own meth) {index a : Nat} (m1 : Cond.methodLink own index ⟨"java/lang/Object", "getClass", "()Ljava/lang/Class;"⟩ ∈ WS) (hd : decode cc pc = .ok (.invokevirtual index, 3)) (q0 : Nat) {x : vp_A} (he : ws[q0]? = some (a, .inl (q_cO g, x))) (hx : (vp_cell (q_cO g) x).vm.isStatics = false ∧ (vp_cell (q_cO g) x).cls = q_cO g) (hf : 1 ≤ R.frames) (hlo : (st.map fun v => v.category).sum + 14 ≤ R.locals) (k : AT p l e R s m args below meth c g nL Q cl sl (pc + 3) lv (.ref g.2.2.2.2 :: st) ws) : AT p l e R s m args below meth c g nL Q cl sl pc lv (.ref a :: st) ws := fun H locs ls hP hD hS hl =>
  va_getC (C := "[Ljava/lang/Object;") cx.1.1 cx.1.2.1 (cx.1.2.2.1.trans hl.1.symm) cx.1.2.2.2.1 (cx.ok m1) (cx.nok tn_566) (cx.ok tb_565) (cx.ok tb_443) (cx.ok tb_453) cx.2.1.2.2.2.2.2.2.2.2.2.2.1 ⟨_, hP q0 _ he, hx.1, by rw [hx.2]; exact q_cOn cx⟩ hf hlo hd (k H locs ls hP hD hS hl)
theorem r_ldcM (cx : q_cx g p m c cc nL s args own meth) {index : Nat} (m1 : Cond.classLink own index "[Ljava/lang/Object;" ∈ WS) (hd : decode cc pc = .ok (.ldc index, 2)) (k : AT p l e R s m args below meth c g nL Q cl sl (pc + 2) lv (.ref g.2.2.2.2 :: st) ws) : AT p l e R s m args below meth c g nL Q cl sl pc lv st ws := fun H locs ls hP hD hS hl =>
  va_ldcM cx.1.1 cx.1.2.1 cx.1.2.2.2.1 (cx.ok m1) cx.2.1.2.2.2.2.2.2.2.2.2.2.1 hd (k H locs ls hP hD hS hl)
theorem r_astq (cx : q_cx g p m c cc nL s args own meth) (q0 qk : Nat) {ci a n v i : Nat} {q : vw_C} {vs : List Value} {f : Nat → Option Nat} (hd : decode cc pc = .ok (.aastore, 1)) (ha : ws[q0]? = some (a, .inl (q_cO g, n, .inr (.inr (.inr (.inr f)))))) (hc : vwCl[ci]? = some q) (hca : Cond.castable q.1 "java/lang/Object" ∈ NGW) (hv : ws[qk]? = some (v, .inr (ci, vs))) (hi : i < n) (hn : n < 2147483648) (k : AT p l e R s m args below meth c g nL Q cl sl (pc + 1) lv st (ws.set q0 (a, .inl (q_cO g, n, .inr (.inr (.inr (.inr (va_up f i (some v))))))))) : AT p l e R s m args below meth c g nL Q cl sl pc lv (.ref v :: .int (nI i) :: .ref a :: st) ws := fun H locs ls hP hD hS hl =>
  va_astqO cx.1.1 cx.1.2.1 cx.2.1.2.1 hP hD hS q0 3 qk ci ha rfl (cx.2.1.2.2.1 _ hca) hv hc (vp_in_nI hi hn) hd (fun H1 locs1 hP hD hS => by rw [nI_clamp (Nat.lt_trans hi hn)] at hP hD; exact k H1 locs1 ls hP hD hS hl)
theorem r_copyq (cx : q_cx g p m c cc nL s args own meth) {index : Nat} (m1 : Cond.methodLink own index arraycopyName ∈ WS) (q0 q1 : Nat) {a0 a n0 n1 n ci : Nat} {cq : vw_C} {f h : Nat → Option Nat} (hd : decode cc pc = .ok (.invokestatic index, 3)) (ha0 : ws[q0]? = some (a0, .inl (q_cO g, n0, .inr (.inr (.inr (.inr f)))))) (ha1 : ws[q1]? = some (a, .inl (q_cO g, n1, .inr (.inr (.inr (.inr h)))))) (h4 : n ≤ n0) (h5 : n ≤ n1) (hn : n < 2147483648) (hc : vwCl[ci]? = some cq) (hca : Cond.castable cq.1 "java/lang/Object" ∈ NGW) (hel : ∀ i, i < n → ∀ y, f i = some y → ∃ (q : Nat) (fs : List Value), ws[q]? = some (y, .inr (ci, fs))) (hf : 1 ≤ R.frames) (hlo : (st.map fun v => v.category).sum + (nativeFrameWords "java/lang/System" "arraycopy" 5 + 11) ≤ R.locals) (k : AT p l e R s m args below meth c g nL Q cl sl (pc + 3) lv st (ws.set q1 (a, .inl (q_cO g, n1, .inr (.inr (.inr (.inr (va_cpy f h 0 0 n)))))))) : AT p l e R s m args below meth c g nL Q cl sl pc lv (.int (nI n) :: .int (nI 0) :: .ref a :: .int (nI 0) :: .ref a0 :: st) ws := fun H locs ls hP hD hS hl => by
  have z : (nI 0).toNatClampNeg = 0 := nI_clamp (by decide)
  have zn : (nI n).toNatClampNeg = n := nI_clamp hn
  refine va_copyq (C := cq.1) cx.1.1 cx.1.2.1 (cx.1.2.2.1.trans hl.1.symm) cx.1.2.2.2.1 (cx.ok m1) (cx.ok tb_463) (cx.ok tb_462) (cx.ok tb_16) cx.2.1.2.1 hP hD hS q0 q1 3 3 ha0 ha1 rfl rfl (nI_pos (by decide)) (nI_pos (by decide)) (nI_pos hn) (by rw [z, zn]; omega) (by rw [z, zn]; omega) (fun i hi y hy => ?_) (fun comp c0 e1 e2 => ?_) hf hlo hd (fun H1 locs1 hP hD hS => ?_)
  · rw [zn] at hi
    rw [z, Nat.zero_add] at hy
    obtain ⟨q, fs, hq⟩ := hel i hi y hy
    exact va_recv cx.2.1.2.1 hP hc hq
  · obtain ⟨c1, t1, f1, f2, f3⟩ := Cond.castable_spec (va_Nw.use (A := args) rfl (cx.2.1.2.2.1 _ hca))
    cases e2.symm.trans f1
    cases e1.symm.trans f2
    exact f3
  · rw [z, zn] at hP hD
    exact k H1 locs1 ls hP hD hS hl
end JROWS
set_option maxHeartbeats 4000000 in
set_option maxRecDepth 100000 in
theorem c_newLength (l : Launch) (g : q_G) (ws : va_W) (a b d : Nat) (ha : a ≤ 1000) (hb : b ≤ 1000) (hd0 : d ≤ 1000) (h0 : 0 < a) : MetW l g yJ8_newLength_cabcc cJ8_newLength_cabcc 4 (some .int) ({ frames := 1, cells := 0, slots := 0, locals := 30 } : Room) [.int (nI a), .int (nI b), .int (nI d)] (ws) (q_Qi g (fun r w => r = nI (a + max b d) ∧ w = ws)) := by
  refine q_met (own := RJ8) (by decide +kernel) rfl (Nat.le_of_ble_eq_true rfl) (fun p e s m args below meth c cx hr hnm => ?_)
  refine r_lv (lv2 := [(0, .int (nI a)), (1, .int (nI b)), (2, .int (nI d))]) (q_pk [0, 1, 2] rfl) ?_
  refine r_iload_n cx dJ8_newLength_cabcc_0 rfl rfl ?_
  refine r_iload_n cx dJ8_newLength_cabcc_1 rfl rfl ?_
  refine r_iload_n cx dJ8_newLength_cabcc_2 rfl rfl ?_
  refine r_max cx tb_432 tb_433 tb_15 tb_434 dJ8_newLength_cabcc_3 (Nat.le_of_ble_eq_true rfl) (Nat.le_of_ble_eq_true rfl) (Nat.le_of_ble_eq_true rfl) (Nat.le_of_ble_eq_true rfl) ?_
  refine r_eqi (y := nI (max b d)) (q_max (by omega) (by omega)) ?_
  first | refine r_iaddN cx dJ8_newLength_cabcc_6 ?_ | refine r_iadd cx dJ8_newLength_cabcc_6 ?_
  refine r_istore_n cx dJ8_newLength_cabcc_7 rfl (by decide) rfl ?_
  refine r_iconst (v := nI 0) cx dJ8_newLength_cabcc_8 (by decide) ?_
  refine r_iload_n cx dJ8_newLength_cabcc_9 rfl rfl ?_
  refine r_icmpgeN (tgt := 21) cx (by omega) (by omega) dJ8_newLength_cabcc_10 (by decide) (fun h_10 => ?_) (fun h_10 => ?_)
  · exact absurd h_10 (by omega)
  · skip
    refine r_iload_n cx dJ8_newLength_cabcc_13 rfl rfl ?_
    refine r_ldc cx dJ8_newLength_cabcc_14 tb_435 ?_
    refine r_eqi (y := nI 2147483639) rfl ?_
    refine r_icmpgtN (tgt := 21) cx (by omega) (by omega) dJ8_newLength_cabcc_16 (by decide) (fun h_16 => ?_) (fun h_16 => ?_)
    · exact absurd h_16 (by omega)
    · skip
      refine r_iload_n cx dJ8_newLength_cabcc_19 rfl rfl ?_
      exact r_iret cx dJ8_newLength_cabcc_20 hr (⟨rfl, rfl⟩) (Nat.le_of_ble_eq_true rfl) (Nat.le_of_ble_eq_true rfl)
set_option maxHeartbeats 4000000 in
set_option maxRecDepth 100000 in
theorem c_copyOf3 (l : Launch) (g : q_G) (ws : va_W) (qe a n mm ci : Nat) (cq : vw_C) (f : Nat → Option Nat) (hm : mm ≤ 100) (hnm0 : n ≤ mm) (he : ws[qe]? = some (a, .inl (q_cO g, n, .inr (.inr (.inr (.inr (f))))))) (hc : vwCl[ci]? = some cq) (hca : Cond.castable cq.1 "java/lang/Object" ∈ NGW) (hel : ∀ i, i < n → ∀ y, f i = some y → ∃ (q : Nat) (fs : List Value), ws[q]? = some (y, .inr (ci, fs))) : MetW l g yJ7_copyOf_6403c cJ7_copyOf_6403c 4 (some (.array (.object "java/lang/Object"))) ({ frames := 1, cells := 1, slots := 100, locals := 60 } : Room) [.ref a, .int (nI mm), .ref g.2.2.2.2] (ws) (q_Qq g (fun r w => ∃ q : Nat, r = some q ∧ w = ws ++ [(q, .inl (q_cO g, mm, .inr (.inr (.inr (.inr (va_cpy f (fun _ => none) 0 0 n))))))])) := by
  refine q_met (own := RJ7) (by decide +kernel) rfl (Nat.le_of_ble_eq_true rfl) (fun p e s m args below meth c cx hr hnm => ?_)
  refine r_lv (lv2 := [(0, .ref a), (1, .int (nI mm)), (2, .ref g.2.2.2.2)]) (q_pk [0, 1, 2] rfl) ?_
  refine r_aload_n cx dJ7_copyOf_6403c_0 rfl rfl ?_
  refine r_ldcM cx tb_457 dJ7_copyOf_6403c_1 ?_
  refine r_acmpN (tgt := 13) cx dJ7_copyOf_6403c_3 (by decide) ?_
  refine r_iload_n cx dJ7_copyOf_6403c_6 rfl rfl ?_
  refine r_newq cx tb_459 hm dJ7_copyOf_6403c_7 (Nat.le_of_ble_eq_true rfl) (show 0 + mm ≤ 100 by omega) (fun q => ?_)
  refine r_wide (k := 1) (n := 100) (Nat.le_of_ble_eq_true rfl) (show 0 + mm ≤ 100 by omega) ?_
  have he2 : (ws ++ [(q, .inl (q_cO g, mm, .inr (.inr (.inr (.inr (fun _ => none))))))])[qe]? = some (a, .inl (q_cO g, n, .inr (.inr (.inr (.inr (f)))))) := by rw [List.getElem?_append_left (List.getElem?_eq_some_iff.mp he).1]; exact he
  have hq2 : (ws ++ [(q, .inl (q_cO g, mm, .inr (.inr (.inr (.inr (fun _ => none))))))])[ws.length]? = some (q, .inl (q_cO g, mm, .inr (.inr (.inr (.inr (fun _ => none)))))) := by rw [List.getElem?_append_right (Nat.le_refl _), Nat.sub_self]; rfl
  refine r_goto (tgt := 24) cx dJ7_copyOf_6403c_10 (by decide) ?_
  refine r_astore_n cx dJ7_copyOf_6403c_24 rfl (by decide) rfl ?_
  refine r_aload_n cx dJ7_copyOf_6403c_25 rfl rfl ?_
  refine r_iconst (v := nI 0) cx dJ7_copyOf_6403c_26 (by decide) ?_
  refine r_aload_n cx dJ7_copyOf_6403c_27 rfl rfl ?_
  refine r_iconst (v := nI 0) cx dJ7_copyOf_6403c_28 (by decide) ?_
  refine r_aload_n cx dJ7_copyOf_6403c_29 rfl rfl ?_
  refine r_alen (v := nI n) cx qe 3 dJ7_copyOf_6403c_30 he2 rfl rfl ?_
  refine r_iload_n cx dJ7_copyOf_6403c_31 rfl rfl ?_
  refine r_min cx tb_460 tb_286 tb_15 tb_287 dJ7_copyOf_6403c_32 (Nat.le_of_ble_eq_true rfl) (Nat.le_of_ble_eq_true rfl) (Nat.le_of_ble_eq_true rfl) (Nat.le_of_ble_eq_true rfl) ?_
  refine r_eqi (y := nI n) (by rw [q_min (by omega) (by omega), Nat.min_eq_left hnm0]) ?_
  refine r_copyq cx tb_461 qe ws.length dJ7_copyOf_6403c_35 he2 hq2 (Nat.le_refl n) hnm0 (by omega) hc hca (fun i hi y hy => (hel i hi y hy).elim (fun q5 z => z.elim (fun fs z2 => ⟨q5, fs, by rw [List.getElem?_append_left (List.getElem?_eq_some_iff.mp z2).1]; exact z2⟩))) (Nat.le_of_ble_eq_true rfl) (Nat.le_of_ble_eq_true rfl) ?_
  refine r_ws (ws2 := ws ++ [(q, .inl (q_cO g, mm, .inr (.inr (.inr (.inr (va_cpy f (fun _ => none) 0 0 n))))))]) (by rw [List.set_append_right _ _ (Nat.le_refl _), Nat.sub_self]; rfl) ?_
  refine r_aload_n cx dJ7_copyOf_6403c_38 rfl rfl ?_
  exact r_aret cx dJ7_copyOf_6403c_39 hr (r := some q) (Or.inr ⟨_, rfl⟩) (⟨q, rfl, rfl⟩) (Nat.le_of_ble_eq_true rfl) (Nat.le_of_ble_eq_true rfl)
set_option maxHeartbeats 4000000 in
set_option maxRecDepth 100000 in
theorem c_copyOf (l : Launch) (g : q_G) (ws : va_W) (qe a n mm ci : Nat) (cq : vw_C) (f : Nat → Option Nat) (hm : mm ≤ 100) (hnm0 : n ≤ mm) (he : ws[qe]? = some (a, .inl (q_cO g, n, .inr (.inr (.inr (.inr (f))))))) (hc : vwCl[ci]? = some cq) (hca : Cond.castable cq.1 "java/lang/Object" ∈ NGW) (hel : ∀ i, i < n → ∀ y, f i = some y → ∃ (q : Nat) (fs : List Value), ws[q]? = some (y, .inr (ci, fs))) : MetW l g yJ7_copyOf_1904c cJ7_copyOf_1904c 2 (some (.array (.object "java/lang/Object"))) ({ frames := 2, cells := 1, slots := 100, locals := 83 } : Room) [.ref a, .int (nI mm)] (ws) (q_Qq g (fun r w => ∃ q : Nat, r = some q ∧ w = ws ++ [(q, .inl (q_cO g, mm, .inr (.inr (.inr (.inr (va_cpy f (fun _ => none) 0 0 n))))))])) := by
  refine q_met (own := RJ7) (by decide +kernel) rfl (Nat.le_of_ble_eq_true rfl) (fun p e s m args below meth c cx hr hnm => ?_)
  refine r_lv (lv2 := [(0, .ref a), (1, .int (nI mm))]) (q_pk [0, 1] rfl) ?_
  refine r_aload_n cx dJ7_copyOf_1904c_0 rfl rfl ?_
  refine r_iload_n cx dJ7_copyOf_1904c_1 rfl rfl ?_
  refine r_aload_n cx dJ7_copyOf_1904c_2 rfl rfl ?_
  refine r_getC cx tb_442 dJ7_copyOf_1904c_3 qe he ⟨rfl, rfl⟩ (Nat.le_of_ble_eq_true rfl) (Nat.le_of_ble_eq_true rfl) ?_
  refine k_J7_300 cx (c_copyOf3 l g ws qe a n mm ci cq f hm hnm0 he hc hca hel) dJ7_copyOf_1904c_6 ⟨Nat.le_of_ble_eq_true rfl, Nat.le_of_ble_eq_true rfl⟩ ⟨Nat.le_of_ble_eq_true rfl, Nat.le_of_ble_eq_true rfl⟩ rfl rfl (Nat.le_of_ble_eq_true rfl) (fun r w hp => ?_)
  obtain ⟨q, rfl, rfl⟩ := hp
  exact r_aret cx dJ7_copyOf_1904c_9 hr (r := some q) (Or.inr ⟨_, rfl⟩) (⟨q, rfl, rfl⟩) (Nat.le_of_ble_eq_true rfl) (Nat.le_of_ble_eq_true rfl)
set_option maxHeartbeats 4000000 in
set_option maxRecDepth 100000 in
theorem c_grow1e (l : Launch) (g : q_G) (wr : va_W) (li : Nat) (mc : Int32) : MetW l g yJx4a65c_grow_92f84 cJx4a65c_grow_92f84 4 (some (.array (.object "java/lang/Object"))) ({ frames := 1, cells := 1, slots := 100, locals := 40 } : Room) [.ref li, .int (nI 1)] ((li, .inr (0, [.int mc, .ref g.2.2.2.1, .int (nI 0)])) :: wr) (q_Qq g (fun r w => ∃ q : Nat, r = some q ∧ w = (li, .inr (0, [.int mc, .ref q, .int (nI 0)])) :: (q, .inl (q_cO g, 10, .inr (.inr (.inr (.inr (fun _ => none)))))) :: wr)) := by
  refine q_met (own := RJx4a65c) (by decide +kernel) rfl (Nat.le_of_ble_eq_true rfl) (fun p e s m args below meth c cx hr hnm => ?_)
  refine r_lv (lv2 := [(0, .ref li), (1, .int (nI 1))]) (q_pk [0, 1] rfl) ?_
  refine r_aload_n cx dJx4a65c_grow_92f84_0 rfl rfl ?_
  refine gf_Jx4a65c_9 cx dJx4a65c_grow_92f84_1 0 rfl rfl ?_
  refine r_tlen cx dJx4a65c_grow_92f84_4 ?_
  refine r_istore_n cx dJx4a65c_grow_92f84_5 rfl (by decide) rfl ?_
  refine r_iload_n cx dJx4a65c_grow_92f84_6 rfl rfl ?_
  refine r_ifgt (tgt := 20) cx dJx4a65c_grow_92f84_7 (by decide) (fun h_7 => ?_) (fun h_7 => ?_)
  · exact absurd h_7 (by decide)
  · skip
    refine r_aload_n cx dJx4a65c_grow_92f84_10 rfl rfl ?_
    refine gf_Jx4a65c_9 cx dJx4a65c_grow_92f84_11 0 rfl rfl ?_
    refine r_gets cx dJx4a65c_grow_92f84_14 ?_
    refine r_acmpE (tgt := 45) cx dJx4a65c_grow_92f84_17 (by decide) ?_
    refine r_aload_n cx dJx4a65c_grow_92f84_45 rfl rfl ?_
    refine r_bipush (v := nI 10) cx dJx4a65c_grow_92f84_46 (by decide) ?_
    refine r_iload_n cx dJx4a65c_grow_92f84_48 rfl rfl ?_
    refine r_max cx tb_464 tb_433 tb_15 tb_434 dJx4a65c_grow_92f84_49 (Nat.le_of_ble_eq_true rfl) (Nat.le_of_ble_eq_true rfl) (Nat.le_of_ble_eq_true rfl) (Nat.le_of_ble_eq_true rfl) ?_
    refine r_eqi (y := nI 10) (by decide) ?_
    refine r_newq cx tb_465 (by decide) dJx4a65c_grow_92f84_52 (Nat.le_of_ble_eq_true rfl) (Nat.le_of_ble_eq_true rfl) (fun q => ?_)
    refine r_dup_x1 cx dJx4a65c_grow_92f84_55 rfl rfl ?_
    refine pf_Jx4a65c_9 cx dJx4a65c_grow_92f84_56 0 rfl (Nat.le_of_ble_eq_true rfl) ?_
    refine r_perm (ws2 := (li, .inr (0, [.int mc, .ref q, .int (nI 0)])) :: (q, .inl (q_cO g, 10, .inr (.inr (.inr (.inr (fun _ => none)))))) :: wr) (List.Perm.cons _ (List.perm_append_singleton _ _)) ?_
    exact r_aret cx dJx4a65c_grow_92f84_59 hr (r := some q) (Or.inr ⟨_, rfl⟩) (⟨q, rfl, rfl⟩) (Nat.le_of_ble_eq_true rfl) (Nat.le_of_ble_eq_true rfl)
set_option maxHeartbeats 4000000 in
set_option maxRecDepth 100000 in
theorem c_grow0e (l : Launch) (g : q_G) (wr : va_W) (li : Nat) (mc : Int32) : MetW l g yJx4a65c_grow_d5877 cJx4a65c_grow_d5877 1 (some (.array (.object "java/lang/Object"))) ({ frames := 2, cells := 1, slots := 100, locals := 63 } : Room) [.ref li] ((li, .inr (0, [.int mc, .ref g.2.2.2.1, .int (nI 0)])) :: wr) (q_Qq g (fun r w => ∃ q : Nat, r = some q ∧ w = (li, .inr (0, [.int mc, .ref q, .int (nI 0)])) :: (q, .inl (q_cO g, 10, .inr (.inr (.inr (.inr (fun _ => none)))))) :: wr)) := by
  refine q_met (own := RJx4a65c) (by decide +kernel) rfl (Nat.le_of_ble_eq_true rfl) (fun p e s m args below meth c cx hr hnm => ?_)
  refine r_lv (lv2 := [(0, .ref li)]) (q_pk [0] rfl) ?_
  refine r_aload_n cx dJx4a65c_grow_d5877_0 rfl rfl ?_
  refine r_aload_n cx dJx4a65c_grow_d5877_1 rfl rfl ?_
  refine gf_Jx4a65c_48 cx dJx4a65c_grow_d5877_2 0 rfl rfl ?_
  refine r_iconst (v := nI 1) cx dJx4a65c_grow_d5877_5 (by decide) ?_
  first | refine r_iaddN cx dJx4a65c_grow_d5877_6 ?_ | refine r_iadd cx dJx4a65c_grow_d5877_6 ?_
  refine k_Jx4a65c_69 cx (c_grow1e l g wr li mc) dJx4a65c_grow_d5877_7 0 rfl ⟨Nat.le_of_ble_eq_true rfl, Nat.le_of_ble_eq_true rfl⟩ ⟨Nat.le_of_ble_eq_true rfl, Nat.le_of_ble_eq_true rfl⟩ rfl rfl (Nat.le_of_ble_eq_true rfl) (fun r w hp => ?_)
  obtain ⟨q, rfl, rfl⟩ := hp
  exact r_aret cx dJx4a65c_grow_d5877_10 hr (r := some q) (Or.inr ⟨_, rfl⟩) (⟨q, rfl, rfl⟩) (Nat.le_of_ble_eq_true rfl) (Nat.le_of_ble_eq_true rfl)
set_option maxHeartbeats 4000000 in
set_option maxRecDepth 100000 in
theorem c_grow1f (l : Launch) (g : q_G) (wr : va_W) (li el n : Nat) (mc : Int32) (f : Nat → Option Nat) (hn2 : 2 ≤ n) (hn : n ≤ 60) (ci : Nat) (cq : vw_C) (hc : vwCl[ci]? = some cq) (hca : Cond.castable cq.1 "java/lang/Object" ∈ NGW) (hel : ∀ i, i < n → ∀ y, f i = some y → ∃ (q : Nat) (fs : List Value), wr[q]? = some (y, .inr (ci, fs))) : MetW l g yJx4a65c_grow_92f84 cJx4a65c_grow_92f84 4 (some (.array (.object "java/lang/Object"))) ({ frames := 3, cells := 1, slots := 100, locals := 104 } : Room) [.ref li, .int (nI (n + 1))] ((li, .inr (0, [.int mc, .ref el, .int (nI n)])) :: (el, .inl (q_cO g, n, .inr (.inr (.inr (.inr (f)))))) :: wr) (q_Qq g (fun r w => ∃ q : Nat, r = some q ∧ w = (li, .inr (0, [.int mc, .ref q, .int (nI n)])) :: (q, .inl (q_cO g, n + n / 2, .inr (.inr (.inr (.inr (va_cpy f (fun _ => none) 0 0 n)))))) :: wr)) := by
  refine q_met (own := RJx4a65c) (by decide +kernel) rfl (Nat.le_of_ble_eq_true rfl) (fun p e s m args below meth c cx hr hnm => ?_)
  refine r_lv (lv2 := [(0, .ref li), (1, .int (nI (n + 1)))]) (q_pk [0, 1] rfl) ?_
  refine r_aload_n cx dJx4a65c_grow_92f84_0 rfl rfl ?_
  refine gf_Jx4a65c_9 cx dJx4a65c_grow_92f84_1 0 rfl rfl ?_
  refine r_alen (v := nI n) cx 1 3 dJx4a65c_grow_92f84_4 rfl rfl rfl ?_
  refine r_istore_n cx dJx4a65c_grow_92f84_5 rfl (by decide) rfl ?_
  refine r_iload_n cx dJx4a65c_grow_92f84_6 rfl rfl ?_
  refine r_ifgtN (tgt := 20) cx (by omega) dJx4a65c_grow_92f84_7 (by decide) (fun h_7 => ?_) (fun h_7 => ?_)
  · skip
    refine r_iload_n cx dJx4a65c_grow_92f84_20 rfl rfl ?_
    refine r_iload_n cx dJx4a65c_grow_92f84_21 rfl rfl ?_
    refine r_iload_n cx dJx4a65c_grow_92f84_22 rfl rfl ?_
    first | refine r_isubN cx dJx4a65c_grow_92f84_23 (by omega) ?_ | refine r_isub cx dJx4a65c_grow_92f84_23 ?_
    refine r_iload_n cx dJx4a65c_grow_92f84_24 rfl rfl ?_
    refine r_iconst (v := nI 1) cx dJx4a65c_grow_92f84_25 (by decide) ?_
    refine r_ishr cx dJx4a65c_grow_92f84_26 ?_
    refine r_eqi (y := nI (n / 2)) (pk_shrN (by omega) (nI 1 &&& 31) 1 (by decide)) ?_
    rw [show n + 1 - n = 1 by omega]
    refine k_Jx4a65c_73 cx (c_newLength l g _ n 1 (n / 2) (by omega) (by omega) (by omega) (by omega)) dJx4a65c_grow_92f84_27 ⟨Nat.le_of_ble_eq_true rfl, Nat.le_of_ble_eq_true rfl⟩ ⟨Nat.le_of_ble_eq_true rfl, Nat.le_of_ble_eq_true rfl⟩ rfl rfl (Nat.le_of_ble_eq_true rfl) (fun r w hp => ?_)
    obtain ⟨rfl, rfl⟩ := hp
    rw [Nat.max_eq_right (by omega : 1 ≤ n / 2)]
    refine r_istore_n cx dJx4a65c_grow_92f84_30 rfl (by decide) rfl ?_
    refine r_aload_n cx dJx4a65c_grow_92f84_31 rfl rfl ?_
    refine r_aload_n cx dJx4a65c_grow_92f84_32 rfl rfl ?_
    refine gf_Jx4a65c_9 cx dJx4a65c_grow_92f84_33 0 rfl rfl ?_
    refine r_iload_n cx dJx4a65c_grow_92f84_36 rfl rfl ?_
    refine k_Jx4a65c_66 cx (c_copyOf l g _ 1 el n (n + n / 2) ci cq f (by omega) (by omega) rfl hc hca (fun i hi y hy => (hel i hi y hy).elim (fun q5 z => z.elim (fun fs z2 => ⟨q5 + 2, fs, z2⟩)))) dJx4a65c_grow_92f84_37 ⟨Nat.le_of_ble_eq_true rfl, Nat.le_of_ble_eq_true rfl⟩ ⟨Nat.le_of_ble_eq_true rfl, Nat.le_of_ble_eq_true rfl⟩ rfl rfl (Nat.le_of_ble_eq_true rfl) (fun r w hp => ?_)
    obtain ⟨q, rfl, rfl⟩ := hp
    refine r_eqv (y := .ref q) rfl ?_
    refine r_dup_x1 cx dJx4a65c_grow_92f84_40 rfl rfl ?_
    refine pf_Jx4a65c_9 cx dJx4a65c_grow_92f84_41 0 rfl (Nat.le_of_ble_eq_true rfl) ?_
    refine r_drop (ws2 := (li, .inr (0, [.int mc, .ref q, .int (nI n)])) :: (q, .inl (q_cO g, n + n / 2, .inr (.inr (.inr (.inr (va_cpy f (fun _ => none) 0 0 n)))))) :: wr) (wsx := [(el, .inl (q_cO g, n, .inr (.inr (.inr (.inr (f))))))]) (by
      show ((li, .inr (0, [.int mc, .ref q, .int (nI n)])) :: (((q, .inl (q_cO g, n + n / 2, .inr (.inr (.inr (.inr (va_cpy f (fun _ => none) 0 0 n)))))) :: wr) ++ [(el, .inl (q_cO g, n, .inr (.inr (.inr (.inr (f))))))])).Perm ((li, .inr (0, [.int mc, .ref q, .int (nI n)])) :: ((el, .inl (q_cO g, n, .inr (.inr (.inr (.inr (f)))))) :: (wr ++ [(q, .inl (q_cO g, n + n / 2, .inr (.inr (.inr (.inr (va_cpy f (fun _ => none) 0 0 n))))))])))
      exact List.Perm.cons _ ((List.perm_append_singleton _ _).trans (List.Perm.cons _ (List.perm_append_singleton _ _).symm))) ?_
    exact r_aret cx dJx4a65c_grow_92f84_44 hr (r := some q) (Or.inr ⟨_, rfl⟩) (⟨q, rfl, rfl⟩) (Nat.le_of_ble_eq_true rfl) (Nat.le_of_ble_eq_true rfl)
  · exact absurd h_7 (by omega)
set_option maxHeartbeats 4000000 in
set_option maxRecDepth 100000 in
theorem c_grow0f (l : Launch) (g : q_G) (wr : va_W) (li el n : Nat) (mc : Int32) (f : Nat → Option Nat) (hn2 : 2 ≤ n) (hn : n ≤ 60) (ci : Nat) (cq : vw_C) (hc : vwCl[ci]? = some cq) (hca : Cond.castable cq.1 "java/lang/Object" ∈ NGW) (hel : ∀ i, i < n → ∀ y, f i = some y → ∃ (q : Nat) (fs : List Value), wr[q]? = some (y, .inr (ci, fs))) : MetW l g yJx4a65c_grow_d5877 cJx4a65c_grow_d5877 1 (some (.array (.object "java/lang/Object"))) ({ frames := 4, cells := 1, slots := 100, locals := 127 } : Room) [.ref li] ((li, .inr (0, [.int mc, .ref el, .int (nI n)])) :: (el, .inl (q_cO g, n, .inr (.inr (.inr (.inr (f)))))) :: wr) (q_Qq g (fun r w => ∃ q : Nat, r = some q ∧ w = (li, .inr (0, [.int mc, .ref q, .int (nI n)])) :: (q, .inl (q_cO g, n + n / 2, .inr (.inr (.inr (.inr (va_cpy f (fun _ => none) 0 0 n)))))) :: wr)) := by
  refine q_met (own := RJx4a65c) (by decide +kernel) rfl (Nat.le_of_ble_eq_true rfl) (fun p e s m args below meth c cx hr hnm => ?_)
  refine r_lv (lv2 := [(0, .ref li)]) (q_pk [0] rfl) ?_
  refine r_aload_n cx dJx4a65c_grow_d5877_0 rfl rfl ?_
  refine r_aload_n cx dJx4a65c_grow_d5877_1 rfl rfl ?_
  refine gf_Jx4a65c_48 cx dJx4a65c_grow_d5877_2 0 rfl rfl ?_
  refine r_iconst (v := nI 1) cx dJx4a65c_grow_d5877_5 (by decide) ?_
  first | refine r_iaddN cx dJx4a65c_grow_d5877_6 ?_ | refine r_iadd cx dJx4a65c_grow_d5877_6 ?_
  refine k_Jx4a65c_69 cx (c_grow1f l g wr li el n mc f hn2 hn ci cq hc hca hel) dJx4a65c_grow_d5877_7 0 rfl ⟨Nat.le_of_ble_eq_true rfl, Nat.le_of_ble_eq_true rfl⟩ ⟨Nat.le_of_ble_eq_true rfl, Nat.le_of_ble_eq_true rfl⟩ rfl rfl (Nat.le_of_ble_eq_true rfl) (fun r w hp => ?_)
  obtain ⟨q, rfl, rfl⟩ := hp
  exact r_aret cx dJx4a65c_grow_d5877_10 hr (r := some q) (Or.inr ⟨_, rfl⟩) (⟨q, rfl, rfl⟩) (Nat.le_of_ble_eq_true rfl) (Nat.le_of_ble_eq_true rfl)
set_option maxHeartbeats 4000000 in
set_option maxRecDepth 100000 in
theorem c_add3e (l : Launch) (g : q_G) (wr : va_W) (li : Nat) (mc : Int32) (ci : Nat) (cq : vw_C) (hc : vwCl[ci]? = some cq) (hca : Cond.castable cq.1 "java/lang/Object" ∈ NGW) (v qv : Nat) (vs : List Value) (hv : wr[qv]? = some (v, .inr (ci, vs))) : MetW l g yJx4a65c_add_72be8 cJx4a65c_add_72be8 4 none ({ frames := 3, cells := 1, slots := 100, locals := 83 } : Room) [.ref li, .ref v, .ref g.2.2.2.1, .int (nI 0)] ((li, .inr (0, [.int mc, .ref g.2.2.2.1, .int (nI 0)])) :: wr) (q_Qv g (fun w => ∃ q : Nat, w = (li, .inr (0, [.int mc, .ref q, .int (nI 1)])) :: (q, .inl (q_cO g, 10, .inr (.inr (.inr (.inr (va_up (fun _ => none) 0 (some v))))))) :: wr)) := by
  refine q_met (own := RJx4a65c) (by decide +kernel) rfl (Nat.le_of_ble_eq_true rfl) (fun p e s m args below meth c cx hr hnm => ?_)
  refine r_lv (lv2 := [(0, .ref li), (1, .ref v), (2, .ref g.2.2.2.1), (3, .int (nI 0))]) (q_pk [0, 1, 2, 3] rfl) ?_
  refine r_iload_n cx dJx4a65c_add_72be8_0 rfl rfl ?_
  refine r_aload_n cx dJx4a65c_add_72be8_1 rfl rfl ?_
  refine r_tlen cx dJx4a65c_add_72be8_2 ?_
  refine r_icmpneN (tgt := 11) cx (by omega) (by omega) dJx4a65c_add_72be8_3 (by decide) (fun h_3 => ?_) (fun h_3 => ?_)
  · exact absurd rfl h_3
  · skip
    refine r_aload_n cx dJx4a65c_add_72be8_6 rfl rfl ?_
    refine k_Jx4a65c_129 cx (c_grow0e l g wr li mc) dJx4a65c_add_72be8_7 0 rfl ⟨Nat.le_of_ble_eq_true rfl, Nat.le_of_ble_eq_true rfl⟩ ⟨Nat.le_of_ble_eq_true rfl, Nat.le_of_ble_eq_true rfl⟩ rfl rfl (Nat.le_of_ble_eq_true rfl) (fun r w hp => ?_)
    obtain ⟨q, rfl, rfl⟩ := hp
    refine r_eqv (y := .ref q) rfl ?_
    refine r_astore_n cx dJx4a65c_add_72be8_10 rfl (by decide) rfl ?_
    refine r_aload_n cx dJx4a65c_add_72be8_11 rfl rfl ?_
    refine r_iload_n cx dJx4a65c_add_72be8_12 rfl rfl ?_
    refine r_aload_n cx dJx4a65c_add_72be8_13 rfl rfl ?_
    refine r_astq cx 1 (qv + 2) dJx4a65c_add_72be8_14 rfl hc hca hv (by decide) (by decide) ?_
    refine r_aload_n cx dJx4a65c_add_72be8_15 rfl rfl ?_
    refine r_iload_n cx dJx4a65c_add_72be8_16 rfl rfl ?_
    refine r_iconst (v := nI 1) cx dJx4a65c_add_72be8_17 (by decide) ?_
    first | refine r_iaddN cx dJx4a65c_add_72be8_18 ?_ | refine r_iadd cx dJx4a65c_add_72be8_18 ?_
    refine pf_Jx4a65c_48 cx dJx4a65c_add_72be8_19 0 rfl (Nat.le_of_ble_eq_true rfl) ?_
    exact r_vret cx dJx4a65c_add_72be8_22 hr (⟨q, rfl⟩) (Nat.le_of_ble_eq_true rfl) (Nat.le_of_ble_eq_true rfl)
set_option maxHeartbeats 4000000 in
set_option maxRecDepth 100000 in
theorem c_add3f (l : Launch) (g : q_G) (wr : va_W) (li el n : Nat) (mc : Int32) (f : Nat → Option Nat) (hn2 : 2 ≤ n) (hn : n ≤ 60) (ci : Nat) (cq : vw_C) (hc : vwCl[ci]? = some cq) (hca : Cond.castable cq.1 "java/lang/Object" ∈ NGW) (hel : ∀ i, i < n → ∀ y, f i = some y → ∃ (q : Nat) (fs : List Value), wr[q]? = some (y, .inr (ci, fs))) (v qv : Nat) (vs : List Value) (hv : wr[qv]? = some (v, .inr (ci, vs))) : MetW l g yJx4a65c_add_72be8 cJx4a65c_add_72be8 4 none ({ frames := 5, cells := 1, slots := 100, locals := 147 } : Room) [.ref li, .ref v, .ref el, .int (nI n)] ((li, .inr (0, [.int mc, .ref el, .int (nI n)])) :: (el, .inl (q_cO g, n, .inr (.inr (.inr (.inr (f)))))) :: wr) (q_Qv g (fun w => ∃ q : Nat, w = (li, .inr (0, [.int mc, .ref q, .int (nI (n + 1))])) :: (q, .inl (q_cO g, n + n / 2, .inr (.inr (.inr (.inr (va_up (va_cpy f (fun _ => none) 0 0 n) n (some v))))))) :: wr)) := by
  refine q_met (own := RJx4a65c) (by decide +kernel) rfl (Nat.le_of_ble_eq_true rfl) (fun p e s m args below meth c cx hr hnm => ?_)
  refine r_lv (lv2 := [(0, .ref li), (1, .ref v), (2, .ref el), (3, .int (nI n))]) (q_pk [0, 1, 2, 3] rfl) ?_
  refine r_iload_n cx dJx4a65c_add_72be8_0 rfl rfl ?_
  refine r_aload_n cx dJx4a65c_add_72be8_1 rfl rfl ?_
  refine r_alen (v := nI n) cx 1 3 dJx4a65c_add_72be8_2 rfl rfl rfl ?_
  refine r_icmpneN (tgt := 11) cx (by omega) (by omega) dJx4a65c_add_72be8_3 (by decide) (fun h_3 => ?_) (fun h_3 => ?_)
  · exact absurd rfl h_3
  · skip
    refine r_aload_n cx dJx4a65c_add_72be8_6 rfl rfl ?_
    refine k_Jx4a65c_129 cx (c_grow0f l g wr li el n mc f hn2 hn ci cq hc hca hel) dJx4a65c_add_72be8_7 0 rfl ⟨Nat.le_of_ble_eq_true rfl, Nat.le_of_ble_eq_true rfl⟩ ⟨Nat.le_of_ble_eq_true rfl, Nat.le_of_ble_eq_true rfl⟩ rfl rfl (Nat.le_of_ble_eq_true rfl) (fun r w hp => ?_)
    obtain ⟨q, rfl, rfl⟩ := hp
    refine r_eqv (y := .ref q) rfl ?_
    refine r_astore_n cx dJx4a65c_add_72be8_10 rfl (by decide) rfl ?_
    refine r_aload_n cx dJx4a65c_add_72be8_11 rfl rfl ?_
    refine r_iload_n cx dJx4a65c_add_72be8_12 rfl rfl ?_
    refine r_aload_n cx dJx4a65c_add_72be8_13 rfl rfl ?_
    refine r_astq cx 1 (qv + 2) dJx4a65c_add_72be8_14 rfl hc hca hv (by omega) (by omega) ?_
    refine r_aload_n cx dJx4a65c_add_72be8_15 rfl rfl ?_
    refine r_iload_n cx dJx4a65c_add_72be8_16 rfl rfl ?_
    refine r_iconst (v := nI 1) cx dJx4a65c_add_72be8_17 (by decide) ?_
    first | refine r_iaddN cx dJx4a65c_add_72be8_18 ?_ | refine r_iadd cx dJx4a65c_add_72be8_18 ?_
    refine pf_Jx4a65c_48 cx dJx4a65c_add_72be8_19 0 rfl (Nat.le_of_ble_eq_true rfl) ?_
    exact r_vret cx dJx4a65c_add_72be8_22 hr (⟨q, rfl⟩) (Nat.le_of_ble_eq_true rfl) (Nat.le_of_ble_eq_true rfl)
set_option maxHeartbeats 4000000 in
set_option maxRecDepth 100000 in
theorem c_add3r (l : Launch) (g : q_G) (wr : va_W) (li el n cap : Nat) (mc : Int32) (f : Nat → Option Nat) (hn : n < cap) (hcap : cap ≤ 100) (ci : Nat) (cq : vw_C) (hc : vwCl[ci]? = some cq) (hca : Cond.castable cq.1 "java/lang/Object" ∈ NGW) (v qv : Nat) (vs : List Value) (hv : wr[qv]? = some (v, .inr (ci, vs))) : MetW l g yJx4a65c_add_72be8 cJx4a65c_add_72be8 4 none ({ frames := 0, cells := 1, slots := 100, locals := 0 } : Room) [.ref li, .ref v, .ref el, .int (nI n)] ((li, .inr (0, [.int mc, .ref el, .int (nI n)])) :: (el, .inl (q_cO g, cap, .inr (.inr (.inr (.inr (f)))))) :: wr) (q_Qv g (fun w => w = (li, .inr (0, [.int mc, .ref el, .int (nI (n + 1))])) :: (el, .inl (q_cO g, cap, .inr (.inr (.inr (.inr (va_up f n (some v))))))) :: wr)) := by
  refine q_met (own := RJx4a65c) (by decide +kernel) rfl (Nat.le_of_ble_eq_true rfl) (fun p e s m args below meth c cx hr hnm => ?_)
  refine r_lv (lv2 := [(0, .ref li), (1, .ref v), (2, .ref el), (3, .int (nI n))]) (q_pk [0, 1, 2, 3] rfl) ?_
  refine r_iload_n cx dJx4a65c_add_72be8_0 rfl rfl ?_
  refine r_aload_n cx dJx4a65c_add_72be8_1 rfl rfl ?_
  refine r_alen (v := nI cap) cx 1 3 dJx4a65c_add_72be8_2 rfl rfl rfl ?_
  refine r_icmpneN (tgt := 11) cx (by omega) (by omega) dJx4a65c_add_72be8_3 (by decide) (fun h_3 => ?_) (fun h_3 => ?_)
  · skip
    refine r_aload_n cx dJx4a65c_add_72be8_11 rfl rfl ?_
    refine r_iload_n cx dJx4a65c_add_72be8_12 rfl rfl ?_
    refine r_aload_n cx dJx4a65c_add_72be8_13 rfl rfl ?_
    refine r_astq cx 1 (qv + 2) dJx4a65c_add_72be8_14 rfl hc hca hv hn (by omega) ?_
    refine r_aload_n cx dJx4a65c_add_72be8_15 rfl rfl ?_
    refine r_iload_n cx dJx4a65c_add_72be8_16 rfl rfl ?_
    refine r_iconst (v := nI 1) cx dJx4a65c_add_72be8_17 (by decide) ?_
    first | refine r_iaddN cx dJx4a65c_add_72be8_18 ?_ | refine r_iadd cx dJx4a65c_add_72be8_18 ?_
    refine pf_Jx4a65c_48 cx dJx4a65c_add_72be8_19 0 rfl (Nat.le_of_ble_eq_true rfl) ?_
    exact r_vret cx dJx4a65c_add_72be8_22 hr (rfl) (Nat.le_of_ble_eq_true rfl) (Nat.le_of_ble_eq_true rfl)
  · exact absurd h_3 (by omega)
set_option maxHeartbeats 4000000 in
set_option maxRecDepth 100000 in
theorem c_adde (l : Launch) (g : q_G) (wr : va_W) (li : Nat) (mc : Int32) (ci : Nat) (cq : vw_C) (hc : vwCl[ci]? = some cq) (hca : Cond.castable cq.1 "java/lang/Object" ∈ NGW) (v qv : Nat) (vs : List Value) (hv : wr[qv]? = some (v, .inr (ci, vs))) : MetW l g yJx4a65c_add_9ea2d cJx4a65c_add_9ea2d 2 (some .boolean) ({ frames := 4, cells := 1, slots := 100, locals := 106 } : Room) [.ref li, .ref v] ((li, .inr (0, [.int mc, .ref g.2.2.2.1, .int (nI 0)])) :: wr) (q_Qi g (fun r w => ∃ q : Nat, w = (li, .inr (0, [.int (mc + nI 1), .ref q, .int (nI 1)])) :: (q, .inl (q_cO g, 10, .inr (.inr (.inr (.inr (va_up (fun _ => none) 0 (some v))))))) :: wr)) := by
  refine q_met (own := RJx4a65c) (by decide +kernel) rfl (Nat.le_of_ble_eq_true rfl) (fun p e s m args below meth c cx hr hnm => ?_)
  refine r_lv (lv2 := [(0, .ref li), (1, .ref v)]) (q_pk [0, 1] rfl) ?_
  refine r_aload_n cx dJx4a65c_add_9ea2d_0 rfl rfl ?_
  refine r_dup cx dJx4a65c_add_9ea2d_1 rfl ?_
  refine gf_Jx4a65c_63 cx dJx4a65c_add_9ea2d_2 0 rfl rfl ?_
  refine r_iconst (v := nI 1) cx dJx4a65c_add_9ea2d_5 (by decide) ?_
  first | refine r_iaddN cx dJx4a65c_add_9ea2d_6 ?_ | refine r_iadd cx dJx4a65c_add_9ea2d_6 ?_
  refine pf_Jx4a65c_63 cx dJx4a65c_add_9ea2d_7 0 rfl (Nat.le_of_ble_eq_true rfl) ?_
  refine r_aload_n cx dJx4a65c_add_9ea2d_10 rfl rfl ?_
  refine r_aload_n cx dJx4a65c_add_9ea2d_11 rfl rfl ?_
  refine r_aload_n cx dJx4a65c_add_9ea2d_12 rfl rfl ?_
  refine gf_Jx4a65c_9 cx dJx4a65c_add_9ea2d_13 0 rfl rfl ?_
  refine r_aload_n cx dJx4a65c_add_9ea2d_16 rfl rfl ?_
  refine gf_Jx4a65c_48 cx dJx4a65c_add_9ea2d_17 0 rfl rfl ?_
  refine k_Jx4a65c_131 cx (c_add3e l g wr li (mc + nI 1) ci cq hc hca v qv vs hv) dJx4a65c_add_9ea2d_20 0 rfl ⟨Nat.le_of_ble_eq_true rfl, Nat.le_of_ble_eq_true rfl⟩ ⟨Nat.le_of_ble_eq_true rfl, Nat.le_of_ble_eq_true rfl⟩ rfl rfl (Nat.le_of_ble_eq_true rfl) (fun w hp => ?_)
  obtain ⟨q, rfl⟩ := hp
  refine r_iconst (v := nI 1) cx dJx4a65c_add_9ea2d_23 (by decide) ?_
  exact r_zret cx dJx4a65c_add_9ea2d_24 hr rfl (⟨q, rfl⟩) (Nat.le_of_ble_eq_true rfl) (Nat.le_of_ble_eq_true rfl)
set_option maxHeartbeats 4000000 in
set_option maxRecDepth 100000 in
theorem c_addf (l : Launch) (g : q_G) (wr : va_W) (li el n : Nat) (mc : Int32) (f : Nat → Option Nat) (hn2 : 2 ≤ n) (hn : n ≤ 60) (ci : Nat) (cq : vw_C) (hc : vwCl[ci]? = some cq) (hca : Cond.castable cq.1 "java/lang/Object" ∈ NGW) (hel : ∀ i, i < n → ∀ y, f i = some y → ∃ (q : Nat) (fs : List Value), wr[q]? = some (y, .inr (ci, fs))) (v qv : Nat) (vs : List Value) (hv : wr[qv]? = some (v, .inr (ci, vs))) : MetW l g yJx4a65c_add_9ea2d cJx4a65c_add_9ea2d 2 (some .boolean) ({ frames := 6, cells := 1, slots := 100, locals := 170 } : Room) [.ref li, .ref v] ((li, .inr (0, [.int mc, .ref el, .int (nI n)])) :: (el, .inl (q_cO g, n, .inr (.inr (.inr (.inr (f)))))) :: wr) (q_Qi g (fun r w => ∃ q : Nat, w = (li, .inr (0, [.int (mc + nI 1), .ref q, .int (nI (n + 1))])) :: (q, .inl (q_cO g, n + n / 2, .inr (.inr (.inr (.inr (va_up (va_cpy f (fun _ => none) 0 0 n) n (some v))))))) :: wr)) := by
  refine q_met (own := RJx4a65c) (by decide +kernel) rfl (Nat.le_of_ble_eq_true rfl) (fun p e s m args below meth c cx hr hnm => ?_)
  refine r_lv (lv2 := [(0, .ref li), (1, .ref v)]) (q_pk [0, 1] rfl) ?_
  refine r_aload_n cx dJx4a65c_add_9ea2d_0 rfl rfl ?_
  refine r_dup cx dJx4a65c_add_9ea2d_1 rfl ?_
  refine gf_Jx4a65c_63 cx dJx4a65c_add_9ea2d_2 0 rfl rfl ?_
  refine r_iconst (v := nI 1) cx dJx4a65c_add_9ea2d_5 (by decide) ?_
  first | refine r_iaddN cx dJx4a65c_add_9ea2d_6 ?_ | refine r_iadd cx dJx4a65c_add_9ea2d_6 ?_
  refine pf_Jx4a65c_63 cx dJx4a65c_add_9ea2d_7 0 rfl (Nat.le_of_ble_eq_true rfl) ?_
  refine r_aload_n cx dJx4a65c_add_9ea2d_10 rfl rfl ?_
  refine r_aload_n cx dJx4a65c_add_9ea2d_11 rfl rfl ?_
  refine r_aload_n cx dJx4a65c_add_9ea2d_12 rfl rfl ?_
  refine gf_Jx4a65c_9 cx dJx4a65c_add_9ea2d_13 0 rfl rfl ?_
  refine r_aload_n cx dJx4a65c_add_9ea2d_16 rfl rfl ?_
  refine gf_Jx4a65c_48 cx dJx4a65c_add_9ea2d_17 0 rfl rfl ?_
  refine k_Jx4a65c_131 cx (c_add3f l g wr li el n (mc + nI 1) f hn2 hn ci cq hc hca hel v qv vs hv) dJx4a65c_add_9ea2d_20 0 rfl ⟨Nat.le_of_ble_eq_true rfl, Nat.le_of_ble_eq_true rfl⟩ ⟨Nat.le_of_ble_eq_true rfl, Nat.le_of_ble_eq_true rfl⟩ rfl rfl (Nat.le_of_ble_eq_true rfl) (fun w hp => ?_)
  obtain ⟨q, rfl⟩ := hp
  refine r_iconst (v := nI 1) cx dJx4a65c_add_9ea2d_23 (by decide) ?_
  exact r_zret cx dJx4a65c_add_9ea2d_24 hr rfl (⟨q, rfl⟩) (Nat.le_of_ble_eq_true rfl) (Nat.le_of_ble_eq_true rfl)
set_option maxHeartbeats 4000000 in
set_option maxRecDepth 100000 in
theorem c_addr (l : Launch) (g : q_G) (wr : va_W) (li el n cap : Nat) (mc : Int32) (f : Nat → Option Nat) (hn : n < cap) (hcap : cap ≤ 100) (ci : Nat) (cq : vw_C) (hc : vwCl[ci]? = some cq) (hca : Cond.castable cq.1 "java/lang/Object" ∈ NGW) (v qv : Nat) (vs : List Value) (hv : wr[qv]? = some (v, .inr (ci, vs))) : MetW l g yJx4a65c_add_9ea2d cJx4a65c_add_9ea2d 2 (some .boolean) ({ frames := 1, cells := 1, slots := 100, locals := 23 } : Room) [.ref li, .ref v] ((li, .inr (0, [.int mc, .ref el, .int (nI n)])) :: (el, .inl (q_cO g, cap, .inr (.inr (.inr (.inr (f)))))) :: wr) (q_Qi g (fun r w => w = (li, .inr (0, [.int (mc + nI 1), .ref el, .int (nI (n + 1))])) :: (el, .inl (q_cO g, cap, .inr (.inr (.inr (.inr (va_up f n (some v))))))) :: wr)) := by
  refine q_met (own := RJx4a65c) (by decide +kernel) rfl (Nat.le_of_ble_eq_true rfl) (fun p e s m args below meth c cx hr hnm => ?_)
  refine r_lv (lv2 := [(0, .ref li), (1, .ref v)]) (q_pk [0, 1] rfl) ?_
  refine r_aload_n cx dJx4a65c_add_9ea2d_0 rfl rfl ?_
  refine r_dup cx dJx4a65c_add_9ea2d_1 rfl ?_
  refine gf_Jx4a65c_63 cx dJx4a65c_add_9ea2d_2 0 rfl rfl ?_
  refine r_iconst (v := nI 1) cx dJx4a65c_add_9ea2d_5 (by decide) ?_
  first | refine r_iaddN cx dJx4a65c_add_9ea2d_6 ?_ | refine r_iadd cx dJx4a65c_add_9ea2d_6 ?_
  refine pf_Jx4a65c_63 cx dJx4a65c_add_9ea2d_7 0 rfl (Nat.le_of_ble_eq_true rfl) ?_
  refine r_aload_n cx dJx4a65c_add_9ea2d_10 rfl rfl ?_
  refine r_aload_n cx dJx4a65c_add_9ea2d_11 rfl rfl ?_
  refine r_aload_n cx dJx4a65c_add_9ea2d_12 rfl rfl ?_
  refine gf_Jx4a65c_9 cx dJx4a65c_add_9ea2d_13 0 rfl rfl ?_
  refine r_aload_n cx dJx4a65c_add_9ea2d_16 rfl rfl ?_
  refine gf_Jx4a65c_48 cx dJx4a65c_add_9ea2d_17 0 rfl rfl ?_
  refine k_Jx4a65c_131 cx (c_add3r l g wr li el n cap (mc + nI 1) f hn hcap ci cq hc hca v qv vs hv) dJx4a65c_add_9ea2d_20 0 rfl ⟨Nat.le_of_ble_eq_true rfl, Nat.le_of_ble_eq_true rfl⟩ ⟨Nat.le_of_ble_eq_true rfl, Nat.le_of_ble_eq_true rfl⟩ rfl rfl (Nat.le_of_ble_eq_true rfl) (fun w hp => ?_)
  obtain rfl := hp
  refine r_iconst (v := nI 1) cx dJx4a65c_add_9ea2d_23 (by decide) ?_
  exact r_zret cx dJx4a65c_add_9ea2d_24 hr rfl (rfl) (Nat.le_of_ble_eq_true rfl) (Nat.le_of_ble_eq_true rfl)
end
section
/-- the class's cells, but for the objects in its lists and the lists' arrays -/
def iF (g : q_G) (ad : Nat → Nat) (mc : Nat → Int32) (el sz : Nat → Nat) (th : Int64) (dr dl : Int32) (ro kl : Nat → Int32) (kn : Nat → Int64) (row : Nat → Int32) : va_W :=
  [(ad 0, .inl (q_cI g, 9, .inl row)), (ad 1, .inr (3, [.ref (ad 0)])), (ad 2, .inl (q_cJ g, 3, .inr (.inl kn))), (ad 3, .inl (q_cI g, 4, .inl kl)), (ad 4, .inl (q_cI g, 4, .inl ro)), (ad 5, .inr (0, [.int (mc 2), .ref (el 2), .int (nI (sz 2))])), (ad 6, .inr (0, [.int (mc 1), .ref (el 1), .int (nI (sz 1))])), (ad 7, .inr (0, [.int (mc 0), .ref (el 0), .int (nI (sz 0))])), (ad 8, .inr (4, [.ref (ad 7), .ref (ad 6), .ref (ad 5), .ref (ad 4), .ref (ad 3), .ref (ad 2), .ref (ad 1), .long th, .int dr, .int dl]))]
section PFX
variable {p : Program} {l : Launch} {e : Env} {R : Room} {s : State} {m : MethodId} {args : Array Value} {below : List Frame} {meth : Method} {c : Code} {g : q_G} {nL : Nat} {Q : State → Prop} {cl sl : Nat} {cc : ByteArray} {own : String} {pc : Nat} {lv : List (Nat × Value)} {st : List Value} {ws : va_W}
theorem pf_Jxc12de_7 (cx : q_cx g p m c cc nL s args RJxc12de meth) (hd : decode cc pc = .ok (.putfield 7, 3)) (q0 : Nat) {a : Nat} {fs : List Value} {x : Int32} (he : ws[q0]? = some (a, .inr (0, fs))) (hl9 : 0 < fs.length) (kk : AT p l e R s m args below meth c g nL Q cl sl (pc + 3) lv st (ws.set q0 (a, .inr (0, fs.set 0 (.int x))))) : AT p l e R s m args below meth c g nL Q cl sl pc lv (.int x :: .ref a :: st) ws := fun H locs ls hP hD hS hl => va_put (C := RJx4a65c) (T := TJx4a65c) (N := 3) cx.1.1 cx.1.2.1 cx.1.2.2.2.2 iw_Jx4a65c tyJx4a65c tyJx4a65c_ok nmJx4a65c cx.1.2.2.2.1 cx.2.1.2.1 hP hD hS q0 he rfl 0 (by decide) (cx.ok tb_45) (fun _ h9 => h9) rfl (tyJx4a65c_ok 0 (by decide)) rfl rfl hl9 hd (fun H1 locs1 hP hD hS => kk H1 locs1 ls hP hD hS hl)
theorem q_set_self {q : Nat} {x : Nat × va_E} (h : ws[q]? = some x) : ws.set q x = ws := by
  apply List.ext_getElem?
  intro i
  rw [List.getElem?_set]
  split
  · rename_i e
    subst e
    obtain ⟨h1, h2⟩ := List.getElem?_eq_some_iff.mp h
    rw [if_pos h1, h]
  · rfl
theorem q_set_get {q : Nat} {x y : Nat × va_E} (h : ws[q]? = some x) : (ws.set q y)[q]? = some y := by
  rw [List.getElem?_set_self (List.getElem?_eq_some_iff.mp h).1]
end PFX
set_option maxHeartbeats 4000000 in
set_option maxRecDepth 100000 in
theorem c_AbsColl (l : Launch) (g : q_G) (ws : va_W) (li : Nat) : MetW l g yJxa1e45_init_da8c8 cJxa1e45_init_da8c8 1 none ({ frames := 1, cells := 0, slots := 0, locals := 20 } : Room) [.ref li] (ws) (q_Qv g (fun w => w = ws)) := by
  refine q_met (own := RJxa1e45) (by decide +kernel) rfl (Nat.le_of_ble_eq_true rfl) (fun p e s m args below meth c cx hr hnm => ?_)
  refine r_lv (lv2 := [(0, .ref li)]) (q_pk [0] rfl) ?_
  refine r_aload_n cx dJxa1e45_init_da8c8_0 rfl rfl ?_
  refine r_objInit cx tb_40 tb_27 tb_28 dJxa1e45_init_da8c8_1 (Nat.le_of_ble_eq_true rfl) (Nat.le_of_ble_eq_true rfl) ?_
  exact r_vret cx dJxa1e45_init_da8c8_4 hr (rfl) (Nat.le_of_ble_eq_true rfl) (Nat.le_of_ble_eq_true rfl)
set_option maxHeartbeats 4000000 in
set_option maxRecDepth 100000 in
theorem c_AbsList (l : Launch) (g : q_G) (wr : va_W) (li : Nat) (mc : Int32) (x y : Value) : MetW l g yJxc12de_init_da8c8 cJxc12de_init_da8c8 1 none ({ frames := 2, cells := 0, slots := 0, locals := 40 } : Room) [.ref li] ((li, .inr (0, [.int mc, x, y])) :: wr) (q_Qv g (fun w => w = (li, .inr (0, [.int 0, x, y])) :: wr)) := by
  refine q_met (own := RJxc12de) (by decide +kernel) rfl (Nat.le_of_ble_eq_true rfl) (fun p e s m args below meth c cx hr hnm => ?_)
  refine r_lv (lv2 := [(0, .ref li)]) (q_pk [0] rfl) ?_
  refine r_aload_n cx dJxc12de_init_da8c8_0 rfl rfl ?_
  refine k_Jxc12de_1 cx (c_AbsColl l g _ li) dJxc12de_init_da8c8_1 ⟨Nat.le_of_ble_eq_true rfl, Nat.le_of_ble_eq_true rfl⟩ ⟨Nat.le_of_ble_eq_true rfl, Nat.le_of_ble_eq_true rfl⟩ rfl rfl (Nat.le_of_ble_eq_true rfl) (fun w hp => ?_)
  subst hp
  refine r_aload_n cx dJxc12de_init_da8c8_4 rfl rfl ?_
  refine r_iconst (v := 0) cx dJxc12de_init_da8c8_5 (by decide) ?_
  refine pf_Jxc12de_7 cx dJxc12de_init_da8c8_6 0 rfl (Nat.le_of_ble_eq_true rfl) ?_
  exact r_vret cx dJxc12de_init_da8c8_9 hr (rfl) (Nat.le_of_ble_eq_true rfl) (Nat.le_of_ble_eq_true rfl)
set_option maxHeartbeats 4000000 in
set_option maxRecDepth 100000 in
theorem c_ArrayList (l : Launch) (g : q_G) (wr : va_W) (li : Nat) : MetW l g yJx4a65c_init_da8c8 cJx4a65c_init_da8c8 1 none ({ frames := 3, cells := 0, slots := 0, locals := 60 } : Room) [.ref li] ((li, .inr (0, [.int 0, .null, .int 0])) :: wr) (q_Qv g (fun w => w = (li, .inr (0, [.int 0, .ref g.2.2.2.1, .int 0])) :: wr)) := by
  refine q_met (own := RJx4a65c) (by decide +kernel) rfl (Nat.le_of_ble_eq_true rfl) (fun p e s m args below meth c cx hr hnm => ?_)
  refine r_lv (lv2 := [(0, .ref li)]) (q_pk [0] rfl) ?_
  refine r_aload_n cx dJx4a65c_init_da8c8_0 rfl rfl ?_
  refine k_Jx4a65c_1 cx (c_AbsList l g wr li 0 .null (.int 0)) dJx4a65c_init_da8c8_1 ⟨Nat.le_of_ble_eq_true rfl, Nat.le_of_ble_eq_true rfl⟩ ⟨Nat.le_of_ble_eq_true rfl, Nat.le_of_ble_eq_true rfl⟩ rfl rfl (Nat.le_of_ble_eq_true rfl) (fun w hp => ?_)
  subst hp
  refine r_aload_n cx dJx4a65c_init_da8c8_4 rfl rfl ?_
  refine r_gets cx dJx4a65c_init_da8c8_5 ?_
  refine pf_Jx4a65c_9 cx dJx4a65c_init_da8c8_8 0 rfl (Nat.le_of_ble_eq_true rfl) ?_
  exact r_vret cx dJx4a65c_init_da8c8_11 hr (rfl) (Nat.le_of_ble_eq_true rfl) (Nat.le_of_ble_eq_true rfl)
set_option maxHeartbeats 4000000 in
set_option maxRecDepth 100000 in
theorem c_fill (l : Launch) (g : q_G) (ws : va_W) (qe a n : Nat) (f : Nat → Int32) (v : Int32) (hn : n < 1000) (he : ws[qe]? = some (a, .inl (q_cI g, n, .inl f))) : MetW l g yJ7_fill_53178 cJ7_fill_53178 4 none ({ frames := 0, cells := 0, slots := 0, locals := 0 } : Room) [.ref a, .int v] (ws) (q_Qv g (fun w => ∃ f2 : Nat → Int32, (∀ j, j < n → f2 j = v) ∧ w = ws.set qe (a, .inl (q_cI g, n, .inl f2)))) := by
  refine q_met (own := RJ7) (by decide +kernel) rfl (Nat.le_of_ble_eq_true rfl) (fun p e s m args below meth c cx hr hnm => ?_)
  refine r_lv (lv2 := [(0, .ref a), (1, .int v)]) (q_pk [0, 1] rfl) ?_
  refine r_iconst (v := nI 0) cx dJ7_fill_53178_0 (by decide) ?_
  refine r_istore_n cx dJ7_fill_53178_1 rfl (by decide) rfl ?_
  refine r_aload_n cx dJ7_fill_53178_2 rfl rfl ?_
  refine r_alen (v := nI n) cx qe 0 dJ7_fill_53178_3 he rfl rfl ?_
  refine r_istore_n cx dJ7_fill_53178_4 rfl (by decide) rfl ?_
  refine at_loop (fun (x : Nat × (Nat → Int32)) => x.1 ≤ n ∧ ∀ j, j < x.1 → x.2 j = v) (fun x => [(0, .ref a), (1, .int v), (2, .int (nI x.1)), (3, .int (nI n))]) (fun x => ws.set qe (a, .inl (q_cI g, n, .inl x.2))) (fun x => n - x.1) (0, f) ⟨Nat.zero_le _, fun j hj => absurd hj (Nat.not_lt_zero j)⟩ (q_pk [2, 3, 1, 0] rfl) (q_set_self he).symm (fun x hx ih => ?_)
  obtain ⟨i, f1⟩ := x
  try dsimp only at hx ⊢
  obtain ⟨hx1, hx2⟩ := hx
  refine r_iload_n cx dJ7_fill_53178_5 rfl rfl ?_
  refine r_iload_n cx dJ7_fill_53178_6 rfl rfl ?_
  refine r_icmpgeN (tgt := 20) cx (by omega) (by omega) dJ7_fill_53178_7 (by decide) (fun h_7 => ?_) (fun h_7 => ?_)
  · skip
    obtain rfl : i = n := by omega
    exact r_vret cx dJ7_fill_53178_20 hr (⟨f1, hx2, rfl⟩) (Nat.le_of_ble_eq_true rfl) (Nat.le_of_ble_eq_true rfl)
  · skip
    refine r_aload_n cx dJ7_fill_53178_10 rfl rfl ?_
    refine r_iload_n cx dJ7_fill_53178_11 rfl rfl ?_
    refine r_iload_n cx dJ7_fill_53178_12 rfl rfl ?_
    refine r_iastN cx qe 0 dJ7_fill_53178_13 (q_set_get he) rfl (by omega) (by omega) ?_
    rw [List.set_set]
    refine r_iincN (j := 1) cx dJ7_fill_53178_14 rfl rfl (by decide) rfl ?_
    refine r_goto (tgt := 5) cx dJ7_fill_53178_17 (by decide) ?_
    exact r_lv (q_pk [1, 2, 0, 3] rfl) (ih (i + 1, upd f1 i v) ⟨by omega, fun j hj => by
    show upd f1 i v j = v
    by_cases h9 : j = i
    · rw [h9, pk_us]
    · rw [pk_un h9]
      exact hx2 j (by omega)⟩ (by show n - (i + 1) < n - i; omega))
set_option maxHeartbeats 4000000 in
set_option maxRecDepth 100000 in
theorem c_atlas (l : Launch) (g : q_G) (wr : va_W) (a0 : Nat) : MetW l g yX3_init cX3_init 1 none ({ frames := 4, cells := 13, slots := 60, locals := 80 } : Room) [.ref a0] ((a0, .inr (4, [.null, .null, .null, .null, .null, .null, .null, .long 0, .int 0, .int 0])) :: wr) (q_Qv g (fun w => ∃ (ad : Nat → Nat) (ro : Nat → Int32), ad 8 = a0 ∧ (∀ j, j < 4 → ro j = -1) ∧ w = iF g ad (fun _ => 0) (fun _ => g.2.2.2.1) (fun _ => 0) 0 0 0 ro (fun _ => 0) (fun _ => 0) (fun _ => 0) ++ wr)) := by
  refine q_met (own := RX3) (by decide +kernel) rfl (Nat.le_of_ble_eq_true rfl) (fun p e s m args below meth c cx hr hnm => ?_)
  refine r_lv (lv2 := [(0, .ref a0)]) (q_pk [0] rfl) ?_
  refine r_aload_n cx dX3_init_0 rfl rfl ?_
  refine r_objInit cx tb_26 tb_27 tb_28 dX3_init_1 (Nat.le_of_ble_eq_true rfl) (Nat.le_of_ble_eq_true rfl) ?_
  refine r_aload_n cx dX3_init_4 rfl rfl ?_
  refine nw_X3_7 cx dX3_init_5 (Nat.le_of_ble_eq_true rfl) (Nat.le_of_ble_eq_true rfl) (fun q1 => ?_)
  refine r_perm (List.perm_append_singleton _ _) ?_
  refine r_dup cx dX3_init_8 rfl ?_
  refine k_X3_9 cx (c_ArrayList l g _ q1) dX3_init_9 ⟨Nat.le_of_ble_eq_true rfl, Nat.le_of_ble_eq_true rfl⟩ ⟨Nat.le_of_ble_eq_true rfl, Nat.le_of_ble_eq_true rfl⟩ rfl rfl (Nat.le_of_ble_eq_true rfl) (fun w hp => ?_)
  subst hp
  refine pf_X3_10 cx hnm dX3_init_12 1 rfl (Nat.le_of_ble_eq_true rfl) ?_
  refine r_aload_n cx dX3_init_15 rfl rfl ?_
  refine nw_X3_7 cx dX3_init_16 (Nat.le_of_ble_eq_true rfl) (Nat.le_of_ble_eq_true rfl) (fun q2 => ?_)
  refine r_perm (List.perm_append_singleton _ _) ?_
  refine r_dup cx dX3_init_19 rfl ?_
  refine k_X3_9 cx (c_ArrayList l g _ q2) dX3_init_20 ⟨Nat.le_of_ble_eq_true rfl, Nat.le_of_ble_eq_true rfl⟩ ⟨Nat.le_of_ble_eq_true rfl, Nat.le_of_ble_eq_true rfl⟩ rfl rfl (Nat.le_of_ble_eq_true rfl) (fun w hp => ?_)
  subst hp
  refine pf_X3_16 cx hnm dX3_init_23 2 rfl (Nat.le_of_ble_eq_true rfl) ?_
  refine r_aload_n cx dX3_init_26 rfl rfl ?_
  refine nw_X3_7 cx dX3_init_27 (Nat.le_of_ble_eq_true rfl) (Nat.le_of_ble_eq_true rfl) (fun q3 => ?_)
  refine r_perm (List.perm_append_singleton _ _) ?_
  refine r_dup cx dX3_init_30 rfl ?_
  refine k_X3_9 cx (c_ArrayList l g _ q3) dX3_init_31 ⟨Nat.le_of_ble_eq_true rfl, Nat.le_of_ble_eq_true rfl⟩ ⟨Nat.le_of_ble_eq_true rfl, Nat.le_of_ble_eq_true rfl⟩ rfl rfl (Nat.le_of_ble_eq_true rfl) (fun w hp => ?_)
  subst hp
  refine pf_X3_19 cx hnm dX3_init_34 3 rfl (Nat.le_of_ble_eq_true rfl) ?_
  refine r_aload_n cx dX3_init_37 rfl rfl ?_
  refine r_iconst (v := nI 4) cx dX3_init_38 (by decide) ?_
  refine r_newarr (atype := .int) (N := 4) (a0 := (4, .inl (fun _ => 0))) cx 0 tb_65 rfl rfl trivial (fun _ => rfl) (by decide) (by decide) dX3_init_39 (Nat.le_of_ble_eq_true rfl) (Nat.le_of_ble_eq_true rfl) (fun q4 => ?_)
  refine r_perm (List.perm_append_singleton _ _) ?_
  refine pf_X3_22 cx hnm dX3_init_41 4 rfl (Nat.le_of_ble_eq_true rfl) ?_
  refine r_aload_n cx dX3_init_44 rfl rfl ?_
  refine r_iconst (v := nI 4) cx dX3_init_45 (by decide) ?_
  refine r_newarr (atype := .int) (N := 4) (a0 := (4, .inl (fun _ => 0))) cx 0 tb_65 rfl rfl trivial (fun _ => rfl) (by decide) (by decide) dX3_init_46 (Nat.le_of_ble_eq_true rfl) (Nat.le_of_ble_eq_true rfl) (fun q5 => ?_)
  refine r_perm (List.perm_append_singleton _ _) ?_
  refine pf_X3_26 cx hnm dX3_init_48 5 rfl (Nat.le_of_ble_eq_true rfl) ?_
  refine r_aload_n cx dX3_init_51 rfl rfl ?_
  refine r_iconst (v := nI 3) cx dX3_init_52 (by decide) ?_
  refine r_newarr (atype := .long) (N := 3) (a0 := (3, .inr (.inl (fun _ => 0)))) cx 1 tb_66 rfl rfl trivial (fun _ => rfl) (by decide) (by decide) dX3_init_53 (Nat.le_of_ble_eq_true rfl) (Nat.le_of_ble_eq_true rfl) (fun q6 => ?_)
  refine r_perm (List.perm_append_singleton _ _) ?_
  refine pf_X3_29 cx hnm dX3_init_55 6 rfl (Nat.le_of_ble_eq_true rfl) ?_
  refine r_aload_n cx dX3_init_58 rfl rfl ?_
  refine nw_X3_33 cx dX3_init_59 (Nat.le_of_ble_eq_true rfl) (Nat.le_of_ble_eq_true rfl) (fun q7 => ?_)
  refine r_perm (List.perm_append_singleton _ _) ?_
  refine r_dup cx dX3_init_62 rfl ?_
  refine k_X3_35 cx (c_StepCounter l g _ q7) dX3_init_63 ⟨Nat.le_of_ble_eq_true rfl, Nat.le_of_ble_eq_true rfl⟩ ⟨Nat.le_of_ble_eq_true rfl, Nat.le_of_ble_eq_true rfl⟩ rfl rfl (Nat.le_of_ble_eq_true rfl) (fun w hp => ?_)
  obtain ⟨q8, hp⟩ := hp
  subst hp
  refine r_perm (List.perm_append_singleton _ _) ?_
  refine pf_X3_36 cx hnm dX3_init_66 8 rfl (Nat.le_of_ble_eq_true rfl) ?_
  refine r_aload_n cx dX3_init_69 rfl rfl ?_
  refine r_lconst (v := 0) cx dX3_init_70 rfl ?_
  refine pf_X3_40 cx dX3_init_71 8 rfl (Nat.le_of_ble_eq_true rfl) ?_
  refine r_aload_n cx dX3_init_74 rfl rfl ?_
  refine r_iconst (v := 0) cx dX3_init_75 (by decide) ?_
  refine pf_X3_44 cx dX3_init_76 8 rfl (Nat.le_of_ble_eq_true rfl) ?_
  refine r_aload_n cx dX3_init_79 rfl rfl ?_
  refine r_iconst (v := 0) cx dX3_init_80 (by decide) ?_
  refine pf_X3_48 cx dX3_init_81 8 rfl (Nat.le_of_ble_eq_true rfl) ?_
  refine r_aload_n cx dX3_init_84 rfl rfl ?_
  refine gf_X3_22 cx dX3_init_85 8 rfl rfl ?_
  refine r_iconst (v := -1) cx dX3_init_88 (by decide) ?_
  refine k_X3_51 cx (c_fill l g _ 4 q4 4 (fun _ => 0) (-1) (by decide) rfl) dX3_init_89 ⟨Nat.le_of_ble_eq_true rfl, Nat.le_of_ble_eq_true rfl⟩ ⟨Nat.le_of_ble_eq_true rfl, Nat.le_of_ble_eq_true rfl⟩ rfl rfl (Nat.le_of_ble_eq_true rfl) (fun w hp => ?_)
  obtain ⟨ro, hro, hp⟩ := hp
  subst hp
  exact r_vret cx dX3_init_92 hr (⟨(fun k => if k = 0 then q8 else if k = 1 then q7 else if k = 2 then q6 else if k = 3 then q5 else if k = 4 then q4 else if k = 5 then q3 else if k = 6 then q2 else if k = 7 then q1 else a0), ro, rfl, hro, rfl⟩) (Nat.le_of_ble_eq_true rfl) (Nat.le_of_ble_eq_true rfl)
end
section
/-! the pool of the class's objects, and how a list grows in it -/
def laS (g : q_G) (el n : Nat) (a : Nat → Nat) (L : List Nat) (f : Nat → va_E) : Prop :=
  (n = 0 ∧ el = g.2.2.2.1) ∨ 0 < n ∧ ∃ (cap : Nat) (h : Nat → Option Nat), el ∈ L ∧ f el = .inl (q_cO g, cap, .inr (.inr (.inr (.inr (h))))) ∧ n ≤ cap ∧ 2 ≤ cap ∧ cap ≤ 60 ∧ ∀ i, i < n → h i = some (a i)
theorem pl_fst (L : List Nat) (f : Nat → va_E) : (va_pl L f).map Prod.fst = L := by
  rw [va_pl, List.map_map]
  exact (List.map_congr_left (fun _ _ => rfl)).trans (List.map_id L)
theorem pl_nodup {A : Nat → Prop} {X : va_W} {L : List Nat} {f : Nat → va_E} (h : va_D A (X ++ va_pl L f)) : L.Nodup := by
  have h1 := (q_D_nd.mp h).1
  rw [List.map_append] at h1
  have h2 := (List.nodup_append.mp h1).2.1
  rwa [pl_fst] at h2
theorem pl_out {L : List Nat} {f : Nat → va_E} {a : Nat} (h : a ∈ L) : (va_pl L f).Perm ((a, f a) :: va_pl (L.erase a) f) := (List.perm_cons_erase h).map _
theorem pl_cong {L : List Nat} {f f2 : Nat → va_E} (h : ∀ b ∈ L, f b = f2 b) : va_pl L f = va_pl L f2 := List.map_congr_left (fun b hb => by rw [h b hb])
theorem pl_in {L : List Nat} {f : Nat → va_E} {a : Nat} {e : va_E} (hn : L.Nodup) (h : a ∈ L) : ((a, e) :: va_pl (L.erase a) f).Perm (va_pl L (va_up f a e)) := by
  have h1 := pl_out (f := va_up f a e) h
  rw [va_up_self, pl_cong (L := L.erase a) (f := va_up f a e) (f2 := f) (fun b hb => va_up_ne _ _ (fun z => by subst z; exact (List.Nodup.mem_erase_iff hn).mp hb |>.1 rfl))] at h1
  exact h1.symm
theorem pl_new {L : List Nat} {f : Nat → va_E} {a : Nat} {e : va_E} (h : a ∉ L) : (a, e) :: va_pl L f = va_pl (a :: L) (va_up f a e) := by
  show _ = (a, va_up f a e a) :: va_pl L (va_up f a e)
  rw [va_up_self, pl_cong (L := L) (f := va_up f a e) (f2 := f) (fun b hb => va_up_ne _ _ (fun z => by subst z; exact h hb))]
theorem pl_outX {X : va_W} {L : List Nat} {f : Nat → va_E} {a : Nat} (h : a ∈ L) : (X ++ va_pl L f).Perm ((a, f a) :: (X ++ va_pl (L.erase a) f)) := ((pl_out h).append_left X).trans List.perm_middle
theorem pl_inX {X : va_W} {L : List Nat} {f : Nat → va_E} {a : Nat} {e : va_E} (hn : L.Nodup) (h : a ∈ L) : ((a, e) :: (X ++ va_pl (L.erase a) f)).Perm (X ++ va_pl L (va_up f a e)) := List.perm_middle.symm.trans ((pl_in hn h).append_left X)
theorem pl_newX {X : va_W} {L : List Nat} {f : Nat → va_E} {a : Nat} {e : va_E} (h : a ∉ L) : ((a, e) :: (X ++ va_pl L f)).Perm (X ++ va_pl (a :: L) (va_up f a e)) := by
  rw [← pl_new h]
  exact List.perm_middle.symm
theorem pl_getX {X : va_W} {L : List Nat} {f : Nat → va_E} {a : Nat} {e : va_E} (h : a ∈ L) (he : f a = e) : ∃ k : Nat, (X ++ va_pl L f)[k]? = some (a, e) := by
  subst he
  exact va_pl_get h
theorem fresh_hd {A : Nat → Prop} {X : va_W} {L : List Nat} {f : Nat → va_E} {a : Nat} {e : va_E} (h : va_D A ((a, e) :: (X ++ va_pl L f))) : a ∉ L := fun z => by
  have h1 := (q_D_nd.mp h).1
  rw [List.map_cons, List.map_append] at h1
  have h2 := (List.nodup_cons.mp h1).1
  apply h2
  rw [List.mem_append]
  right
  rwa [pl_fst]
section PROWS
variable {p : Program} {l : Launch} {e : Env} {R : Room} {s : State} {m : MethodId} {args : Array Value} {below : List Frame} {meth : Method} {c : Code} {g : q_G} {nL : Nat} {Q : State → Prop} {cl sl : Nat} {cc : ByteArray} {own : String} {pc : Nat} {lv : List (Nat × Value)} {st : List Value} {ws : va_W}
theorem r_D (k : va_D (q_A g) ws → AT p l e R s m args below meth c g nL Q cl sl pc lv st ws) : AT p l e R s m args below meth c g nL Q cl sl pc lv st ws := fun H locs ls hP hD hS hl => k hD H locs ls hP hD hS hl
/-- list.add(v) from the class -/
theorem add_front (cx : q_cx g p m c cc nL s args RX3 meth) (hd : decode cc pc = .ok (.invokevirtual 94, 3)) {rest : va_W} {L : List Nat} {f : Nat → va_E} {li el n v ci : Nat} {mc : Int32} {a : Nat → Nat} {cq : vw_C} (hc : vwCl[ci]? = some cq) (hca : Cond.castable cq.1 "java/lang/Object" ∈ NGW) (hla : laS g el n a L f) (hn : n ≤ 40) (hel : ∀ i, i < n → a i ∈ L ∧ ∃ fs, f (a i) = .inr (ci, fs)) (hv : v ∈ L) (hvf : ∃ fs, f v = .inr (ci, fs))
    (hR : 7 ≤ R.frames ∧ 191 ≤ R.locals ∧ cl + 1 ≤ R.cells ∧ sl + 100 ≤ R.slots) (hW : (st.map fun v => v.category).sum ≤ 8)
    (kk : ∀ (r : Int32) (mc2 : Int32) (el2 : Nat) (L2 : List Nat) (f2 : Nat → va_E), (∀ b, b ∈ L → b ≠ el → b ∈ L2 ∧ f2 b = f b) → laS g el2 (n + 1) (va_up a n v) L2 f2 → el2 ∈ L2 → ((∃ fs, f2 el2 = .inl fs)) → (el2 = el ∨ el2 ∉ L) → AT p l e R s m args below meth c g nL Q (cl + 1) (sl + 100) (pc + 3) lv (.int r :: st) ((li, .inr (0, [.int mc2, .ref el2, .int (nI (n + 1))])) :: (rest ++ va_pl L2 f2))) :
    AT p l e R s m args below meth c g nL Q cl sl pc lv (.ref v :: .ref li :: st) ((li, .inr (0, [.int mc, .ref el, .int (nI n)])) :: (rest ++ va_pl L f)) := by
  obtain ⟨vs, hvs⟩ := hvf
  rcases hla with ⟨rfl, rfl⟩ | ⟨hn0, cap, h, hL, hf, hnc, hc2, hc60, hh⟩
  · obtain ⟨qv, hqv⟩ := pl_getX (X := rest) hv hvs
    refine k_X3_94 cx (c_adde l g (rest ++ va_pl L f) li mc ci cq hc hca v qv vs hqv) hd 0 rfl ⟨Nat.le_trans (by decide) hR.1, Nat.le_trans (by decide) hR.2.1⟩ hR.2.2 rfl rfl hW (fun r w hp => ?_)
    obtain ⟨q, rfl⟩ := hp
    refine r_D (fun hD => ?_)
    have hq : q ∉ L := by
      have h2 := (q_D_nd.mp hD).1
      rw [List.map_cons] at h2
      exact fresh_hd (q_D_nd.mpr ⟨(List.nodup_cons.mp h2).2, fun z hz => (q_D_nd.mp hD).2 z (List.mem_cons_of_mem _ hz)⟩)
    refine r_perm (List.Perm.cons _ (pl_newX hq)) ?_
    refine kk r _ q (q :: L) (va_up f q (.inl (q_cO g, 10, .inr (.inr (.inr (.inr (va_up (fun _ => none) 0 (some v)))))))) (fun b hb _ => ⟨List.mem_cons_of_mem _ hb, va_up_ne _ _ (fun z => by subst z; exact hq hb)⟩) (Or.inr ⟨by omega, 10, _, List.mem_cons_self, va_up_self _ _ _, by omega, by omega, by omega, fun i hi => ?_⟩) List.mem_cons_self ⟨_, va_up_self _ _ _⟩ (Or.inr hq)
    obtain rfl : i = 0 := by omega
    rw [va_up_self, va_up_self]
  · have hve : v ≠ el := fun z => by subst z; rw [hvs] at hf; cases hf
    have hvE : v ∈ L.erase el := (List.mem_erase_of_ne hve).mpr hv
    obtain ⟨qv, hqv⟩ := pl_getX (X := rest) hvE hvs
    refine r_D (fun hD0 => ?_)
    have hnd : L.Nodup := pl_nodup (X := (li, .inr (0, [.int mc, .ref el, .int (nI n)])) :: rest) hD0
    refine r_perm (List.Perm.cons _ (pl_outX (X := rest) hL)) ?_
    rw [hf]
    rcases Nat.lt_or_ge n cap with hlt | hge
    · refine k_X3_94 cx (c_addr l g (rest ++ va_pl (L.erase el) f) li el n cap mc h hlt (by omega) ci cq hc hca v qv vs hqv) hd 0 rfl ⟨Nat.le_trans (by decide) hR.1, Nat.le_trans (by decide) hR.2.1⟩ hR.2.2 rfl rfl hW (fun r w hp => ?_)
      subst hp
      refine r_perm (List.Perm.cons _ (pl_inX (X := rest) hnd hL)) ?_
      refine kk r _ el L (va_up f el (.inl (q_cO g, cap, .inr (.inr (.inr (.inr (va_up h n (some v)))))))) (fun b hb hz => ⟨hb, va_up_ne _ _ hz⟩) (Or.inr ⟨by omega, cap, _, hL, va_up_self _ _ _, by omega, hc2, hc60, fun i hi => ?_⟩) hL ⟨_, va_up_self _ _ _⟩ (Or.inl rfl)
      · by_cases e9 : i = n
        · rw [e9, va_up_self, va_up_self]
        · rw [va_up_ne _ _ e9, va_up_ne _ _ e9]
          exact hh i (by omega)
    · obtain rfl : n = cap := by omega
      refine k_X3_94 cx (c_addf l g (rest ++ va_pl (L.erase el) f) li el n mc h hc2 hc60 ci cq hc hca (fun i hi y hy => ?_) v qv vs hqv) hd 0 rfl ⟨Nat.le_trans (by decide) hR.1, Nat.le_trans (by decide) hR.2.1⟩ hR.2.2 rfl rfl hW (fun r w hp => ?_)
      · rw [hh i hi] at hy
        cases hy
        obtain ⟨h1, fs, h2⟩ := hel i hi
        obtain ⟨k, hk⟩ := pl_getX (X := rest) ((List.mem_erase_of_ne (fun z => by rw [z, hf] at h2; cases h2)).mpr h1) h2
        exact ⟨k, fs, hk⟩
      · obtain ⟨q, rfl⟩ := hp
        refine r_D (fun hD => ?_)
        have hq : q ∉ L.erase el := by
          have h2 := (q_D_nd.mp hD).1
          rw [List.map_cons] at h2
          exact fresh_hd (q_D_nd.mpr ⟨(List.nodup_cons.mp h2).2, fun z hz => (q_D_nd.mp hD).2 z (List.mem_cons_of_mem _ hz)⟩)
        refine r_perm (List.Perm.cons _ (pl_newX hq)) ?_
        refine kk r _ q (q :: L.erase el) (va_up f q (.inl (q_cO g, n + n / 2, .inr (.inr (.inr (.inr (va_up (va_cpy h (fun _ => none) 0 0 n) n (some v)))))))) (fun b hb hz => ?_) (Or.inr ⟨by omega, n + n / 2, _, List.mem_cons_self, va_up_self _ _ _, by omega, by omega, by omega, fun i hi => ?_⟩) List.mem_cons_self ⟨_, va_up_self _ _ _⟩ ?_
        · have hbe : b ∈ L.erase el := (List.mem_erase_of_ne hz).mpr hb
          exact ⟨List.mem_cons_of_mem _ hbe, va_up_ne _ _ (fun z => by subst z; exact hq hbe)⟩
        · by_cases e9 : i = n
          · rw [e9, va_up_self, va_up_self]
          · rw [va_up_ne _ _ e9, va_up_ne _ _ e9, pk_cpy_in (Nat.zero_le _) (by omega), Nat.zero_add, Nat.sub_zero]
            exact hh i (by omega)
        · by_cases e9 : q = el
          · exact Or.inl e9
          · exact Or.inr (fun z => hq ((List.mem_erase_of_ne e9).mpr z))
end PROWS
end
section
/-! the state that class and reference share: N counts (draft, interviews, rules, quotes), A rows of ints (draft, informant, place, year, word, told, root, from, to, behind, first, last, since, quote), B gone and fallen, L rests and copies -/
def thS (go : Nat → Bool) : Nat → Nat
  | 0 => 0
  | k + 1 => thS go k ||| (if go k then 0 else 2 ^ k)
def fgS (go : Nat → Bool) (inf : Nat → Int32) (who : Int32) : Nat → Nat
  | 0 => 0
  | k + 1 => if !go k && decide (inf k = who) then fgS go inf who k ||| 2 ^ k else fgS go inf who k
theorem p2_bit (k i : Nat) : (2 ^ k).testBit i = decide (k = i) := Nat.testBit_two_pow
theorem thS_bit (go : Nat → Bool) (n i : Nat) : (thS go n).testBit i = (decide (i < n) && !go i) := by
  induction n with
  | zero => simp [thS]
  | succ k ih =>
    rw [thS, Nat.testBit_or, ih]
    by_cases h : k = i
    · subst h
      cases hg : go k <;> simp
    · have e : (decide (i < k + 1)) = decide (i < k) := decide_eq_decide.mpr (by omega)
      cases hg : go k <;> simp [e, h, p2_bit]
theorem fgS_bit (go : Nat → Bool) (inf : Nat → Int32) (who : Int32) (n i : Nat) : (fgS go inf who n).testBit i = (decide (i < n) && (!go i && decide (inf i = who))) := by
  induction n with
  | zero => simp [fgS]
  | succ k ih =>
    rw [fgS]
    by_cases h : k = i
    · subst h
      cases hg : (!go k && decide (inf k = who)) <;> simp [ih, hg]
    · have e : (decide (i < k + 1)) = decide (i < k) := decide_eq_decide.mpr (by omega)
      split <;> simp [ih, e, h, p2_bit]
theorem lt40 {x n : Nat} (hn : n ≤ 40) (h : ∀ i, n ≤ i → x.testBit i = false) : x < 1099511627776 := by
  have := Nat.lt_pow_two_of_testBit (n := 40) x (fun i hi => h i (by omega))
  simpa using this
theorem thS_lt {go : Nat → Bool} {n : Nat} (hn : n ≤ 40) : thS go n < 1099511627776 := lt40 hn (fun i hi => by rw [thS_bit, decide_eq_false (by omega)]; rfl)
theorem fgS_lt {go : Nat → Bool} {inf : Nat → Int32} {who : Int32} {n : Nat} (hn : n ≤ 40) : fgS go inf who n < 1099511627776 := lt40 hn (fun i hi => by rw [fgS_bit, decide_eq_false (by omega)]; rfl)
theorem thS_cong {go go2 : Nat → Bool} : ∀ {n : Nat}, (∀ i, i < n → go i = go2 i) → thS go n = thS go2 n
  | 0, _ => rfl
  | k + 1, h => by rw [thS, thS, thS_cong (fun i hi => h i (by omega)), h k (by omega)]
theorem hasB_bit {T i : Nat} (hi : i < 63) : hasB (lN T) (lN (2 ^ i)) = T.testBit i := by
  rw [hasB]
  cases h : T.testBit i with
  | false => rw [decide_eq_true ((fb_bitL hi).mpr h)]; rfl
  | true => rw [decide_eq_false (fun z => by rw [(fb_bitL hi).mp z] at h; cases h)]; rfl
/-- a set without the bits of another one -/
theorem andn_bv (X Y : BitVec 64) : X &&& (Y ^^^ BitVec.allOnes 64) = X ^^^ (X &&& Y) := by
  apply BitVec.eq_of_getLsbD_eq
  intro i hi
  rw [BitVec.getLsbD_and, BitVec.getLsbD_xor, BitVec.getLsbD_xor, BitVec.getLsbD_and, BitVec.getLsbD_allOnes, decide_eq_true hi]
  cases X.getLsbD i <;> cases Y.getLsbD i <;> rfl
theorem andn (a b : Nat) : lN a &&& (lN b ^^^ (-1)) = lN (a ^^^ (a &&& b)) := by
  rw [← fb_xorL, ← fb_andL]
  apply Int64.toBitVec_inj.1
  have e : (-1 : Int64).toBitVec = BitVec.allOnes 64 := by decide
  rw [Int64.toBitVec_and, Int64.toBitVec_xor, Int64.toBitVec_xor, Int64.toBitVec_and, e]
  exact andn_bv _ _
theorem andn_bit (a b i : Nat) : (a ^^^ (a &&& b)).testBit i = (a.testBit i && !b.testBit i) := by
  rw [Nat.testBit_xor, Nat.testBit_and]
  cases a.testBit i <;> cases b.testBit i <;> rfl
theorem sub40 {a b : Nat} (ha : a < 1099511627776) (h : ∀ i, b.testBit i = true → a.testBit i = true) : b < 1099511627776 := by
  have := Nat.lt_pow_two_of_testBit (n := 40) b (fun i hi => by
    cases e : b.testBit i with
    | false => rfl
    | true =>
      have h2 := h i e
      rw [Nat.testBit_lt_two_pow (Nat.lt_of_lt_of_le ha (show 2 ^ 40 ≤ 2 ^ i from Nat.pow_le_pow_right (by decide) hi))] at h2
      cases h2)
  simpa using this
theorem andn_lt {a b : Nat} (ha : a < 1099511627776) : a ^^^ (a &&& b) < 1099511627776 := sub40 ha (fun i h => by rw [andn_bit] at h; simp only [Bool.and_eq_true] at h; exact h.1)
theorem and_lt40 {a b : Nat} (ha : a < 1099511627776) : a &&& b < 1099511627776 := Nat.lt_of_le_of_lt Nat.and_le_left ha
theorem or_lt40 {a b : Nat} (ha : a < 1099511627776) (hb : b < 1099511627776) : a ||| b < 1099511627776 := by
  have := Nat.or_lt_two_pow (n := 40) (by simpa using ha) (by simpa using hb)
  simpa using this
theorem p2_lt {k : Nat} (h : k < 40) : 2 ^ k < 1099511627776 := by
  have := Nat.pow_lt_pow_right (a := 2) (by decide) h
  simpa using this
def bcL (x : Int64) : Nat := bc x.toBitVec.toNat
theorem bcL_lN {n : Nat} (h : n < 1099511627776) : bcL (lN n) = bc n := by rw [bcL, wb_tn (by omega)]
def c32 (x : Int32) : Nat := x.toNatClampNeg
theorem c32_nI {n : Nat} (h : n < 2147483648) : c32 (nI n) = n := nI_clamp h
def drL (d : Nat → Int32) (k : Nat) : List Nat := (List.range k).map (fun i => c32 (d i))
theorem drL_len (d : Nat → Int32) (k : Nat) : (drL d k).length = k := by simp [drL]
theorem drL_succ (d : Nat → Int32) (k : Nat) : drL d (k + 1) = drL d k ++ [c32 (d k)] := by simp [drL, List.range_succ]
theorem drL_cong {d d2 : Nat → Int32} {k : Nat} (h : ∀ i, i < k → d i = d2 i) : drL d k = drL d2 k := List.map_congr_left (fun i hi => by rw [h i (List.mem_range.mp hi)])
theorem drL_snd {d : Nat → Int32} {k : Nat} (h : ∀ i, i < k → c32 (d i) < 8) : snd (drL d k) := fun x hx => by
  obtain ⟨i, hi, rfl⟩ := List.mem_map.mp hx
  exact h i (List.mem_range.mp hi)
def okL (l : List Nat) : Prop := snd l ∧ l.length ≤ 8 ∧ l ≠ []
noncomputable def unF (x : Int32) : Option (List Nat) := @dite _ (∃ l : List Nat, x = nI (num l) ∧ okL l) (Classical.propDecidable _) (fun h => some (Classical.choose h)) (fun _ => none)
theorem unF_some {x : Int32} {l : List Nat} (h : unF x = some l) : x = nI (num l) ∧ okL l := by
  unfold unF at h
  split at h
  · rename_i hh
    have e : Classical.choose hh = l := Option.some.inj h
    rw [← e]
    exact Classical.choose_spec hh
  · cases h
theorem unF_of {l : List Nat} (h : okL l) : ∃ l2, unF (nI (num l)) = some l2 := by
  unfold unF
  split
  · exact ⟨_, rfl⟩
  · rename_i hh
    exact absurd ⟨l, rfl, h⟩ hh
theorem num_ok {l : List Nat} (h : okL l) : num l < 43046721 := num_bd h.1 h.2.1
theorem unF_m1 : unF (-1) = none := by
  unfold unF
  split
  · rename_i hh
    obtain ⟨l, h1, h2⟩ := hh
    exact absurd h1.symm (nI_nm1 (by have := num_ok h2; omega))
  · rfl
theorem roI_unF {l : List Nat} (h : okL l) : roI (unF (nI (num l))) = nI (num l) := by
  obtain ⟨l2, e⟩ := unF_of h
  rw [e]
  exact (unF_some e).1.symm
theorem drL_ok {d : Nat → Int32} {k : Nat} (hk : k ≤ 8) (h0 : k ≠ 0) (h : ∀ i, i < k → c32 (d i) < 8) : okL (drL d k) := ⟨drL_snd h, by rw [drL_len]; exact hk, fun z => h0 (by rw [← drL_len d k, z]; rfl)⟩
abbrev fiS (A : Nat → Nat → Int32) : Nat → Nat → Int32 := fun k i => A (k + 1) i
abbrev rlS (A : Nat → Nat → Int32) : Nat → Nat → Int32 := fun k r => A (k + 10) r
abbrev hrS (B : Nat → Nat → Bool) : Nat → Bool := fun i => !B 0 i
def soF (A : Nat → Nat → Int32) (r : Nat) : Nat := c32 (A 7 r)
def beF (A : Nat → Nat → Int32) (r : Nat) : Nat := c32 (A 9 r)
def toF (A : Nat → Nat → Int32) (r : Nat) : Option Nat := if A 8 r = -1 then none else some (c32 (A 8 r))
/-- what holds of the shared state -/
def inv (N : Nat → Nat) (A : Nat → Nat → Int32) (B : Nat → Nat → Bool) (L : Nat → Nat → Int64) : Prop :=
  (N 0 ≤ 8 ∧ N 1 ≤ 40 ∧ N 2 ≤ 20 ∧ N 3 ≤ 20) ∧ (∀ k, k < N 0 → c32 (A 0 k) < 8 ∧ A 0 k = nI (c32 (A 0 k))) ∧
  (∀ i, i < N 1 → (c32 (A 4 i) < 4 ∧ A 4 i = nI (c32 (A 4 i))) ∧ ∃ l, unF (A 5 i) = some l) ∧ (∀ i, N 1 ≤ i → B 0 i = false) ∧
  (∀ w, w < 4 → roI (unF (A 6 w)) = A 6 w) ∧
  (∀ r, r < N 2 → soF A r < 8 ∧ A 7 r = nI (soF A r) ∧ beF A r < 10 ∧ A 9 r = nI (beF A r) ∧ A 8 r = toI (toF A r) ∧ ∀ t, toF A r = some t → t < 8) ∧
  (∀ r, N 2 ≤ r → L 0 r = 0 ∧ B 1 r = false) ∧ (∀ r, B 1 r = true → L 0 r = 0) ∧ (∀ r, ∃ G, G < 1099511627776 ∧ L 0 r = lN G) ∧ (∀ s, s < 3 → ∃ K, K < 1099511627776 ∧ L 1 s = lN K) ∧
  (∀ k, k < N 3 → c32 (A 13 k) < N 1 ∧ A 13 k = nI (c32 (A 13 k)))
/-- what the class holds, beside its cells -/
def cF (g : q_G) (N : Nat → Nat) (A : Nat → Nat → Int32) (B : Nat → Nat → Bool) (L : Nat → Nat → Int64) (el ia ra : Nat → Nat) (th : Int64) (dr dl : Int32) (ro kl : Nat → Int32) (kn : Nat → Int64) (P : List Nat) (f : Nat → va_E) : Prop :=
  (th = lN (thS (B 0) (N 1)) ∧ dr = nI (num (drL (A 0) (N 0))) ∧ dl = nI (N 0)) ∧ (∀ w, w < 4 → ro w = A 6 w) ∧ (∀ w, w < 4 → kl w = drw (hrS B) (fiS A) (N 1) (nI w)) ∧ (∀ s, s < 3 → kn s = L 1 s) ∧
  (∀ i, i < N 1 → ia i ∈ P ∧ f (ia i) = oI (lN (2 ^ i)) (A 1 i) (A 2 i) (A 3 i) (A 4 i) (A 5 i)) ∧
  (∀ r, r < N 2 → ra r ∈ P ∧ f (ra r) = oR (A 7 r) (A 8 r) (A 9 r) (A 10 r) (A 11 r) (A 12 r) (L 0 r) (B 1 r)) ∧ (∀ r r2, r < N 2 → r2 < N 2 → ra r = ra r2 → r = r2) ∧
  laS g (el 0) (N 1) ia P f ∧ laS g (el 1) (N 2) ra P f ∧ laS g (el 2) (N 3) (fun k => ia (c32 (A 13 k))) P f ∧
  (0 < N 1 → 0 < N 2 → el 0 ≠ el 1) ∧ (0 < N 1 → 0 < N 3 → el 0 ≠ el 2) ∧ (0 < N 2 → 0 < N 3 → el 1 ≠ el 2)
def cR (g : q_G) (a0 : Nat) (N : Nat → Nat) (A : Nat → Nat → Int32) (B : Nat → Nat → Bool) (L : Nat → Nat → Int64) (wm ws : va_W) : Prop :=
  ∃ (ad : Nat → Nat) (mc : Nat → Int32) (el ia ra : Nat → Nat) (th : Int64) (dr dl : Int32) (ro kl : Nat → Int32) (kn : Nat → Int64) (row : Nat → Int32) (P : List Nat) (f : Nat → va_E),
    a0 = ad 8 ∧ ws = iF g ad mc el (fun k => N (k + 1)) th dr dl ro kl kn row ++ (wm ++ va_pl P f) ∧ cF g N A B L el ia ra th dr dl ro kl kn P f
theorem las_lsV {g : q_G} {el n li ql : Nat} {mc : Int32} {a : Nat → Nat} {P : List Nat} {f : Nat → va_E} {X : va_W} (h : laS g el n a P f) (hn : n ≤ 40) (hq : (X ++ va_pl P f)[ql]? = some (li, .inr (0, [.int mc, .ref el, .int (nI n)]))) : lsV g (X ++ va_pl P f) li n a := by
  refine ⟨ql, mc, el, hq, by omega, ?_⟩
  rcases h with ⟨h1, -⟩ | ⟨h0, cap, hh, h1, h2, h3, h4, h5, h6⟩
  · exact Or.inl h1
  · obtain ⟨k, hk⟩ := pl_getX (X := X) h1 h2
    exact Or.inr ⟨k, cap, hh, hk, h3, by omega, h6⟩
theorem cF_iv {g : q_G} {N : Nat → Nat} {A : Nat → Nat → Int32} {B : Nat → Nat → Bool} {L : Nat → Nat → Int64} {ad el ia ra : Nat → Nat} {mc : Nat → Int32} {th : Int64} {dr dl : Int32} {ro kl : Nat → Int32} {kn : Nat → Int64} {row : Nat → Int32} {P : List Nat} {f : Nat → va_E} {wm : va_W} (hI : inv N A B L) (h : cF g N A B L el ia ra th dr dl ro kl kn P f) : ivV g (iF g ad mc el (fun k => N (k + 1)) th dr dl ro kl kn row ++ (wm ++ va_pl P f)) (ad 8) (ad 7) th (N 1) ia (fun i => lN (2 ^ i)) (fiS A) := by
  obtain ⟨-, -, -, -, h5, -, -, h8, -⟩ := h
  refine ⟨⟨8, _, _, _, _, _, _, _, _, rfl⟩, ?_, hI.1.2.1, fun i hi => ?_⟩
  · rw [← List.append_assoc]
    refine las_lsV (ql := 7) (mc := mc 0) h8 hI.1.2.1 ?_
    rw [List.append_assoc]
    rfl
  · obtain ⟨k, hk⟩ := pl_getX (X := iF g ad mc el (fun k => N (k + 1)) th dr dl ro kl kn row ++ wm) (h5 i hi).1 (h5 i hi).2
    rw [List.append_assoc] at hk
    exact ⟨k, hk⟩
theorem cF_rl {g : q_G} {N : Nat → Nat} {A : Nat → Nat → Int32} {B : Nat → Nat → Bool} {L : Nat → Nat → Int64} {ad el ia ra : Nat → Nat} {mc : Nat → Int32} {th : Int64} {dr dl : Int32} {ro kl : Nat → Int32} {kn : Nat → Int64} {row : Nat → Int32} {P : List Nat} {f : Nat → va_E} {wm : va_W} (hI : inv N A B L) (h : cF g N A B L el ia ra th dr dl ro kl kn P f) : rlV g (iF g ad mc el (fun k => N (k + 1)) th dr dl ro kl kn row ++ (wm ++ va_pl P f)) (ad 8) (ad 6) (N 2) ra (soF A) (beF A) (toF A) (rlS A) (L 0) (B 1) := by
  obtain ⟨-, -, -, -, -, h6, -, -, h9, -⟩ := h
  obtain ⟨i1, -, -, -, -, i6, -⟩ := hI
  refine ⟨⟨8, _, _, _, _, _, _, _, _, _, rfl⟩, ?_, i1.2.2.1, fun r hr => ⟨(i6 r hr).1, (i6 r hr).2.2.1, (i6 r hr).2.2.2.2.2⟩, fun r hr => ?_⟩
  · rw [← List.append_assoc]
    refine las_lsV (ql := 6) (mc := mc 1) h9 (by omega) ?_
    rw [List.append_assoc]
    rfl
  · obtain ⟨k, hk⟩ := pl_getX (X := iF g ad mc el (fun k => N (k + 1)) th dr dl ro kl kn row ++ wm) (h6 r hr).1 (h6 r hr).2
    rw [List.append_assoc] at hk
    refine ⟨k, ?_⟩
    obtain ⟨-, e1, -, e2, e3, -⟩ := i6 r hr
    rw [← e1, ← e2, ← e3]
    exact hk
theorem cF_qu {g : q_G} {N : Nat → Nat} {A : Nat → Nat → Int32} {B : Nat → Nat → Bool} {L : Nat → Nat → Int64} {ad el ia ra : Nat → Nat} {mc : Nat → Int32} {th : Int64} {dr dl : Int32} {ro kl : Nat → Int32} {kn : Nat → Int64} {row : Nat → Int32} {P : List Nat} {f : Nat → va_E} {wm : va_W} (hI : inv N A B L) (h : cF g N A B L el ia ra th dr dl ro kl kn P f) : lsV g (iF g ad mc el (fun k => N (k + 1)) th dr dl ro kl kn row ++ (wm ++ va_pl P f)) (ad 5) (N 3) (fun k => ia (c32 (A 13 k))) := by
  obtain ⟨-, -, -, -, -, -, -, -, -, h10, -⟩ := h
  have i1 := hI.1
  rw [← List.append_assoc]
  refine las_lsV (ql := 5) (mc := mc 2) h10 (by omega) ?_
  rw [List.append_assoc]
  rfl
theorem cntF_cong {hr hr2 : Nat → Bool} {fi fi2 : Nat → Nat → Int32} {w p f : Int32} : ∀ {n : Nat}, (∀ i, i < n → mtc hr fi w p i = mtc hr2 fi2 w p i ∧ (mtc hr fi w p i = true → fi 4 i = fi2 4 i)) → cntF hr fi w p f n = cntF hr2 fi2 w p f n
  | 0, _ => rfl
  | k + 1, h => by
    have h1 := h k (by omega)
    rw [cntF, cntF, cntF_cong (fun i hi => h i (by omega)), h1.1]
    cases hm : mtc hr2 fi2 w p k with
    | false => rfl
    | true => rw [h1.2 (h1.1.trans hm)]
theorem mstF_cong {hr hr2 : Nat → Bool} {fi fi2 : Nat → Nat → Int32} {n : Nat} {w p : Int32} (h : ∀ i, i < n → mtc hr fi w p i = mtc hr2 fi2 w p i ∧ (mtc hr fi w p i = true → fi 4 i = fi2 4 i)) : ∀ k, k ≤ n → mstF hr fi n w p k = mstF hr2 fi2 n w p k
  | 0, _ => rfl
  | k + 1, hk => by
    have h1 := h k (by omega)
    rw [mstF, mstF, mstF_cong h k (by omega), h1.1]
    cases hm : mtc hr2 fi2 w p k with
    | false => rfl
    | true =>
      rw [h1.2 (h1.1.trans hm), cntF_cong h]
theorem mst_cong {hr hr2 : Nat → Bool} {fi fi2 : Nat → Nat → Int32} {n : Nat} {w p : Int32} (h : ∀ i, i < n → mtc hr fi w p i = mtc hr2 fi2 w p i ∧ (mtc hr fi w p i = true → fi 4 i = fi2 4 i)) : mst hr fi n w p = mst hr2 fi2 n w p := by rw [mst, mst, mstF_cong h n (Nat.le_refl n)]
theorem drw_cong {hr hr2 : Nat → Bool} {fi fi2 : Nat → Nat → Int32} {n : Nat} {w : Int32} (h : ∀ p i, i < n → mtc hr fi w p i = mtc hr2 fi2 w p i ∧ (mtc hr fi w p i = true → fi 4 i = fi2 4 i)) : drw hr fi n w = drw hr2 fi2 n w := by
  unfold drw
  congr 1
  funext k
  exact mst_cong (h (nI k))
theorem hr_th {B : Nat → Nat → Bool} {n i : Nat} (hn : n ≤ 40) (hi : i < n) : hasB (lN (thS (B 0) n)) (lN (2 ^ i)) = !B 0 i := by
  rw [hasB_bit (by omega), thS_bit, decide_eq_true hi]
  rfl
theorem mtc_hr {hr hr2 : Nat → Bool} {fi : Nat → Nat → Int32} {w p : Int32} {i : Nat} (h : hr i = hr2 i) : mtc hr fi w p i = mtc hr2 fi w p i ∧ (mtc hr fi w p i = true → fi 4 i = fi 4 i) := ⟨by rw [mtc, mtc, h], fun _ => rfl⟩
theorem drw_th {A : Nat → Nat → Int32} {B : Nat → Nat → Bool} {n : Nat} {w : Int32} (hn : n ≤ 40) : drw (fun i => hasB (lN (thS (B 0) n)) (lN (2 ^ i))) (fiS A) n w = drw (hrS B) (fiS A) n w := drw_cong (fun p i hi => mtc_hr (hr_th hn hi))
theorem mst_th {A : Nat → Nat → Int32} {B : Nat → Nat → Bool} {n : Nat} {w p : Int32} (hn : n ≤ 40) : mst (fun i => hasB (lN (thS (B 0) n)) (lN (2 ^ i))) (fiS A) n w p = mst (hrS B) (fiS A) n w p := mst_cong (fun i hi => mtc_hr (hr_th hn hi))
theorem ivo_fg {A : Nat → Nat → Int32} {B : Nat → Nat → Bool} {n : Nat} {who : Int32} (hn : n ≤ 40) : ∀ k, k ≤ n → ivoF (lN (thS (B 0) n)) (fun i => lN (2 ^ i)) (fiS A) who k = lN (fgS (B 0) (A 1) who k)
  | 0, _ => rfl
  | k + 1, hk => by
    rw [ivoF, fgS, ivo_fg hn k (by omega), hr_th hn (by omega), fb_orL]
    split <;> rfl
end
section
def kc (a b d : Bool) : Nat := if a then 1 else if b then 2 else if d then 3 else 0
def pe1 (k : Nat) (ws : va_W) : String → va_W → Prop := fun E w => (E = "java/lang/IndexOutOfBoundsException" ∧ k = 1) ∧ w = ws
def peS (k : Nat) (ws : va_W) : String → va_W → Prop := fun E w => ((E = "java/lang/IndexOutOfBoundsException" ∧ k = 1) ∨ (E = "java/lang/IllegalStateException" ∧ k = 2)) ∧ w = ws
def peA (k : Nat) (ws : va_W) : String → va_W → Prop := fun E w => ((E = "java/lang/IndexOutOfBoundsException" ∧ k = 1) ∨ (E = "java/lang/IllegalArgumentException" ∧ k = 2)) ∧ w = ws
def pe3 (k : Nat) (ws : va_W) : String → va_W → Prop := fun E w => ((E = "java/lang/IndexOutOfBoundsException" ∧ k = 1) ∨ (E = "java/lang/IllegalArgumentException" ∧ k = 2) ∨ (E = "java/lang/IllegalStateException" ∧ k = 3)) ∧ w = ws
theorem drw_A {hr : Nat → Bool} {A A2 : Nat → Nat → Int32} {n : Nat} {w : Int32} (h : ∀ i, i < n → A 2 i = A2 2 i ∧ A 4 i = A2 4 i ∧ A 5 i = A2 5 i) : drw hr (fiS A) n w = drw hr (fiS A2) n w := drw_cong (fun p i hi => by
  obtain ⟨h1, h2, h3⟩ := h i hi
  exact ⟨by show (hr i && (decide (A 4 i = w) && decide (A 2 i = p))) = (hr i && (decide (A2 4 i = w) && decide (A2 2 i = p))); rw [h1, h2], fun _ => h3⟩)
/-- the values that calls answer -/
noncomputable def expV (N : Nat → Nat) (A : Nat → Nat → Int32) (B : Nat → Nat → Bool) (w : Nat) (p y : Int32) : Int32 := roI ((unF (A 6 w)).map (fun l => expF (goF (rlS A) (B 1) p y) (soF A) (beF A) (toF A) l (N 2)))
noncomputable def farV (N : Nat → Nat) (A : Nat → Nat → Int32) (B : Nat → Nat → Bool) (i : Nat) : Int32 :=
  if B 0 i then -1 else match unF (A 5 i), unF (A 6 (c32 (A 4 i))) with
    | some a, some b => nI (lev a (expF (goF (rlS A) (B 1) (A 2 i) (A 3 i)) (soF A) (beF A) (toF A) b (N 2)))
    | _, _ => -1
theorem inR_c32 {x : Int32} {n : Nat} (h : inR x n = true) (hn : n ≤ 2147483648) : c32 x < n ∧ x = nI (c32 x) := by
  obtain ⟨j, hj, rfl⟩ := inR_of h hn
  rw [c32_nI (by omega)]
  exact ⟨hj, rfl⟩
theorem inR_ix {x : Int32} {n : Nat} (h : inR x n = true) (hn : n ≤ 2147483648) : ∃ j : Nat, j < n ∧ x = nI j ∧ c32 x = j := by
  obtain ⟨j, hj, rfl⟩ := inR_of h hn
  exact ⟨j, hj, rfl, c32_nI (by omega)⟩
set_option maxHeartbeats 4000000 in
set_option maxRecDepth 100000 in
theorem c_form (l : Launch) (hl : l.stackTraces = false) (g : q_G) (N : Nat → Nat) (A : Nat → Nat → Int32) (B : Nat → Nat → Bool) (L : Nat → Nat → Int64) (wm ws : va_W) (a0 : Nat) (hI : inv N A B L) (hR : cR g a0 N A B L wm ws) (x1 : Int32) : MetX l g yX3_form cX3_form 2 (some .int) ({ frames := 6, cells := 4, slots := 250, locals := 90 } : Room) [.ref a0, .int x1] (ws) (q_Qi g (fun r w => (kc (!inR x1 (N 1)) false false) = 0 ∧ r = (if B 0 (c32 x1) then -1 else A 5 (c32 x1)) ∧ w = ws)) (pe1 (kc (!inR x1 (N 1)) false false) ws) := by
  refine q_metX (own := RX3) (by decide +kernel) rfl (Nat.le_of_ble_eq_true rfl) (fun p e s m args below meth c cx hr htab => ?_)
  obtain ⟨ad, mc, el, ia, ra, th, dr, dl, ro, kl, kn, row, P, f, rfl, rfl, hF⟩ := hR
  have hiv := cF_iv (ad := ad) (mc := mc) (row := row) (wm := wm) hI hF
  have hrl := cF_rl (ad := ad) (mc := mc) (row := row) (wm := wm) hI hF
  have hqu := cF_qu (ad := ad) (mc := mc) (row := row) (wm := wm) hI hF
  obtain ⟨⟨rfl, rfl, rfl⟩, f2, f3, f4, f5, f6, f7, f8, f9, f10, f11, f12, f13⟩ := id hF
  obtain ⟨⟨i1, i2, i3, i4⟩, j2, j3, j4, j5, j6, j7, j8, j9, j10, j11⟩ := id hI
  refine r_lv (lv2 := [(0, .ref (ad 8)), (1, .int x1)]) (q_pk [0, 1] rfl) ?_
  refine r_iload_n cx dX3_form_0 rfl rfl ?_
  refine r_aload_n cx dX3_form_1 rfl rfl ?_
  refine gf_X3_10 cx dX3_form_2 8 rfl rfl ?_
  refine k_X3_80 cx (c_lsize l g _ (ad 7) (N 1) ia hiv.2.1) dX3_form_5 7 rfl ⟨Nat.le_of_ble_eq_true rfl, Nat.le_of_ble_eq_true rfl⟩ ⟨Nat.le_of_ble_eq_true rfl, Nat.le_of_ble_eq_true rfl⟩ rfl rfl (Nat.le_of_ble_eq_true rfl) (fun r w hp => ?_)
  obtain ⟨rfl, rfl⟩ := hp
  refine k_X3_57 cx (c_isOutside l g _ x1 (N 1) (by omega)) dX3_form_8 ⟨Nat.le_of_ble_eq_true rfl, Nat.le_of_ble_eq_true rfl⟩ ⟨Nat.le_of_ble_eq_true rfl, Nat.le_of_ble_eq_true rfl⟩ rfl rfl (Nat.le_of_ble_eq_true rfl) (fun r w hp => ?_)
  obtain ⟨rfl, rfl⟩ := hp
  refine r_ifeqb (tgt := 24) cx dX3_form_11 (by decide) (fun h_11 => ?_) (fun h_11 => ?_)
  · skip
    obtain ⟨j, hj, rfl, hcj⟩ := inR_ix (x := x1) (n := N 1) (by simpa using h_11) (by omega)
    refine r_aload_n cx dX3_form_24 rfl rfl ?_
    refine r_aload_n cx dX3_form_25 rfl rfl ?_
    refine gf_X3_10 cx dX3_form_26 8 rfl rfl ?_
    refine r_iload_n cx dX3_form_29 rfl rfl ?_
    refine k_X3_108 cx (c_lget l g _ (ad 7) (N 1) j ia hiv.2.1 hj) dX3_form_30 7 rfl ⟨Nat.le_of_ble_eq_true rfl, Nat.le_of_ble_eq_true rfl⟩ ⟨Nat.le_of_ble_eq_true rfl, Nat.le_of_ble_eq_true rfl⟩ rfl rfl (Nat.le_of_ble_eq_true rfl) (fun r w hp => ?_)
    obtain ⟨rfl, rfl⟩ := hp
    obtain ⟨qi, hqi⟩ := hiv.2.2.2 j hj
    refine r_eqv (y := .ref (ia j)) rfl ?_
    refine r_cast (ci := 1) cx tb_219 dX3_form_33 qi rfl rfl hqi ?_
    refine k_X3_112 cx (c_formIfThere l g _ 8 qi _ _ _ _ _ _ _ _ _ _ _ _ _ _ _ _ _ _ rfl hqi) dX3_form_36 8 rfl ⟨Nat.le_of_ble_eq_true rfl, Nat.le_of_ble_eq_true rfl⟩ ⟨Nat.le_of_ble_eq_true rfl, Nat.le_of_ble_eq_true rfl⟩ rfl rfl (Nat.le_of_ble_eq_true rfl) (fun r w hp => ?_)
    obtain ⟨rfl, rfl⟩ := hp
    exact x_iret cx dX3_form_39 hr (⟨by simp [kc, h_11], by rw [hr_th i2 hj, hcj]; cases B 0 j <;> rfl, rfl⟩) (Nat.le_of_ble_eq_true rfl) (Nat.le_of_ble_eq_true rfl)
  · skip
    exact th_IO cx "no such interview" 106 hl htab dX3_form_14 dX3_form_17 dX3_form_18 dX3_form_20 dX3_form_23 (by decide) ⟨Nat.le_of_ble_eq_true rfl, Nat.le_of_ble_eq_true rfl, Nat.le_of_ble_eq_true rfl, Nat.le_of_ble_eq_true rfl⟩ ⟨Nat.le_of_ble_eq_true rfl, Nat.le_of_ble_eq_true rfl⟩ (⟨⟨rfl, by simp [kc, h_11]⟩, rfl⟩)
set_option maxHeartbeats 4000000 in
set_option maxRecDepth 100000 in
theorem c_stands (l : Launch) (hl : l.stackTraces = false) (g : q_G) (N : Nat → Nat) (A : Nat → Nat → Int32) (B : Nat → Nat → Bool) (L : Nat → Nat → Int64) (wm ws : va_W) (a0 : Nat) (hI : inv N A B L) (hR : cR g a0 N A B L wm ws) (x1 : Int32) : MetX l g yX3_stands cX3_stands 2 (some .boolean) ({ frames := 6, cells := 4, slots := 250, locals := 90 } : Room) [.ref a0, .int x1] (ws) (q_Qi g (fun r w => (kc (!inR x1 (N 2)) false false) = 0 ∧ r = bI (!B 1 (c32 x1)) ∧ w = ws)) (pe1 (kc (!inR x1 (N 2)) false false) ws) := by
  refine q_metX (own := RX3) (by decide +kernel) rfl (Nat.le_of_ble_eq_true rfl) (fun p e s m args below meth c cx hr htab => ?_)
  obtain ⟨ad, mc, el, ia, ra, th, dr, dl, ro, kl, kn, row, P, f, rfl, rfl, hF⟩ := hR
  have hiv := cF_iv (ad := ad) (mc := mc) (row := row) (wm := wm) hI hF
  have hrl := cF_rl (ad := ad) (mc := mc) (row := row) (wm := wm) hI hF
  have hqu := cF_qu (ad := ad) (mc := mc) (row := row) (wm := wm) hI hF
  obtain ⟨⟨rfl, rfl, rfl⟩, f2, f3, f4, f5, f6, f7, f8, f9, f10, f11, f12, f13⟩ := id hF
  obtain ⟨⟨i1, i2, i3, i4⟩, j2, j3, j4, j5, j6, j7, j8, j9, j10, j11⟩ := id hI
  refine r_lv (lv2 := [(0, .ref (ad 8)), (1, .int x1)]) (q_pk [0, 1] rfl) ?_
  refine r_iload_n cx dX3_stands_0 rfl rfl ?_
  refine r_aload_n cx dX3_stands_1 rfl rfl ?_
  refine gf_X3_16 cx dX3_stands_2 8 rfl rfl ?_
  refine k_X3_80 cx (c_lsize l g _ (ad 6) (N 2) ra hrl.2.1) dX3_stands_5 6 rfl ⟨Nat.le_of_ble_eq_true rfl, Nat.le_of_ble_eq_true rfl⟩ ⟨Nat.le_of_ble_eq_true rfl, Nat.le_of_ble_eq_true rfl⟩ rfl rfl (Nat.le_of_ble_eq_true rfl) (fun r w hp => ?_)
  obtain ⟨rfl, rfl⟩ := hp
  refine k_X3_57 cx (c_isOutside l g _ x1 (N 2) (by omega)) dX3_stands_8 ⟨Nat.le_of_ble_eq_true rfl, Nat.le_of_ble_eq_true rfl⟩ ⟨Nat.le_of_ble_eq_true rfl, Nat.le_of_ble_eq_true rfl⟩ rfl rfl (Nat.le_of_ble_eq_true rfl) (fun r w hp => ?_)
  obtain ⟨rfl, rfl⟩ := hp
  refine r_ifeqb (tgt := 24) cx dX3_stands_11 (by decide) (fun h_11 => ?_) (fun h_11 => ?_)
  · skip
    obtain ⟨j, hj, rfl, hcj⟩ := inR_ix (x := x1) (n := N 2) (by simpa using h_11) (by omega)
    refine r_aload_n cx dX3_stands_24 rfl rfl ?_
    refine gf_X3_16 cx dX3_stands_25 8 rfl rfl ?_
    refine r_iload_n cx dX3_stands_28 rfl rfl ?_
    refine k_X3_108 cx (c_lget l g _ (ad 6) (N 2) j ra hrl.2.1 hj) dX3_stands_29 6 rfl ⟨Nat.le_of_ble_eq_true rfl, Nat.le_of_ble_eq_true rfl⟩ ⟨Nat.le_of_ble_eq_true rfl, Nat.le_of_ble_eq_true rfl⟩ rfl rfl (Nat.le_of_ble_eq_true rfl) (fun r w hp => ?_)
    obtain ⟨rfl, rfl⟩ := hp
    obtain ⟨qr, hqr⟩ := hrl.2.2.2.2 j hj
    refine r_eqv (y := .ref (ra j)) rfl ?_
    refine r_cast (ci := 2) cx tb_263 dX3_stands_32 qr rfl rfl hqr ?_
    refine gf_X3_135 cx dX3_stands_35 qr hqr rfl ?_
    refine r_ifneb (tgt := 45) cx dX3_stands_38 (by decide) (fun h_38 => ?_) (fun h_38 => ?_)
    · skip
      refine r_iconst (v := nI 0) cx dX3_stands_45 (by decide) ?_
      exact x_zret cx dX3_stands_46 hr rfl (⟨by simp [kc, h_11], by rw [hcj, h_38]; rfl, rfl⟩) (Nat.le_of_ble_eq_true rfl) (Nat.le_of_ble_eq_true rfl)
    · skip
      refine r_iconst (v := nI 1) cx dX3_stands_41 (by decide) ?_
      refine r_goto (tgt := 46) cx dX3_stands_42 (by decide) ?_
      exact x_zret cx dX3_stands_46 hr rfl (⟨by simp [kc, h_11], by rw [hcj, h_38]; rfl, rfl⟩) (Nat.le_of_ble_eq_true rfl) (Nat.le_of_ble_eq_true rfl)
  · skip
    exact th_IO cx "no such rule" 160 hl htab dX3_stands_14 dX3_stands_17 dX3_stands_18 dX3_stands_20 dX3_stands_23 (by decide) ⟨Nat.le_of_ble_eq_true rfl, Nat.le_of_ble_eq_true rfl, Nat.le_of_ble_eq_true rfl, Nat.le_of_ble_eq_true rfl⟩ ⟨Nat.le_of_ble_eq_true rfl, Nat.le_of_ble_eq_true rfl⟩ (⟨⟨rfl, by simp [kc, h_11]⟩, rfl⟩)
set_option maxHeartbeats 4000000 in
set_option maxRecDepth 100000 in
theorem c_expected (l : Launch) (hl : l.stackTraces = false) (g : q_G) (N : Nat → Nat) (A : Nat → Nat → Int32) (B : Nat → Nat → Bool) (L : Nat → Nat → Int64) (wm ws : va_W) (a0 : Nat) (hI : inv N A B L) (hR : cR g a0 N A B L wm ws) (x1 : Int32) (x2 : Int32) (x3 : Int32) : MetX l g yX3_expected cX3_expected 4 (some .int) ({ frames := 6, cells := 4, slots := 250, locals := 90 } : Room) [.ref a0, .int x1, .int x2, .int x3] (ws) (q_Qi g (fun r w => (kc (!(inR x1 4 && inR x2 10)) (!inR x3 301) false) = 0 ∧ r = expV N A B (c32 x1) x2 x3 ∧ w = ws)) (peA (kc (!(inR x1 4 && inR x2 10)) (!inR x3 301) false) ws) := by
  refine q_metX (own := RX3) (by decide +kernel) rfl (Nat.le_of_ble_eq_true rfl) (fun p e s m args below meth c cx hr htab => ?_)
  obtain ⟨ad, mc, el, ia, ra, th, dr, dl, ro, kl, kn, row, P, f, rfl, rfl, hF⟩ := hR
  have hiv := cF_iv (ad := ad) (mc := mc) (row := row) (wm := wm) hI hF
  have hrl := cF_rl (ad := ad) (mc := mc) (row := row) (wm := wm) hI hF
  have hqu := cF_qu (ad := ad) (mc := mc) (row := row) (wm := wm) hI hF
  obtain ⟨⟨rfl, rfl, rfl⟩, f2, f3, f4, f5, f6, f7, f8, f9, f10, f11, f12, f13⟩ := id hF
  obtain ⟨⟨i1, i2, i3, i4⟩, j2, j3, j4, j5, j6, j7, j8, j9, j10, j11⟩ := id hI
  refine r_lv (lv2 := [(0, .ref (ad 8)), (1, .int x1), (2, .int x2), (3, .int x3)]) (q_pk [0, 1, 2, 3] rfl) ?_
  refine r_iload_n cx dX3_expected_0 rfl rfl ?_
  refine r_iconst (v := nI 4) cx dX3_expected_1 (by decide) ?_
  refine k_X3_57 cx (c_isOutside l g _ x1 (4) (by omega)) dX3_expected_2 ⟨Nat.le_of_ble_eq_true rfl, Nat.le_of_ble_eq_true rfl⟩ ⟨Nat.le_of_ble_eq_true rfl, Nat.le_of_ble_eq_true rfl⟩ rfl rfl (Nat.le_of_ble_eq_true rfl) (fun r w hp => ?_)
  obtain ⟨rfl, rfl⟩ := hp
  refine r_ifneb (tgt := 17) cx dX3_expected_5 (by decide) (fun h_5 => ?_) (fun h_5 => ?_)
  · skip
    exact th_IO cx "no such word or place" 162 hl htab dX3_expected_17 dX3_expected_20 dX3_expected_21 dX3_expected_23 dX3_expected_26 (by decide) ⟨Nat.le_of_ble_eq_true rfl, Nat.le_of_ble_eq_true rfl, Nat.le_of_ble_eq_true rfl, Nat.le_of_ble_eq_true rfl⟩ ⟨Nat.le_of_ble_eq_true rfl, Nat.le_of_ble_eq_true rfl⟩ (⟨Or.inl ⟨rfl, by first | (simp [kc, h_5]; done) | (simp [kc, h_14]; done)⟩, rfl⟩)
  · skip
    refine r_iload_n cx dX3_expected_8 rfl rfl ?_
    refine r_bipush (v := nI 10) cx dX3_expected_9 (by decide) ?_
    refine k_X3_57 cx (c_isOutside l g _ x2 (10) (by omega)) dX3_expected_11 ⟨Nat.le_of_ble_eq_true rfl, Nat.le_of_ble_eq_true rfl⟩ ⟨Nat.le_of_ble_eq_true rfl, Nat.le_of_ble_eq_true rfl⟩ rfl rfl (Nat.le_of_ble_eq_true rfl) (fun r w hp => ?_)
    obtain ⟨rfl, rfl⟩ := hp
    refine r_ifeqb (tgt := 27) cx dX3_expected_14 (by decide) (fun h_14 => ?_) (fun h_14 => ?_)
    · skip
      refine r_iload_n cx dX3_expected_27 rfl rfl ?_
      refine r_sipush (v := nI 301) cx dX3_expected_28 (by decide) ?_
      refine k_X3_57 cx (c_isOutside l g _ x3 (301) (by omega)) dX3_expected_31 ⟨Nat.le_of_ble_eq_true rfl, Nat.le_of_ble_eq_true rfl⟩ ⟨Nat.le_of_ble_eq_true rfl, Nat.le_of_ble_eq_true rfl⟩ rfl rfl (Nat.le_of_ble_eq_true rfl) (fun r w hp => ?_)
      obtain ⟨rfl, rfl⟩ := hp
      refine r_ifeqb (tgt := 47) cx dX3_expected_34 (by decide) (fun h_34 => ?_) (fun h_34 => ?_)
      · skip
        obtain ⟨j, hj, rfl, hcj⟩ := inR_ix (x := x1) (n := 4) (by simpa using h_5) (by omega)
        refine r_aload_n cx dX3_expected_47 rfl rfl ?_
        refine r_aload_n cx dX3_expected_48 rfl rfl ?_
        refine gf_X3_22 cx dX3_expected_49 8 rfl rfl ?_
        refine r_iload_n cx dX3_expected_52 rfl rfl ?_
        first | refine r_ialdN cx 4 0 dX3_expected_53 rfl rfl (by omega) (by omega) ?_ | refine r_iald cx 4 0 dX3_expected_53 rfl rfl (by omega) ?_
        refine r_eqi (y := roI (unF (A 6 j))) ((f2 j hj).trans (j5 j hj).symm) ?_
        refine r_iload_n cx dX3_expected_54 rfl rfl ?_
        refine r_iload_n cx dX3_expected_55 rfl rfl ?_
        refine k_X3_164 cx (c_applyRules l g _ (ad 8) (ad 6) (N 2) ra _ _ _ _ _ _ (unF (A 6 j)) x2 x3 (fun l hl9 => ⟨(unF_some hl9).2.1, (unF_some hl9).2.2.1⟩) hrl) dX3_expected_56 8 rfl ⟨Nat.le_of_ble_eq_true rfl, Nat.le_of_ble_eq_true rfl⟩ ⟨Nat.le_of_ble_eq_true rfl, Nat.le_of_ble_eq_true rfl⟩ rfl rfl (Nat.le_of_ble_eq_true rfl) (fun r w hp => ?_)
        obtain ⟨rfl, rfl⟩ := hp
        exact x_iret cx dX3_expected_59 hr (⟨by simp at h_5 h_14 h_34; simp [kc, h_5, h_14, h_34], by rw [hcj]; rfl, rfl⟩) (Nat.le_of_ble_eq_true rfl) (Nat.le_of_ble_eq_true rfl)
      · skip
        exact th_IA cx "no such year" 77 hl htab dX3_expected_37 dX3_expected_40 dX3_expected_41 dX3_expected_43 dX3_expected_46 (by decide) ⟨Nat.le_of_ble_eq_true rfl, Nat.le_of_ble_eq_true rfl, Nat.le_of_ble_eq_true rfl, Nat.le_of_ble_eq_true rfl⟩ ⟨Nat.le_of_ble_eq_true rfl, Nat.le_of_ble_eq_true rfl⟩ (⟨Or.inr ⟨rfl, by simp at h_5 h_14 h_34; simp [kc, h_5, h_14, h_34]⟩, rfl⟩)
    · skip
      exact th_IO cx "no such word or place" 162 hl htab dX3_expected_17 dX3_expected_20 dX3_expected_21 dX3_expected_23 dX3_expected_26 (by decide) ⟨Nat.le_of_ble_eq_true rfl, Nat.le_of_ble_eq_true rfl, Nat.le_of_ble_eq_true rfl, Nat.le_of_ble_eq_true rfl⟩ ⟨Nat.le_of_ble_eq_true rfl, Nat.le_of_ble_eq_true rfl⟩ (⟨Or.inl ⟨rfl, by first | (simp [kc, h_5]; done) | (simp [kc, h_14]; done)⟩, rfl⟩)
set_option maxHeartbeats 4000000 in
set_option maxRecDepth 100000 in
theorem c_formAt (l : Launch) (hl : l.stackTraces = false) (g : q_G) (N : Nat → Nat) (A : Nat → Nat → Int32) (B : Nat → Nat → Bool) (L : Nat → Nat → Int64) (wm ws : va_W) (a0 : Nat) (hI : inv N A B L) (hR : cR g a0 N A B L wm ws) (x1 : Int32) (x2 : Int32) : MetX l g yX3_formAt cX3_formAt 3 (some .int) ({ frames := 6, cells := 4, slots := 250, locals := 115 } : Room) [.ref a0, .int x1, .int x2] (ws) (q_Qi g (fun r w => (kc (!(inR x1 4 && inR x2 10)) false false) = 0 ∧ r = mst (hrS B) (fiS A) (N 1) x1 x2 ∧ w = ws)) (pe1 (kc (!(inR x1 4 && inR x2 10)) false false) ws) := by
  refine q_metX (own := RX3) (by decide +kernel) rfl (Nat.le_of_ble_eq_true rfl) (fun p e s m args below meth c cx hr htab => ?_)
  obtain ⟨ad, mc, el, ia, ra, th, dr, dl, ro, kl, kn, row, P, f, rfl, rfl, hF⟩ := hR
  have hiv := cF_iv (ad := ad) (mc := mc) (row := row) (wm := wm) hI hF
  have hrl := cF_rl (ad := ad) (mc := mc) (row := row) (wm := wm) hI hF
  have hqu := cF_qu (ad := ad) (mc := mc) (row := row) (wm := wm) hI hF
  obtain ⟨⟨rfl, rfl, rfl⟩, f2, f3, f4, f5, f6, f7, f8, f9, f10, f11, f12, f13⟩ := id hF
  obtain ⟨⟨i1, i2, i3, i4⟩, j2, j3, j4, j5, j6, j7, j8, j9, j10, j11⟩ := id hI
  refine r_lv (lv2 := [(0, .ref (ad 8)), (1, .int x1), (2, .int x2)]) (q_pk [0, 1, 2] rfl) ?_
  refine r_iload_n cx dX3_formAt_0 rfl rfl ?_
  refine r_iconst (v := nI 4) cx dX3_formAt_1 (by decide) ?_
  refine k_X3_57 cx (c_isOutside l g _ x1 (4) (by omega)) dX3_formAt_2 ⟨Nat.le_of_ble_eq_true rfl, Nat.le_of_ble_eq_true rfl⟩ ⟨Nat.le_of_ble_eq_true rfl, Nat.le_of_ble_eq_true rfl⟩ rfl rfl (Nat.le_of_ble_eq_true rfl) (fun r w hp => ?_)
  obtain ⟨rfl, rfl⟩ := hp
  refine r_ifneb (tgt := 17) cx dX3_formAt_5 (by decide) (fun h_5 => ?_) (fun h_5 => ?_)
  · skip
    exact th_IO cx "no such word or place" 162 hl htab dX3_formAt_17 dX3_formAt_20 dX3_formAt_21 dX3_formAt_23 dX3_formAt_26 (by decide) ⟨Nat.le_of_ble_eq_true rfl, Nat.le_of_ble_eq_true rfl, Nat.le_of_ble_eq_true rfl, Nat.le_of_ble_eq_true rfl⟩ ⟨Nat.le_of_ble_eq_true rfl, Nat.le_of_ble_eq_true rfl⟩ (⟨⟨rfl, by first | (simp [kc, h_5]; done) | (simp [kc, h_14]; done)⟩, rfl⟩)
  · skip
    refine r_iload_n cx dX3_formAt_8 rfl rfl ?_
    refine r_bipush (v := nI 10) cx dX3_formAt_9 (by decide) ?_
    refine k_X3_57 cx (c_isOutside l g _ x2 (10) (by omega)) dX3_formAt_11 ⟨Nat.le_of_ble_eq_true rfl, Nat.le_of_ble_eq_true rfl⟩ ⟨Nat.le_of_ble_eq_true rfl, Nat.le_of_ble_eq_true rfl⟩ rfl rfl (Nat.le_of_ble_eq_true rfl) (fun r w hp => ?_)
    obtain ⟨rfl, rfl⟩ := hp
    refine r_ifeqb (tgt := 27) cx dX3_formAt_14 (by decide) (fun h_14 => ?_) (fun h_14 => ?_)
    · skip
      refine r_aload_n cx dX3_formAt_27 rfl rfl ?_
      refine r_iload_n cx dX3_formAt_28 rfl rfl ?_
      refine r_iload_n cx dX3_formAt_29 rfl rfl ?_
      refine k_X3_184 cx (c_most l g _ (ad 8) (ad 7) _ (N 1) ia _ (fiS A) x1 x2 hiv) dX3_formAt_30 8 rfl ⟨Nat.le_of_ble_eq_true rfl, Nat.le_of_ble_eq_true rfl⟩ ⟨Nat.le_of_ble_eq_true rfl, Nat.le_of_ble_eq_true rfl⟩ rfl rfl (Nat.le_of_ble_eq_true rfl) (fun r w hp => ?_)
      obtain ⟨rfl, rfl⟩ := hp
      exact x_iret cx dX3_formAt_33 hr (⟨by simp at h_5 h_14; simp [kc, h_5, h_14], mst_th i2, rfl⟩) (Nat.le_of_ble_eq_true rfl) (Nat.le_of_ble_eq_true rfl)
    · skip
      exact th_IO cx "no such word or place" 162 hl htab dX3_formAt_17 dX3_formAt_20 dX3_formAt_21 dX3_formAt_23 dX3_formAt_26 (by decide) ⟨Nat.le_of_ble_eq_true rfl, Nat.le_of_ble_eq_true rfl, Nat.le_of_ble_eq_true rfl, Nat.le_of_ble_eq_true rfl⟩ ⟨Nat.le_of_ble_eq_true rfl, Nat.le_of_ble_eq_true rfl⟩ (⟨⟨rfl, by first | (simp [kc, h_5]; done) | (simp [kc, h_14]; done)⟩, rfl⟩)
set_option maxHeartbeats 4000000 in
set_option maxRecDepth 100000 in
theorem c_lines (l : Launch) (hl : l.stackTraces = false) (g : q_G) (N : Nat → Nat) (A : Nat → Nat → Int32) (B : Nat → Nat → Bool) (L : Nat → Nat → Int64) (wm ws : va_W) (a0 : Nat) (hI : inv N A B L) (hR : cR g a0 N A B L wm ws) (x1 : Int32) : MetX l g yX3_lines cX3_lines 2 (some .int) ({ frames := 6, cells := 4, slots := 250, locals := 90 } : Room) [.ref a0, .int x1] (ws) (q_Qi g (fun r w => (kc (!inR x1 4) false false) = 0 ∧ r = drw (hrS B) (fiS A) (N 1) x1 ∧ w = ws)) (pe1 (kc (!inR x1 4) false false) ws) := by
  refine q_metX (own := RX3) (by decide +kernel) rfl (Nat.le_of_ble_eq_true rfl) (fun p e s m args below meth c cx hr htab => ?_)
  obtain ⟨ad, mc, el, ia, ra, th, dr, dl, ro, kl, kn, row, P, f, rfl, rfl, hF⟩ := hR
  have hiv := cF_iv (ad := ad) (mc := mc) (row := row) (wm := wm) hI hF
  have hrl := cF_rl (ad := ad) (mc := mc) (row := row) (wm := wm) hI hF
  have hqu := cF_qu (ad := ad) (mc := mc) (row := row) (wm := wm) hI hF
  obtain ⟨⟨rfl, rfl, rfl⟩, f2, f3, f4, f5, f6, f7, f8, f9, f10, f11, f12, f13⟩ := id hF
  obtain ⟨⟨i1, i2, i3, i4⟩, j2, j3, j4, j5, j6, j7, j8, j9, j10, j11⟩ := id hI
  refine r_lv (lv2 := [(0, .ref (ad 8)), (1, .int x1)]) (q_pk [0, 1] rfl) ?_
  refine r_iload_n cx dX3_lines_0 rfl rfl ?_
  refine r_iconst (v := nI 4) cx dX3_lines_1 (by decide) ?_
  refine k_X3_57 cx (c_isOutside l g _ x1 (4) (by omega)) dX3_lines_2 ⟨Nat.le_of_ble_eq_true rfl, Nat.le_of_ble_eq_true rfl⟩ ⟨Nat.le_of_ble_eq_true rfl, Nat.le_of_ble_eq_true rfl⟩ rfl rfl (Nat.le_of_ble_eq_true rfl) (fun r w hp => ?_)
  obtain ⟨rfl, rfl⟩ := hp
  refine r_ifeqb (tgt := 18) cx dX3_lines_5 (by decide) (fun h_5 => ?_) (fun h_5 => ?_)
  · skip
    obtain ⟨j, hj, rfl, hcj⟩ := inR_ix (x := x1) (n := 4) (by simpa using h_5) (by omega)
    refine r_aload_n cx dX3_lines_18 rfl rfl ?_
    refine gf_X3_26 cx dX3_lines_19 8 rfl rfl ?_
    refine r_iload_n cx dX3_lines_22 rfl rfl ?_
    first | refine r_ialdN cx 3 0 dX3_lines_23 rfl rfl (by omega) (by omega) ?_ | refine r_iald cx 3 0 dX3_lines_23 rfl rfl (by omega) ?_
    exact x_iret cx dX3_lines_24 hr (⟨by simp [kc, h_5], f3 j hj, rfl⟩) (Nat.le_of_ble_eq_true rfl) (Nat.le_of_ble_eq_true rfl)
  · skip
    exact th_IO cx "no such word" 102 hl htab dX3_lines_8 dX3_lines_11 dX3_lines_12 dX3_lines_14 dX3_lines_17 (by decide) ⟨Nat.le_of_ble_eq_true rfl, Nat.le_of_ble_eq_true rfl, Nat.le_of_ble_eq_true rfl, Nat.le_of_ble_eq_true rfl⟩ ⟨Nat.le_of_ble_eq_true rfl, Nat.le_of_ble_eq_true rfl⟩ (⟨⟨rfl, by simp [kc, h_5]⟩, rfl⟩)
set_option maxHeartbeats 4000000 in
set_option maxRecDepth 100000 in
theorem c_linesByForms (l : Launch) (hl : l.stackTraces = false) (g : q_G) (N : Nat → Nat) (A : Nat → Nat → Int32) (B : Nat → Nat → Bool) (L : Nat → Nat → Int64) (wm ws : va_W) (a0 : Nat) (hI : inv N A B L) (hR : cR g a0 N A B L wm ws) (x1 : Int32) : MetX l g yX3_linesByForms cX3_linesByForms 2 (some .int) ({ frames := 6, cells := 4, slots := 250, locals := 140 } : Room) [.ref a0, .int x1] (ws) (q_Qi g (fun r w => (kc (!inR x1 4) false false) = 0 ∧ r = drw (hrS B) (fiS A) (N 1) x1 ∧ w = ws)) (pe1 (kc (!inR x1 4) false false) ws) := by
  refine q_metX (own := RX3) (by decide +kernel) rfl (Nat.le_of_ble_eq_true rfl) (fun p e s m args below meth c cx hr htab => ?_)
  obtain ⟨ad, mc, el, ia, ra, th, dr, dl, ro, kl, kn, row, P, f, rfl, rfl, hF⟩ := hR
  have hiv := cF_iv (ad := ad) (mc := mc) (row := row) (wm := wm) hI hF
  have hrl := cF_rl (ad := ad) (mc := mc) (row := row) (wm := wm) hI hF
  have hqu := cF_qu (ad := ad) (mc := mc) (row := row) (wm := wm) hI hF
  obtain ⟨⟨rfl, rfl, rfl⟩, f2, f3, f4, f5, f6, f7, f8, f9, f10, f11, f12, f13⟩ := id hF
  obtain ⟨⟨i1, i2, i3, i4⟩, j2, j3, j4, j5, j6, j7, j8, j9, j10, j11⟩ := id hI
  refine r_lv (lv2 := [(0, .ref (ad 8)), (1, .int x1)]) (q_pk [0, 1] rfl) ?_
  refine r_iload_n cx dX3_linesByForms_0 rfl rfl ?_
  refine r_iconst (v := nI 4) cx dX3_linesByForms_1 (by decide) ?_
  refine k_X3_57 cx (c_isOutside l g _ x1 (4) (by omega)) dX3_linesByForms_2 ⟨Nat.le_of_ble_eq_true rfl, Nat.le_of_ble_eq_true rfl⟩ ⟨Nat.le_of_ble_eq_true rfl, Nat.le_of_ble_eq_true rfl⟩ rfl rfl (Nat.le_of_ble_eq_true rfl) (fun r w hp => ?_)
  obtain ⟨rfl, rfl⟩ := hp
  refine r_ifeqb (tgt := 18) cx dX3_linesByForms_5 (by decide) (fun h_5 => ?_) (fun h_5 => ?_)
  · skip
    refine r_aload_n cx dX3_linesByForms_18 rfl rfl ?_
    refine r_iload_n cx dX3_linesByForms_19 rfl rfl ?_
    refine k_X3_98 cx (c_drawLines l g _ (ad 8) (ad 7) _ (N 1) ia _ (fiS A) x1 hiv) dX3_linesByForms_20 8 rfl ⟨Nat.le_of_ble_eq_true rfl, Nat.le_of_ble_eq_true rfl⟩ ⟨Nat.le_of_ble_eq_true rfl, Nat.le_of_ble_eq_true rfl⟩ rfl rfl (Nat.le_of_ble_eq_true rfl) (fun r w hp => ?_)
    obtain ⟨rfl, rfl⟩ := hp
    exact x_iret cx dX3_linesByForms_23 hr (⟨by simp [kc, h_5], drw_th i2, rfl⟩) (Nat.le_of_ble_eq_true rfl) (Nat.le_of_ble_eq_true rfl)
  · skip
    exact th_IO cx "no such word" 102 hl htab dX3_linesByForms_8 dX3_linesByForms_11 dX3_linesByForms_12 dX3_linesByForms_14 dX3_linesByForms_17 (by decide) ⟨Nat.le_of_ble_eq_true rfl, Nat.le_of_ble_eq_true rfl, Nat.le_of_ble_eq_true rfl, Nat.le_of_ble_eq_true rfl⟩ ⟨Nat.le_of_ble_eq_true rfl, Nat.le_of_ble_eq_true rfl⟩ (⟨⟨rfl, by simp [kc, h_5]⟩, rfl⟩)
set_option maxHeartbeats 4000000 in
set_option maxRecDepth 100000 in
theorem c_owed (l : Launch) (hl : l.stackTraces = false) (g : q_G) (N : Nat → Nat) (A : Nat → Nat → Int32) (B : Nat → Nat → Bool) (L : Nat → Nat → Int64) (wm ws : va_W) (a0 : Nat) (hI : inv N A B L) (hR : cR g a0 N A B L wm ws) (x1 : Int32) : MetX l g yX3_owed cX3_owed 2 (some .int) ({ frames := 6, cells := 4, slots := 250, locals := 90 } : Room) [.ref a0, .int x1] (ws) (q_Qi g (fun r w => (kc (!inR x1 3) false false) = 0 ∧ r = nI (bcL (L 1 (c32 x1) &&& (lN (thS (B 0) (N 1)) ^^^ (-1)))) ∧ w = ws)) (pe1 (kc (!inR x1 3) false false) ws) := by
  refine q_metX (own := RX3) (by decide +kernel) rfl (Nat.le_of_ble_eq_true rfl) (fun p e s m args below meth c cx hr htab => ?_)
  obtain ⟨ad, mc, el, ia, ra, th, dr, dl, ro, kl, kn, row, P, f, rfl, rfl, hF⟩ := hR
  have hiv := cF_iv (ad := ad) (mc := mc) (row := row) (wm := wm) hI hF
  have hrl := cF_rl (ad := ad) (mc := mc) (row := row) (wm := wm) hI hF
  have hqu := cF_qu (ad := ad) (mc := mc) (row := row) (wm := wm) hI hF
  obtain ⟨⟨rfl, rfl, rfl⟩, f2, f3, f4, f5, f6, f7, f8, f9, f10, f11, f12, f13⟩ := id hF
  obtain ⟨⟨i1, i2, i3, i4⟩, j2, j3, j4, j5, j6, j7, j8, j9, j10, j11⟩ := id hI
  refine r_lv (lv2 := [(0, .ref (ad 8)), (1, .int x1)]) (q_pk [0, 1] rfl) ?_
  refine r_iload_n cx dX3_owed_0 rfl rfl ?_
  refine r_iconst (v := nI 3) cx dX3_owed_1 (by decide) ?_
  refine k_X3_57 cx (c_isOutside l g _ x1 (3) (by omega)) dX3_owed_2 ⟨Nat.le_of_ble_eq_true rfl, Nat.le_of_ble_eq_true rfl⟩ ⟨Nat.le_of_ble_eq_true rfl, Nat.le_of_ble_eq_true rfl⟩ rfl rfl (Nat.le_of_ble_eq_true rfl) (fun r w hp => ?_)
  obtain ⟨rfl, rfl⟩ := hp
  refine r_ifeqb (tgt := 18) cx dX3_owed_5 (by decide) (fun h_5 => ?_) (fun h_5 => ?_)
  · skip
    obtain ⟨j, hj, rfl, hcj⟩ := inR_ix (x := x1) (n := 3) (by simpa using h_5) (by omega)
    obtain ⟨K, hK, hKe⟩ := j10 j hj
    have hkn : kn j = lN K := (f4 j hj).trans hKe
    refine r_aload_n cx dX3_owed_18 rfl rfl ?_
    refine gf_X3_29 cx dX3_owed_19 8 rfl rfl ?_
    refine r_iload_n cx dX3_owed_22 rfl rfl ?_
    first | refine r_laldN cx 2 1 dX3_owed_23 rfl rfl (by omega) (by omega) ?_ | refine r_lald cx 2 1 dX3_owed_23 rfl rfl (by omega) ?_
    refine r_eql hkn ?_
    refine r_aload_n cx dX3_owed_24 rfl rfl ?_
    refine gf_X3_40 cx dX3_owed_25 8 rfl rfl ?_
    refine r_ldc2 cx dX3_owed_28 tb_315 ?_
    refine r_lxor cx dX3_owed_31 ?_
    refine r_land cx dX3_owed_32 ?_
    refine r_eql (andn _ _) ?_
    refine k_X3_154 cx (c_bitCount l g _ _ (andn_lt hK)) dX3_owed_33 ⟨Nat.le_of_ble_eq_true rfl, Nat.le_of_ble_eq_true rfl⟩ ⟨Nat.le_of_ble_eq_true rfl, Nat.le_of_ble_eq_true rfl⟩ rfl rfl (Nat.le_of_ble_eq_true rfl) (fun r w hp => ?_)
    obtain ⟨rfl, rfl⟩ := hp
    exact x_iret cx dX3_owed_36 hr (⟨by simp [kc, h_5], by rw [hcj, hKe, andn, bcL_lN (andn_lt hK)], rfl⟩) (Nat.le_of_ble_eq_true rfl) (Nat.le_of_ble_eq_true rfl)
  · skip
    exact th_IO cx "no such school" 199 hl htab dX3_owed_8 dX3_owed_11 dX3_owed_12 dX3_owed_14 dX3_owed_17 (by decide) ⟨Nat.le_of_ble_eq_true rfl, Nat.le_of_ble_eq_true rfl, Nat.le_of_ble_eq_true rfl, Nat.le_of_ble_eq_true rfl⟩ ⟨Nat.le_of_ble_eq_true rfl, Nat.le_of_ble_eq_true rfl⟩ (⟨⟨rfl, by simp [kc, h_5]⟩, rfl⟩)
set_option maxHeartbeats 4000000 in
set_option maxRecDepth 100000 in
theorem c_quoted (l : Launch) (hl : l.stackTraces = false) (g : q_G) (N : Nat → Nat) (A : Nat → Nat → Int32) (B : Nat → Nat → Bool) (L : Nat → Nat → Int64) (wm ws : va_W) (a0 : Nat) (hI : inv N A B L) (hR : cR g a0 N A B L wm ws) (x1 : Int32) : MetX l g yX3_quoted cX3_quoted 2 (some .int) ({ frames := 6, cells := 4, slots := 250, locals := 90 } : Room) [.ref a0, .int x1] (ws) (q_Qi g (fun r w => (kc (!inR x1 (N 3)) false false) = 0 ∧ r = (if B 0 (c32 (A 13 (c32 x1))) then -1 else A 5 (c32 (A 13 (c32 x1)))) ∧ w = ws)) (pe1 (kc (!inR x1 (N 3)) false false) ws) := by
  refine q_metX (own := RX3) (by decide +kernel) rfl (Nat.le_of_ble_eq_true rfl) (fun p e s m args below meth c cx hr htab => ?_)
  obtain ⟨ad, mc, el, ia, ra, th, dr, dl, ro, kl, kn, row, P, f, rfl, rfl, hF⟩ := hR
  have hiv := cF_iv (ad := ad) (mc := mc) (row := row) (wm := wm) hI hF
  have hrl := cF_rl (ad := ad) (mc := mc) (row := row) (wm := wm) hI hF
  have hqu := cF_qu (ad := ad) (mc := mc) (row := row) (wm := wm) hI hF
  obtain ⟨⟨rfl, rfl, rfl⟩, f2, f3, f4, f5, f6, f7, f8, f9, f10, f11, f12, f13⟩ := id hF
  obtain ⟨⟨i1, i2, i3, i4⟩, j2, j3, j4, j5, j6, j7, j8, j9, j10, j11⟩ := id hI
  refine r_lv (lv2 := [(0, .ref (ad 8)), (1, .int x1)]) (q_pk [0, 1] rfl) ?_
  refine r_iload_n cx dX3_quoted_0 rfl rfl ?_
  refine r_aload_n cx dX3_quoted_1 rfl rfl ?_
  refine gf_X3_19 cx dX3_quoted_2 8 rfl rfl ?_
  refine k_X3_80 cx (c_lsize l g _ (ad 5) (N 3) (fun k => ia (c32 (A 13 k))) hqu) dX3_quoted_5 5 rfl ⟨Nat.le_of_ble_eq_true rfl, Nat.le_of_ble_eq_true rfl⟩ ⟨Nat.le_of_ble_eq_true rfl, Nat.le_of_ble_eq_true rfl⟩ rfl rfl (Nat.le_of_ble_eq_true rfl) (fun r w hp => ?_)
  obtain ⟨rfl, rfl⟩ := hp
  refine k_X3_57 cx (c_isOutside l g _ x1 (N 3) (by omega)) dX3_quoted_8 ⟨Nat.le_of_ble_eq_true rfl, Nat.le_of_ble_eq_true rfl⟩ ⟨Nat.le_of_ble_eq_true rfl, Nat.le_of_ble_eq_true rfl⟩ rfl rfl (Nat.le_of_ble_eq_true rfl) (fun r w hp => ?_)
  obtain ⟨rfl, rfl⟩ := hp
  refine r_ifeqb (tgt := 24) cx dX3_quoted_11 (by decide) (fun h_11 => ?_) (fun h_11 => ?_)
  · skip
    obtain ⟨j, hj, rfl, hcj⟩ := inR_ix (x := x1) (n := N 3) (by simpa using h_11) (by omega)
    refine r_aload_n cx dX3_quoted_24 rfl rfl ?_
    refine r_aload_n cx dX3_quoted_25 rfl rfl ?_
    refine gf_X3_19 cx dX3_quoted_26 8 rfl rfl ?_
    refine r_iload_n cx dX3_quoted_29 rfl rfl ?_
    refine k_X3_108 cx (c_lget l g _ (ad 5) (N 3) j (fun k => ia (c32 (A 13 k))) hqu hj) dX3_quoted_30 5 rfl ⟨Nat.le_of_ble_eq_true rfl, Nat.le_of_ble_eq_true rfl⟩ ⟨Nat.le_of_ble_eq_true rfl, Nat.le_of_ble_eq_true rfl⟩ rfl rfl (Nat.le_of_ble_eq_true rfl) (fun r w hp => ?_)
    obtain ⟨rfl, rfl⟩ := hp
    have hj2 := (j11 j hj).1
    obtain ⟨qi, hqi⟩ := hiv.2.2.2 _ hj2
    refine r_eqv (y := .ref (ia (c32 (A 13 j)))) rfl ?_
    refine r_cast (ci := 1) cx tb_219 dX3_quoted_33 qi rfl rfl hqi ?_
    refine k_X3_112 cx (c_formIfThere l g _ 8 qi _ _ _ _ _ _ _ _ _ _ _ _ _ _ _ _ _ _ rfl hqi) dX3_quoted_36 8 rfl ⟨Nat.le_of_ble_eq_true rfl, Nat.le_of_ble_eq_true rfl⟩ ⟨Nat.le_of_ble_eq_true rfl, Nat.le_of_ble_eq_true rfl⟩ rfl rfl (Nat.le_of_ble_eq_true rfl) (fun r w hp => ?_)
    obtain ⟨rfl, rfl⟩ := hp
    exact x_iret cx dX3_quoted_39 hr (⟨by simp [kc, h_11], by rw [hr_th i2 hj2, hcj]; cases B 0 (c32 (A 13 j)) <;> rfl, rfl⟩) (Nat.le_of_ble_eq_true rfl) (Nat.le_of_ble_eq_true rfl)
  · skip
    exact th_IO cx "no such quote" 203 hl htab dX3_quoted_14 dX3_quoted_17 dX3_quoted_18 dX3_quoted_20 dX3_quoted_23 (by decide) ⟨Nat.le_of_ble_eq_true rfl, Nat.le_of_ble_eq_true rfl, Nat.le_of_ble_eq_true rfl, Nat.le_of_ble_eq_true rfl⟩ ⟨Nat.le_of_ble_eq_true rfl, Nat.le_of_ble_eq_true rfl⟩ (⟨⟨rfl, by simp [kc, h_11]⟩, rfl⟩)
end
section
set_option maxHeartbeats 4000000 in
set_option maxRecDepth 100000 in
theorem c_takeDraft2 (l : Launch) (g : q_G) (ws : va_W) (q0 a0 : Nat) (r0 r1 r2 r3 r4 r5 r6 : Value) (th : Int64) (dr dl : Int32) (h0 : ws[q0]? = some (a0, .inr (4, [r0, r1, r2, r3, r4, r5, r6, .long th, .int dr, .int dl]))) : MetW l g yX3_takeDraft cX3_takeDraft 2 (some .int) ({ frames := 0, cells := 0, slots := 0, locals := 0 } : Room) [.ref a0] (ws) (q_Qi g (fun r w => r = dr ∧ w = ws.set q0 (a0, .inr (4, [r0, r1, r2, r3, r4, r5, r6, .long th, .int 0, .int 0])))) := by
  refine q_met (own := RX3) (by decide +kernel) rfl (Nat.le_of_ble_eq_true rfl) (fun p e s m args below meth c cx hr hnm => ?_)
  refine r_lv (lv2 := [(0, .ref a0)]) (q_pk [0] rfl) ?_
  refine r_aload_n cx dX3_takeDraft_0 rfl rfl ?_
  refine gf_X3_44 cx dX3_takeDraft_1 q0 h0 rfl ?_
  refine r_istore_n cx dX3_takeDraft_4 rfl (by decide) rfl ?_
  refine r_aload_n cx dX3_takeDraft_5 rfl rfl ?_
  refine r_iconst (v := 0) cx dX3_takeDraft_6 (by decide) ?_
  refine pf_X3_44 cx dX3_takeDraft_7 q0 h0 (Nat.le_of_ble_eq_true rfl) ?_
  refine r_aload_n cx dX3_takeDraft_10 rfl rfl ?_
  refine r_iconst (v := 0) cx dX3_takeDraft_11 (by decide) ?_
  refine pf_X3_48 cx dX3_takeDraft_12 q0 (q_set_get h0) (Nat.le_of_ble_eq_true rfl) ?_
  refine r_iload_n cx dX3_takeDraft_15 rfl rfl ?_
  exact r_iret cx dX3_takeDraft_16 hr (⟨rfl, by rw [List.set_set]; rfl⟩) (Nat.le_of_ble_eq_true rfl) (Nat.le_of_ble_eq_true rfl)
set_option maxHeartbeats 4000000 in
set_option maxRecDepth 100000 in
theorem c_far (l : Launch) (hl : l.stackTraces = false) (g : q_G) (N : Nat → Nat) (A : Nat → Nat → Int32) (B : Nat → Nat → Bool) (L : Nat → Nat → Int64) (wm ws : va_W) (a0 : Nat) (hI : inv N A B L) (hR : cR g a0 N A B L wm ws) (x1 : Int32) : MetX l g yX3_far cX3_far 4 (some .int) ({ frames := 6, cells := 4, slots := 250, locals := 90 } : Room) [.ref a0, .int x1] (ws) (q_Qi g (fun r w => (kc (!inR x1 (N 1)) false false) = 0 ∧ r = farV N A B (c32 x1) ∧ cR g a0 N A B L wm w)) (pe1 (kc (!inR x1 (N 1)) false false) ws) := by
  refine q_metX (own := RX3) (by decide +kernel) rfl (Nat.le_of_ble_eq_true rfl) (fun p e s m args below meth c cx hr htab => ?_)
  obtain ⟨ad, mc, el, ia, ra, th, dr, dl, ro, kl, kn, row, P, f, rfl, rfl, hF⟩ := hR
  have hiv := cF_iv (ad := ad) (mc := mc) (row := row) (wm := wm) hI hF
  have hrl := cF_rl (ad := ad) (mc := mc) (row := row) (wm := wm) hI hF
  have hqu := cF_qu (ad := ad) (mc := mc) (row := row) (wm := wm) hI hF
  obtain ⟨⟨rfl, rfl, rfl⟩, f2, f3, f4, f5, f6, f7, f8, f9, f10, f11, f12, f13⟩ := id hF
  obtain ⟨⟨i1, i2, i3, i4⟩, j2, j3, j4, j5, j6, j7, j8, j9, j10, j11⟩ := id hI
  refine r_lv (lv2 := [(0, .ref (ad 8)), (1, .int x1)]) (q_pk [0, 1] rfl) ?_
  refine r_iload_n cx dX3_far_0 rfl rfl ?_
  refine r_aload_n cx dX3_far_1 rfl rfl ?_
  refine gf_X3_10 cx dX3_far_2 8 rfl rfl ?_
  refine k_X3_80 cx (c_lsize l g _ (ad 7) (N 1) ia hiv.2.1) dX3_far_5 7 rfl ⟨Nat.le_of_ble_eq_true rfl, Nat.le_of_ble_eq_true rfl⟩ ⟨Nat.le_of_ble_eq_true rfl, Nat.le_of_ble_eq_true rfl⟩ rfl rfl (Nat.le_of_ble_eq_true rfl) (fun r w hp => ?_)
  obtain ⟨rfl, rfl⟩ := hp
  refine k_X3_57 cx (c_isOutside l g _ x1 (N 1) (by omega)) dX3_far_8 ⟨Nat.le_of_ble_eq_true rfl, Nat.le_of_ble_eq_true rfl⟩ ⟨Nat.le_of_ble_eq_true rfl, Nat.le_of_ble_eq_true rfl⟩ rfl rfl (Nat.le_of_ble_eq_true rfl) (fun r w hp => ?_)
  obtain ⟨rfl, rfl⟩ := hp
  refine r_ifeqb (tgt := 24) cx dX3_far_11 (by decide) (fun h_11 => ?_) (fun h_11 => ?_)
  · skip
    obtain ⟨j, hj, rfl, hcj⟩ := inR_ix (x := x1) (n := N 1) (by simpa using h_11) (by omega)
    obtain ⟨⟨hw4, hwe⟩, la, hla⟩ := j3 j hj
    have hua := unF_some hla
    refine r_aload_n cx dX3_far_24 rfl rfl ?_
    refine gf_X3_10 cx dX3_far_25 8 rfl rfl ?_
    refine r_iload_n cx dX3_far_28 rfl rfl ?_
    refine k_X3_108 cx (c_lget l g _ (ad 7) (N 1) j ia hiv.2.1 hj) dX3_far_29 7 rfl ⟨Nat.le_of_ble_eq_true rfl, Nat.le_of_ble_eq_true rfl⟩ ⟨Nat.le_of_ble_eq_true rfl, Nat.le_of_ble_eq_true rfl⟩ rfl rfl (Nat.le_of_ble_eq_true rfl) (fun r w hp => ?_)
    obtain ⟨rfl, rfl⟩ := hp
    obtain ⟨qi, hqi⟩ := hiv.2.2.2 j hj
    refine r_eqv (y := .ref (ia j)) rfl ?_
    refine r_cast (ci := 1) cx tb_219 dX3_far_32 qi rfl rfl hqi ?_
    refine r_astore_n cx dX3_far_35 rfl (by decide) rfl ?_
    refine r_aload_n cx dX3_far_36 rfl rfl ?_
    refine gf_X3_22 cx dX3_far_37 8 rfl rfl ?_
    refine r_aload_n cx dX3_far_40 rfl rfl ?_
    refine gf_X3_168 cx dX3_far_41 qi hqi rfl ?_
    refine r_eqi (y := nI (c32 (A 4 j))) hwe ?_
    first | refine r_ialdN cx 4 0 dX3_far_44 rfl rfl (by omega) (by omega) ?_ | refine r_iald cx 4 0 dX3_far_44 rfl rfl (by omega) ?_
    refine r_eqi (y := roI (unF (A 6 (c32 (A 4 j))))) ((f2 _ hw4).trans (j5 _ hw4).symm) ?_
    refine r_istore_n cx dX3_far_45 rfl (by decide) rfl ?_
    refine r_aload_n cx dX3_far_46 rfl rfl ?_
    refine r_aload_n cx dX3_far_47 rfl rfl ?_
    refine k_X3_139 cx (c_isThere l g _ 8 qi _ _ _ _ _ _ _ _ _ _ _ _ _ _ _ _ _ _ rfl hqi) dX3_far_48 8 rfl ⟨Nat.le_of_ble_eq_true rfl, Nat.le_of_ble_eq_true rfl⟩ ⟨Nat.le_of_ble_eq_true rfl, Nat.le_of_ble_eq_true rfl⟩ rfl rfl (Nat.le_of_ble_eq_true rfl) (fun r w hp => ?_)
    obtain ⟨rfl, rfl⟩ := hp
    refine r_ifeqb (tgt := 59) cx dX3_far_51 (by decide) (fun h_51 => ?_) (fun h_51 => ?_)
    · skip
      refine r_iconst (v := -1) cx dX3_far_59 (by decide) ?_
      exact x_iret cx dX3_far_60 hr (⟨by simp [kc, h_11], by rw [hcj, farV]; rw [hr_th i2 hj] at h_51; rw [(by simpa using h_51 : B 0 j = true)]; rfl, ⟨ad, mc, el, ia, ra, _, _, _, ro, kl, kn, row, P, f, rfl, rfl, hF⟩⟩) (Nat.le_of_ble_eq_true rfl) (Nat.le_of_ble_eq_true rfl)
    · skip
      refine r_iload_n cx dX3_far_54 rfl rfl ?_
      refine r_iconst (v := -1) cx dX3_far_55 (by decide) ?_
      refine r_icmpne (tgt := 61) cx dX3_far_56 (by decide) (fun h_56 => ?_) (fun h_56 => ?_)
      · skip
        obtain ⟨lb, hlb⟩ := roI_some h_56
        have hub := unF_some hlb
        have hex := expF_ok (gs := goF (rlS A) (B 1) (A 2 j) (A 3 j)) (so := soF A) (be := beF A) (to := toF A) (n := N 2) (fun r hr9 => (hrl.2.2.2.1 r hr9).2.2) hub.2.1 hub.2.2.1 (N 2) (Nat.le_refl _)
        refine r_aload_n cx dX3_far_61 rfl rfl ?_
        refine gf_X3_36 cx dX3_far_62 8 rfl rfl ?_
        refine r_aload_n cx dX3_far_65 rfl rfl ?_
        refine gf_X3_171 cx dX3_far_66 qi hqi rfl ?_
        refine r_eqi (y := nI (num la)) hua.1 ?_
        refine r_aload_n cx dX3_far_69 rfl rfl ?_
        refine r_iload_n cx dX3_far_70 rfl rfl ?_
        refine r_aload_n cx dX3_far_71 rfl rfl ?_
        refine gf_X3_174 cx dX3_far_72 qi hqi rfl ?_
        refine r_aload_n cx dX3_far_75 rfl rfl ?_
        refine gf_X3_177 cx dX3_far_76 qi hqi rfl ?_
        refine k_X3_164 cx (c_applyRules l g _ (ad 8) (ad 6) (N 2) ra _ _ _ _ _ _ (unF (A 6 (c32 (A 4 j)))) (A 2 j) (A 3 j) (fun l hl9 => ⟨(unF_some hl9).2.1, (unF_some hl9).2.2.1⟩) hrl) dX3_far_79 8 rfl ⟨Nat.le_of_ble_eq_true rfl, Nat.le_of_ble_eq_true rfl⟩ ⟨Nat.le_of_ble_eq_true rfl, Nat.le_of_ble_eq_true rfl⟩ rfl rfl (Nat.le_of_ble_eq_true rfl) (fun r w hp => ?_)
        obtain ⟨rfl, rfl⟩ := hp
        rw [hlb]
        refine r_eqi (y := nI (num (expF (goF (rlS A) (B 1) (A 2 j) (A 3 j)) (soF A) (beF A) (toF A) lb (N 2)))) rfl ?_
        refine r_perm (ws2 := (ad 1, .inr (3, [.ref (ad 0)])) :: (ad 0, .inl (q_cI g, 9, .inl row)) :: _) (List.Perm.swap _ _ _) ?_
        refine k_X3_180 cx (c_countSteps l g _ (ad 1) (ad 0) row la _ hua.2.1 hua.2.2.1 hex.1 hex.2 hua.2.2.2) dX3_far_82 0 rfl ⟨Nat.le_of_ble_eq_true rfl, Nat.le_of_ble_eq_true rfl⟩ ⟨Nat.le_of_ble_eq_true rfl, Nat.le_of_ble_eq_true rfl⟩ rfl rfl (Nat.le_of_ble_eq_true rfl) (fun r w hp => ?_)
        obtain ⟨rfl, row2, rfl⟩ := hp
        refine r_perm (ws2 := iF g ad mc el (fun k => N (k + 1)) (lN (thS (B 0) (N 1))) (nI (num (drL (A 0) (N 0)))) (nI (N 0)) ro kl kn row2 ++ (wm ++ va_pl P f)) (List.Perm.swap _ _ _) ?_
        exact x_iret cx dX3_far_85 hr (⟨by simp [kc, h_11], by rw [hr_th i2 hj] at h_51; rw [hcj, farV, (by simpa using h_51 : B 0 j = false), hla, hlb]; rfl, ⟨ad, mc, el, ia, ra, _, _, _, ro, kl, kn, row2, P, f, rfl, rfl, hF⟩⟩) (Nat.le_of_ble_eq_true rfl) (Nat.le_of_ble_eq_true rfl)
      · skip
        refine r_iconst (v := -1) cx dX3_far_59 (by decide) ?_
        exact x_iret cx dX3_far_60 hr (⟨by simp [kc, h_11], by rw [hcj, farV]; rw [roI_none (fun l hl9 => ⟨(unF_some hl9).2.1, (unF_some hl9).2.2.1⟩) h_56, hla]; cases B 0 j <;> rfl, ⟨ad, mc, el, ia, ra, _, _, _, ro, kl, kn, row, P, f, rfl, rfl, hF⟩⟩) (Nat.le_of_ble_eq_true rfl) (Nat.le_of_ble_eq_true rfl)
  · skip
    exact th_IO cx "no such interview" 106 hl htab dX3_far_14 dX3_far_17 dX3_far_18 dX3_far_20 dX3_far_23 (by decide) ⟨Nat.le_of_ble_eq_true rfl, Nat.le_of_ble_eq_true rfl, Nat.le_of_ble_eq_true rfl, Nat.le_of_ble_eq_true rfl⟩ ⟨Nat.le_of_ble_eq_true rfl, Nat.le_of_ble_eq_true rfl⟩ (⟨⟨rfl, by simp [kc, h_11]⟩, rfl⟩)
set_option maxHeartbeats 4000000 in
set_option maxRecDepth 100000 in
theorem c_sound (l : Launch) (hl : l.stackTraces = false) (g : q_G) (N : Nat → Nat) (A : Nat → Nat → Int32) (B : Nat → Nat → Bool) (L : Nat → Nat → Int64) (wm ws : va_W) (a0 : Nat) (hI : inv N A B L) (hR : cR g a0 N A B L wm ws) (x1 : Int32) : MetX l g yX3_sound cX3_sound 2 (some .int) ({ frames := 6, cells := 4, slots := 250, locals := 90 } : Room) [.ref a0, .int x1] (ws) (q_Qi g (fun r w => (kc (!inR x1 8) (decide (N 0 = 8)) false) = 0 ∧ r = nI (N 0 + 1) ∧ cR g a0 (va_up N 0 (N 0 + 1)) (va_up A 0 (upd (A 0) (N 0) x1)) B (L) wm w)) (peS (kc (!inR x1 8) (decide (N 0 = 8)) false) ws) := by
  refine q_metX (own := RX3) (by decide +kernel) rfl (Nat.le_of_ble_eq_true rfl) (fun p e s m args below meth c cx hr htab => ?_)
  obtain ⟨ad, mc, el, ia, ra, th, dr, dl, ro, kl, kn, row, P, f, rfl, rfl, hF⟩ := hR
  have hiv := cF_iv (ad := ad) (mc := mc) (row := row) (wm := wm) hI hF
  have hrl := cF_rl (ad := ad) (mc := mc) (row := row) (wm := wm) hI hF
  have hqu := cF_qu (ad := ad) (mc := mc) (row := row) (wm := wm) hI hF
  obtain ⟨⟨rfl, rfl, rfl⟩, f2, f3, f4, f5, f6, f7, f8, f9, f10, f11, f12, f13⟩ := id hF
  obtain ⟨⟨i1, i2, i3, i4⟩, j2, j3, j4, j5, j6, j7, j8, j9, j10, j11⟩ := id hI
  refine r_lv (lv2 := [(0, .ref (ad 8)), (1, .int x1)]) (q_pk [0, 1] rfl) ?_
  refine r_iload_n cx dX3_sound_0 rfl rfl ?_
  refine r_bipush (v := nI 8) cx dX3_sound_1 (by decide) ?_
  refine k_X3_57 cx (c_isOutside l g _ x1 (8) (by omega)) dX3_sound_3 ⟨Nat.le_of_ble_eq_true rfl, Nat.le_of_ble_eq_true rfl⟩ ⟨Nat.le_of_ble_eq_true rfl, Nat.le_of_ble_eq_true rfl⟩ rfl rfl (Nat.le_of_ble_eq_true rfl) (fun r w hp => ?_)
  obtain ⟨rfl, rfl⟩ := hp
  refine r_ifeqb (tgt := 19) cx dX3_sound_6 (by decide) (fun h_6 => ?_) (fun h_6 => ?_)
  · skip
    refine r_aload_n cx dX3_sound_19 rfl rfl ?_
    refine gf_X3_48 cx dX3_sound_20 8 rfl rfl ?_
    refine r_bipush (v := nI 8) cx dX3_sound_23 (by decide) ?_
    refine r_icmpltN (tgt := 38) cx (by omega) (by omega) dX3_sound_25 (by decide) (fun h_25 => ?_) (fun h_25 => ?_)
    · skip
      obtain ⟨j, hj, rfl, hcj⟩ := inR_ix (x := x1) (n := 8) (by simpa using h_6) (by omega)
      have hbn : num (drL (A 0) (N 0)) < 43046721 := num_bd (drL_snd (fun k hk => (j2 k hk).1)) (by rw [drL_len]; exact i1)
      refine r_aload_n cx dX3_sound_38 rfl rfl ?_
      refine r_aload_n cx dX3_sound_39 rfl rfl ?_
      refine gf_X3_44 cx dX3_sound_40 8 rfl rfl ?_
      refine r_bipush (v := nI 9) cx dX3_sound_43 (by decide) ?_
      first | refine r_imulN cx dX3_sound_45 ?_ | refine r_imul cx dX3_sound_45 ?_
      refine r_iload_n cx dX3_sound_46 rfl rfl ?_
      first | refine r_iaddN cx dX3_sound_47 ?_ | refine r_iadd cx dX3_sound_47 ?_
      refine r_iconst (v := nI 1) cx dX3_sound_48 (by decide) ?_
      first | refine r_iaddN cx dX3_sound_49 ?_ | refine r_iadd cx dX3_sound_49 ?_
      refine pf_X3_44 cx dX3_sound_50 8 rfl (Nat.le_of_ble_eq_true rfl) ?_
      refine r_aload_n cx dX3_sound_53 rfl rfl ?_
      refine r_dup cx dX3_sound_54 rfl ?_
      refine gf_X3_48 cx dX3_sound_55 8 rfl rfl ?_
      refine r_iconst (v := nI 1) cx dX3_sound_58 (by decide) ?_
      first | refine r_iaddN cx dX3_sound_59 ?_ | refine r_iadd cx dX3_sound_59 ?_
      refine pf_X3_48 cx dX3_sound_60 8 rfl (Nat.le_of_ble_eq_true rfl) ?_
      refine r_aload_n cx dX3_sound_63 rfl rfl ?_
      refine gf_X3_48 cx dX3_sound_64 8 rfl rfl ?_
      exact x_iret cx dX3_sound_67 hr (⟨by rw [decide_eq_false (by omega : ¬ N 0 = 8)]; simp at h_6; simp [kc, h_6], rfl, ⟨ad, mc, el, ia, ra, _, _, _, ro, kl, kn, row, P, f, rfl, rfl, ⟨⟨rfl, (congrArg nI (by rw [show (va_up N 0 (N 0 + 1)) 0 = N 0 + 1 from rfl, drL_succ, num_snoc, show (va_up A 0 (upd (A 0) (N 0) (nI j))) 0 = upd (A 0) (N 0) (nI j) from rfl, pk_us, hcj, drL_cong (d2 := A 0) (fun i hi => pk_un (by omega))]; omega)), rfl⟩, f2, (fun w hw => (f3 w hw).trans (drw_A (fun i _ => ⟨rfl, rfl, rfl⟩))), f4, f5, f6, f7, f8, f9, f10, f11, f12, f13⟩⟩⟩) (Nat.le_of_ble_eq_true rfl) (Nat.le_of_ble_eq_true rfl)
    · skip
      exact th_IS cx "the draft has 8 sounds" 70 hl htab dX3_sound_28 dX3_sound_31 dX3_sound_32 dX3_sound_34 dX3_sound_37 (by decide) ⟨Nat.le_of_ble_eq_true rfl, Nat.le_of_ble_eq_true rfl, Nat.le_of_ble_eq_true rfl, Nat.le_of_ble_eq_true rfl⟩ ⟨Nat.le_of_ble_eq_true rfl, Nat.le_of_ble_eq_true rfl⟩ (⟨Or.inr ⟨rfl, by rw [decide_eq_true (by omega : N 0 = 8)]; simp at h_6; simp [kc, h_6]⟩, rfl⟩)
  · skip
    exact th_IO cx "no such sound" 63 hl htab dX3_sound_9 dX3_sound_12 dX3_sound_13 dX3_sound_15 dX3_sound_18 (by decide) ⟨Nat.le_of_ble_eq_true rfl, Nat.le_of_ble_eq_true rfl, Nat.le_of_ble_eq_true rfl, Nat.le_of_ble_eq_true rfl⟩ ⟨Nat.le_of_ble_eq_true rfl, Nat.le_of_ble_eq_true rfl⟩ (⟨Or.inl ⟨rfl, by simp [kc, h_6]⟩, rfl⟩)
set_option maxHeartbeats 4000000 in
set_option maxRecDepth 100000 in
theorem c_setRoot (l : Launch) (hl : l.stackTraces = false) (g : q_G) (N : Nat → Nat) (A : Nat → Nat → Int32) (B : Nat → Nat → Bool) (L : Nat → Nat → Int64) (wm ws : va_W) (a0 : Nat) (hI : inv N A B L) (hR : cR g a0 N A B L wm ws) (x1 : Int32) : MetX l g yX3_setRoot cX3_setRoot 3 (some .int) ({ frames := 6, cells := 4, slots := 250, locals := 90 } : Room) [.ref a0, .int x1] (ws) (q_Qi g (fun r w => (kc (!inR x1 4) (decide (N 0 = 0)) false) = 0 ∧ r = A 6 (c32 x1) ∧ cR g a0 (va_up N 0 0) (va_up A 6 (upd (A 6) (c32 x1) (nI (num (drL (A 0) (N 0)))))) B (L) wm w)) (peS (kc (!inR x1 4) (decide (N 0 = 0)) false) ws) := by
  refine q_metX (own := RX3) (by decide +kernel) rfl (Nat.le_of_ble_eq_true rfl) (fun p e s m args below meth c cx hr htab => ?_)
  obtain ⟨ad, mc, el, ia, ra, th, dr, dl, ro, kl, kn, row, P, f, rfl, rfl, hF⟩ := hR
  have hiv := cF_iv (ad := ad) (mc := mc) (row := row) (wm := wm) hI hF
  have hrl := cF_rl (ad := ad) (mc := mc) (row := row) (wm := wm) hI hF
  have hqu := cF_qu (ad := ad) (mc := mc) (row := row) (wm := wm) hI hF
  obtain ⟨⟨rfl, rfl, rfl⟩, f2, f3, f4, f5, f6, f7, f8, f9, f10, f11, f12, f13⟩ := id hF
  obtain ⟨⟨i1, i2, i3, i4⟩, j2, j3, j4, j5, j6, j7, j8, j9, j10, j11⟩ := id hI
  refine r_lv (lv2 := [(0, .ref (ad 8)), (1, .int x1)]) (q_pk [0, 1] rfl) ?_
  refine r_iload_n cx dX3_setRoot_0 rfl rfl ?_
  refine r_iconst (v := nI 4) cx dX3_setRoot_1 (by decide) ?_
  refine k_X3_57 cx (c_isOutside l g _ x1 (4) (by omega)) dX3_setRoot_2 ⟨Nat.le_of_ble_eq_true rfl, Nat.le_of_ble_eq_true rfl⟩ ⟨Nat.le_of_ble_eq_true rfl, Nat.le_of_ble_eq_true rfl⟩ rfl rfl (Nat.le_of_ble_eq_true rfl) (fun r w hp => ?_)
  obtain ⟨rfl, rfl⟩ := hp
  refine r_ifeqb (tgt := 18) cx dX3_setRoot_5 (by decide) (fun h_5 => ?_) (fun h_5 => ?_)
  · skip
    refine r_aload_n cx dX3_setRoot_18 rfl rfl ?_
    refine gf_X3_48 cx dX3_setRoot_19 8 rfl rfl ?_
    refine r_ifneN (tgt := 35) cx (by omega) dX3_setRoot_22 (by decide) (fun h_22 => ?_) (fun h_22 => ?_)
    · skip
      obtain ⟨j, hj, rfl, hcj⟩ := inR_ix (x := x1) (n := 4) (by simpa using h_5) (by omega)
      refine r_aload_n cx dX3_setRoot_35 rfl rfl ?_
      refine gf_X3_22 cx dX3_setRoot_36 8 rfl rfl ?_
      refine r_iload_n cx dX3_setRoot_39 rfl rfl ?_
      first | refine r_ialdN cx 4 0 dX3_setRoot_40 rfl rfl (by omega) (by omega) ?_ | refine r_iald cx 4 0 dX3_setRoot_40 rfl rfl (by omega) ?_
      refine r_istore_n cx dX3_setRoot_41 rfl (by decide) rfl ?_
      refine r_aload_n cx dX3_setRoot_42 rfl rfl ?_
      refine gf_X3_22 cx dX3_setRoot_43 8 rfl rfl ?_
      refine r_iload_n cx dX3_setRoot_46 rfl rfl ?_
      refine r_aload_n cx dX3_setRoot_47 rfl rfl ?_
      refine k_X3_88 cx (c_takeDraft2 l g _ 8 (ad 8) _ _ _ _ _ _ _ _ _ _ rfl) dX3_setRoot_48 8 rfl ⟨Nat.le_of_ble_eq_true rfl, Nat.le_of_ble_eq_true rfl⟩ ⟨Nat.le_of_ble_eq_true rfl, Nat.le_of_ble_eq_true rfl⟩ rfl rfl (Nat.le_of_ble_eq_true rfl) (fun r w hp => ?_)
      obtain ⟨rfl, rfl⟩ := hp
      first | refine r_iastN cx 4 0 dX3_setRoot_51 rfl rfl (by omega) (by omega) ?_ | refine r_iast cx 4 0 dX3_setRoot_51 rfl rfl (by omega) ?_
      refine r_iload_n cx dX3_setRoot_52 rfl rfl ?_
      exact x_iret cx dX3_setRoot_53 hr (⟨by rw [decide_eq_false h_22]; simp at h_5; simp [kc, h_5], by rw [hcj]; exact f2 j hj, by rw [hcj]; exact ⟨ad, mc, el, ia, ra, _, _, _, upd ro j (nI (num (drL (A 0) (N 0)))), kl, kn, row, P, f, rfl, rfl, ⟨⟨rfl, rfl, rfl⟩, fun w hw => by
    show upd ro j _ w = upd (A 6) j _ w
    by_cases e9 : w = j
    · rw [e9, pk_us, pk_us]
    · rw [pk_un e9, pk_un e9]; exact f2 w hw, (fun w hw => (f3 w hw).trans (drw_A (fun i _ => ⟨rfl, rfl, rfl⟩))), f4, f5, f6, f7, f8, f9, f10, f11, f12, f13⟩⟩⟩) (Nat.le_of_ble_eq_true rfl) (Nat.le_of_ble_eq_true rfl)
    · skip
      exact th_IS cx "the draft is empty" 104 hl htab dX3_setRoot_25 dX3_setRoot_28 dX3_setRoot_29 dX3_setRoot_31 dX3_setRoot_34 (by decide) ⟨Nat.le_of_ble_eq_true rfl, Nat.le_of_ble_eq_true rfl, Nat.le_of_ble_eq_true rfl, Nat.le_of_ble_eq_true rfl⟩ ⟨Nat.le_of_ble_eq_true rfl, Nat.le_of_ble_eq_true rfl⟩ (⟨Or.inr ⟨rfl, by rw [decide_eq_true h_22]; simp at h_5; simp [kc, h_5]⟩, rfl⟩)
  · skip
    exact th_IO cx "no such word" 102 hl htab dX3_setRoot_8 dX3_setRoot_11 dX3_setRoot_12 dX3_setRoot_14 dX3_setRoot_17 (by decide) ⟨Nat.le_of_ble_eq_true rfl, Nat.le_of_ble_eq_true rfl, Nat.le_of_ble_eq_true rfl, Nat.le_of_ble_eq_true rfl⟩ ⟨Nat.le_of_ble_eq_true rfl, Nat.le_of_ble_eq_true rfl⟩ (⟨Or.inl ⟨rfl, by simp [kc, h_5]⟩, rfl⟩)
set_option maxHeartbeats 4000000 in
set_option maxRecDepth 100000 in
theorem c_copy (l : Launch) (hl : l.stackTraces = false) (g : q_G) (N : Nat → Nat) (A : Nat → Nat → Int32) (B : Nat → Nat → Bool) (L : Nat → Nat → Int64) (wm ws : va_W) (a0 : Nat) (hI : inv N A B L) (hR : cR g a0 N A B L wm ws) (x1 : Int32) : MetX l g yX3_copy cX3_copy 2 (some .int) ({ frames := 6, cells := 4, slots := 250, locals := 90 } : Room) [.ref a0, .int x1] (ws) (q_Qi g (fun r w => (kc (!inR x1 3) false false) = 0 ∧ r = nI (bcL (lN (thS (B 0) (N 1)))) ∧ cR g a0 (N) (A) B (va_up L 1 (vp_updL (L 1) (c32 x1) (lN (thS (B 0) (N 1))))) wm w)) (pe1 (kc (!inR x1 3) false false) ws) := by
  refine q_metX (own := RX3) (by decide +kernel) rfl (Nat.le_of_ble_eq_true rfl) (fun p e s m args below meth c cx hr htab => ?_)
  obtain ⟨ad, mc, el, ia, ra, th, dr, dl, ro, kl, kn, row, P, f, rfl, rfl, hF⟩ := hR
  have hiv := cF_iv (ad := ad) (mc := mc) (row := row) (wm := wm) hI hF
  have hrl := cF_rl (ad := ad) (mc := mc) (row := row) (wm := wm) hI hF
  have hqu := cF_qu (ad := ad) (mc := mc) (row := row) (wm := wm) hI hF
  obtain ⟨⟨rfl, rfl, rfl⟩, f2, f3, f4, f5, f6, f7, f8, f9, f10, f11, f12, f13⟩ := id hF
  obtain ⟨⟨i1, i2, i3, i4⟩, j2, j3, j4, j5, j6, j7, j8, j9, j10, j11⟩ := id hI
  refine r_lv (lv2 := [(0, .ref (ad 8)), (1, .int x1)]) (q_pk [0, 1] rfl) ?_
  refine r_iload_n cx dX3_copy_0 rfl rfl ?_
  refine r_iconst (v := nI 3) cx dX3_copy_1 (by decide) ?_
  refine k_X3_57 cx (c_isOutside l g _ x1 (3) (by omega)) dX3_copy_2 ⟨Nat.le_of_ble_eq_true rfl, Nat.le_of_ble_eq_true rfl⟩ ⟨Nat.le_of_ble_eq_true rfl, Nat.le_of_ble_eq_true rfl⟩ rfl rfl (Nat.le_of_ble_eq_true rfl) (fun r w hp => ?_)
  obtain ⟨rfl, rfl⟩ := hp
  refine r_ifeqb (tgt := 18) cx dX3_copy_5 (by decide) (fun h_5 => ?_) (fun h_5 => ?_)
  · skip
    obtain ⟨j, hj, rfl, hcj⟩ := inR_ix (x := x1) (n := 3) (by simpa using h_5) (by omega)
    refine r_aload_n cx dX3_copy_18 rfl rfl ?_
    refine gf_X3_29 cx dX3_copy_19 8 rfl rfl ?_
    refine r_iload_n cx dX3_copy_22 rfl rfl ?_
    refine r_aload_n cx dX3_copy_23 rfl rfl ?_
    refine gf_X3_40 cx dX3_copy_24 8 rfl rfl ?_
    first | refine r_lastN cx 2 1 dX3_copy_27 rfl rfl (by omega) (by omega) ?_ | refine r_last cx 2 1 dX3_copy_27 rfl rfl (by omega) ?_
    refine r_aload_n cx dX3_copy_28 rfl rfl ?_
    refine gf_X3_40 cx dX3_copy_29 8 rfl rfl ?_
    refine k_X3_154 cx (c_bitCount l g _ _ (thS_lt i2)) dX3_copy_32 ⟨Nat.le_of_ble_eq_true rfl, Nat.le_of_ble_eq_true rfl⟩ ⟨Nat.le_of_ble_eq_true rfl, Nat.le_of_ble_eq_true rfl⟩ rfl rfl (Nat.le_of_ble_eq_true rfl) (fun r w hp => ?_)
    obtain ⟨rfl, rfl⟩ := hp
    exact x_iret cx dX3_copy_35 hr (⟨by simp [kc, h_5], by rw [bcL_lN (thS_lt i2)], by rw [hcj]; exact ⟨ad, mc, el, ia, ra, _, _, _, ro, kl, vp_updL kn j (lN (thS (B 0) (N 1))), row, P, f, rfl, rfl, ⟨⟨rfl, rfl, rfl⟩, f2, f3, fun w hw => by
    show vp_updL kn j _ w = vp_updL (L 1) j _ w
    by_cases e9 : w = j
    · rw [e9, pk_uLs, pk_uLs]
    · rw [pk_uLn e9, pk_uLn e9]; exact f4 w hw, f5, f6, f7, f8, f9, f10, f11, f12, f13⟩⟩⟩) (Nat.le_of_ble_eq_true rfl) (Nat.le_of_ble_eq_true rfl)
  · skip
    exact th_IO cx "no such school" 199 hl htab dX3_copy_8 dX3_copy_11 dX3_copy_12 dX3_copy_14 dX3_copy_17 (by decide) ⟨Nat.le_of_ble_eq_true rfl, Nat.le_of_ble_eq_true rfl, Nat.le_of_ble_eq_true rfl, Nat.le_of_ble_eq_true rfl⟩ ⟨Nat.le_of_ble_eq_true rfl, Nat.le_of_ble_eq_true rfl⟩ (⟨⟨rfl, by simp [kc, h_5]⟩, rfl⟩)
set_option maxHeartbeats 4000000 in
set_option maxRecDepth 100000 in
theorem c_tell (l : Launch) (hl : l.stackTraces = false) (g : q_G) (N : Nat → Nat) (A : Nat → Nat → Int32) (B : Nat → Nat → Bool) (L : Nat → Nat → Int64) (wm ws : va_W) (a0 : Nat) (hI : inv N A B L) (hR : cR g a0 N A B L wm ws) (x1 : Int32) : MetX l g yX3_tell cX3_tell 4 (some .int) ({ frames := 6, cells := 4, slots := 250, locals := 90 } : Room) [.ref a0, .int x1] (ws) (q_Qi g (fun r w => (kc (!inR x1 3) false false) = 0 ∧ r = nI (bcL (L 1 (c32 x1) &&& (lN (thS (B 0) (N 1)) ^^^ (-1)))) ∧ cR g a0 (N) (A) B (va_up L 1 (vp_updL (L 1) (c32 x1) (L 1 (c32 x1) &&& lN (thS (B 0) (N 1))))) wm w)) (pe1 (kc (!inR x1 3) false false) ws) := by
  refine q_metX (own := RX3) (by decide +kernel) rfl (Nat.le_of_ble_eq_true rfl) (fun p e s m args below meth c cx hr htab => ?_)
  obtain ⟨ad, mc, el, ia, ra, th, dr, dl, ro, kl, kn, row, P, f, rfl, rfl, hF⟩ := hR
  have hiv := cF_iv (ad := ad) (mc := mc) (row := row) (wm := wm) hI hF
  have hrl := cF_rl (ad := ad) (mc := mc) (row := row) (wm := wm) hI hF
  have hqu := cF_qu (ad := ad) (mc := mc) (row := row) (wm := wm) hI hF
  obtain ⟨⟨rfl, rfl, rfl⟩, f2, f3, f4, f5, f6, f7, f8, f9, f10, f11, f12, f13⟩ := id hF
  obtain ⟨⟨i1, i2, i3, i4⟩, j2, j3, j4, j5, j6, j7, j8, j9, j10, j11⟩ := id hI
  refine r_lv (lv2 := [(0, .ref (ad 8)), (1, .int x1)]) (q_pk [0, 1] rfl) ?_
  refine r_iload_n cx dX3_tell_0 rfl rfl ?_
  refine r_iconst (v := nI 3) cx dX3_tell_1 (by decide) ?_
  refine k_X3_57 cx (c_isOutside l g _ x1 (3) (by omega)) dX3_tell_2 ⟨Nat.le_of_ble_eq_true rfl, Nat.le_of_ble_eq_true rfl⟩ ⟨Nat.le_of_ble_eq_true rfl, Nat.le_of_ble_eq_true rfl⟩ rfl rfl (Nat.le_of_ble_eq_true rfl) (fun r w hp => ?_)
  obtain ⟨rfl, rfl⟩ := hp
  refine r_ifeqb (tgt := 18) cx dX3_tell_5 (by decide) (fun h_5 => ?_) (fun h_5 => ?_)
  · skip
    obtain ⟨j, hj, rfl, hcj⟩ := inR_ix (x := x1) (n := 3) (by simpa using h_5) (by omega)
    obtain ⟨K, hK, hKe⟩ := j10 j hj
    have hkn : kn j = lN K := (f4 j hj).trans hKe
    refine r_aload_n cx dX3_tell_18 rfl rfl ?_
    refine gf_X3_29 cx dX3_tell_19 8 rfl rfl ?_
    refine r_iload_n cx dX3_tell_22 rfl rfl ?_
    first | refine r_laldN cx 2 1 dX3_tell_23 rfl rfl (by omega) (by omega) ?_ | refine r_lald cx 2 1 dX3_tell_23 rfl rfl (by omega) ?_
    refine r_eql hkn ?_
    refine r_aload_n cx dX3_tell_24 rfl rfl ?_
    refine gf_X3_40 cx dX3_tell_25 8 rfl rfl ?_
    refine r_ldc2 cx dX3_tell_28 tb_315 ?_
    refine r_lxor cx dX3_tell_31 ?_
    refine r_land cx dX3_tell_32 ?_
    refine r_eql (andn _ _) ?_
    refine r_lstore_n cx dX3_tell_33 rfl (by decide) rfl ?_
    refine r_aload_n cx dX3_tell_34 rfl rfl ?_
    refine gf_X3_29 cx dX3_tell_35 8 rfl rfl ?_
    refine r_iload_n cx dX3_tell_38 rfl rfl ?_
    refine r_dup2 cx dX3_tell_39 rfl rfl ?_
    first | refine r_laldN cx 2 1 dX3_tell_40 rfl rfl (by omega) (by omega) ?_ | refine r_lald cx 2 1 dX3_tell_40 rfl rfl (by omega) ?_
    refine r_aload_n cx dX3_tell_41 rfl rfl ?_
    refine gf_X3_40 cx dX3_tell_42 8 rfl rfl ?_
    refine r_land cx dX3_tell_45 ?_
    first | refine r_lastN cx 2 1 dX3_tell_46 rfl rfl (by omega) (by omega) ?_ | refine r_last cx 2 1 dX3_tell_46 rfl rfl (by omega) ?_
    refine r_lload_n cx dX3_tell_47 rfl rfl ?_
    refine k_X3_154 cx (c_bitCount l g _ _ (andn_lt hK)) dX3_tell_48 ⟨Nat.le_of_ble_eq_true rfl, Nat.le_of_ble_eq_true rfl⟩ ⟨Nat.le_of_ble_eq_true rfl, Nat.le_of_ble_eq_true rfl⟩ rfl rfl (Nat.le_of_ble_eq_true rfl) (fun r w hp => ?_)
    obtain ⟨rfl, rfl⟩ := hp
    exact x_iret cx dX3_tell_51 hr (⟨by simp [kc, h_5], by rw [hcj, hKe, andn, bcL_lN (andn_lt hK)], by rw [hcj]; exact ⟨ad, mc, el, ia, ra, _, _, _, ro, kl, vp_updL kn j (kn j &&& lN (thS (B 0) (N 1))), row, P, f, rfl, rfl, ⟨⟨rfl, rfl, rfl⟩, f2, f3, fun w hw => by
    show vp_updL kn j _ w = vp_updL (L 1) j _ w
    by_cases e9 : w = j
    · rw [e9, pk_uLs, pk_uLs, f4 j hj]
    · rw [pk_uLn e9, pk_uLn e9]; exact f4 w hw, f5, f6, f7, f8, f9, f10, f11, f12, f13⟩⟩⟩) (Nat.le_of_ble_eq_true rfl) (Nat.le_of_ble_eq_true rfl)
  · skip
    exact th_IO cx "no such school" 199 hl htab dX3_tell_8 dX3_tell_11 dX3_tell_12 dX3_tell_14 dX3_tell_17 (by decide) ⟨Nat.le_of_ble_eq_true rfl, Nat.le_of_ble_eq_true rfl, Nat.le_of_ble_eq_true rfl, Nat.le_of_ble_eq_true rfl⟩ ⟨Nat.le_of_ble_eq_true rfl, Nat.le_of_ble_eq_true rfl⟩ (⟨⟨rfl, by simp [kc, h_5]⟩, rfl⟩)
end
section
def iR0 (g : q_G) (ad : Nat → Nat) (mc : Nat → Int32) (el sz : Nat → Nat) (th : Int64) (dr dl : Int32) (ro kl : Nat → Int32) (kn : Nat → Int64) (row : Nat → Int32) : va_W := [(ad 0, .inl (q_cI g, 9, .inl row)), (ad 1, .inr (3, [.ref (ad 0)])), (ad 2, .inl (q_cJ g, 3, .inr (.inl kn))), (ad 3, .inl (q_cI g, 4, .inl kl)), (ad 4, .inl (q_cI g, 4, .inl ro)), (ad 5, .inr (0, [.int (mc 2), .ref (el 2), .int (nI (sz 2))])), (ad 6, .inr (0, [.int (mc 1), .ref (el 1), .int (nI (sz 1))])), (ad 8, .inr (4, [.ref (ad 7), .ref (ad 6), .ref (ad 5), .ref (ad 4), .ref (ad 3), .ref (ad 2), .ref (ad 1), .long th, .int dr, .int dl]))]
theorem iF_o0 {g : q_G} {ad : Nat → Nat} {mc : Nat → Int32} {el sz : Nat → Nat} {th : Int64} {dr dl : Int32} {ro kl : Nat → Int32} {kn : Nat → Int64} {row : Nat → Int32} (Y : va_W) : (iF g ad mc el sz th dr dl ro kl kn row ++ Y).Perm ((ad 7, .inr (0, [.int (mc 0), .ref (el 0), .int (nI (sz 0))])) :: (iR0 g ad mc el sz th dr dl ro kl kn row ++ Y)) := List.perm_middle (l₁ := ([(ad 0, .inl (q_cI g, 9, .inl row)), (ad 1, .inr (3, [.ref (ad 0)])), (ad 2, .inl (q_cJ g, 3, .inr (.inl kn))), (ad 3, .inl (q_cI g, 4, .inl kl)), (ad 4, .inl (q_cI g, 4, .inl ro)), (ad 5, .inr (0, [.int (mc 2), .ref (el 2), .int (nI (sz 2))])), (ad 6, .inr (0, [.int (mc 1), .ref (el 1), .int (nI (sz 1))]))] : va_W)) (l₂ := ((ad 8, .inr (4, [.ref (ad 7), .ref (ad 6), .ref (ad 5), .ref (ad 4), .ref (ad 3), .ref (ad 2), .ref (ad 1), .long th, .int dr, .int dl])) :: Y : va_W)) (a := ((ad 7, .inr (0, [.int (mc 0), .ref (el 0), .int (nI (sz 0))])) : Nat × va_E))
theorem out0 {g : q_G} {ad : Nat → Nat} {mc : Nat → Int32} {el sz : Nat → Nat} {th : Int64} {dr dl : Int32} {ro kl : Nat → Int32} {kn : Nat → Int64} {row : Nat → Int32} (wm Y : va_W) : (iF g ad mc el sz th dr dl ro kl kn row ++ (wm ++ Y)).Perm ((ad 7, .inr (0, [.int (mc 0), .ref (el 0), .int (nI (sz 0))])) :: ((iR0 g ad mc el sz th dr dl ro kl kn row ++ wm) ++ Y)) := by
  have h := iF_o0 (g := g) (ad := ad) (mc := mc) (el := el) (sz := sz) (th := th) (dr := dr) (dl := dl) (ro := ro) (kl := kl) (kn := kn) (row := row) (wm ++ Y)
  rwa [← List.append_assoc (iR0 g ad mc el sz th dr dl ro kl kn row)] at h
def iR1 (g : q_G) (ad : Nat → Nat) (mc : Nat → Int32) (el sz : Nat → Nat) (th : Int64) (dr dl : Int32) (ro kl : Nat → Int32) (kn : Nat → Int64) (row : Nat → Int32) : va_W := [(ad 0, .inl (q_cI g, 9, .inl row)), (ad 1, .inr (3, [.ref (ad 0)])), (ad 2, .inl (q_cJ g, 3, .inr (.inl kn))), (ad 3, .inl (q_cI g, 4, .inl kl)), (ad 4, .inl (q_cI g, 4, .inl ro)), (ad 5, .inr (0, [.int (mc 2), .ref (el 2), .int (nI (sz 2))])), (ad 7, .inr (0, [.int (mc 0), .ref (el 0), .int (nI (sz 0))])), (ad 8, .inr (4, [.ref (ad 7), .ref (ad 6), .ref (ad 5), .ref (ad 4), .ref (ad 3), .ref (ad 2), .ref (ad 1), .long th, .int dr, .int dl]))]
theorem iF_o1 {g : q_G} {ad : Nat → Nat} {mc : Nat → Int32} {el sz : Nat → Nat} {th : Int64} {dr dl : Int32} {ro kl : Nat → Int32} {kn : Nat → Int64} {row : Nat → Int32} (Y : va_W) : (iF g ad mc el sz th dr dl ro kl kn row ++ Y).Perm ((ad 6, .inr (0, [.int (mc 1), .ref (el 1), .int (nI (sz 1))])) :: (iR1 g ad mc el sz th dr dl ro kl kn row ++ Y)) := List.perm_middle (l₁ := ([(ad 0, .inl (q_cI g, 9, .inl row)), (ad 1, .inr (3, [.ref (ad 0)])), (ad 2, .inl (q_cJ g, 3, .inr (.inl kn))), (ad 3, .inl (q_cI g, 4, .inl kl)), (ad 4, .inl (q_cI g, 4, .inl ro)), (ad 5, .inr (0, [.int (mc 2), .ref (el 2), .int (nI (sz 2))]))] : va_W)) (l₂ := ((ad 7, .inr (0, [.int (mc 0), .ref (el 0), .int (nI (sz 0))])) :: (ad 8, .inr (4, [.ref (ad 7), .ref (ad 6), .ref (ad 5), .ref (ad 4), .ref (ad 3), .ref (ad 2), .ref (ad 1), .long th, .int dr, .int dl])) :: Y : va_W)) (a := ((ad 6, .inr (0, [.int (mc 1), .ref (el 1), .int (nI (sz 1))])) : Nat × va_E))
theorem out1 {g : q_G} {ad : Nat → Nat} {mc : Nat → Int32} {el sz : Nat → Nat} {th : Int64} {dr dl : Int32} {ro kl : Nat → Int32} {kn : Nat → Int64} {row : Nat → Int32} (wm Y : va_W) : (iF g ad mc el sz th dr dl ro kl kn row ++ (wm ++ Y)).Perm ((ad 6, .inr (0, [.int (mc 1), .ref (el 1), .int (nI (sz 1))])) :: ((iR1 g ad mc el sz th dr dl ro kl kn row ++ wm) ++ Y)) := by
  have h := iF_o1 (g := g) (ad := ad) (mc := mc) (el := el) (sz := sz) (th := th) (dr := dr) (dl := dl) (ro := ro) (kl := kl) (kn := kn) (row := row) (wm ++ Y)
  rwa [← List.append_assoc (iR1 g ad mc el sz th dr dl ro kl kn row)] at h
def iR2 (g : q_G) (ad : Nat → Nat) (mc : Nat → Int32) (el sz : Nat → Nat) (th : Int64) (dr dl : Int32) (ro kl : Nat → Int32) (kn : Nat → Int64) (row : Nat → Int32) : va_W := [(ad 0, .inl (q_cI g, 9, .inl row)), (ad 1, .inr (3, [.ref (ad 0)])), (ad 2, .inl (q_cJ g, 3, .inr (.inl kn))), (ad 3, .inl (q_cI g, 4, .inl kl)), (ad 4, .inl (q_cI g, 4, .inl ro)), (ad 6, .inr (0, [.int (mc 1), .ref (el 1), .int (nI (sz 1))])), (ad 7, .inr (0, [.int (mc 0), .ref (el 0), .int (nI (sz 0))])), (ad 8, .inr (4, [.ref (ad 7), .ref (ad 6), .ref (ad 5), .ref (ad 4), .ref (ad 3), .ref (ad 2), .ref (ad 1), .long th, .int dr, .int dl]))]
theorem iF_o2 {g : q_G} {ad : Nat → Nat} {mc : Nat → Int32} {el sz : Nat → Nat} {th : Int64} {dr dl : Int32} {ro kl : Nat → Int32} {kn : Nat → Int64} {row : Nat → Int32} (Y : va_W) : (iF g ad mc el sz th dr dl ro kl kn row ++ Y).Perm ((ad 5, .inr (0, [.int (mc 2), .ref (el 2), .int (nI (sz 2))])) :: (iR2 g ad mc el sz th dr dl ro kl kn row ++ Y)) := List.perm_middle (l₁ := ([(ad 0, .inl (q_cI g, 9, .inl row)), (ad 1, .inr (3, [.ref (ad 0)])), (ad 2, .inl (q_cJ g, 3, .inr (.inl kn))), (ad 3, .inl (q_cI g, 4, .inl kl)), (ad 4, .inl (q_cI g, 4, .inl ro))] : va_W)) (l₂ := ((ad 6, .inr (0, [.int (mc 1), .ref (el 1), .int (nI (sz 1))])) :: (ad 7, .inr (0, [.int (mc 0), .ref (el 0), .int (nI (sz 0))])) :: (ad 8, .inr (4, [.ref (ad 7), .ref (ad 6), .ref (ad 5), .ref (ad 4), .ref (ad 3), .ref (ad 2), .ref (ad 1), .long th, .int dr, .int dl])) :: Y : va_W)) (a := ((ad 5, .inr (0, [.int (mc 2), .ref (el 2), .int (nI (sz 2))])) : Nat × va_E))
theorem out2 {g : q_G} {ad : Nat → Nat} {mc : Nat → Int32} {el sz : Nat → Nat} {th : Int64} {dr dl : Int32} {ro kl : Nat → Int32} {kn : Nat → Int64} {row : Nat → Int32} (wm Y : va_W) : (iF g ad mc el sz th dr dl ro kl kn row ++ (wm ++ Y)).Perm ((ad 5, .inr (0, [.int (mc 2), .ref (el 2), .int (nI (sz 2))])) :: ((iR2 g ad mc el sz th dr dl ro kl kn row ++ wm) ++ Y)) := by
  have h := iF_o2 (g := g) (ad := ad) (mc := mc) (el := el) (sz := sz) (th := th) (dr := dr) (dl := dl) (ro := ro) (kl := kl) (kn := kn) (row := row) (wm ++ Y)
  rwa [← List.append_assoc (iR2 g ad mc el sz th dr dl ro kl kn row)] at h
theorem new_out {Z wm : va_W} {q : Nat} {e : va_E} {P : List Nat} {f : Nat → va_E} (hq : q ∉ P) : ((q, e) :: (Z ++ (wm ++ va_pl P f))).Perm (Z ++ (wm ++ va_pl (q :: P) (va_up f q e))) := by
  rw [← List.append_assoc, ← List.append_assoc]
  exact pl_newX hq
theorem new_fresh {A : Nat → Prop} {Z wm : va_W} {q : Nat} {e : va_E} {P : List Nat} {f : Nat → va_E} (h : va_D A ((q, e) :: (Z ++ (wm ++ va_pl P f)))) : q ∉ P := by
  rw [← List.append_assoc] at h
  exact fresh_hd h
theorem P_in_A {A : Nat → Prop} {Z wm : va_W} {P : List Nat} {f : Nat → va_E} (h : va_D A (Z ++ (wm ++ va_pl P f))) {b : Nat} (hb : b ∈ P) : A b := by
  rw [← List.append_assoc] at h
  obtain ⟨k, hk⟩ := va_pl_get (X := Z ++ wm) (f := f) hb
  exact h.2 k _ hk
theorem eD_out {g : q_G} {p : Program} {m : MethodId} {c : Code} {cc : ByteArray} {nL : Nat} {s : State} {args : Array Value} {own : String} {meth : Method} (cx : q_cx g p m c cc nL s args own meth) : ¬ q_A g g.2.2.2.1 := by
  obtain ⟨cell, -, -, -, -, -, -, h⟩ := cx.2.1.2.2.2.2.2.2.2.2.1
  exact h
theorem las_tr {g : q_G} {el n : Nat} {a : Nat → Nat} {P L2 : List Nat} {f f2 : Nat → va_E} (h : laS g el n a P f) (tr : el ∈ P → 0 < n → el ∈ L2 ∧ f2 el = f el) : laS g el n a L2 f2 := by
  rcases h with h | ⟨h0, cap, hh, h1, h2, h3⟩
  · exact Or.inl h
  · obtain ⟨t1, t2⟩ := tr h1 h0
    exact Or.inr ⟨h0, cap, hh, t1, t2.trans h2, h3⟩
theorem las_in {g : q_G} {el n : Nat} {a : Nat → Nat} {P : List Nat} {f : Nat → va_E} (h : laS g el n a P f) (hn : 0 < n) : el ∈ P ∧ ∃ x, f el = .inl x := by
  rcases h with ⟨h, -⟩ | ⟨h0, cap, hh, h1, h2, h3⟩
  · omega
  · exact ⟨h1, _, h2⟩
theorem las_eD {g : q_G} {el n : Nat} {a : Nat → Nat} {P : List Nat} {f : Nat → va_E} (h : laS g el n a P f) (hn : n = 0) : el = g.2.2.2.1 := by
  rcases h with ⟨-, h⟩ | ⟨h0, -⟩
  · exact h
  · omega
theorem las_cong {g : q_G} {el n : Nat} {a b : Nat → Nat} {P : List Nat} {f : Nat → va_E} (h : laS g el n a P f) (e : ∀ i, i < n → a i = b i) : laS g el n b P f := by
  rcases h with h | ⟨h0, cap, hh, h1, h2, h3, h4, h5, h6⟩
  · exact Or.inl h
  · exact Or.inr ⟨h0, cap, hh, h1, h2, h3, h4, h5, fun i hi => by rw [← e i hi]; exact h6 i hi⟩
theorem las_push {g : q_G} {el n q : Nat} {e : va_E} {a : Nat → Nat} {P : List Nat} {f : Nat → va_E} (hq : q ∉ P) (h : laS g el n a P f) : laS g el n a (q :: P) (va_up f q e) := las_tr h (fun hp _ => ⟨List.mem_cons_of_mem _ hp, va_up_ne _ _ (fun z => by rw [z] at hp; exact hq hp)⟩)
/-- an object of the pool isn't a list's array -/
theorem ob_ne {g : q_G} {el n b : Nat} {a : Nat → Nat} {P : List Nat} {f : Nat → va_E} (heD : g.2.2.2.1 ∉ P) (h : laS g el n a P f) (hb : b ∈ P) (hf : ∃ x, f b = .inr x) : b ≠ el := fun z => by
  subst z
  rcases Nat.eq_zero_or_pos n with h0 | h0
  · rw [las_eD h h0] at hb
    exact heD hb
  · obtain ⟨-, x, hx⟩ := las_in h h0
    obtain ⟨y, hy⟩ := hf
    rw [hx] at hy
    cases hy
theorem ls3_grow {g : q_G} {ex ey ez nx ny nz ex2 : Nat} {ax ay az : Nat → Nat} {P L2 : List Nat} {f f2 : Nat → va_E} (heD : g.2.2.2.1 ∉ P) (hx : laS g ex nx ax P f) (hy : laS g ey ny ay P f) (hz : laS g ez nz az P f) (dxy : 0 < nx → 0 < ny → ex ≠ ey) (dxz : 0 < nx → 0 < nz → ex ≠ ez) (g1 : ∀ b, b ∈ P → b ≠ ex → b ∈ L2 ∧ f2 b = f b) (g5 : ex2 = ex ∨ ex2 ∉ P) : laS g ey ny ay L2 f2 ∧ laS g ez nz az L2 f2 ∧ (0 < ny → ex2 ≠ ey) ∧ (0 < nz → ex2 ≠ ez) := by
  have key : ∀ {eu nu : Nat} {au : Nat → Nat}, laS g eu nu au P f → (0 < nx → 0 < nu → ex ≠ eu) → 0 < nu → ex ≠ eu := by
    intro eu nu au hu du h0
    rcases Nat.eq_zero_or_pos nx with hn | hn
    · intro z
      have h1 := (las_in hu h0).1
      rw [← z, las_eD hx hn] at h1
      exact heD h1
    · exact du hn h0
  have k2 : ∀ {eu nu : Nat} {au : Nat → Nat}, laS g eu nu au P f → (0 < nx → 0 < nu → ex ≠ eu) → 0 < nu → ex2 ≠ eu := by
    intro eu nu au hu du h0 z
    rcases g5 with e | e
    · exact key hu du h0 (e ▸ z)
    · exact e (z ▸ (las_in hu h0).1)
  exact ⟨las_tr hy (fun hp h0 => g1 _ hp (fun z => key hy dxy h0 z.symm)), las_tr hz (fun hp h0 => g1 _ hp (fun z => key hz dxz h0 z.symm)), k2 hy dxy, k2 hz dxz⟩
theorem drw_new {A : Nat → Nat → Int32} {B : Nat → Nat → Bool} {n : Nat} {w x4 : Int32} {A2 : Nat → Nat → Int32} (h : ∀ i, i < n → A2 2 i = A 2 i ∧ A2 4 i = A 4 i ∧ A2 5 i = A 5 i) (h4 : A2 4 n = x4) (hw : w ≠ x4) : drw (hrS B) (fiS A2) (n + 1) w = drw (hrS B) (fiS A) n w := by
  have hz : ∀ p, mtc (hrS B) (fiS A2) w p n = false := fun p => by
    show (!B 0 n && (decide (A2 4 n = w) && decide (A2 2 n = p))) = false
    rw [h4, decide_eq_false (fun z => hw z.symm)]
    simp
  have hm : ∀ p, mst (hrS B) (fiS A2) (n + 1) w p = mst (hrS B) (fiS A2) n w p := fun p => by
    have hc : ∀ f, cntF (hrS B) (fiS A2) w p f (n + 1) = cntF (hrS B) (fiS A2) w p f n := fun f => cntF_no (by rw [hz]; rfl)
    have hk : ∀ k, mstF (hrS B) (fiS A2) (n + 1) w p k = mstF (hrS B) (fiS A2) n w p k := fun k => by
      induction k with
      | zero => rfl
      | succ k ih => rw [mstF, mstF, ih, hc]
    show (mstF (hrS B) (fiS A2) (n + 1) w p (n + 1)).1 = _
    rw [mstF_no (by rw [hz]; rfl), hk]
    rfl
  have e1 : drw (hrS B) (fiS A2) (n + 1) w = drw (hrS B) (fiS A2) n w := by
    unfold drw
    congr 1
    funext k
    exact hm (nI k)
  rw [e1]
  exact drw_A (fun i hi => h i hi)
theorem iv_of {g : q_G} {n : Nat} {A : Nat → Nat → Int32} {ad el ia sz : Nat → Nat} {mc : Nat → Int32} {th : Int64} {dr dl : Int32} {ro kl : Nat → Int32} {kn : Nat → Int64} {row : Nat → Int32} {P : List Nat} {f : Nat → va_E} {wm : va_W} (hn : n ≤ 40) (hs : sz 0 = n) (h8 : laS g (el 0) n ia P f) (h5 : ∀ i, i < n → ia i ∈ P ∧ f (ia i) = oI (lN (2 ^ i)) (A 1 i) (A 2 i) (A 3 i) (A 4 i) (A 5 i)) : ivV g (iF g ad mc el sz th dr dl ro kl kn row ++ (wm ++ va_pl P f)) (ad 8) (ad 7) th n ia (fun i => lN (2 ^ i)) (fiS A) := by
  subst hs
  refine ⟨⟨8, _, _, _, _, _, _, _, _, rfl⟩, ?_, hn, fun i hi => ?_⟩
  · rw [← List.append_assoc]
    refine las_lsV (ql := 7) (mc := mc 0) h8 hn ?_
    rw [List.append_assoc]
    rfl
  · obtain ⟨k, hk⟩ := pl_getX (X := iF g ad mc el sz th dr dl ro kl kn row ++ wm) (h5 i hi).1 (h5 i hi).2
    rw [List.append_assoc] at hk
    exact ⟨k, hk⟩
def ivA (A : Nat → Nat → Int32) (n : Nat) (x1 x2 x3 x4 fo : Int32) : Nat → Nat → Int32 := va_up (va_up (va_up (va_up (va_up A 1 (upd (A 1) n x1)) 2 (upd (A 2) n x2)) 3 (upd (A 3) n x3)) 4 (upd (A 4) n x4)) 5 (upd (A 5) n fo)
def rlA (A : Nat → Nat → Int32) (n : Nat) (x1 x2 x3 x4 x5 x6 : Int32) : Nat → Nat → Int32 := va_up (va_up (va_up (va_up (va_up (va_up A 7 (upd (A 7) n x1)) 8 (upd (A 8) n x2)) 9 (upd (A 9) n x3)) 10 (upd (A 10) n x4)) 11 (upd (A 11) n x5)) 12 (upd (A 12) n x6)
set_option maxHeartbeats 4000000 in
set_option maxRecDepth 100000 in
theorem c_quote (l : Launch) (hl : l.stackTraces = false) (g : q_G) (N : Nat → Nat) (A : Nat → Nat → Int32) (B : Nat → Nat → Bool) (L : Nat → Nat → Int64) (wm ws : va_W) (a0 : Nat) (hI : inv N A B L) (hR : cR g a0 N A B L wm ws) (x1 : Int32) : MetX l g yX3_quote cX3_quote 4 (some .int) ({ frames := 7, cells := 4, slots := 250, locals := 200 } : Room) [.ref a0, .int x1] (ws) (q_Qi g (fun r w => (kc (!inR x1 (N 1)) (B 0 (c32 x1) || decide (N 3 = 20)) false) = 0 ∧ r = nI (N 3) ∧ cR g a0 (va_up N 3 (N 3 + 1)) (va_up A 13 (upd (A 13) (N 3) x1)) B (L) wm w)) (peS (kc (!inR x1 (N 1)) (B 0 (c32 x1) || decide (N 3 = 20)) false) ws) := by
  refine q_metX (own := RX3) (by decide +kernel) rfl (Nat.le_of_ble_eq_true rfl) (fun p e s m args below meth c cx hr htab => ?_)
  obtain ⟨ad, mc, el, ia, ra, th, dr, dl, ro, kl, kn, row, P, f, rfl, rfl, hF⟩ := hR
  have hiv := cF_iv (ad := ad) (mc := mc) (row := row) (wm := wm) hI hF
  have hrl := cF_rl (ad := ad) (mc := mc) (row := row) (wm := wm) hI hF
  have hqu := cF_qu (ad := ad) (mc := mc) (row := row) (wm := wm) hI hF
  obtain ⟨⟨rfl, rfl, rfl⟩, f2, f3, f4, f5, f6, f7, f8, f9, f10, f11, f12, f13⟩ := id hF
  obtain ⟨⟨i1, i2, i3, i4⟩, j2, j3, j4, j5, j6, j7, j8, j9, j10, j11⟩ := id hI
  refine r_lv (lv2 := [(0, .ref (ad 8)), (1, .int x1)]) (q_pk [0, 1] rfl) ?_
  refine r_iload_n cx dX3_quote_0 rfl rfl ?_
  refine r_aload_n cx dX3_quote_1 rfl rfl ?_
  refine gf_X3_10 cx dX3_quote_2 8 rfl rfl ?_
  refine k_X3_80 cx (c_lsize l g _ (ad 7) (N 1) ia hiv.2.1) dX3_quote_5 7 rfl ⟨Nat.le_of_ble_eq_true rfl, Nat.le_of_ble_eq_true rfl⟩ ⟨Nat.le_of_ble_eq_true rfl, Nat.le_of_ble_eq_true rfl⟩ rfl rfl (Nat.le_of_ble_eq_true rfl) (fun r w hp => ?_)
  obtain ⟨rfl, rfl⟩ := hp
  refine k_X3_57 cx (c_isOutside l g _ x1 (N 1) (by omega)) dX3_quote_8 ⟨Nat.le_of_ble_eq_true rfl, Nat.le_of_ble_eq_true rfl⟩ ⟨Nat.le_of_ble_eq_true rfl, Nat.le_of_ble_eq_true rfl⟩ rfl rfl (Nat.le_of_ble_eq_true rfl) (fun r w hp => ?_)
  obtain ⟨rfl, rfl⟩ := hp
  refine r_ifeqb (tgt := 24) cx dX3_quote_11 (by decide) (fun h_11 => ?_) (fun h_11 => ?_)
  · skip
    obtain ⟨j, hj, rfl, hcj⟩ := inR_ix (x := x1) (n := N 1) (by simpa using h_11) (by omega)
    refine r_aload_n cx dX3_quote_24 rfl rfl ?_
    refine gf_X3_10 cx dX3_quote_25 8 rfl rfl ?_
    refine r_iload_n cx dX3_quote_28 rfl rfl ?_
    refine k_X3_108 cx (c_lget l g _ (ad 7) (N 1) j ia hiv.2.1 hj) dX3_quote_29 7 rfl ⟨Nat.le_of_ble_eq_true rfl, Nat.le_of_ble_eq_true rfl⟩ ⟨Nat.le_of_ble_eq_true rfl, Nat.le_of_ble_eq_true rfl⟩ rfl rfl (Nat.le_of_ble_eq_true rfl) (fun r w hp => ?_)
    obtain ⟨rfl, rfl⟩ := hp
    obtain ⟨qi, hqi⟩ := hiv.2.2.2 j hj
    refine r_eqv (y := .ref (ia j)) rfl ?_
    refine r_cast (ci := 1) cx tb_219 dX3_quote_32 qi rfl rfl hqi ?_
    refine r_astore_n cx dX3_quote_35 rfl (by decide) rfl ?_
    refine r_aload_n cx dX3_quote_36 rfl rfl ?_
    refine gf_X3_19 cx dX3_quote_37 8 rfl rfl ?_
    refine k_X3_80 cx (c_lsize l g _ (ad 5) (N 3) (fun k => ia (c32 (A 13 k))) hqu) dX3_quote_40 5 rfl ⟨Nat.le_of_ble_eq_true rfl, Nat.le_of_ble_eq_true rfl⟩ ⟨Nat.le_of_ble_eq_true rfl, Nat.le_of_ble_eq_true rfl⟩ rfl rfl (Nat.le_of_ble_eq_true rfl) (fun r w hp => ?_)
    obtain ⟨rfl, rfl⟩ := hp
    refine r_istore_n cx dX3_quote_43 rfl (by decide) rfl ?_
    refine r_aload_n cx dX3_quote_44 rfl rfl ?_
    refine r_aload_n cx dX3_quote_45 rfl rfl ?_
    refine k_X3_139 cx (c_isThere l g _ 8 qi _ _ _ _ _ _ _ _ _ _ _ _ _ _ _ _ _ _ rfl hqi) dX3_quote_46 8 rfl ⟨Nat.le_of_ble_eq_true rfl, Nat.le_of_ble_eq_true rfl⟩ ⟨Nat.le_of_ble_eq_true rfl, Nat.le_of_ble_eq_true rfl⟩ rfl rfl (Nat.le_of_ble_eq_true rfl) (fun r w hp => ?_)
    obtain ⟨rfl, rfl⟩ := hp
    refine r_ifeqb (tgt := 58) cx dX3_quote_49 (by decide) (fun h_49 => ?_) (fun h_49 => ?_)
    · skip
      rw [hr_th i2 hj] at h_49
      exact th_IS cx "the interview is forgotten, or there are 20 quotes" 201 hl htab dX3_quote_58 dX3_quote_61 dX3_quote_62 dX3_quote_64 dX3_quote_67 (by decide) ⟨Nat.le_of_ble_eq_true rfl, Nat.le_of_ble_eq_true rfl, Nat.le_of_ble_eq_true rfl, Nat.le_of_ble_eq_true rfl⟩ ⟨Nat.le_of_ble_eq_true rfl, Nat.le_of_ble_eq_true rfl⟩ (⟨Or.inr ⟨rfl, by rw [hcj]; simp at h_11 h_49; simp [kc, h_11, h_49]⟩, rfl⟩)
    · skip
      rw [hr_th i2 hj] at h_49
      refine r_iload_n cx dX3_quote_52 rfl rfl ?_
      refine r_bipush (v := nI 20) cx dX3_quote_53 (by decide) ?_
      refine r_icmpltN (tgt := 68) cx (by omega) (by omega) dX3_quote_55 (by decide) (fun h_55 => ?_) (fun h_55 => ?_)
      · skip
        refine r_aload_n cx dX3_quote_68 rfl rfl ?_
        refine gf_X3_19 cx dX3_quote_69 8 rfl rfl ?_
        refine r_aload_n cx dX3_quote_72 rfl rfl ?_
        refine r_D (fun hD => ?_)
        have heD : g.2.2.2.1 ∉ P := fun z => eD_out cx (P_in_A hD z)
        refine r_perm (out2 wm (va_pl P f)) ?_
        refine add_front (ci := 1) cx dX3_quote_73 rfl tn_560 f10 (show N 3 ≤ 40 by omega) (fun i hi => ⟨(f5 _ (j11 i hi).1).1, _, (f5 _ (j11 i hi).1).2⟩) (f5 j hj).1 ⟨_, (f5 j hj).2⟩ ⟨by decide, by decide, Nat.le_of_ble_eq_true rfl, Nat.le_of_ble_eq_true rfl⟩ (Nat.le_of_ble_eq_true rfl) (fun r mc2 el2 L2 f2' g1 g2 g3 g4 g5 => ?_)
        refine r_perm (out2 (el := va_up el 2 el2) (mc := va_up mc 2 mc2) (sz := fun k => (va_up N 3 (N 3 + 1)) (k + 1)) wm (va_pl L2 f2')).symm ?_
        obtain ⟨t1, t2, t3, t4⟩ := ls3_grow heD f10 f8 f9 (fun a b => (f12 b a).symm) (fun a b => (f13 b a).symm) g1 g5
        have tI : ∀ b, b ∈ P → (∃ x, f b = .inr x) → b ∈ L2 ∧ f2' b = f b := fun b hb hf => g1 b hb (ob_ne heD f10 hb hf)
        refine r_pop cx dX3_quote_76 rfl ?_
        refine r_iload_n cx dX3_quote_77 rfl rfl ?_
        exact x_iret cx dX3_quote_78 hr (⟨by rw [hcj, decide_eq_false (by omega : ¬ N 3 = 20)]; simp at h_11 h_49; simp [kc, h_11, h_49], rfl, ⟨ad, _, _, ia, ra, _, _, _, ro, kl, kn, row, L2, f2', rfl, rfl, ⟨rfl, rfl, rfl⟩, f2, (fun w hw => (f3 w hw).trans (drw_A (fun i _ => ⟨rfl, rfl, rfl⟩))), f4, (fun i hi => ⟨(tI _ (f5 i hi).1 ⟨_, (f5 i hi).2⟩).1, (tI _ (f5 i hi).1 ⟨_, (f5 i hi).2⟩).2.trans (f5 i hi).2⟩), (fun r hr => ⟨(tI _ (f6 r hr).1 ⟨_, (f6 r hr).2⟩).1, (tI _ (f6 r hr).1 ⟨_, (f6 r hr).2⟩).2.trans (f6 r hr).2⟩), f7, t1, t2, las_cong g2 (fun i hi => by
    show va_up (fun k => ia (c32 (A 13 k))) (N 3) (ia j) i = ia (c32 (upd (A 13) (N 3) (nI j) i))
    by_cases e9 : i = N 3
    · rw [e9, va_up_self, pk_us, hcj]
    · rw [va_up_ne _ _ e9, pk_un e9]), f11, (fun a _ => (t3 a).symm), (fun a _ => (t4 a).symm)⟩⟩) (Nat.le_of_ble_eq_true rfl) (Nat.le_of_ble_eq_true rfl)
      · skip
        exact th_IS cx "the interview is forgotten, or there are 20 quotes" 201 hl htab dX3_quote_58 dX3_quote_61 dX3_quote_62 dX3_quote_64 dX3_quote_67 (by decide) ⟨Nat.le_of_ble_eq_true rfl, Nat.le_of_ble_eq_true rfl, Nat.le_of_ble_eq_true rfl, Nat.le_of_ble_eq_true rfl⟩ ⟨Nat.le_of_ble_eq_true rfl, Nat.le_of_ble_eq_true rfl⟩ (⟨Or.inr ⟨rfl, by rw [hcj, decide_eq_true (by omega : N 3 = 20)]; simp at h_11; simp [kc, h_11]⟩, rfl⟩)
  · skip
    exact th_IO cx "no such interview" 106 hl htab dX3_quote_14 dX3_quote_17 dX3_quote_18 dX3_quote_20 dX3_quote_23 (by decide) ⟨Nat.le_of_ble_eq_true rfl, Nat.le_of_ble_eq_true rfl, Nat.le_of_ble_eq_true rfl, Nat.le_of_ble_eq_true rfl⟩ ⟨Nat.le_of_ble_eq_true rfl, Nat.le_of_ble_eq_true rfl⟩ (⟨Or.inl ⟨rfl, by simp [kc, h_11]⟩, rfl⟩)
set_option maxHeartbeats 4000000 in
set_option maxRecDepth 100000 in
theorem c_rule (l : Launch) (hl : l.stackTraces = false) (g : q_G) (N : Nat → Nat) (A : Nat → Nat → Int32) (B : Nat → Nat → Bool) (L : Nat → Nat → Int64) (wm ws : va_W) (a0 : Nat) (hI : inv N A B L) (hR : cR g a0 N A B L wm ws) (x1 : Int32) (x2 : Int32) (x3 : Int32) (x4 : Int32) (x5 : Int32) (x6 : Int32) : MetX l g yX3_rule cX3_rule 8 (some .int) ({ frames := 7, cells := 4, slots := 250, locals := 200 } : Room) [.ref a0, .int x1, .int x2, .int x3, .int x4, .int x5, .int x6] (ws) (q_Qi g (fun r w => (kc (!(inR x1 8 && (inR x4 10 && inR x5 10))) (decide (x2 = x1) || !(decide (x2 = -1) || inR x2 8) || !inR x3 10 || decide (x5 < x4) || !inR x6 301) (decide (N 2 = 20))) = 0 ∧ r = nI (N 2) ∧ cR g a0 (va_up N 2 (N 2 + 1)) (rlA A (N 2) x1 x2 x3 x4 x5 x6) B (L) wm w)) (pe3 (kc (!(inR x1 8 && (inR x4 10 && inR x5 10))) (decide (x2 = x1) || !(decide (x2 = -1) || inR x2 8) || !inR x3 10 || decide (x5 < x4) || !inR x6 301) (decide (N 2 = 20))) ws) := by
  refine q_metX (own := RX3) (by decide +kernel) rfl (Nat.le_of_ble_eq_true rfl) (fun p e s m args below meth c cx hr htab => ?_)
  obtain ⟨ad, mc, el, ia, ra, th, dr, dl, ro, kl, kn, row, P, f, rfl, rfl, hF⟩ := hR
  have hiv := cF_iv (ad := ad) (mc := mc) (row := row) (wm := wm) hI hF
  have hrl := cF_rl (ad := ad) (mc := mc) (row := row) (wm := wm) hI hF
  have hqu := cF_qu (ad := ad) (mc := mc) (row := row) (wm := wm) hI hF
  obtain ⟨⟨rfl, rfl, rfl⟩, f2, f3, f4, f5, f6, f7, f8, f9, f10, f11, f12, f13⟩ := id hF
  obtain ⟨⟨i1, i2, i3, i4⟩, j2, j3, j4, j5, j6, j7, j8, j9, j10, j11⟩ := id hI
  refine r_lv (lv2 := [(0, .ref (ad 8)), (1, .int x1), (2, .int x2), (3, .int x3), (4, .int x4), (5, .int x5), (6, .int x6)]) (q_pk [0, 1, 2, 3, 4, 5, 6] rfl) ?_
  refine r_iload_n cx dX3_rule_0 rfl rfl ?_
  refine r_bipush (v := nI 8) cx dX3_rule_1 (by decide) ?_
  refine k_X3_57 cx (c_isOutside l g _ x1 (8) (by omega)) dX3_rule_3 ⟨Nat.le_of_ble_eq_true rfl, Nat.le_of_ble_eq_true rfl⟩ ⟨Nat.le_of_ble_eq_true rfl, Nat.le_of_ble_eq_true rfl⟩ rfl rfl (Nat.le_of_ble_eq_true rfl) (fun r w hp => ?_)
  obtain ⟨rfl, rfl⟩ := hp
  refine r_ifneb (tgt := 29) cx dX3_rule_6 (by decide) (fun h_6 => ?_) (fun h_6 => ?_)
  · skip
    exact th_IO cx "no such sound, or no such place" 116 hl htab dX3_rule_29 dX3_rule_32 dX3_rule_33 dX3_rule_35 dX3_rule_38 (by decide) ⟨Nat.le_of_ble_eq_true rfl, Nat.le_of_ble_eq_true rfl, Nat.le_of_ble_eq_true rfl, Nat.le_of_ble_eq_true rfl⟩ ⟨Nat.le_of_ble_eq_true rfl, Nat.le_of_ble_eq_true rfl⟩ (⟨Or.inl ⟨rfl, by first | (simp [kc, h_6]; done) | (simp [kc, h_16]; done) | (simp [kc, h_26]; done)⟩, rfl⟩)
  · skip
    refine r_iload cx dX3_rule_9 rfl ?_
    refine r_bipush (v := nI 10) cx dX3_rule_11 (by decide) ?_
    refine k_X3_57 cx (c_isOutside l g _ x4 (10) (by omega)) dX3_rule_13 ⟨Nat.le_of_ble_eq_true rfl, Nat.le_of_ble_eq_true rfl⟩ ⟨Nat.le_of_ble_eq_true rfl, Nat.le_of_ble_eq_true rfl⟩ rfl rfl (Nat.le_of_ble_eq_true rfl) (fun r w hp => ?_)
    obtain ⟨rfl, rfl⟩ := hp
    refine r_ifneb (tgt := 29) cx dX3_rule_16 (by decide) (fun h_16 => ?_) (fun h_16 => ?_)
    · skip
      exact th_IO cx "no such sound, or no such place" 116 hl htab dX3_rule_29 dX3_rule_32 dX3_rule_33 dX3_rule_35 dX3_rule_38 (by decide) ⟨Nat.le_of_ble_eq_true rfl, Nat.le_of_ble_eq_true rfl, Nat.le_of_ble_eq_true rfl, Nat.le_of_ble_eq_true rfl⟩ ⟨Nat.le_of_ble_eq_true rfl, Nat.le_of_ble_eq_true rfl⟩ (⟨Or.inl ⟨rfl, by first | (simp [kc, h_6]; done) | (simp [kc, h_16]; done) | (simp [kc, h_26]; done)⟩, rfl⟩)
    · skip
      refine r_iload cx dX3_rule_19 rfl ?_
      refine r_bipush (v := nI 10) cx dX3_rule_21 (by decide) ?_
      refine k_X3_57 cx (c_isOutside l g _ x5 (10) (by omega)) dX3_rule_23 ⟨Nat.le_of_ble_eq_true rfl, Nat.le_of_ble_eq_true rfl⟩ ⟨Nat.le_of_ble_eq_true rfl, Nat.le_of_ble_eq_true rfl⟩ rfl rfl (Nat.le_of_ble_eq_true rfl) (fun r w hp => ?_)
      obtain ⟨rfl, rfl⟩ := hp
      refine r_ifeqb (tgt := 39) cx dX3_rule_26 (by decide) (fun h_26 => ?_) (fun h_26 => ?_)
      · skip
        refine r_iload_n cx dX3_rule_39 rfl rfl ?_
        refine r_iload_n cx dX3_rule_40 rfl rfl ?_
        refine r_icmpeq (tgt := 65) cx dX3_rule_41 (by decide) (fun h_41 => ?_) (fun h_41 => ?_)
        · skip
          exact th_IA cx "the sound cannot become that, or not before that" 122 hl htab dX3_rule_65 dX3_rule_68 dX3_rule_69 dX3_rule_71 dX3_rule_74 (by decide) ⟨Nat.le_of_ble_eq_true rfl, Nat.le_of_ble_eq_true rfl, Nat.le_of_ble_eq_true rfl, Nat.le_of_ble_eq_true rfl⟩ ⟨Nat.le_of_ble_eq_true rfl, Nat.le_of_ble_eq_true rfl⟩ (⟨Or.inr (Or.inl ⟨rfl, by simp at h_6 h_16 h_26; simp [kc, h_6, h_16, h_26, h_41]⟩), rfl⟩)
        · skip
          refine r_iload_n cx dX3_rule_44 rfl rfl ?_
          refine r_iconst (v := -1) cx dX3_rule_45 (by decide) ?_
          refine r_icmpeq (tgt := 58) cx dX3_rule_46 (by decide) (fun h_46 => ?_) (fun h_46 => ?_)
          · skip
            refine r_iload_n cx dX3_rule_58 rfl rfl ?_
            refine k_X3_118 cx (c_canStandBehind l g _ x3) dX3_rule_59 ⟨Nat.le_of_ble_eq_true rfl, Nat.le_of_ble_eq_true rfl⟩ ⟨Nat.le_of_ble_eq_true rfl, Nat.le_of_ble_eq_true rfl⟩ rfl rfl (Nat.le_of_ble_eq_true rfl) (fun r w hp => ?_)
            obtain ⟨rfl, rfl⟩ := hp
            refine r_ifneb (tgt := 75) cx dX3_rule_62 (by decide) (fun h_62 => ?_) (fun h_62 => ?_)
            · skip
              refine r_iload cx dX3_rule_75 rfl ?_
              refine r_iload cx dX3_rule_77 rfl ?_
              refine r_icmplt (tgt := 93) cx dX3_rule_79 (by decide) (fun h_79 => ?_) (fun h_79 => ?_)
              · skip
                exact th_IA cx "no such range of places, or no such year" 124 hl htab dX3_rule_93 dX3_rule_96 dX3_rule_97 dX3_rule_99 dX3_rule_102 (by decide) ⟨Nat.le_of_ble_eq_true rfl, Nat.le_of_ble_eq_true rfl, Nat.le_of_ble_eq_true rfl, Nat.le_of_ble_eq_true rfl⟩ ⟨Nat.le_of_ble_eq_true rfl, Nat.le_of_ble_eq_true rfl⟩ (⟨Or.inr (Or.inl ⟨rfl, by simp at h_6 h_16 h_26; simp [kc, h_6, h_16, h_26, h_79]⟩), rfl⟩)
              · skip
                refine r_iload cx dX3_rule_82 rfl ?_
                refine r_sipush (v := nI 301) cx dX3_rule_84 (by decide) ?_
                refine k_X3_57 cx (c_isOutside l g _ x6 (301) (by omega)) dX3_rule_87 ⟨Nat.le_of_ble_eq_true rfl, Nat.le_of_ble_eq_true rfl⟩ ⟨Nat.le_of_ble_eq_true rfl, Nat.le_of_ble_eq_true rfl⟩ rfl rfl (Nat.le_of_ble_eq_true rfl) (fun r w hp => ?_)
                obtain ⟨rfl, rfl⟩ := hp
                refine r_ifeqb (tgt := 103) cx dX3_rule_90 (by decide) (fun h_90 => ?_) (fun h_90 => ?_)
                · skip
                  refine r_aload_n cx dX3_rule_103 rfl rfl ?_
                  refine gf_X3_16 cx dX3_rule_104 8 rfl rfl ?_
                  refine k_X3_80 cx (c_lsize l g _ (ad 6) (N 2) ra hrl.2.1) dX3_rule_107 6 rfl ⟨Nat.le_of_ble_eq_true rfl, Nat.le_of_ble_eq_true rfl⟩ ⟨Nat.le_of_ble_eq_true rfl, Nat.le_of_ble_eq_true rfl⟩ rfl rfl (Nat.le_of_ble_eq_true rfl) (fun r w hp => ?_)
                  obtain ⟨rfl, rfl⟩ := hp
                  refine r_istore cx dX3_rule_110 (by decide) rfl ?_
                  refine r_iload cx dX3_rule_112 rfl ?_
                  refine r_bipush (v := nI 20) cx dX3_rule_114 (by decide) ?_
                  refine r_icmpltN (tgt := 129) cx (by omega) (by omega) dX3_rule_116 (by decide) (fun h_116 => ?_) (fun h_116 => ?_)
                  · skip
                    refine r_aload_n cx dX3_rule_129 rfl rfl ?_
                    refine gf_X3_16 cx dX3_rule_130 8 rfl rfl ?_
                    refine nw_X3_128 cx dX3_rule_133 (Nat.le_of_ble_eq_true rfl) (Nat.le_of_ble_eq_true rfl) (fun q => ?_)
                    refine r_perm (List.perm_append_singleton _ _) ?_
                    refine r_dup cx dX3_rule_136 rfl ?_
                    refine r_iload_n cx dX3_rule_137 rfl rfl ?_
                    refine r_iload_n cx dX3_rule_138 rfl rfl ?_
                    refine r_iload_n cx dX3_rule_139 rfl rfl ?_
                    refine r_iload cx dX3_rule_140 rfl ?_
                    refine r_iload cx dX3_rule_142 rfl ?_
                    refine r_iload cx dX3_rule_144 rfl ?_
                    refine k_X3_130 cx (c_Rule l g _ q x1 x2 x3 x4 x5 x6) dX3_rule_146 ⟨Nat.le_of_ble_eq_true rfl, Nat.le_of_ble_eq_true rfl⟩ ⟨Nat.le_of_ble_eq_true rfl, Nat.le_of_ble_eq_true rfl⟩ rfl rfl (Nat.le_of_ble_eq_true rfl) (fun w hp => ?_)
                    subst hp
                    refine r_D (fun hD => ?_)
                    have hq := new_fresh hD
                    have hDr := q_D_perm (new_out hq) hD
                    have heD : g.2.2.2.1 ∉ q :: P := fun z => eD_out cx (P_in_A hDr z)
                    refine r_perm ((new_out hq).trans (out1 wm (va_pl (q :: P) _))) ?_
                    refine add_front (ci := 2) cx dX3_rule_149 rfl tn_561 (las_push hq f9) (show N 2 ≤ 40 by omega) (fun i hi => ⟨List.mem_cons_of_mem _ (f6 i hi).1, _, (va_up_ne _ _ (fun z => by have z2 := (f6 i hi).1; rw [z] at z2; exact hq z2)).trans (f6 i hi).2⟩) List.mem_cons_self ⟨_, va_up_self _ _ _⟩ ⟨by decide, by decide, Nat.le_of_ble_eq_true rfl, Nat.le_of_ble_eq_true rfl⟩ (Nat.le_of_ble_eq_true rfl) (fun r mc2 el2 L2 f2' g1 g2 g3 g4 g5 => ?_)
                    refine r_perm (out1 (el := va_up el 1 el2) (mc := va_up mc 1 mc2) (sz := fun k => (va_up N 2 (N 2 + 1)) (k + 1)) wm (va_pl L2 f2')).symm ?_
                    obtain ⟨t1, t2, t3, t4⟩ := ls3_grow heD (las_push hq f9) (las_push (e := oR x1 x2 x3 x4 x5 x6 0 false) hq f8) (las_push hq f10) (fun a b => (f11 b a).symm) f13 g1 g5
                    have tI : ∀ b, b ∈ P → (∃ x, f b = .inr x) → b ∈ L2 ∧ f2' b = f b := fun b hb hf => by
                      have hbq : b ≠ q := fun z => hq (z ▸ hb)
                      obtain ⟨u1, u2⟩ := g1 b (List.mem_cons_of_mem _ hb) (ob_ne heD (las_push (e := oR x1 x2 x3 x4 x5 x6 0 false) hq f9) (List.mem_cons_of_mem _ hb) (hf.elim (fun x hx => ⟨x, (va_up_ne _ _ hbq).trans hx⟩)))
                      exact ⟨u1, u2.trans (va_up_ne _ _ hbq)⟩
                    have tq := g1 q List.mem_cons_self (ob_ne heD (las_push (e := oR x1 x2 x3 x4 x5 x6 0 false) hq f9) List.mem_cons_self ⟨_, va_up_self _ _ _⟩)
                    refine r_pop cx dX3_rule_152 rfl ?_
                    refine r_iload cx dX3_rule_153 rfl ?_
                    exact x_iret cx dX3_rule_155 hr (⟨by rw [decide_eq_false (by omega : ¬ N 2 = 20)]; simp at h_6 h_16 h_26 h_90; rw [h_46] at h_41; simp [kc, h_6, h_16, h_26, h_41, h_46, h_62, h_79, h_90], rfl, ⟨ad, _, _, ia, va_up ra (N 2) q, _, _, _, ro, kl, kn, row, L2, f2', rfl, rfl, ⟨rfl, rfl, rfl⟩, f2, (fun w hw => (f3 w hw).trans (drw_A (fun i _ => ⟨rfl, rfl, rfl⟩))), f4, (fun i hi => ⟨(tI _ (f5 i hi).1 ⟨_, (f5 i hi).2⟩).1, (tI _ (f5 i hi).1 ⟨_, (f5 i hi).2⟩).2.trans (f5 i hi).2⟩), (fun r hr => by
    by_cases e9 : r = N 2
    · subst e9
      rw [va_up_self]
      refine ⟨tq.1, tq.2.trans ((va_up_self _ _ _).trans ?_)⟩
      show _ = oR (upd (A 7) (N 2) x1 (N 2)) (upd (A 8) (N 2) x2 (N 2)) (upd (A 9) (N 2) x3 (N 2)) (upd (A 10) (N 2) x4 (N 2)) (upd (A 11) (N 2) x5 (N 2)) (upd (A 12) (N 2) x6 (N 2)) (L 0 (N 2)) (B 1 (N 2))
      rw [pk_us, pk_us, pk_us, pk_us, pk_us, pk_us, (j7 _ (Nat.le_refl _)).1, (j7 _ (Nat.le_refl _)).2]
    · have hr2 : r < N 2 := by have : r < N 2 + 1 := hr; omega
      rw [va_up_ne _ _ e9]
      refine ⟨(tI _ (f6 r hr2).1 ⟨_, (f6 r hr2).2⟩).1, ((tI _ (f6 r hr2).1 ⟨_, (f6 r hr2).2⟩).2.trans (f6 r hr2).2).trans ?_⟩
      show _ = oR (upd (A 7) (N 2) x1 r) (upd (A 8) (N 2) x2 r) (upd (A 9) (N 2) x3 r) (upd (A 10) (N 2) x4 r) (upd (A 11) (N 2) x5 r) (upd (A 12) (N 2) x6 r) (L 0 r) (B 1 r)
      rw [pk_un e9, pk_un e9, pk_un e9, pk_un e9, pk_un e9, pk_un e9]), (fun r r2 hr hr2 e => by
    have h1 : r < N 2 + 1 := hr
    have h2 : r2 < N 2 + 1 := hr2
    by_cases e1 : r = N 2 <;> by_cases e2 : r2 = N 2
    · omega
    · rw [e1, va_up_self, va_up_ne _ _ e2] at e
      exact absurd (e ▸ (f6 r2 (by omega)).1) hq
    · rw [e2, va_up_self, va_up_ne _ _ e1] at e
      exact absurd (e ▸ (f6 r (by omega)).1) hq
    · rw [va_up_ne _ _ e1, va_up_ne _ _ e2] at e
      exact f7 r r2 (by omega) (by omega) e), t1, g2, t2, (fun a _ => (t3 a).symm), f12, (fun _ b => t4 b)⟩⟩) (Nat.le_of_ble_eq_true rfl) (Nat.le_of_ble_eq_true rfl)
                  · skip
                    exact th_IS cx "there are 20 rules" 126 hl htab dX3_rule_119 dX3_rule_122 dX3_rule_123 dX3_rule_125 dX3_rule_128 (by decide) ⟨Nat.le_of_ble_eq_true rfl, Nat.le_of_ble_eq_true rfl, Nat.le_of_ble_eq_true rfl, Nat.le_of_ble_eq_true rfl⟩ ⟨Nat.le_of_ble_eq_true rfl, Nat.le_of_ble_eq_true rfl⟩ (⟨Or.inr (Or.inr ⟨rfl, by rw [decide_eq_true (by omega : N 2 = 20)]; simp at h_6 h_16 h_26 h_90; rw [h_46] at h_41; simp [kc, h_6, h_16, h_26, h_41, h_46, h_62, h_79, h_90]⟩), rfl⟩)
                · skip
                  exact th_IA cx "no such range of places, or no such year" 124 hl htab dX3_rule_93 dX3_rule_96 dX3_rule_97 dX3_rule_99 dX3_rule_102 (by decide) ⟨Nat.le_of_ble_eq_true rfl, Nat.le_of_ble_eq_true rfl, Nat.le_of_ble_eq_true rfl, Nat.le_of_ble_eq_true rfl⟩ ⟨Nat.le_of_ble_eq_true rfl, Nat.le_of_ble_eq_true rfl⟩ (⟨Or.inr (Or.inl ⟨rfl, by simp at h_6 h_16 h_26; simp at h_90; simp [kc, h_6, h_16, h_26, h_90]⟩), rfl⟩)
            · skip
              exact th_IA cx "the sound cannot become that, or not before that" 122 hl htab dX3_rule_65 dX3_rule_68 dX3_rule_69 dX3_rule_71 dX3_rule_74 (by decide) ⟨Nat.le_of_ble_eq_true rfl, Nat.le_of_ble_eq_true rfl, Nat.le_of_ble_eq_true rfl, Nat.le_of_ble_eq_true rfl⟩ ⟨Nat.le_of_ble_eq_true rfl, Nat.le_of_ble_eq_true rfl⟩ (⟨Or.inr (Or.inl ⟨rfl, by simp at h_6 h_16 h_26; simp [kc, h_6, h_16, h_26, h_62]⟩), rfl⟩)
          · skip
            refine r_iload_n cx dX3_rule_49 rfl rfl ?_
            refine r_bipush (v := nI 8) cx dX3_rule_50 (by decide) ?_
            refine k_X3_57 cx (c_isOutside l g _ x2 (8) (by omega)) dX3_rule_52 ⟨Nat.le_of_ble_eq_true rfl, Nat.le_of_ble_eq_true rfl⟩ ⟨Nat.le_of_ble_eq_true rfl, Nat.le_of_ble_eq_true rfl⟩ rfl rfl (Nat.le_of_ble_eq_true rfl) (fun r w hp => ?_)
            obtain ⟨rfl, rfl⟩ := hp
            refine r_ifneb (tgt := 65) cx dX3_rule_55 (by decide) (fun h_55 => ?_) (fun h_55 => ?_)
            · skip
              exact th_IA cx "the sound cannot become that, or not before that" 122 hl htab dX3_rule_65 dX3_rule_68 dX3_rule_69 dX3_rule_71 dX3_rule_74 (by decide) ⟨Nat.le_of_ble_eq_true rfl, Nat.le_of_ble_eq_true rfl, Nat.le_of_ble_eq_true rfl, Nat.le_of_ble_eq_true rfl⟩ ⟨Nat.le_of_ble_eq_true rfl, Nat.le_of_ble_eq_true rfl⟩ (⟨Or.inr (Or.inl ⟨rfl, by simp at h_6 h_16 h_26; simp at h_55; simp [kc, h_6, h_16, h_26, h_41, h_46, h_55]⟩), rfl⟩)
            · skip
              refine r_iload_n cx dX3_rule_58 rfl rfl ?_
              refine k_X3_118 cx (c_canStandBehind l g _ x3) dX3_rule_59 ⟨Nat.le_of_ble_eq_true rfl, Nat.le_of_ble_eq_true rfl⟩ ⟨Nat.le_of_ble_eq_true rfl, Nat.le_of_ble_eq_true rfl⟩ rfl rfl (Nat.le_of_ble_eq_true rfl) (fun r w hp => ?_)
              obtain ⟨rfl, rfl⟩ := hp
              refine r_ifneb (tgt := 75) cx dX3_rule_62 (by decide) (fun h_62 => ?_) (fun h_62 => ?_)
              · skip
                refine r_iload cx dX3_rule_75 rfl ?_
                refine r_iload cx dX3_rule_77 rfl ?_
                refine r_icmplt (tgt := 93) cx dX3_rule_79 (by decide) (fun h_79 => ?_) (fun h_79 => ?_)
                · skip
                  exact th_IA cx "no such range of places, or no such year" 124 hl htab dX3_rule_93 dX3_rule_96 dX3_rule_97 dX3_rule_99 dX3_rule_102 (by decide) ⟨Nat.le_of_ble_eq_true rfl, Nat.le_of_ble_eq_true rfl, Nat.le_of_ble_eq_true rfl, Nat.le_of_ble_eq_true rfl⟩ ⟨Nat.le_of_ble_eq_true rfl, Nat.le_of_ble_eq_true rfl⟩ (⟨Or.inr (Or.inl ⟨rfl, by simp at h_6 h_16 h_26; simp [kc, h_6, h_16, h_26, h_79]⟩), rfl⟩)
                · skip
                  refine r_iload cx dX3_rule_82 rfl ?_
                  refine r_sipush (v := nI 301) cx dX3_rule_84 (by decide) ?_
                  refine k_X3_57 cx (c_isOutside l g _ x6 (301) (by omega)) dX3_rule_87 ⟨Nat.le_of_ble_eq_true rfl, Nat.le_of_ble_eq_true rfl⟩ ⟨Nat.le_of_ble_eq_true rfl, Nat.le_of_ble_eq_true rfl⟩ rfl rfl (Nat.le_of_ble_eq_true rfl) (fun r w hp => ?_)
                  obtain ⟨rfl, rfl⟩ := hp
                  refine r_ifeqb (tgt := 103) cx dX3_rule_90 (by decide) (fun h_90 => ?_) (fun h_90 => ?_)
                  · skip
                    refine r_aload_n cx dX3_rule_103 rfl rfl ?_
                    refine gf_X3_16 cx dX3_rule_104 8 rfl rfl ?_
                    refine k_X3_80 cx (c_lsize l g _ (ad 6) (N 2) ra hrl.2.1) dX3_rule_107 6 rfl ⟨Nat.le_of_ble_eq_true rfl, Nat.le_of_ble_eq_true rfl⟩ ⟨Nat.le_of_ble_eq_true rfl, Nat.le_of_ble_eq_true rfl⟩ rfl rfl (Nat.le_of_ble_eq_true rfl) (fun r w hp => ?_)
                    obtain ⟨rfl, rfl⟩ := hp
                    refine r_istore cx dX3_rule_110 (by decide) rfl ?_
                    refine r_iload cx dX3_rule_112 rfl ?_
                    refine r_bipush (v := nI 20) cx dX3_rule_114 (by decide) ?_
                    refine r_icmpltN (tgt := 129) cx (by omega) (by omega) dX3_rule_116 (by decide) (fun h_116 => ?_) (fun h_116 => ?_)
                    · skip
                      refine r_aload_n cx dX3_rule_129 rfl rfl ?_
                      refine gf_X3_16 cx dX3_rule_130 8 rfl rfl ?_
                      refine nw_X3_128 cx dX3_rule_133 (Nat.le_of_ble_eq_true rfl) (Nat.le_of_ble_eq_true rfl) (fun q => ?_)
                      refine r_perm (List.perm_append_singleton _ _) ?_
                      refine r_dup cx dX3_rule_136 rfl ?_
                      refine r_iload_n cx dX3_rule_137 rfl rfl ?_
                      refine r_iload_n cx dX3_rule_138 rfl rfl ?_
                      refine r_iload_n cx dX3_rule_139 rfl rfl ?_
                      refine r_iload cx dX3_rule_140 rfl ?_
                      refine r_iload cx dX3_rule_142 rfl ?_
                      refine r_iload cx dX3_rule_144 rfl ?_
                      refine k_X3_130 cx (c_Rule l g _ q x1 x2 x3 x4 x5 x6) dX3_rule_146 ⟨Nat.le_of_ble_eq_true rfl, Nat.le_of_ble_eq_true rfl⟩ ⟨Nat.le_of_ble_eq_true rfl, Nat.le_of_ble_eq_true rfl⟩ rfl rfl (Nat.le_of_ble_eq_true rfl) (fun w hp => ?_)
                      subst hp
                      refine r_D (fun hD => ?_)
                      have hq := new_fresh hD
                      have hDr := q_D_perm (new_out hq) hD
                      have heD : g.2.2.2.1 ∉ q :: P := fun z => eD_out cx (P_in_A hDr z)
                      refine r_perm ((new_out hq).trans (out1 wm (va_pl (q :: P) _))) ?_
                      refine add_front (ci := 2) cx dX3_rule_149 rfl tn_561 (las_push hq f9) (show N 2 ≤ 40 by omega) (fun i hi => ⟨List.mem_cons_of_mem _ (f6 i hi).1, _, (va_up_ne _ _ (fun z => by have z2 := (f6 i hi).1; rw [z] at z2; exact hq z2)).trans (f6 i hi).2⟩) List.mem_cons_self ⟨_, va_up_self _ _ _⟩ ⟨by decide, by decide, Nat.le_of_ble_eq_true rfl, Nat.le_of_ble_eq_true rfl⟩ (Nat.le_of_ble_eq_true rfl) (fun r mc2 el2 L2 f2' g1 g2 g3 g4 g5 => ?_)
                      refine r_perm (out1 (el := va_up el 1 el2) (mc := va_up mc 1 mc2) (sz := fun k => (va_up N 2 (N 2 + 1)) (k + 1)) wm (va_pl L2 f2')).symm ?_
                      obtain ⟨t1, t2, t3, t4⟩ := ls3_grow heD (las_push hq f9) (las_push (e := oR x1 x2 x3 x4 x5 x6 0 false) hq f8) (las_push hq f10) (fun a b => (f11 b a).symm) f13 g1 g5
                      have tI : ∀ b, b ∈ P → (∃ x, f b = .inr x) → b ∈ L2 ∧ f2' b = f b := fun b hb hf => by
                        have hbq : b ≠ q := fun z => hq (z ▸ hb)
                        obtain ⟨u1, u2⟩ := g1 b (List.mem_cons_of_mem _ hb) (ob_ne heD (las_push (e := oR x1 x2 x3 x4 x5 x6 0 false) hq f9) (List.mem_cons_of_mem _ hb) (hf.elim (fun x hx => ⟨x, (va_up_ne _ _ hbq).trans hx⟩)))
                        exact ⟨u1, u2.trans (va_up_ne _ _ hbq)⟩
                      have tq := g1 q List.mem_cons_self (ob_ne heD (las_push (e := oR x1 x2 x3 x4 x5 x6 0 false) hq f9) List.mem_cons_self ⟨_, va_up_self _ _ _⟩)
                      refine r_pop cx dX3_rule_152 rfl ?_
                      refine r_iload cx dX3_rule_153 rfl ?_
                      exact x_iret cx dX3_rule_155 hr (⟨by rw [decide_eq_false (by omega : ¬ N 2 = 20)]; simp at h_6 h_16 h_26 h_90; simp at h_55; simp [kc, h_6, h_16, h_26, h_41, h_46, h_55, h_62, h_79, h_90], rfl, ⟨ad, _, _, ia, va_up ra (N 2) q, _, _, _, ro, kl, kn, row, L2, f2', rfl, rfl, ⟨rfl, rfl, rfl⟩, f2, (fun w hw => (f3 w hw).trans (drw_A (fun i _ => ⟨rfl, rfl, rfl⟩))), f4, (fun i hi => ⟨(tI _ (f5 i hi).1 ⟨_, (f5 i hi).2⟩).1, (tI _ (f5 i hi).1 ⟨_, (f5 i hi).2⟩).2.trans (f5 i hi).2⟩), (fun r hr => by
    by_cases e9 : r = N 2
    · subst e9
      rw [va_up_self]
      refine ⟨tq.1, tq.2.trans ((va_up_self _ _ _).trans ?_)⟩
      show _ = oR (upd (A 7) (N 2) x1 (N 2)) (upd (A 8) (N 2) x2 (N 2)) (upd (A 9) (N 2) x3 (N 2)) (upd (A 10) (N 2) x4 (N 2)) (upd (A 11) (N 2) x5 (N 2)) (upd (A 12) (N 2) x6 (N 2)) (L 0 (N 2)) (B 1 (N 2))
      rw [pk_us, pk_us, pk_us, pk_us, pk_us, pk_us, (j7 _ (Nat.le_refl _)).1, (j7 _ (Nat.le_refl _)).2]
    · have hr2 : r < N 2 := by have : r < N 2 + 1 := hr; omega
      rw [va_up_ne _ _ e9]
      refine ⟨(tI _ (f6 r hr2).1 ⟨_, (f6 r hr2).2⟩).1, ((tI _ (f6 r hr2).1 ⟨_, (f6 r hr2).2⟩).2.trans (f6 r hr2).2).trans ?_⟩
      show _ = oR (upd (A 7) (N 2) x1 r) (upd (A 8) (N 2) x2 r) (upd (A 9) (N 2) x3 r) (upd (A 10) (N 2) x4 r) (upd (A 11) (N 2) x5 r) (upd (A 12) (N 2) x6 r) (L 0 r) (B 1 r)
      rw [pk_un e9, pk_un e9, pk_un e9, pk_un e9, pk_un e9, pk_un e9]), (fun r r2 hr hr2 e => by
    have h1 : r < N 2 + 1 := hr
    have h2 : r2 < N 2 + 1 := hr2
    by_cases e1 : r = N 2 <;> by_cases e2 : r2 = N 2
    · omega
    · rw [e1, va_up_self, va_up_ne _ _ e2] at e
      exact absurd (e ▸ (f6 r2 (by omega)).1) hq
    · rw [e2, va_up_self, va_up_ne _ _ e1] at e
      exact absurd (e ▸ (f6 r (by omega)).1) hq
    · rw [va_up_ne _ _ e1, va_up_ne _ _ e2] at e
      exact f7 r r2 (by omega) (by omega) e), t1, g2, t2, (fun a _ => (t3 a).symm), f12, (fun _ b => t4 b)⟩⟩) (Nat.le_of_ble_eq_true rfl) (Nat.le_of_ble_eq_true rfl)
                    · skip
                      exact th_IS cx "there are 20 rules" 126 hl htab dX3_rule_119 dX3_rule_122 dX3_rule_123 dX3_rule_125 dX3_rule_128 (by decide) ⟨Nat.le_of_ble_eq_true rfl, Nat.le_of_ble_eq_true rfl, Nat.le_of_ble_eq_true rfl, Nat.le_of_ble_eq_true rfl⟩ ⟨Nat.le_of_ble_eq_true rfl, Nat.le_of_ble_eq_true rfl⟩ (⟨Or.inr (Or.inr ⟨rfl, by rw [decide_eq_true (by omega : N 2 = 20)]; simp at h_6 h_16 h_26 h_90; simp at h_55; simp [kc, h_6, h_16, h_26, h_41, h_46, h_55, h_62, h_79, h_90]⟩), rfl⟩)
                  · skip
                    exact th_IA cx "no such range of places, or no such year" 124 hl htab dX3_rule_93 dX3_rule_96 dX3_rule_97 dX3_rule_99 dX3_rule_102 (by decide) ⟨Nat.le_of_ble_eq_true rfl, Nat.le_of_ble_eq_true rfl, Nat.le_of_ble_eq_true rfl, Nat.le_of_ble_eq_true rfl⟩ ⟨Nat.le_of_ble_eq_true rfl, Nat.le_of_ble_eq_true rfl⟩ (⟨Or.inr (Or.inl ⟨rfl, by simp at h_6 h_16 h_26; simp at h_90; simp [kc, h_6, h_16, h_26, h_90]⟩), rfl⟩)
              · skip
                exact th_IA cx "the sound cannot become that, or not before that" 122 hl htab dX3_rule_65 dX3_rule_68 dX3_rule_69 dX3_rule_71 dX3_rule_74 (by decide) ⟨Nat.le_of_ble_eq_true rfl, Nat.le_of_ble_eq_true rfl, Nat.le_of_ble_eq_true rfl, Nat.le_of_ble_eq_true rfl⟩ ⟨Nat.le_of_ble_eq_true rfl, Nat.le_of_ble_eq_true rfl⟩ (⟨Or.inr (Or.inl ⟨rfl, by simp at h_6 h_16 h_26; simp [kc, h_6, h_16, h_26, h_62]⟩), rfl⟩)
      · skip
        exact th_IO cx "no such sound, or no such place" 116 hl htab dX3_rule_29 dX3_rule_32 dX3_rule_33 dX3_rule_35 dX3_rule_38 (by decide) ⟨Nat.le_of_ble_eq_true rfl, Nat.le_of_ble_eq_true rfl, Nat.le_of_ble_eq_true rfl, Nat.le_of_ble_eq_true rfl⟩ ⟨Nat.le_of_ble_eq_true rfl, Nat.le_of_ble_eq_true rfl⟩ (⟨Or.inl ⟨rfl, by first | (simp [kc, h_6]; done) | (simp [kc, h_16]; done) | (simp [kc, h_26]; done)⟩, rfl⟩)
end
section
theorem callBack9 {R : Room} {p : Program} {l : Launch} {e : Env} {below : List Frame} {s : State} {args : Array Value} {own : String} {index maxL n mc ms : Nat} {y : MethodName} {bytes : ByteArray} {ret : Option FieldType} {ws : List Cond} {rm : Room} {Pc : Array Value → State → Prop} {Qc : Array Value → State → Outcome → State → Prop} {free : Addr → Prop} (cb : CallB R s args own index y bytes maxL ret ws rm mc ms n) (hM : Met l y ws rm Pc Qc mc ms free) (hbl : FrameBlind Pc) (hlo : 16 + (maxL + 11) + rm.locals ≤ R.locals) : Back l R p e below s args y 3 16 (PreOf R mc ms Pc) (PostOf Qc mc ms free) := by
  obtain ⟨hrc, hrs, hfr, -, hws, hcw, -, hini, -⟩ := cb
  exact back_of (bytes := bytes) (maxL := maxL) (ret := ret) hM hbl hrc hrs hfr hlo hws hcw (fun a' U hW => word_at hW (Or.inl (by first | rfl | simp [Cond.onTables, Cond.keeps, Cond.steady])) hini)
section DEEP
variable {p : Program} {l : Launch} {e : Env} {R : Room} {s : State} {m : MethodId} {args : Array Value} {below : List Frame} {meth : Method} {c : Code} {H : Heap} {locs : List Loc} {cells slots : Nat} {Q : State → Prop} {y : MethodName} {bytes cc : ByteArray} {maxL nL mc ms n index : Nat} {ret : Option FieldType} {ws : List Cond} {rm : Room} {Pc : Array Value → State → Prop} {Qc : Array Value → State → Outcome → State → Prop} {free : Addr → Prop} {Ts : List Cond} {own C : String} {b : Addr} {As rest : List Value} {g : JFrame}
theorem runV9 (S : CallFix p m c cc nL s args Ts own) (hM : Met l y ws rm Pc Qc mc ms free) (cw : CallW R s args own C index y bytes maxL ret ws rm mc ms n) (hlo : 16 + (maxL + 11) + rm.locals ≤ R.locals) (hp : PreV s H C b Pc As)
    (hg : g.method = m) (hn : As.length = n) (hsize : g.locals.size = nL) (hstack : g.stack = As.reverse ++ .ref b :: rest) (hW : 2 * g.monitorRoom + (rest.map fun v => v.category).sum ≤ 16) (hdg : decode cc g.pc = .ok (.invokevirtual index, 3)) (hf : cells + mc ≤ R.cells ∧ slots + ms ≤ R.slots) :
    va_Run p l e R s m args below meth c H locs cells slots mc ms g rest (Qc (Value.ref b :: As).toArray) (free) := by
  have hK : Back l R p e below s args y 3 16 (PreOf R mc ms Pc) (PostOf Qc mc ms free) := callBack9 cw.1 hM hp.1 hlo
  obtain ⟨⟨-, -, -, -, -, -, hcode, -, hy, hlen, hl⟩, hin, hse⟩ := cw
  obtain ⟨hx, hb, hml, ho, -⟩ := S
  obtain ⟨-, ⟨cellB, hcB, hoB, hclB⟩, hPc⟩ := hp
  intro T hT X
  obtain ⟨v, vm₁, ⟨U', l2, c2, s2⟩, hW₁, X', ⟨g', mk, t, L, e1, e2, hq, h1, hL, h2, h3⟩, st⟩ := callV X hx (C := C) (bytes := bytes) (maxL := maxL) (ret := ret) ho hl hin hse hcode hy hK (by rw [hT]; exact hcB) hoB hclB hg (hsize.trans hml.symm) (argsL := As) (rest := rest) (fun sig h => hn.trans (hlen sig h)) hstack hW (by rw [hb]; exact hdg)
    (fun vm₁ hW₁ => ⟨hf.1, hf.2, hPc (T.setVm vm₁) hT hW₁⟩)
  dsimp only [Pt.U, Pt.locs, Pt.cells, Pt.slots] at X' e1 e2 h1 h2 h3 st
  subst h1; subst h2; subst h3
  exact ⟨v, (T.setVm vm₁).calling g' mk (Value.ref b :: As).toArray, t, U', L, hT, X', hL, e1, e2, hq, st⟩
end DEEP
section DEEP2
variable {p : Program} {l : Launch} {e : Env} {R : Room} {s : State} {m : MethodId} {args : Array Value} {below : List Frame} {meth : Method} {c : Code} {g : q_G} {nL : Nat} {Q : State → Prop} {cl sl : Nat} {cc : ByteArray} {pc : Nat} {lv : List (Nat × Value)} {st st0 : List Value} {ws : va_W} {rm : Room} {As : List Value} {b : Nat}
theorem k9_X3_88 (cx : q_cx g p m c cc nL s args RX3 meth) {post : Int32 → va_W → Prop} (hM : MetW l g yX3_takeDraft cX3_takeDraft 2 (some .int) rm (.ref b :: As) ws (q_Qi g post)) (hd : decode cc pc = .ok (.invokevirtual 88, 3)) (q0 : Nat) {fs : List Value} (he : ws[q0]? = some (b, .inr (4, fs))) (hR : rm.frames + 1 ≤ R.frames ∧ 16 + (2 + 11) + rm.locals ≤ R.locals) (hroom : cl + rm.cells ≤ R.cells ∧ sl + rm.slots ≤ R.slots) (hst : st0 = As.reverse ++ .ref b :: st) (hn : As.length = 0) (hW : (st.map fun v => v.category).sum ≤ 16) (kk : ∀ (r : Int32) (u : va_W), post r u → AT p l e R s m args below meth c g nL Q (cl + rm.cells) (sl + rm.slots) (pc + 3) lv (.int r :: st) u) : AT p l e R s m args below meth c g nL Q cl sl pc lv st0 ws := fun H locs ls hP hD hS hl =>
  va_calli (runV9 (As := As) (rest := st) cx.1 hM (cwV (C := RX3) 0 cx.1.2.2.2.2 (gi_V tb_379 tb_381 ts_13 tb_1 tb_382) rfl rfl rfl ⟨rfl, by decide +kernel, by decide +kernel, by decide +kernel⟩ ⟨hR.1, by have := hR.2; omega⟩) hR.2 ⟨q_Pc.blind, va_recv cx.2.1.2.1 hP (show vwCl[4]? = some (RX3, TX3, 10) from rfl) he, fun U hU hW => ⟨rfl, q_env.go cx.2.1 hU hW hS, by rw [q_in, hU]; exact ⟨hP, hD⟩⟩⟩ rfl hn hl.1 hst (by have h0 : (F0 m pc ls st0).monitorRoom = 0 := rfl; rw [h0]; omega) hd hroom) hS (fun q _ h => h) (fun q h => h) (fun r u t H1 locs1 ht hvm hw hB hz1 hk1 hS => by subst ht; exact kk r u hw _ locs1 ls hB.1 hB.2 hS hl)
end DEEP2
set_option maxHeartbeats 4000000 in
set_option maxRecDepth 100000 in
theorem c_interview (l : Launch) (hl : l.stackTraces = false) (g : q_G) (N : Nat → Nat) (A : Nat → Nat → Int32) (B : Nat → Nat → Bool) (L : Nat → Nat → Int64) (wm ws : va_W) (a0 : Nat) (hI : inv N A B L) (hR : cR g a0 N A B L wm ws) (x1 : Int32) (x2 : Int32) (x3 : Int32) (x4 : Int32) : MetX l g yX3_interview cX3_interview 8 (some .int) ({ frames := 7, cells := 4, slots := 250, locals := 200 } : Room) [.ref a0, .int x1, .int x2, .int x3, .int x4] (ws) (q_Qi g (fun r w => (kc (!(inR x1 8 && inR x2 10 && inR x4 4)) (!inR x3 301) (decide (N 0 = 0) || decide (N 1 = 40))) = 0 ∧ r = nI (N 1) ∧ cR g a0 (va_up (va_up N 1 (N 1 + 1)) 0 0) (ivA A (N 1) x1 x2 x3 x4 (nI (num (drL (A 0) (N 0))))) B (L) wm w)) (pe3 (kc (!(inR x1 8 && inR x2 10 && inR x4 4)) (!inR x3 301) (decide (N 0 = 0) || decide (N 1 = 40))) ws) := by
  refine q_metX (own := RX3) (by decide +kernel) rfl (Nat.le_of_ble_eq_true rfl) (fun p e s m args below meth c cx hr htab => ?_)
  obtain ⟨ad, mc, el, ia, ra, th, dr, dl, ro, kl, kn, row, P, f, rfl, rfl, hF⟩ := hR
  have hiv := cF_iv (ad := ad) (mc := mc) (row := row) (wm := wm) hI hF
  have hrl := cF_rl (ad := ad) (mc := mc) (row := row) (wm := wm) hI hF
  have hqu := cF_qu (ad := ad) (mc := mc) (row := row) (wm := wm) hI hF
  obtain ⟨⟨rfl, rfl, rfl⟩, f2, f3, f4, f5, f6, f7, f8, f9, f10, f11, f12, f13⟩ := id hF
  obtain ⟨⟨i1, i2, i3, i4⟩, j2, j3, j4, j5, j6, j7, j8, j9, j10, j11⟩ := id hI
  refine r_lv (lv2 := [(0, .ref (ad 8)), (1, .int x1), (2, .int x2), (3, .int x3), (4, .int x4)]) (q_pk [0, 1, 2, 3, 4] rfl) ?_
  refine r_iload_n cx dX3_interview_0 rfl rfl ?_
  refine r_bipush (v := nI 8) cx dX3_interview_1 (by decide) ?_
  refine k_X3_57 cx (c_isOutside l g _ x1 (8) (by omega)) dX3_interview_3 ⟨Nat.le_of_ble_eq_true rfl, Nat.le_of_ble_eq_true rfl⟩ ⟨Nat.le_of_ble_eq_true rfl, Nat.le_of_ble_eq_true rfl⟩ rfl rfl (Nat.le_of_ble_eq_true rfl) (fun r w hp => ?_)
  obtain ⟨rfl, rfl⟩ := hp
  refine r_ifneb (tgt := 27) cx dX3_interview_6 (by decide) (fun h_6 => ?_) (fun h_6 => ?_)
  · skip
    exact th_IO cx "no such informant, place or word" 73 hl htab dX3_interview_27 dX3_interview_30 dX3_interview_31 dX3_interview_33 dX3_interview_36 (by decide) ⟨Nat.le_of_ble_eq_true rfl, Nat.le_of_ble_eq_true rfl, Nat.le_of_ble_eq_true rfl, Nat.le_of_ble_eq_true rfl⟩ ⟨Nat.le_of_ble_eq_true rfl, Nat.le_of_ble_eq_true rfl⟩ (⟨Or.inl ⟨rfl, by first | (simp [kc, h_6]; done) | (simp [kc, h_15]; done) | (simp [kc, h_24]; done)⟩, rfl⟩)
  · skip
    refine r_iload_n cx dX3_interview_9 rfl rfl ?_
    refine r_bipush (v := nI 10) cx dX3_interview_10 (by decide) ?_
    refine k_X3_57 cx (c_isOutside l g _ x2 (10) (by omega)) dX3_interview_12 ⟨Nat.le_of_ble_eq_true rfl, Nat.le_of_ble_eq_true rfl⟩ ⟨Nat.le_of_ble_eq_true rfl, Nat.le_of_ble_eq_true rfl⟩ rfl rfl (Nat.le_of_ble_eq_true rfl) (fun r w hp => ?_)
    obtain ⟨rfl, rfl⟩ := hp
    refine r_ifneb (tgt := 27) cx dX3_interview_15 (by decide) (fun h_15 => ?_) (fun h_15 => ?_)
    · skip
      exact th_IO cx "no such informant, place or word" 73 hl htab dX3_interview_27 dX3_interview_30 dX3_interview_31 dX3_interview_33 dX3_interview_36 (by decide) ⟨Nat.le_of_ble_eq_true rfl, Nat.le_of_ble_eq_true rfl, Nat.le_of_ble_eq_true rfl, Nat.le_of_ble_eq_true rfl⟩ ⟨Nat.le_of_ble_eq_true rfl, Nat.le_of_ble_eq_true rfl⟩ (⟨Or.inl ⟨rfl, by first | (simp [kc, h_6]; done) | (simp [kc, h_15]; done) | (simp [kc, h_24]; done)⟩, rfl⟩)
    · skip
      refine r_iload cx dX3_interview_18 rfl ?_
      refine r_iconst (v := nI 4) cx dX3_interview_20 (by decide) ?_
      refine k_X3_57 cx (c_isOutside l g _ x4 (4) (by omega)) dX3_interview_21 ⟨Nat.le_of_ble_eq_true rfl, Nat.le_of_ble_eq_true rfl⟩ ⟨Nat.le_of_ble_eq_true rfl, Nat.le_of_ble_eq_true rfl⟩ rfl rfl (Nat.le_of_ble_eq_true rfl) (fun r w hp => ?_)
      obtain ⟨rfl, rfl⟩ := hp
      refine r_ifeqb (tgt := 37) cx dX3_interview_24 (by decide) (fun h_24 => ?_) (fun h_24 => ?_)
      · skip
        refine r_iload_n cx dX3_interview_37 rfl rfl ?_
        refine r_sipush (v := nI 301) cx dX3_interview_38 (by decide) ?_
        refine k_X3_57 cx (c_isOutside l g _ x3 (301) (by omega)) dX3_interview_41 ⟨Nat.le_of_ble_eq_true rfl, Nat.le_of_ble_eq_true rfl⟩ ⟨Nat.le_of_ble_eq_true rfl, Nat.le_of_ble_eq_true rfl⟩ rfl rfl (Nat.le_of_ble_eq_true rfl) (fun r w hp => ?_)
        obtain ⟨rfl, rfl⟩ := hp
        refine r_ifeqb (tgt := 57) cx dX3_interview_44 (by decide) (fun h_44 => ?_) (fun h_44 => ?_)
        · skip
          obtain ⟨jw, hjw, rfl, hcjw⟩ := inR_ix (x := x4) (n := 4) (by simpa using h_24) (by omega)
          refine r_aload_n cx dX3_interview_57 rfl rfl ?_
          refine gf_X3_10 cx dX3_interview_58 8 rfl rfl ?_
          refine k_X3_80 cx (c_lsize l g _ (ad 7) (N 1) ia hiv.2.1) dX3_interview_61 7 rfl ⟨Nat.le_of_ble_eq_true rfl, Nat.le_of_ble_eq_true rfl⟩ ⟨Nat.le_of_ble_eq_true rfl, Nat.le_of_ble_eq_true rfl⟩ rfl rfl (Nat.le_of_ble_eq_true rfl) (fun r w hp => ?_)
          obtain ⟨rfl, rfl⟩ := hp
          refine r_istore cx dX3_interview_64 (by decide) rfl ?_
          refine r_aload_n cx dX3_interview_66 rfl rfl ?_
          refine gf_X3_48 cx dX3_interview_67 8 rfl rfl ?_
          refine r_ifeqN (tgt := 80) cx (by omega) dX3_interview_70 (by decide) (fun h_70 => ?_) (fun h_70 => ?_)
          · skip
            exact th_IS cx "the draft is empty, or there are 40 interviews" 84 hl htab dX3_interview_80 dX3_interview_83 dX3_interview_84 dX3_interview_86 dX3_interview_89 (by decide) ⟨Nat.le_of_ble_eq_true rfl, Nat.le_of_ble_eq_true rfl, Nat.le_of_ble_eq_true rfl, Nat.le_of_ble_eq_true rfl⟩ ⟨Nat.le_of_ble_eq_true rfl, Nat.le_of_ble_eq_true rfl⟩ (⟨Or.inr (Or.inr ⟨rfl, by rw [decide_eq_true h_70]; simp at h_6 h_15 h_24 h_44; simp [kc, h_6, h_15, h_24, h_44]⟩), rfl⟩)
          · skip
            refine r_iload cx dX3_interview_73 rfl ?_
            refine r_bipush (v := nI 40) cx dX3_interview_75 (by decide) ?_
            refine r_icmpltN (tgt := 90) cx (by omega) (by omega) dX3_interview_77 (by decide) (fun h_77 => ?_) (fun h_77 => ?_)
            · skip
              refine r_lconst (v := 1) cx dX3_interview_90 rfl ?_
              refine r_iload cx dX3_interview_91 rfl ?_
              refine r_lshl (v := lN (2 ^ N 1)) cx dX3_interview_93 (by rw [show (1 : Int64) = lN 1 from rfl, wb_shl 1 (by omega), Nat.one_mul]) ?_
              refine r_lstore cx dX3_interview_94 (by decide) rfl ?_
              refine r_aload_n cx dX3_interview_96 rfl rfl ?_
              refine gf_X3_10 cx dX3_interview_97 8 rfl rfl ?_
              refine nw_X3_86 cx dX3_interview_100 (Nat.le_of_ble_eq_true rfl) (Nat.le_of_ble_eq_true rfl) (fun q => ?_)
              refine r_perm (List.perm_append_singleton _ _) ?_
              refine r_dup cx dX3_interview_103 rfl ?_
              refine r_lload cx dX3_interview_104 rfl ?_
              refine r_iload_n cx dX3_interview_106 rfl rfl ?_
              refine r_iload_n cx dX3_interview_107 rfl rfl ?_
              refine r_iload_n cx dX3_interview_108 rfl rfl ?_
              refine r_iload cx dX3_interview_109 rfl ?_
              refine r_aload_n cx dX3_interview_111 rfl rfl ?_
              refine k9_X3_88 cx (c_takeDraft2 l g _ 9 (ad 8) _ _ _ _ _ _ _ _ _ _ rfl) dX3_interview_112 9 rfl ⟨Nat.le_of_ble_eq_true rfl, Nat.le_of_ble_eq_true rfl⟩ ⟨Nat.le_of_ble_eq_true rfl, Nat.le_of_ble_eq_true rfl⟩ rfl rfl (Nat.le_of_ble_eq_true rfl) (fun r w hp => ?_)
              obtain ⟨rfl, rfl⟩ := hp
              refine r_ws (ws2 := (q, .inr (1, [.long 0, .int 0, .int 0, .int 0, .int 0, .int 0])) :: (iF g ad mc el (fun k => N (k + 1)) (lN (thS (B 0) (N 1))) 0 0 ro kl kn row ++ (wm ++ va_pl P f))) rfl ?_
              refine k_X3_91 cx (c_Interview l g _ q (lN (2 ^ N 1)) x1 x2 x3 (nI jw) _) dX3_interview_115 ⟨Nat.le_of_ble_eq_true rfl, Nat.le_of_ble_eq_true rfl⟩ ⟨Nat.le_of_ble_eq_true rfl, Nat.le_of_ble_eq_true rfl⟩ rfl rfl (Nat.le_of_ble_eq_true rfl) (fun w hp => ?_)
              subst hp
              refine r_D (fun hD => ?_)
              have hq := new_fresh hD
              have hDr := q_D_perm (new_out hq) hD
              have heD : g.2.2.2.1 ∉ q :: P := fun z => eD_out cx (P_in_A hDr z)
              refine r_perm ((new_out hq).trans (out0 wm (va_pl (q :: P) _))) ?_
              refine add_front (ci := 1) cx dX3_interview_118 rfl tn_560 (las_push hq f8) (show N 1 ≤ 40 by omega) (fun i hi => ⟨List.mem_cons_of_mem _ (f5 i hi).1, _, (va_up_ne _ _ (fun z => by have z2 := (f5 i hi).1; rw [z] at z2; exact hq z2)).trans (f5 i hi).2⟩) List.mem_cons_self ⟨_, va_up_self _ _ _⟩ ⟨by decide, by decide, Nat.le_of_ble_eq_true rfl, Nat.le_of_ble_eq_true rfl⟩ (Nat.le_of_ble_eq_true rfl) (fun r mc2 el2 L2 f2' g1 g2 g3 g4 g5 => ?_)
              refine r_perm (out0 (el := va_up el 0 el2) (mc := va_up mc 0 mc2) (sz := fun k => (va_up (va_up N 1 (N 1 + 1)) 0 0) (k + 1)) wm (va_pl L2 f2')).symm ?_
              obtain ⟨t1, t2, t3, t4⟩ := ls3_grow heD (las_push (e := (oI (lN (2 ^ N 1)) x1 x2 x3 (nI jw) (nI (num (drL (A 0) (N 0)))))) hq f8) (las_push (e := (oI (lN (2 ^ N 1)) x1 x2 x3 (nI jw) (nI (num (drL (A 0) (N 0)))))) hq f9) (las_push hq f10) f11 f12 g1 g5
              have tI : ∀ b, b ∈ P → (∃ x, f b = .inr x) → b ∈ L2 ∧ f2' b = f b := fun b hb hf => by
                have hbq : b ≠ q := fun z => hq (z ▸ hb)
                obtain ⟨u1, u2⟩ := g1 b (List.mem_cons_of_mem _ hb) (ob_ne heD (las_push (e := (oI (lN (2 ^ N 1)) x1 x2 x3 (nI jw) (nI (num (drL (A 0) (N 0)))))) hq f8) (List.mem_cons_of_mem _ hb) (hf.elim (fun x hx => ⟨x, (va_up_ne _ _ hbq).trans hx⟩)))
                exact ⟨u1, u2.trans (va_up_ne _ _ hbq)⟩
              have tq := g1 q List.mem_cons_self (ob_ne heD (las_push (e := (oI (lN (2 ^ N 1)) x1 x2 x3 (nI jw) (nI (num (drL (A 0) (N 0)))))) hq f8) List.mem_cons_self ⟨_, va_up_self _ _ _⟩)
              have tf : ∀ i, i < N 1 + 1 → (va_up ia (N 1) q) i ∈ L2 ∧ f2' ((va_up ia (N 1) q) i) = oI (lN (2 ^ i)) (upd (A 1) (N 1) x1 i) (upd (A 2) (N 1) x2 i) (upd (A 3) (N 1) x3 i) (upd (A 4) (N 1) (nI jw) i) (upd (A 5) (N 1) (nI (num (drL (A 0) (N 0)))) i) := fun i hi => by
                by_cases e9 : i = N 1
                · subst e9
                  rw [va_up_self, pk_us, pk_us, pk_us, pk_us, pk_us]
                  exact ⟨tq.1, tq.2.trans (va_up_self _ _ _)⟩
                · rw [va_up_ne _ _ e9, pk_un e9, pk_un e9, pk_un e9, pk_un e9, pk_un e9]
                  have u := tI _ (f5 i (by omega)).1 ⟨_, (f5 i (by omega)).2⟩
                  exact ⟨u.1, u.2.trans (f5 i (by omega)).2⟩
              refine r_pop cx dX3_interview_121 rfl ?_
              refine r_aload_n cx dX3_interview_122 rfl rfl ?_
              refine r_dup cx dX3_interview_123 rfl ?_
              refine gf_X3_40 cx dX3_interview_124 8 rfl rfl ?_
              refine r_lload cx dX3_interview_127 rfl ?_
              refine r_lor cx dX3_interview_129 ?_
              refine r_eql (y := lN (thS (B 0) (N 1 + 1))) (by rw [fb_orL, thS, j4 _ (Nat.le_refl _)]; rfl) ?_
              refine pf_X3_40 cx dX3_interview_130 8 rfl (Nat.le_of_ble_eq_true rfl) ?_
              refine r_aload_n cx dX3_interview_133 rfl rfl ?_
              refine gf_X3_26 cx dX3_interview_134 8 rfl rfl ?_
              refine r_iload cx dX3_interview_137 rfl ?_
              refine r_aload_n cx dX3_interview_139 rfl rfl ?_
              refine r_iload cx dX3_interview_140 rfl ?_
              refine k_X3_98 cx (c_drawLines l g _ (ad 8) (ad 7) _ (N 1 + 1) (va_up ia (N 1) q) _ (fiS (ivA A (N 1) x1 x2 x3 (nI jw) (nI (num (drL (A 0) (N 0)))))) (nI jw) (iv_of (el := va_up el 0 el2) (mc := va_up mc 0 mc2) (sz := fun k => (va_up (va_up N 1 (N 1 + 1)) 0 0) (k + 1)) (by omega) rfl g2 tf)) dX3_interview_142 8 rfl ⟨Nat.le_of_ble_eq_true rfl, Nat.le_of_ble_eq_true rfl⟩ ⟨Nat.le_of_ble_eq_true rfl, Nat.le_of_ble_eq_true rfl⟩ rfl rfl (Nat.le_of_ble_eq_true rfl) (fun r w hp => ?_)
              obtain ⟨rfl, rfl⟩ := hp
              first | refine r_iastN cx 3 0 dX3_interview_145 rfl rfl (by omega) (by omega) ?_ | refine r_iast cx 3 0 dX3_interview_145 rfl rfl (by omega) ?_
              refine r_iload cx dX3_interview_146 rfl ?_
              exact x_iret cx dX3_interview_148 hr (⟨by rw [decide_eq_false h_70, decide_eq_false (by omega : ¬ N 1 = 40)]; simp at h_6 h_15 h_24 h_44; simp [kc, h_6, h_15, h_24, h_44], rfl, ⟨ad, _, _, va_up ia (N 1) q, ra, _, _, _, ro, _, kn, row, L2, f2', rfl, rfl, ⟨rfl, rfl, rfl⟩, f2, (fun w hw => by
    show upd kl jw (drw (fun i => hasB (lN (thS (B 0) (N 1 + 1))) (lN (2 ^ i))) _ (N 1 + 1) (nI jw)) w = drw (hrS B) (fiS (ivA A (N 1) x1 x2 x3 (nI jw) (nI (num (drL (A 0) (N 0)))))) (N 1 + 1) (nI w)
    by_cases e9 : w = jw
    · rw [e9, pk_us, drw_th (by omega)]
    · rw [pk_un e9, f3 w hw, drw_new (x4 := nI jw) (fun i hi => ⟨pk_un (by omega), pk_un (by omega), pk_un (by omega)⟩) pk_us (fun z => e9 ((nI_inj (by omega) (by omega)).mp z))]), f4, tf, (fun r hr => ⟨(tI _ (f6 r hr).1 ⟨_, (f6 r hr).2⟩).1, (tI _ (f6 r hr).1 ⟨_, (f6 r hr).2⟩).2.trans (f6 r hr).2⟩), f7, g2, t1, las_cong t2 (fun i hi => (va_up_ne _ _ (fun z => by have := (j11 i hi).1; omega)).symm), (fun _ b => t3 b), (fun _ b => t4 b), f13⟩⟩) (Nat.le_of_ble_eq_true rfl) (Nat.le_of_ble_eq_true rfl)
            · skip
              exact th_IS cx "the draft is empty, or there are 40 interviews" 84 hl htab dX3_interview_80 dX3_interview_83 dX3_interview_84 dX3_interview_86 dX3_interview_89 (by decide) ⟨Nat.le_of_ble_eq_true rfl, Nat.le_of_ble_eq_true rfl, Nat.le_of_ble_eq_true rfl, Nat.le_of_ble_eq_true rfl⟩ ⟨Nat.le_of_ble_eq_true rfl, Nat.le_of_ble_eq_true rfl⟩ (⟨Or.inr (Or.inr ⟨rfl, by rw [decide_eq_true (by omega : N 1 = 40)]; simp at h_6 h_15 h_24 h_44; simp [kc, h_6, h_15, h_24, h_44]⟩), rfl⟩)
        · skip
          exact th_IA cx "no such year" 77 hl htab dX3_interview_47 dX3_interview_50 dX3_interview_51 dX3_interview_53 dX3_interview_56 (by decide) ⟨Nat.le_of_ble_eq_true rfl, Nat.le_of_ble_eq_true rfl, Nat.le_of_ble_eq_true rfl, Nat.le_of_ble_eq_true rfl⟩ ⟨Nat.le_of_ble_eq_true rfl, Nat.le_of_ble_eq_true rfl⟩ (⟨Or.inr (Or.inl ⟨rfl, by simp at h_6 h_15 h_24 h_44; simp [kc, h_6, h_15, h_24, h_44]⟩), rfl⟩)
      · skip
        exact th_IO cx "no such informant, place or word" 73 hl htab dX3_interview_27 dX3_interview_30 dX3_interview_31 dX3_interview_33 dX3_interview_36 (by decide) ⟨Nat.le_of_ble_eq_true rfl, Nat.le_of_ble_eq_true rfl, Nat.le_of_ble_eq_true rfl, Nat.le_of_ble_eq_true rfl⟩ ⟨Nat.le_of_ble_eq_true rfl, Nat.le_of_ble_eq_true rfl⟩ (⟨Or.inl ⟨rfl, by first | (simp [kc, h_6]; done) | (simp [kc, h_15]; done) | (simp [kc, h_24]; done)⟩, rfl⟩)
end
section
theorem pl_setX {A : Nat → Prop} {Z wm : va_W} {P : List Nat} {f : Nat → va_E} {a k : Nat} {e e0 : va_E} (hD : va_D A (Z ++ (wm ++ va_pl P f))) (ha : a ∈ P) (hk : (Z ++ (wm ++ va_pl P f))[k]? = some (a, e0)) : (Z ++ (wm ++ va_pl P f)).set k (a, e) = Z ++ (wm ++ va_pl P (va_up f a e)) := by
  rw [← List.append_assoc] at hD hk ⊢
  obtain ⟨k2, hk2⟩ := va_pl_get (X := Z ++ wm) (f := f) ha
  have hkk := hD.1 k k2 _ _ hk hk2 rfl
  subst hkk
  rw [va_pl_set hD ha hk2, List.append_assoc]
theorem pl_getZ {Z wm : va_W} {P : List Nat} {f : Nat → va_E} {a : Nat} {e : va_E} (h : a ∈ P) (he : f a = e) : ∃ k : Nat, (Z ++ (wm ++ va_pl P f))[k]? = some (a, e) := by
  rw [← List.append_assoc]
  exact pl_getX h he
theorem out_ob {Z wm : va_W} {P : List Nat} {f : Nat → va_E} {a : Nat} (h : a ∈ P) : (Z ++ (wm ++ va_pl P f)).Perm ((a, f a) :: (Z ++ (wm ++ va_pl (P.erase a) f))) := by
  rw [← List.append_assoc, ← List.append_assoc]
  exact pl_outX h
theorem in_ob {Z wm : va_W} {P : List Nat} {f : Nat → va_E} {a : Nat} {e : va_E} (hn : P.Nodup) (h : a ∈ P) : ((a, e) :: (Z ++ (wm ++ va_pl (P.erase a) f))).Perm (Z ++ (wm ++ va_pl P (va_up f a e))) := by
  rw [← List.append_assoc, ← List.append_assoc]
  exact pl_inX hn h
theorem P_nodup {A : Nat → Prop} {Z wm : va_W} {P : List Nat} {f : Nat → va_E} (h : va_D A (Z ++ (wm ++ va_pl P f))) : P.Nodup := by
  rw [← List.append_assoc] at h
  exact pl_nodup h
/-- an array's cell isn't touched by what is done to an object -/
theorem las_up {g : q_G} {el n b : Nat} {e : va_E} {a : Nat → Nat} {P : List Nat} {f : Nat → va_E} (hb : ∃ x, f b = .inr x) (h : laS g el n a P f) : laS g el n a P (va_up f b e) := las_tr h (fun hp h0 => ⟨hp, va_up_ne _ _ (fun z => by
  obtain ⟨-, x, hx⟩ := las_in h h0
  obtain ⟨y, hy⟩ := hb
  rw [z, hy] at hx
  cases hx)⟩)
theorem las_eqv {g : q_G} {el n : Nat} {a : Nat → Nat} {P : List Nat} {f f2 : Nat → va_E} (e : ∀ b x, f b = .inl x → f2 b = f b) (h : laS g el n a P f) : laS g el n a P f2 := las_tr h (fun hp h0 => by
  obtain ⟨-, x, hx⟩ := las_in h h0
  exact ⟨hp, e _ x hx⟩)
/-- what forgetting leaves -/
def goN (n : Nat) (go : Nat → Bool) (inf : Nat → Int32) (who : Int32) : Nat → Bool := fun i => go i || (decide (i < n) && decide (inf i = who))
theorem thS_fg (go : Nat → Bool) (inf : Nat → Int32) (who : Int32) (n : Nat) : thS go n ^^^ (thS go n &&& fgS go inf who n) = thS (goN n go inf who) n := by
  apply Nat.eq_of_testBit_eq
  intro i
  rw [andn_bit, thS_bit, fgS_bit, thS_bit]
  unfold goN
  cases decide (i < n) <;> cases go i <;> cases decide (inf i = who) <;> rfl
def grN (L0 : Nat → Int64) (F : Nat) : Nat → Int64 := fun r => L0 r &&& (lN F ^^^ (-1))
def faN (L0 : Nat → Int64) (fa : Nat → Bool) (F : Nat) : Nat → Bool := fun r => fa r || (!decide (L0 r = 0) && decide (grN L0 F r = 0))
theorem and_z {G F : Nat} (hG : G < 1099511627776) (h : hasB (lN G) (lN F) = false) : G &&& F = 0 := by
  rw [hasB, fb_andL] at h
  have h1 : lN (G &&& F) = 0 := by simpa using h
  exact (fb_lN_inj (b := 0) (Nat.lt_of_le_of_lt Nat.and_le_left (by omega)) (by decide)).mp h1
theorem grN_eq {L0 : Nat → Int64} {F r : Nat} (hG : ∃ G, G < 1099511627776 ∧ L0 r = lN G) : (if hasB (L0 r) (lN F) then L0 r &&& (lN F ^^^ (-1)) else L0 r) = grN L0 F r := by
  obtain ⟨G, hG, e⟩ := hG
  unfold grN
  rw [e]
  split
  · rfl
  · rename_i h
    rw [andn, and_z hG (by simpa using h), Nat.xor_zero]
theorem faN_eq {L0 : Nat → Int64} {fa : Nat → Bool} {F r : Nat} (hG : ∃ G, G < 1099511627776 ∧ L0 r = lN G) (hf : fa r = true → L0 r = 0) : (if hasB (L0 r) (lN F) then decide (L0 r &&& (lN F ^^^ (-1)) = 0) else fa r) = faN L0 fa F r := by
  have e1 := grN_eq (F := F) hG
  unfold faN
  obtain ⟨G, hG, e⟩ := hG
  cases hb : hasB (L0 r) (lN F) with
  | true =>
    have h0 : ¬ L0 r = 0 := fun z => by rw [z] at hb; simp [hasB] at hb
    have h1 : fa r = false := by cases hh : fa r with
      | false => rfl
      | true => exact absurd (hf hh) h0
    rw [h1, decide_eq_false h0]
    rfl
  | false =>
    rw [hb] at e1
    have e2 : L0 r = grN L0 F r := e1
    rw [← e2]
    cases decide (L0 r = 0) <;> simp
set_option maxHeartbeats 4000000 in
set_option maxRecDepth 100000 in
theorem c_rest (l : Launch) (hl : l.stackTraces = false) (g : q_G) (N : Nat → Nat) (A : Nat → Nat → Int32) (B : Nat → Nat → Bool) (L : Nat → Nat → Int64) (wm ws : va_W) (a0 : Nat) (hI : inv N A B L) (hR : cR g a0 N A B L wm ws) (x1 : Int32) (x2 : Int32) : MetX l g yX3_rest cX3_rest 5 (some .int) ({ frames := 6, cells := 4, slots := 250, locals := 90 } : Room) [.ref a0, .int x1, .int x2] (ws) (q_Qi g (fun r w => (kc (!(inR x1 (N 2) && inR x2 (N 1))) (B 1 (c32 x1) || B 0 (c32 x2) || hasB (L 0 (c32 x1)) (lN (2 ^ c32 x2))) false) = 0 ∧ r = nI (bcL (L 0 (c32 x1) ||| lN (2 ^ c32 x2))) ∧ cR g a0 (N) (A) B (va_up L 0 (vp_updL (L 0) (c32 x1) (L 0 (c32 x1) ||| lN (2 ^ c32 x2)))) wm w)) (peS (kc (!(inR x1 (N 2) && inR x2 (N 1))) (B 1 (c32 x1) || B 0 (c32 x2) || hasB (L 0 (c32 x1)) (lN (2 ^ c32 x2))) false) ws) := by
  refine q_metX (own := RX3) (by decide +kernel) rfl (Nat.le_of_ble_eq_true rfl) (fun p e s m args below meth c cx hr htab => ?_)
  obtain ⟨ad, mc, el, ia, ra, th, dr, dl, ro, kl, kn, row, P, f, rfl, rfl, hF⟩ := hR
  have hiv := cF_iv (ad := ad) (mc := mc) (row := row) (wm := wm) hI hF
  have hrl := cF_rl (ad := ad) (mc := mc) (row := row) (wm := wm) hI hF
  have hqu := cF_qu (ad := ad) (mc := mc) (row := row) (wm := wm) hI hF
  obtain ⟨⟨rfl, rfl, rfl⟩, f2, f3, f4, f5, f6, f7, f8, f9, f10, f11, f12, f13⟩ := id hF
  obtain ⟨⟨i1, i2, i3, i4⟩, j2, j3, j4, j5, j6, j7, j8, j9, j10, j11⟩ := id hI
  refine r_lv (lv2 := [(0, .ref (ad 8)), (1, .int x1), (2, .int x2)]) (q_pk [0, 1, 2] rfl) ?_
  refine r_iload_n cx dX3_rest_0 rfl rfl ?_
  refine r_aload_n cx dX3_rest_1 rfl rfl ?_
  refine gf_X3_16 cx dX3_rest_2 8 rfl rfl ?_
  refine k_X3_80 cx (c_lsize l g _ (ad 6) (N 2) ra hrl.2.1) dX3_rest_5 6 rfl ⟨Nat.le_of_ble_eq_true rfl, Nat.le_of_ble_eq_true rfl⟩ ⟨Nat.le_of_ble_eq_true rfl, Nat.le_of_ble_eq_true rfl⟩ rfl rfl (Nat.le_of_ble_eq_true rfl) (fun r w hp => ?_)
  obtain ⟨rfl, rfl⟩ := hp
  refine k_X3_57 cx (c_isOutside l g _ x1 (N 2) (by omega)) dX3_rest_8 ⟨Nat.le_of_ble_eq_true rfl, Nat.le_of_ble_eq_true rfl⟩ ⟨Nat.le_of_ble_eq_true rfl, Nat.le_of_ble_eq_true rfl⟩ rfl rfl (Nat.le_of_ble_eq_true rfl) (fun r w hp => ?_)
  obtain ⟨rfl, rfl⟩ := hp
  refine r_ifneb (tgt := 28) cx dX3_rest_11 (by decide) (fun h_11 => ?_) (fun h_11 => ?_)
  · skip
    exact th_IO cx "no such rule or interview" 133 hl htab dX3_rest_28 dX3_rest_31 dX3_rest_32 dX3_rest_34 dX3_rest_37 (by decide) ⟨Nat.le_of_ble_eq_true rfl, Nat.le_of_ble_eq_true rfl, Nat.le_of_ble_eq_true rfl, Nat.le_of_ble_eq_true rfl⟩ ⟨Nat.le_of_ble_eq_true rfl, Nat.le_of_ble_eq_true rfl⟩ (⟨Or.inl ⟨rfl, by first | (simp [kc, h_11]; done) | (simp [kc, h_25]; done)⟩, rfl⟩)
  · skip
    refine r_iload_n cx dX3_rest_14 rfl rfl ?_
    refine r_aload_n cx dX3_rest_15 rfl rfl ?_
    refine gf_X3_10 cx dX3_rest_16 8 rfl rfl ?_
    refine k_X3_80 cx (c_lsize l g _ (ad 7) (N 1) ia hiv.2.1) dX3_rest_19 7 rfl ⟨Nat.le_of_ble_eq_true rfl, Nat.le_of_ble_eq_true rfl⟩ ⟨Nat.le_of_ble_eq_true rfl, Nat.le_of_ble_eq_true rfl⟩ rfl rfl (Nat.le_of_ble_eq_true rfl) (fun r w hp => ?_)
    obtain ⟨rfl, rfl⟩ := hp
    refine k_X3_57 cx (c_isOutside l g _ x2 (N 1) (by omega)) dX3_rest_22 ⟨Nat.le_of_ble_eq_true rfl, Nat.le_of_ble_eq_true rfl⟩ ⟨Nat.le_of_ble_eq_true rfl, Nat.le_of_ble_eq_true rfl⟩ rfl rfl (Nat.le_of_ble_eq_true rfl) (fun r w hp => ?_)
    obtain ⟨rfl, rfl⟩ := hp
    refine r_ifeqb (tgt := 38) cx dX3_rest_25 (by decide) (fun h_25 => ?_) (fun h_25 => ?_)
    · skip
      obtain ⟨j, hj, rfl, hcj⟩ := inR_ix (x := x1) (n := N 2) (by simpa using h_11) (by omega)
      obtain ⟨i, hi, rfl, hci⟩ := inR_ix (x := x2) (n := N 1) (by simpa using h_25) (by omega)
      obtain ⟨G, hG, hGe⟩ := j9 j
      refine r_aload_n cx dX3_rest_38 rfl rfl ?_
      refine gf_X3_16 cx dX3_rest_39 8 rfl rfl ?_
      refine r_iload_n cx dX3_rest_42 rfl rfl ?_
      refine k_X3_108 cx (c_lget l g _ (ad 6) (N 2) j ra hrl.2.1 hj) dX3_rest_43 6 rfl ⟨Nat.le_of_ble_eq_true rfl, Nat.le_of_ble_eq_true rfl⟩ ⟨Nat.le_of_ble_eq_true rfl, Nat.le_of_ble_eq_true rfl⟩ rfl rfl (Nat.le_of_ble_eq_true rfl) (fun r w hp => ?_)
      obtain ⟨rfl, rfl⟩ := hp
      obtain ⟨qr, hqr⟩ := hrl.2.2.2.2 j hj
      refine r_eqv (y := .ref (ra j)) rfl ?_
      refine r_cast (ci := 2) cx tb_263 dX3_rest_46 qr rfl rfl hqr ?_
      refine r_astore_n cx dX3_rest_49 rfl (by decide) rfl ?_
      refine r_aload_n cx dX3_rest_50 rfl rfl ?_
      refine gf_X3_10 cx dX3_rest_51 8 rfl rfl ?_
      refine r_iload_n cx dX3_rest_54 rfl rfl ?_
      refine k_X3_108 cx (c_lget l g _ (ad 7) (N 1) i ia hiv.2.1 hi) dX3_rest_55 7 rfl ⟨Nat.le_of_ble_eq_true rfl, Nat.le_of_ble_eq_true rfl⟩ ⟨Nat.le_of_ble_eq_true rfl, Nat.le_of_ble_eq_true rfl⟩ rfl rfl (Nat.le_of_ble_eq_true rfl) (fun r w hp => ?_)
      obtain ⟨rfl, rfl⟩ := hp
      obtain ⟨qi, hqi⟩ := hiv.2.2.2 i hi
      refine r_eqv (y := .ref (ia i)) rfl ?_
      refine r_cast (ci := 1) cx tb_219 dX3_rest_58 qi rfl rfl hqi ?_
      refine r_astore cx dX3_rest_61 (by decide) rfl ?_
      refine r_aload_n cx dX3_rest_63 rfl rfl ?_
      refine gf_X3_135 cx dX3_rest_64 qr hqr rfl ?_
      refine r_ifneb (tgt := 88) cx dX3_rest_67 (by decide) (fun h_67 => ?_) (fun h_67 => ?_)
      · skip
        exact th_IS cx "the rule cannot rest on the interview, or does so" 146 hl htab dX3_rest_88 dX3_rest_91 dX3_rest_92 dX3_rest_94 dX3_rest_97 (by decide) ⟨Nat.le_of_ble_eq_true rfl, Nat.le_of_ble_eq_true rfl, Nat.le_of_ble_eq_true rfl, Nat.le_of_ble_eq_true rfl⟩ ⟨Nat.le_of_ble_eq_true rfl, Nat.le_of_ble_eq_true rfl⟩ (⟨Or.inr ⟨rfl, by rw [hcj, hci]; simp at h_11 h_25; simp [kc, h_11, h_25, h_67]⟩, rfl⟩)
      · skip
        refine r_aload_n cx dX3_rest_70 rfl rfl ?_
        refine r_aload cx dX3_rest_71 rfl ?_
        refine k_X3_139 cx (c_isThere l g _ 8 qi _ _ _ _ _ _ _ _ _ _ _ _ _ _ _ _ _ _ rfl hqi) dX3_rest_73 8 rfl ⟨Nat.le_of_ble_eq_true rfl, Nat.le_of_ble_eq_true rfl⟩ ⟨Nat.le_of_ble_eq_true rfl, Nat.le_of_ble_eq_true rfl⟩ rfl rfl (Nat.le_of_ble_eq_true rfl) (fun r w hp => ?_)
        obtain ⟨rfl, rfl⟩ := hp
        refine r_ifeqb (tgt := 88) cx dX3_rest_76 (by decide) (fun h_76 => ?_) (fun h_76 => ?_)
        · skip
          rw [hr_th i2 hi] at h_76
          exact th_IS cx "the rule cannot rest on the interview, or does so" 146 hl htab dX3_rest_88 dX3_rest_91 dX3_rest_92 dX3_rest_94 dX3_rest_97 (by decide) ⟨Nat.le_of_ble_eq_true rfl, Nat.le_of_ble_eq_true rfl, Nat.le_of_ble_eq_true rfl, Nat.le_of_ble_eq_true rfl⟩ ⟨Nat.le_of_ble_eq_true rfl, Nat.le_of_ble_eq_true rfl⟩ (⟨Or.inr ⟨rfl, by rw [hcj, hci]; simp at h_11 h_25; simp at h_76; simp [kc, h_11, h_25, h_67, h_76]⟩, rfl⟩)
        · skip
          rw [hr_th i2 hi] at h_76
          refine r_aload_n cx dX3_rest_79 rfl rfl ?_
          refine r_aload cx dX3_rest_80 rfl ?_
          refine k_X3_143 cx (c_restsOn l g _ qr qi _ _ _ _ _ _ _ _ _ _ _ _ _ _ _ _ hqr hqi) dX3_rest_82 qr hqr ⟨Nat.le_of_ble_eq_true rfl, Nat.le_of_ble_eq_true rfl⟩ ⟨Nat.le_of_ble_eq_true rfl, Nat.le_of_ble_eq_true rfl⟩ rfl rfl (Nat.le_of_ble_eq_true rfl) (fun r w hp => ?_)
          obtain ⟨rfl, rfl⟩ := hp
          refine r_ifeqb (tgt := 98) cx dX3_rest_85 (by decide) (fun h_85 => ?_) (fun h_85 => ?_)
          · skip
            refine r_aload_n cx dX3_rest_98 rfl rfl ?_
            refine r_dup cx dX3_rest_99 rfl ?_
            refine gf_X3_148 cx dX3_rest_100 qr hqr rfl ?_
            refine r_aload cx dX3_rest_103 rfl ?_
            refine gf_X3_151 cx dX3_rest_105 qi hqi rfl ?_
            refine r_lor cx dX3_rest_108 ?_
            refine r_D (fun hD => ?_)
            refine pf_X3_148 cx dX3_rest_109 qr hqr (Nat.le_of_ble_eq_true rfl) ?_
            refine r_ws (ws2 := iF g ad mc el (fun k => N (k + 1)) (lN (thS (B 0) (N 1))) (nI (num (drL (A 0) (N 0)))) (nI (N 0)) ro kl kn row ++ (wm ++ va_pl P (va_up f (ra j) (oR (nI (soF A j)) (toI (toF A j)) (nI (beF A j)) (A 10 j) (A 11 j) (A 12 j) (L 0 j ||| lN (2 ^ i)) (B 1 j))))) (pl_setX hD (f6 j hj).1 hqr) ?_
            obtain ⟨qr2, hqr2⟩ := pl_getZ (Z := iF g ad mc el (fun k => N (k + 1)) (lN (thS (B 0) (N 1))) (nI (num (drL (A 0) (N 0)))) (nI (N 0)) ro kl kn row) (wm := wm) (f := va_up f (ra j) (oR (nI (soF A j)) (toI (toF A j)) (nI (beF A j)) (A 10 j) (A 11 j) (A 12 j) (L 0 j ||| lN (2 ^ i)) (B 1 j))) (f6 j hj).1 (va_up_self _ _ _)
            refine r_aload_n cx dX3_rest_112 rfl rfl ?_
            refine gf_X3_148 cx dX3_rest_113 qr2 hqr2 rfl ?_
            refine r_eql (y := lN (G ||| 2 ^ i)) (by rw [hGe, fb_orL]) ?_
            refine k_X3_154 cx (c_bitCount l g _ _ (or_lt40 hG (p2_lt (by omega : i < 40)))) dX3_rest_116 ⟨Nat.le_of_ble_eq_true rfl, Nat.le_of_ble_eq_true rfl⟩ ⟨Nat.le_of_ble_eq_true rfl, Nat.le_of_ble_eq_true rfl⟩ rfl rfl (Nat.le_of_ble_eq_true rfl) (fun r w hp => ?_)
            obtain ⟨rfl, rfl⟩ := hp
            exact x_iret cx dX3_rest_119 hr (⟨by rw [hcj, hci]; simp at h_11 h_25 h_76; simp [kc, h_11, h_25, h_67, h_76, h_85], by rw [hcj, hci, hGe, fb_orL, bcL_lN (or_lt40 hG (p2_lt (by omega)))], by rw [hcj, hci]; exact ⟨ad, mc, el, ia, ra, _, _, _, ro, kl, kn, row, P, _, rfl, rfl, ⟨rfl, rfl, rfl⟩, f2, f3, f4, (fun k hk => ⟨(f5 k hk).1, (va_up_ne _ _ (fun z => by have u := (f5 k hk).2; rw [z, (f6 j hj).2] at u; cases u)).trans (f5 k hk).2⟩), (fun r hr => by
    refine ⟨(f6 r hr).1, ?_⟩
    show _ = oR (A 7 r) (A 8 r) (A 9 r) (A 10 r) (A 11 r) (A 12 r) (vp_updL (L 0) j (L 0 j ||| lN (2 ^ i)) r) (B 1 r)
    by_cases e9 : r = j
    · subst e9
      obtain ⟨-, e1, -, e2, e3, -⟩ := j6 r hr
      rw [va_up_self, pk_uLs, e1, e2, e3]
    · rw [va_up_ne _ _ (fun z => e9 (f7 r j hr hj z)), pk_uLn e9]
      exact (f6 r hr).2), f7, las_up ⟨_, (f6 j hj).2⟩ f8, las_up ⟨_, (f6 j hj).2⟩ f9, las_up ⟨_, (f6 j hj).2⟩ f10, f11, f12, f13⟩⟩) (Nat.le_of_ble_eq_true rfl) (Nat.le_of_ble_eq_true rfl)
          · skip
            exact th_IS cx "the rule cannot rest on the interview, or does so" 146 hl htab dX3_rest_88 dX3_rest_91 dX3_rest_92 dX3_rest_94 dX3_rest_97 (by decide) ⟨Nat.le_of_ble_eq_true rfl, Nat.le_of_ble_eq_true rfl, Nat.le_of_ble_eq_true rfl, Nat.le_of_ble_eq_true rfl⟩ ⟨Nat.le_of_ble_eq_true rfl, Nat.le_of_ble_eq_true rfl⟩ (⟨Or.inr ⟨rfl, by rw [hcj, hci]; simp at h_11 h_25; simp at h_76; simp [kc, h_11, h_25, h_67, h_76, h_85]⟩, rfl⟩)
    · skip
      exact th_IO cx "no such rule or interview" 133 hl htab dX3_rest_28 dX3_rest_31 dX3_rest_32 dX3_rest_34 dX3_rest_37 (by decide) ⟨Nat.le_of_ble_eq_true rfl, Nat.le_of_ble_eq_true rfl, Nat.le_of_ble_eq_true rfl, Nat.le_of_ble_eq_true rfl⟩ ⟨Nat.le_of_ble_eq_true rfl, Nat.le_of_ble_eq_true rfl⟩ (⟨Or.inl ⟨rfl, by first | (simp [kc, h_11]; done) | (simp [kc, h_25]; done)⟩, rfl⟩)
set_option maxHeartbeats 4000000 in
set_option maxRecDepth 100000 in
theorem c_forget (l : Launch) (hl : l.stackTraces = false) (g : q_G) (N : Nat → Nat) (A : Nat → Nat → Int32) (B : Nat → Nat → Bool) (L : Nat → Nat → Int64) (wm ws : va_W) (a0 : Nat) (hI : inv N A B L) (hR : cR g a0 N A B L wm ws) (x1 : Int32) : MetX l g yX3_forget cX3_forget 5 (some .int) ({ frames := 6, cells := 4, slots := 250, locals := 140 } : Room) [.ref a0, .int x1] (ws) (q_Qi g (fun r w => (kc (!inR x1 8) false false) = 0 ∧ r = nI (bcL (lN (fgS (B 0) (A 1) x1 (N 1)))) ∧ cR g a0 N A (va_up (va_up B 0 (goN (N 1) (B 0) (A 1) x1)) 1 (faN (L 0) (B 1) (fgS (B 0) (A 1) x1 (N 1)))) (va_up L 0 (grN (L 0) (fgS (B 0) (A 1) x1 (N 1)))) wm w)) (pe1 (kc (!inR x1 8) false false) ws) := by
  refine q_metX (own := RX3) (by decide +kernel) rfl (Nat.le_of_ble_eq_true rfl) (fun p e s m args below meth c cx hr htab => ?_)
  obtain ⟨ad, mc, el, ia, ra, th, dr, dl, ro, kl, kn, row, P, f, rfl, rfl, hF⟩ := hR
  have hiv := cF_iv (ad := ad) (mc := mc) (row := row) (wm := wm) hI hF
  have hrl := cF_rl (ad := ad) (mc := mc) (row := row) (wm := wm) hI hF
  have hqu := cF_qu (ad := ad) (mc := mc) (row := row) (wm := wm) hI hF
  obtain ⟨⟨rfl, rfl, rfl⟩, f2, f3, f4, f5, f6, f7, f8, f9, f10, f11, f12, f13⟩ := id hF
  obtain ⟨⟨i1, i2, i3, i4⟩, j2, j3, j4, j5, j6, j7, j8, j9, j10, j11⟩ := id hI
  refine r_lv (lv2 := [(0, .ref (ad 8)), (1, .int x1)]) (q_pk [0, 1] rfl) ?_
  refine r_iload_n cx dX3_forget_0 rfl rfl ?_
  refine r_bipush (v := nI 8) cx dX3_forget_1 (by decide) ?_
  refine k_X3_57 cx (c_isOutside l g _ x1 (8) (by omega)) dX3_forget_3 ⟨Nat.le_of_ble_eq_true rfl, Nat.le_of_ble_eq_true rfl⟩ ⟨Nat.le_of_ble_eq_true rfl, Nat.le_of_ble_eq_true rfl⟩ rfl rfl (Nat.le_of_ble_eq_true rfl) (fun r w hp => ?_)
  obtain ⟨rfl, rfl⟩ := hp
  refine r_ifeqb (tgt := 19) cx dX3_forget_6 (by decide) (fun h_6 => ?_) (fun h_6 => ?_)
  · skip
    refine r_aload_n cx dX3_forget_19 rfl rfl ?_
    refine r_iload_n cx dX3_forget_20 rfl rfl ?_
    refine k_X3_189 cx (c_interviewsOf l g _ (ad 8) (ad 7) _ (N 1) ia _ (fiS A) x1 hiv) dX3_forget_21 8 rfl ⟨Nat.le_of_ble_eq_true rfl, Nat.le_of_ble_eq_true rfl⟩ ⟨Nat.le_of_ble_eq_true rfl, Nat.le_of_ble_eq_true rfl⟩ rfl rfl (Nat.le_of_ble_eq_true rfl) (fun r w hp => ?_)
    obtain ⟨rfl, rfl⟩ := hp
    refine r_eql (y := lN (fgS (B 0) (A 1) x1 (N 1))) (ivo_fg i2 _ (Nat.le_refl _)) ?_
    refine r_lstore_n cx dX3_forget_24 rfl (by decide) rfl ?_
    refine r_aload_n cx dX3_forget_25 rfl rfl ?_
    refine r_dup cx dX3_forget_26 rfl ?_
    refine gf_X3_40 cx dX3_forget_27 8 rfl rfl ?_
    refine r_lload_n cx dX3_forget_30 rfl rfl ?_
    refine r_ldc2 cx dX3_forget_31 tb_315 ?_
    refine r_lxor cx dX3_forget_34 ?_
    refine r_land cx dX3_forget_35 ?_
    refine r_eql (y := (lN (thS (goN (N 1) (B 0) (A 1) x1) (N 1)))) (by rw [andn, thS_fg]) ?_
    refine pf_X3_40 cx dX3_forget_36 8 rfl (Nat.le_of_ble_eq_true rfl) ?_
    refine r_iconst (v := nI 0) cx dX3_forget_39 (by decide) ?_
    refine r_istore cx dX3_forget_40 (by decide) rfl ?_
    refine at_loop (fun (x : Nat × (Nat → va_E)) => x.1 ≤ N 2 ∧ (∀ r, r < x.1 → x.2 (ra r) = (oR (nI (soF A r)) (toI (toF A r)) (nI (beF A r)) (A 10 r) (A 11 r) (A 12 r) (grN (L 0) (fgS (B 0) (A 1) x1 (N 1)) r) (faN (L 0) (B 1) (fgS (B 0) (A 1) x1 (N 1)) r))) ∧ (∀ r, x.1 ≤ r → r < N 2 → x.2 (ra r) = (oR (nI (soF A r)) (toI (toF A r)) (nI (beF A r)) (A 10 r) (A 11 r) (A 12 r) (L 0 r) (B 1 r))) ∧ (∀ b, (∀ r, r < N 2 → b ≠ ra r) → x.2 b = f b)) (fun x => [(0, .ref (ad 8)), (2, .long (lN (fgS (B 0) (A 1) x1 (N 1)))), (4, .int (nI x.1))]) (fun x => iF g ad mc el (fun k => N (k + 1)) (lN (thS (goN (N 1) (B 0) (A 1) x1) (N 1))) (nI (num (drL (A 0) (N 0)))) (nI (N 0)) ro kl kn row ++ (wm ++ va_pl P (x.2))) (fun x => N 2 - x.1) (0, f) ⟨Nat.zero_le _, fun r hr => absurd hr (Nat.not_lt_zero r), fun r _ hr => by
    obtain ⟨-, e1, -, e2, e3, -⟩ := j6 r hr
    rw [← e1, ← e2, ← e3]
    exact (f6 r hr).2, fun _ _ => rfl⟩ (q_pk [2, 1, 0] rfl) rfl (fun x hx ih => ?_)
    obtain ⟨i, fk⟩ := x
    try dsimp only at hx ⊢
    obtain ⟨hx1, hx2, hx3, hx4⟩ := hx
    have hxe : ∀ b x, f b = .inl x → fk b = f b := fun b x hb => hx4 b (fun r hr z => by rw [z, (f6 r hr).2] at hb; cases hb)
    have hls : lsV g (iF g ad mc el (fun k => N (k + 1)) (lN (thS (goN (N 1) (B 0) (A 1) x1) (N 1))) (nI (num (drL (A 0) (N 0)))) (nI (N 0)) ro kl kn row ++ (wm ++ va_pl P (fk))) (ad 6) (N 2) ra := by
      rw [← List.append_assoc]
      refine las_lsV (ql := 6) (mc := mc 1) (las_eqv hxe f9) (by omega) ?_
      rw [List.append_assoc]
      rfl
    refine r_iload cx dX3_forget_42 rfl ?_
    refine r_aload_n cx dX3_forget_44 rfl rfl ?_
    refine gf_X3_16 cx dX3_forget_45 8 rfl rfl ?_
    refine k_X3_80 cx (c_lsize l g _ (ad 6) (N 2) ra hls) dX3_forget_48 6 rfl ⟨Nat.le_of_ble_eq_true rfl, Nat.le_of_ble_eq_true rfl⟩ ⟨Nat.le_of_ble_eq_true rfl, Nat.le_of_ble_eq_true rfl⟩ rfl rfl (Nat.le_of_ble_eq_true rfl) (fun r w hp => ?_)
    obtain ⟨rfl, rfl⟩ := hp
    refine r_icmpgeN (tgt := 76) cx (by omega) (by omega) dX3_forget_51 (by decide) (fun h_51 => ?_) (fun h_51 => ?_)
    · skip
      obtain rfl : i = N 2 := by omega
      have hI5 : ∀ i, i < N 1 → ia i ∈ P ∧ fk (ia i) = oI (lN (2 ^ i)) (A 1 i) (A 2 i) (A 3 i) (A 4 i) (A 5 i) := fun k hk => ⟨(f5 k hk).1, (hx4 _ (fun r hr z => by have u := (f5 k hk).2; rw [z, (f6 r hr).2] at u; cases u)).trans (f5 k hk).2⟩
      have hlI : laS g (el 0) (N 1) ia P fk := las_eqv hxe f8
      refine r_iconst (v := nI 0) cx dX3_forget_76 (by decide) ?_
      refine r_istore cx dX3_forget_77 (by decide) rfl ?_
      refine at_loop (fun (x : Nat × (Nat → Int32)) => x.1 ≤ 4 ∧ (∀ w, w < x.1 → x.2 w = drw (fun i => hasB (lN (thS (goN (N 1) (B 0) (A 1) x1) (N 1))) (lN (2 ^ i))) (fiS A) (N 1) (nI w))) (fun x => [(0, .ref (ad 8)), (2, .long (lN (fgS (B 0) (A 1) x1 (N 1)))), (4, .int (nI x.1))]) (fun x => iF g ad mc el (fun k => N (k + 1)) (lN (thS (goN (N 1) (B 0) (A 1) x1) (N 1))) (nI (num (drL (A 0) (N 0)))) (nI (N 0)) ro x.2 kn row ++ (wm ++ va_pl P (fk))) (fun x => 4 - x.1) (0, kl) ⟨Nat.zero_le _, fun w hw => absurd hw (Nat.not_lt_zero w)⟩ (q_pk [1, 2, 0] rfl) rfl (fun x hx ih => ?_)
      obtain ⟨i, kl2⟩ := x
      try dsimp only at hx ⊢
      obtain ⟨hy1, hy2⟩ := hx
      refine r_iload cx dX3_forget_79 rfl ?_
      refine r_iconst (v := nI 4) cx dX3_forget_81 (by decide) ?_
      refine r_icmpgeN (tgt := 104) cx (by omega) (by omega) dX3_forget_82 (by decide) (fun h_82 => ?_) (fun h_82 => ?_)
      · skip
        obtain rfl : i = 4 := by omega
        refine r_lload_n cx dX3_forget_104 rfl rfl ?_
        refine k_X3_154 cx (c_bitCount l g _ _ (fgS_lt i2)) dX3_forget_105 ⟨Nat.le_of_ble_eq_true rfl, Nat.le_of_ble_eq_true rfl⟩ ⟨Nat.le_of_ble_eq_true rfl, Nat.le_of_ble_eq_true rfl⟩ rfl rfl (Nat.le_of_ble_eq_true rfl) (fun r w hp => ?_)
        obtain ⟨rfl, rfl⟩ := hp
        exact x_iret cx dX3_forget_108 hr (⟨by simp [kc, h_6], by rw [bcL_lN (fgS_lt i2)], ⟨ad, mc, el, ia, ra, _, _, _, ro, kl2, kn, row, P, fk, rfl, rfl, ⟨rfl, rfl, rfl⟩, f2, (fun w hw => by
    rw [hy2 w hw]
    exact drw_th (B := va_up (va_up B 0 (goN (N 1) (B 0) (A 1) x1)) 1 (faN (L 0) (B 1) (fgS (B 0) (A 1) x1 (N 1)))) i2), f4, hI5, (fun r hr => by
    refine ⟨(f6 r hr).1, ?_⟩
    obtain ⟨-, e1, -, e2, e3, -⟩ := j6 r hr
    show _ = oR (A 7 r) (A 8 r) (A 9 r) (A 10 r) (A 11 r) (A 12 r) (grN (L 0) (fgS (B 0) (A 1) x1 (N 1)) r) (faN (L 0) (B 1) (fgS (B 0) (A 1) x1 (N 1)) r)
    rw [hx2 r hr, e1, e2, e3]), f7, hlI, las_eqv hxe f9, las_eqv hxe f10, f11, f12, f13⟩⟩) (Nat.le_of_ble_eq_true rfl) (Nat.le_of_ble_eq_true rfl)
      · skip
        refine r_aload_n cx dX3_forget_85 rfl rfl ?_
        refine gf_X3_26 cx dX3_forget_86 8 rfl rfl ?_
        refine r_iload cx dX3_forget_89 rfl ?_
        refine r_aload_n cx dX3_forget_91 rfl rfl ?_
        refine r_iload cx dX3_forget_92 rfl ?_
        refine k_X3_98 cx (c_drawLines l g _ (ad 8) (ad 7) (lN (thS (goN (N 1) (B 0) (A 1) x1) (N 1))) (N 1) ia _ (fiS A) (nI i) (iv_of i2 rfl hlI hI5)) dX3_forget_94 8 rfl ⟨Nat.le_of_ble_eq_true rfl, Nat.le_of_ble_eq_true rfl⟩ ⟨Nat.le_of_ble_eq_true rfl, Nat.le_of_ble_eq_true rfl⟩ rfl rfl (Nat.le_of_ble_eq_true rfl) (fun r w hp => ?_)
        obtain ⟨rfl, rfl⟩ := hp
        first | refine r_iastN cx 3 0 dX3_forget_97 rfl rfl (by omega) (by omega) ?_ | refine r_iast cx 3 0 dX3_forget_97 rfl rfl (by omega) ?_
        refine r_iincN (j := 1) cx dX3_forget_98 rfl rfl (by decide) rfl ?_
        refine r_goto (tgt := 79) cx dX3_forget_101 (by decide) ?_
        exact r_lv (q_pk [1, 2, 0] rfl) (ih (i + 1, upd kl2 i (drw (fun i => hasB (lN (thS (goN (N 1) (B 0) (A 1) x1) (N 1))) (lN (2 ^ i))) (fiS A) (N 1) (nI i))) ⟨by omega, fun w hw => by
    show upd kl2 i _ w = _
    by_cases e9 : w = i
    · rw [e9, pk_us]
    · rw [pk_un e9]
      exact hy2 w (by omega)⟩ (by show 4 - (i + 1) < 4 - i; omega))
    · skip
      refine r_aload_n cx dX3_forget_54 rfl rfl ?_
      refine gf_X3_16 cx dX3_forget_55 8 rfl rfl ?_
      refine r_iload cx dX3_forget_58 rfl ?_
      refine k_X3_108 cx (c_lget l g _ (ad 6) (N 2) i ra hls h_51) dX3_forget_60 6 rfl ⟨Nat.le_of_ble_eq_true rfl, Nat.le_of_ble_eq_true rfl⟩ ⟨Nat.le_of_ble_eq_true rfl, Nat.le_of_ble_eq_true rfl⟩ rfl rfl (Nat.le_of_ble_eq_true rfl) (fun r w hp => ?_)
      obtain ⟨rfl, rfl⟩ := hp
      refine r_eqv (y := .ref (ra i)) rfl ?_
      obtain ⟨qr, hqr⟩ := pl_getZ (Z := iF g ad mc el (fun k => N (k + 1)) (lN (thS (goN (N 1) (B 0) (A 1) x1) (N 1))) (nI (num (drL (A 0) (N 0)))) (nI (N 0)) ro kl kn row) (wm := wm) (f6 i h_51).1 (hx3 i (Nat.le_refl _) h_51)
      refine r_cast (ci := 2) cx tb_263 dX3_forget_63 qr rfl rfl hqr ?_
      refine r_lload_n cx dX3_forget_66 rfl rfl ?_
      refine r_D (fun hD => ?_)
      have hnd := P_nodup hD
      refine r_perm (out_ob (f6 i h_51).1) ?_
      rw [hx3 i (Nat.le_refl _) h_51]
      refine k_X3_195 cx (c_restNoMoreOn l g _ (ra i) (nI (soF A i)) (toI (toF A i)) (nI (beF A i)) (A 10 i) (A 11 i) (A 12 i) (L 0 i) (B 1 i) (lN (fgS (B 0) (A 1) x1 (N 1)))) dX3_forget_67 0 rfl ⟨Nat.le_of_ble_eq_true rfl, Nat.le_of_ble_eq_true rfl⟩ ⟨Nat.le_of_ble_eq_true rfl, Nat.le_of_ble_eq_true rfl⟩ rfl rfl (Nat.le_of_ble_eq_true rfl) (fun w hp => ?_)
      subst hp
      rw [grN_eq (j9 i), faN_eq (j9 i) (j8 i)]
      refine r_perm (in_ob hnd (f6 i h_51).1) ?_
      refine r_iincN (j := 1) cx dX3_forget_70 rfl rfl (by decide) rfl ?_
      refine r_goto (tgt := 42) cx dX3_forget_73 (by decide) ?_
      exact r_lv (q_pk [1, 2, 0] rfl) (ih (i + 1, va_up fk (ra i) (oR (nI (soF A i)) (toI (toF A i)) (nI (beF A i)) (A 10 i) (A 11 i) (A 12 i) (grN (L 0) (fgS (B 0) (A 1) x1 (N 1)) i) (faN (L 0) (B 1) (fgS (B 0) (A 1) x1 (N 1)) i))) ⟨by omega, fun r hr => by
    show va_up fk (ra i) _ (ra r) = _
    by_cases e9 : r = i
    · subst e9; exact va_up_self _ _ _
    · rw [va_up_ne _ _ (fun z => e9 (f7 r i (by omega) h_51 z))]
      exact hx2 r (by omega), fun r h1 hr => by
    show va_up fk (ra i) _ (ra r) = _
    rw [va_up_ne _ _ (fun z => by have := f7 r i hr h_51 z; omega)]
    exact hx3 r (by omega) hr, fun b hb => by
    show va_up fk (ra i) _ b = _
    rw [va_up_ne _ _ (hb i h_51)]
    exact hx4 b hb⟩ (by show N 2 - (i + 1) < N 2 - i; omega))
  · skip
    exact th_IO cx "no such informant" 187 hl htab dX3_forget_9 dX3_forget_12 dX3_forget_13 dX3_forget_15 dX3_forget_18 (by decide) ⟨Nat.le_of_ble_eq_true rfl, Nat.le_of_ble_eq_true rfl, Nat.le_of_ble_eq_true rfl, Nat.le_of_ble_eq_true rfl⟩ ⟨Nat.le_of_ble_eq_true rfl, Nat.le_of_ble_eq_true rfl⟩ (⟨⟨rfl, by simp [kc, h_6]⟩, rfl⟩)
end
section
/-! what holds of the shared state is kept by each call -/
section INV
variable {N : Nat → Nat} {A : Nat → Nat → Int32} {B : Nat → Nat → Bool} {L : Nat → Nat → Int64}
theorem kc0 {a b d : Bool} (h : kc a b d = 0) : a = false ∧ b = false ∧ d = false := by
  cases a <;> cases b <;> cases d <;> first | exact ⟨rfl, rfl, rfl⟩ | exact absurd h (by decide)
theorem nb {a : Bool} (h : (!a) = false) : a = true := by cases a <;> first | rfl | cases h
theorem inv_sound (hI : inv N A B L) {x1 : Int32} (h : kc (!inR x1 8) (decide (N 0 = 8)) false = 0) : inv (va_up N 0 (N 0 + 1)) (va_up A 0 (upd (A 0) (N 0) x1)) B L := by
  obtain ⟨⟨i1, i2, i3, i4⟩, j2, j3, j4, j5, j6, j7, j8, j9, j10, j11⟩ := hI
  obtain ⟨h1, h2, -⟩ := kc0 h
  have h3 := inR_c32 (nb h1) (by decide)
  have h4 := of_decide_eq_false h2
  refine ⟨⟨?_, i2, i3, i4⟩, ?_, j3, j4, j5, j6, j7, j8, j9, j10, j11⟩
  · show N 0 + 1 ≤ 8
    omega
  · intro k hk
    have hk2 : k < N 0 + 1 := hk
    show c32 (upd (A 0) (N 0) x1 k) < 8 ∧ upd (A 0) (N 0) x1 k = nI (c32 (upd (A 0) (N 0) x1 k))
    by_cases e : k = N 0
    · rw [e, pk_us]
      exact h3
    · rw [pk_un e]
      exact j2 k (by omega)
theorem dr_ok (hI : inv N A B L) (h0 : N 0 ≠ 0) : okL (drL (A 0) (N 0)) := drL_ok hI.1.1 h0 (fun i hi => (hI.2.1 i hi).1)
theorem inv_setRoot (hI : inv N A B L) {x1 : Int32} (h : kc (!inR x1 4) (decide (N 0 = 0)) false = 0) : inv (va_up N 0 0) (va_up A 6 (upd (A 6) (c32 x1) (nI (num (drL (A 0) (N 0)))))) B L := by
  obtain ⟨h1, h2, -⟩ := kc0 h
  have hd := dr_ok hI (of_decide_eq_false h2)
  obtain ⟨⟨i1, i2, i3, i4⟩, j2, j3, j4, j5, j6, j7, j8, j9, j10, j11⟩ := hI
  refine ⟨⟨Nat.zero_le _, i2, i3, i4⟩, fun k hk => absurd hk (Nat.not_lt_zero k), j3, j4, ?_, j6, j7, j8, j9, j10, j11⟩
  intro w hw
  show roI (unF (upd (A 6) (c32 x1) (nI (num (drL (A 0) (N 0)))) w)) = upd (A 6) (c32 x1) (nI (num (drL (A 0) (N 0)))) w
  by_cases e : w = c32 x1
  · rw [e, pk_us]
    exact roI_unF hd
  · rw [pk_un e]
    exact j5 w hw
theorem inv_interview (hI : inv N A B L) {x1 x2 x3 x4 : Int32} (h : kc (!(inR x1 8 && inR x2 10 && inR x4 4)) (!inR x3 301) (decide (N 0 = 0) || decide (N 1 = 40)) = 0) : inv (va_up (va_up N 1 (N 1 + 1)) 0 0) (ivA A (N 1) x1 x2 x3 x4 (nI (num (drL (A 0) (N 0))))) B L := by
  obtain ⟨h1, -, h2⟩ := kc0 h
  rw [Bool.or_eq_false_iff] at h2
  have hd := dr_ok hI (of_decide_eq_false h2.1)
  have h5 := of_decide_eq_false h2.2
  have h6 := nb h1
  rw [Bool.and_eq_true, Bool.and_eq_true] at h6
  have h4 := inR_c32 h6.2 (by decide)
  obtain ⟨⟨i1, i2, i3, i4⟩, j2, j3, j4, j5, j6, j7, j8, j9, j10, j11⟩ := hI
  refine ⟨⟨Nat.zero_le _, ?_, i3, i4⟩, fun k hk => absurd hk (Nat.not_lt_zero k), ?_, ?_, j5, j6, j7, j8, j9, j10, ?_⟩
  · show N 1 + 1 ≤ 40
    omega
  · intro i hi
    have hi2 : i < N 1 + 1 := hi
    show (c32 (upd (A 4) (N 1) x4 i) < 4 ∧ upd (A 4) (N 1) x4 i = nI (c32 (upd (A 4) (N 1) x4 i))) ∧ ∃ l, unF (upd (A 5) (N 1) (nI (num (drL (A 0) (N 0)))) i) = some l
    by_cases e : i = N 1
    · rw [e, pk_us, pk_us]
      exact ⟨h4, unF_of hd⟩
    · rw [pk_un e, pk_un e]
      exact j3 i (by omega)
  · intro i hi
    have hi2 : N 1 + 1 ≤ i := hi
    exact j4 i (by omega)
  · intro k hk
    have := j11 k hk
    show c32 (A 13 k) < N 1 + 1 ∧ A 13 k = nI (c32 (A 13 k))
    exact ⟨by omega, this.2⟩
theorem inv_rule (hI : inv N A B L) {x1 x2 x3 x4 x5 x6 : Int32} (h : kc (!(inR x1 8 && (inR x4 10 && inR x5 10))) (decide (x2 = x1) || !(decide (x2 = -1) || inR x2 8) || !inR x3 10 || decide (x5 < x4) || !inR x6 301) (decide (N 2 = 20)) = 0) : inv (va_up N 2 (N 2 + 1)) (rlA A (N 2) x1 x2 x3 x4 x5 x6) B L := by
  obtain ⟨h1, h2, h3⟩ := kc0 h
  have h5 := of_decide_eq_false h3
  have h6 := nb h1
  rw [Bool.and_eq_true] at h6
  have k1 := inR_c32 h6.1 (by decide)
  simp only [Bool.or_eq_false_iff] at h2
  have k3 := inR_c32 (nb h2.1.1.2) (by decide)
  have k2 := nb h2.1.1.1.2
  obtain ⟨⟨i1, i2, i3, i4⟩, j2, j3, j4, j5, j6, j7, j8, j9, j10, j11⟩ := hI
  refine ⟨⟨i1, i2, ?_, i4⟩, j2, j3, j4, j5, ?_, ?_, j8, j9, j10, j11⟩
  · show N 2 + 1 ≤ 20
    omega
  · intro r hr
    have hr2 : r < N 2 + 1 := hr
    show c32 (upd (A 7) (N 2) x1 r) < 8 ∧ upd (A 7) (N 2) x1 r = nI (c32 (upd (A 7) (N 2) x1 r)) ∧ c32 (upd (A 9) (N 2) x3 r) < 10 ∧ upd (A 9) (N 2) x3 r = nI (c32 (upd (A 9) (N 2) x3 r)) ∧ upd (A 8) (N 2) x2 r = toI (if upd (A 8) (N 2) x2 r = -1 then none else some (c32 (upd (A 8) (N 2) x2 r))) ∧ ∀ t, (if upd (A 8) (N 2) x2 r = -1 then none else some (c32 (upd (A 8) (N 2) x2 r))) = some t → t < 8
    by_cases e : r = N 2
    · rw [e, pk_us, pk_us, pk_us]
      refine ⟨k1.1, k1.2, k3.1, k3.2, ?_⟩
      by_cases hm : x2 = -1
      · rw [if_pos hm]
        exact ⟨hm, fun t ht => by cases ht⟩
      · rw [decide_eq_false hm, Bool.false_or] at k2
        have k4 := inR_c32 k2 (by decide)
        rw [if_neg hm]
        exact ⟨k4.2, fun t ht => by cases ht; exact k4.1⟩
    · rw [pk_un e, pk_un e, pk_un e]
      exact j6 r (by omega)
  · intro r hr
    have hr2 : N 2 + 1 ≤ r := hr
    exact j7 r (by omega)
theorem inv_rest (hI : inv N A B L) {x1 x2 : Int32} (h : kc (!(inR x1 (N 2) && inR x2 (N 1))) (B 1 (c32 x1) || B 0 (c32 x2) || hasB (L 0 (c32 x1)) (lN (2 ^ c32 x2))) false = 0) : inv N A B (va_up L 0 (vp_updL (L 0) (c32 x1) (L 0 (c32 x1) ||| lN (2 ^ c32 x2)))) := by
  obtain ⟨h1, h2, -⟩ := kc0 h
  have h6 := nb h1
  rw [Bool.and_eq_true] at h6
  obtain ⟨⟨i1, i2, i3, i4⟩, j2, j3, j4, j5, j6, j7, j8, j9, j10, j11⟩ := hI
  have k1 := inR_c32 h6.1 (by omega)
  have k2 := inR_c32 h6.2 (by omega)
  simp only [Bool.or_eq_false_iff] at h2
  refine ⟨⟨i1, i2, i3, i4⟩, j2, j3, j4, j5, j6, ?_, ?_, ?_, j10, j11⟩
  · intro r hr
    have e : r ≠ c32 x1 := by omega
    show vp_updL (L 0) (c32 x1) _ r = 0 ∧ B 1 r = false
    rw [pk_uLn e]
    exact j7 r hr
  · intro r hr
    show vp_updL (L 0) (c32 x1) _ r = 0
    have e : r ≠ c32 x1 := fun z => by rw [z, h2.1.1] at hr; cases hr
    rw [pk_uLn e]
    exact j8 r hr
  · intro r
    show ∃ G, G < 1099511627776 ∧ vp_updL (L 0) (c32 x1) _ r = lN G
    by_cases e : r = c32 x1
    · obtain ⟨G, hG, hGe⟩ := j9 (c32 x1)
      rw [e, pk_uLs, hGe, fb_orL]
      exact ⟨_, or_lt40 hG (p2_lt (by omega)), rfl⟩
    · rw [pk_uLn e]
      exact j9 r
theorem inv_copy (hI : inv N A B L) {x1 : Int32} : inv N A B (va_up L 1 (vp_updL (L 1) (c32 x1) (lN (thS (B 0) (N 1))))) := by
  obtain ⟨⟨i1, i2, i3, i4⟩, j2, j3, j4, j5, j6, j7, j8, j9, j10, j11⟩ := hI
  refine ⟨⟨i1, i2, i3, i4⟩, j2, j3, j4, j5, j6, j7, j8, j9, ?_, j11⟩
  intro w hw
  show ∃ K, K < 1099511627776 ∧ vp_updL (L 1) (c32 x1) _ w = lN K
  by_cases e : w = c32 x1
  · rw [e, pk_uLs]
    exact ⟨_, thS_lt i2, rfl⟩
  · rw [pk_uLn e]
    exact j10 w hw
theorem inv_tell (hI : inv N A B L) {x1 : Int32} (h : kc (!inR x1 3) false false = 0) : inv N A B (va_up L 1 (vp_updL (L 1) (c32 x1) (L 1 (c32 x1) &&& lN (thS (B 0) (N 1))))) := by
  obtain ⟨h1, -, -⟩ := kc0 h
  have k1 := inR_c32 (nb h1) (by decide)
  obtain ⟨⟨i1, i2, i3, i4⟩, j2, j3, j4, j5, j6, j7, j8, j9, j10, j11⟩ := hI
  refine ⟨⟨i1, i2, i3, i4⟩, j2, j3, j4, j5, j6, j7, j8, j9, ?_, j11⟩
  intro w hw
  show ∃ K, K < 1099511627776 ∧ vp_updL (L 1) (c32 x1) _ w = lN K
  by_cases e : w = c32 x1
  · obtain ⟨K, hK, hKe⟩ := j10 (c32 x1) k1.1
    rw [e, pk_uLs, hKe, fb_andL]
    exact ⟨_, and_lt40 hK, rfl⟩
  · rw [pk_uLn e]
    exact j10 w hw
theorem inv_quote (hI : inv N A B L) {x1 : Int32} (h : kc (!inR x1 (N 1)) (B 0 (c32 x1) || decide (N 3 = 20)) false = 0) : inv (va_up N 3 (N 3 + 1)) (va_up A 13 (upd (A 13) (N 3) x1)) B L := by
  obtain ⟨h1, h2, -⟩ := kc0 h
  rw [Bool.or_eq_false_iff] at h2
  have h5 := of_decide_eq_false h2.2
  obtain ⟨⟨i1, i2, i3, i4⟩, j2, j3, j4, j5, j6, j7, j8, j9, j10, j11⟩ := hI
  have k1 := inR_c32 (nb h1) (by omega)
  refine ⟨⟨i1, i2, i3, ?_⟩, j2, j3, j4, j5, j6, j7, j8, j9, j10, ?_⟩
  · show N 3 + 1 ≤ 20
    omega
  · intro k hk
    have hk2 : k < N 3 + 1 := hk
    show c32 (upd (A 13) (N 3) x1 k) < N 1 ∧ upd (A 13) (N 3) x1 k = nI (c32 (upd (A 13) (N 3) x1 k))
    by_cases e : k = N 3
    · rw [e, pk_us]
      exact k1
    · rw [pk_un e]
      exact j11 k (by omega)
theorem inv_forget (hI : inv N A B L) {x1 : Int32} : inv N A (va_up (va_up B 0 (goN (N 1) (B 0) (A 1) x1)) 1 (faN (L 0) (B 1) (fgS (B 0) (A 1) x1 (N 1)))) (va_up L 0 (grN (L 0) (fgS (B 0) (A 1) x1 (N 1)))) := by
  obtain ⟨⟨i1, i2, i3, i4⟩, j2, j3, j4, j5, j6, j7, j8, j9, j10, j11⟩ := hI
  have gz : ∀ r, L 0 r = 0 → grN (L 0) (fgS (B 0) (A 1) x1 (N 1)) r = 0 := fun r h => by
    rw [grN, h]
    exact Int64.zero_and
  refine ⟨⟨i1, i2, i3, i4⟩, j2, j3, ?_, j5, j6, ?_, ?_, ?_, j10, j11⟩
  · intro i hi
    show goN (N 1) (B 0) (A 1) x1 i = false
    rw [goN, j4 i hi, decide_eq_false (by omega)]
    rfl
  · intro r hr
    obtain ⟨h1, h2⟩ := j7 r hr
    refine ⟨gz r h1, ?_⟩
    show faN (L 0) (B 1) _ r = false
    rw [faN, h1, h2]
    rfl
  · intro r hr
    have hr2 : faN (L 0) (B 1) (fgS (B 0) (A 1) x1 (N 1)) r = true := hr
    show grN (L 0) _ r = 0
    rw [faN, Bool.or_eq_true, Bool.and_eq_true] at hr2
    rcases hr2 with h | h
    · exact gz r (j8 r h)
    · exact of_decide_eq_true h.2
  · intro r
    obtain ⟨G, hG, hGe⟩ := j9 r
    show ∃ G2, G2 < 1099511627776 ∧ grN (L 0) _ r = lN G2
    rw [grN, hGe, andn]
    exact ⟨_, andn_lt hG, rfl⟩
theorem inv_start {ro : Nat → Int32} (h : ∀ j, j < 4 → ro j = -1) : inv (fun _ => 0) (fun k => if k = 6 then ro else fun _ => 0) (fun _ _ => false) (fun _ _ => 0) := by
  refine ⟨⟨by decide, by decide, by decide, by decide⟩, fun k hk => absurd hk (Nat.not_lt_zero k), fun k hk => absurd hk (Nat.not_lt_zero k), fun _ _ => rfl, ?_, fun k hk => absurd hk (Nat.not_lt_zero k), fun _ _ => ⟨rfl, rfl⟩, (fun _ hr => Bool.noConfusion hr), (fun _ => ⟨0, by decide, rfl⟩), (fun _ _ => ⟨0, by decide, rfl⟩), fun k hk => absurd hk (Nat.not_lt_zero k)⟩
  intro w hw
  show roI (unF (ro w)) = ro w
  rw [h w hw, unF_m1]
  rfl
/-- the class's world at its start -/
theorem cR_start (g : q_G) (ad : Nat → Nat) (ro : Nat → Int32) (ro2 : Nat → Int32) (wm : va_W) (h : ∀ j, j < 4 → ro j = -1) (h2 : ∀ j, j < 4 → ro2 j = -1) : cR g (ad 8) (fun _ => 0) (fun k => if k = 6 then ro2 else fun _ => 0) (fun _ _ => false) (fun _ _ => 0) wm (iF g ad (fun _ => 0) (fun _ => g.2.2.2.1) (fun _ => 0) 0 0 0 ro (fun _ => 0) (fun _ => 0) (fun _ => 0) ++ wm) := by
  refine ⟨ad, fun _ => 0, fun _ => g.2.2.2.1, fun _ => 0, fun _ => 0, 0, 0, 0, ro, fun _ => 0, fun _ => 0, fun _ => 0, [], fun _ => .inr (0, []), rfl, ?_, ⟨rfl, rfl, rfl⟩, ?_, ?_, fun _ _ => rfl, fun i hi => absurd hi (Nat.not_lt_zero i), fun i hi => absurd hi (Nat.not_lt_zero i), fun i _ hi => absurd hi (Nat.not_lt_zero i), Or.inl ⟨rfl, rfl⟩, Or.inl ⟨rfl, rfl⟩, Or.inl ⟨rfl, rfl⟩, fun z => absurd z (Nat.not_lt_zero _), fun z => absurd z (Nat.not_lt_zero _), fun z => absurd z (Nat.not_lt_zero _)⟩
  · show iF g ad (fun _ => 0) (fun _ => g.2.2.2.1) (fun _ => 0) 0 0 0 ro (fun _ => 0) (fun _ => 0) (fun _ => 0) ++ wm = iF g ad (fun _ => 0) (fun _ => g.2.2.2.1) (fun _ => 0) 0 0 0 ro (fun _ => 0) (fun _ => 0) (fun _ => 0) ++ (wm ++ [])
    rw [List.append_nil]
  · intro w hw
    exact (h w hw).trans (h2 w hw).symm
  · intro w hw
    rfl
end INV
end
section
/-! the fewest steps, read from either end and from either side -/
def scL : List (Option Nat × Option Nat) → List Nat
  | [] => []
  | q :: s => q.1.toList ++ scL s
def scR : List (Option Nat × Option Nat) → List Nat
  | [] => []
  | q :: s => q.2.toList ++ scR s
def sc1 : Option Nat × Option Nat → Nat
  | (some x, some y) => if x = y then 0 else 1
  | (none, none) => 0
  | (some _, none) => 1
  | (none, some _) => 1
def scC : List (Option Nat × Option Nat) → Nat
  | [] => 0
  | q :: s => sc1 q + scC s
theorem scL_app (s t : List (Option Nat × Option Nat)) : scL (s ++ t) = scL s ++ scL t := by
  induction s with
  | nil => rfl
  | cons q s ih => rw [List.cons_append, scL, scL, ih, List.append_assoc]
theorem scR_app (s t : List (Option Nat × Option Nat)) : scR (s ++ t) = scR s ++ scR t := by
  induction s with
  | nil => rfl
  | cons q s ih => rw [List.cons_append, scR, scR, ih, List.append_assoc]
theorem scC_app (s t : List (Option Nat × Option Nat)) : scC (s ++ t) = scC s + scC t := by
  induction s with
  | nil => exact (Nat.zero_add _).symm
  | cons q s ih => rw [List.cons_append, scC, scC, ih, Nat.add_assoc]
theorem o_rev (q : Option Nat) : q.toList.reverse = q.toList := by cases q <;> rfl
theorem scL_rev (s : List (Option Nat × Option Nat)) : scL s.reverse = (scL s).reverse := by
  induction s with
  | nil => rfl
  | cons q s ih => rw [List.reverse_cons, scL_app, ih, show scL (q :: s) = q.1.toList ++ scL s from rfl, List.reverse_append, o_rev]; simp [scL]
theorem scR_rev (s : List (Option Nat × Option Nat)) : scR s.reverse = (scR s).reverse := by
  induction s with
  | nil => rfl
  | cons q s ih => rw [List.reverse_cons, scR_app, ih, show scR (q :: s) = q.2.toList ++ scR s from rfl, List.reverse_append, o_rev]; simp [scR]
theorem scC_rev (s : List (Option Nat × Option Nat)) : scC s.reverse = scC s := by
  induction s with
  | nil => rfl
  | cons q s ih => rw [List.reverse_cons, scC_app, ih, scC, Nat.add_comm]; simp [scC]
def scS (s : List (Option Nat × Option Nat)) : List (Option Nat × Option Nat) := s.map (fun q => (q.2, q.1))
theorem scS_L (s : List (Option Nat × Option Nat)) : scL (scS s) = scR s := by
  induction s with
  | nil => rfl
  | cons q s ih =>
    show q.2.toList ++ scL (scS s) = q.2.toList ++ scR s
    rw [ih]
theorem scS_R (s : List (Option Nat × Option Nat)) : scR (scS s) = scL s := by
  induction s with
  | nil => rfl
  | cons q s ih =>
    show q.1.toList ++ scR (scS s) = q.1.toList ++ scL s
    rw [ih]
theorem sc1_S (a b : Option Nat) : sc1 (a, b) = sc1 (b, a) := by
  cases a <;> cases b <;> first | rfl | (simp only [sc1, eq_comm])
theorem scS_C (s : List (Option Nat × Option Nat)) : scC (scS s) = scC s := by
  induction s with
  | nil => rfl
  | cons q s ih =>
    show sc1 (q.2, q.1) + scC (scS s) = sc1 q + scC s
    rw [ih, sc1_S]
theorem lev_sc (s : List (Option Nat × Option Nat)) : lev (scL s) (scR s) ≤ scC s := by
  induction s with
  | nil => exact Nat.le_refl _
  | cons q s ih =>
    obtain ⟨a, b⟩ := q
    cases a with
    | none =>
      cases b with
      | none =>
        show lev (scL s) (scR s) ≤ 0 + scC s
        omega
      | some y =>
        show lev (scL s) (y :: scR s) ≤ 1 + scC s
        cases h : scL s with
        | nil =>
          rw [h] at ih
          have ih2 : (scR s).length ≤ scC s := ih
          show (y :: scR s).length ≤ 1 + scC s
          rw [List.length_cons]
          omega
        | cons x a =>
          rw [h] at ih
          rw [lev] at ih ⊢
          rw [levI]
          omega
    | some x =>
      cases b with
      | none =>
        show lev (x :: scL s) (scR s) ≤ 1 + scC s
        have := levI_le x (lev (scL s)) (scR s)
        rw [lev]
        omega
      | some y =>
        show lev (x :: scL s) (y :: scR s) ≤ (if x = y then 0 else 1) + scC s
        rw [lev, levI]
        omega
theorem lev_ex : ∀ (a b : List Nat), ∃ s, scL s = a ∧ scR s = b ∧ scC s = lev a b
  | [], [] => ⟨[], rfl, rfl, rfl⟩
  | [], y :: b => by
    obtain ⟨s, h1, h2, h3⟩ := lev_ex [] b
    refine ⟨(none, some y) :: s, h1, congrArg (y :: ·) h2, ?_⟩
    have h4 : scC s = b.length := h3
    show 1 + scC s = (y :: b).length
    rw [h4, List.length_cons, Nat.add_comm]
  | x :: a, [] => by
    obtain ⟨s, h1, h2, h3⟩ := lev_ex a []
    refine ⟨(some x, none) :: s, congrArg (x :: ·) h1, h2, ?_⟩
    rw [lev, levI, scC, h3, sc1, Nat.add_comm]
  | x :: a, y :: b => by
    obtain ⟨s1, a1, b1, c1⟩ := lev_ex a b
    obtain ⟨s2, a2, b2, c2⟩ := lev_ex a (y :: b)
    obtain ⟨s3, a3, b3, c3⟩ := lev_ex (x :: a) b
    rw [lev] at c3
    have e : lev (x :: a) (y :: b) = min (lev a b + if x = y then 0 else 1) (min (lev a (y :: b)) (levI x (lev a) b) + 1) := rfl
    by_cases h1 : lev (x :: a) (y :: b) = lev a b + if x = y then 0 else 1
    · exact ⟨(some x, some y) :: s1, congrArg (x :: ·) a1, congrArg (y :: ·) b1, by rw [h1, scC, c1, sc1, Nat.add_comm]⟩
    · by_cases h2 : lev (x :: a) (y :: b) = lev a (y :: b) + 1
      · exact ⟨(some x, none) :: s2, congrArg (x :: ·) a2, b2, by rw [h2, scC, c2, sc1, Nat.add_comm]⟩
      · refine ⟨(none, some y) :: s3, a3, congrArg (y :: ·) b3, ?_⟩
        rw [scC, c3, sc1]
        omega
theorem lev_rev_le (a b : List Nat) : lev a.reverse b.reverse ≤ lev a b := by
  obtain ⟨s, h1, h2, h3⟩ := lev_ex a b
  have h := lev_sc s.reverse
  rwa [scL_rev, scR_rev, scC_rev, h1, h2, h3] at h
theorem lev_rev (a b : List Nat) : lev a.reverse b.reverse = lev a b := by
  apply Nat.le_antisymm (lev_rev_le a b)
  have h := lev_rev_le a.reverse b.reverse
  rwa [List.reverse_reverse, List.reverse_reverse] at h
theorem lev_sym_le (a b : List Nat) : lev b a ≤ lev a b := by
  obtain ⟨s, h1, h2, h3⟩ := lev_ex a b
  have h := lev_sc (scS s)
  rwa [scS_L, scS_R, scS_C, h1, h2, h3] at h
theorem lev_sym (a b : List Nat) : lev b a = lev a b := Nat.le_antisymm (lev_sym_le a b) (lev_sym_le b a)
theorem lev_nil : ∀ a : List Nat, lev a [] = a.length
  | [] => rfl
  | x :: a => by
    rw [lev, levI, lev_nil a]
    rfl
/-- the steps from a part of one word to a part of the other -/
def Dv (a b : List Nat) (i j : Nat) : Nat := lev (a.take i).reverse (b.take j).reverse
theorem tk_rev {a : List Nat} {i : Nat} (h : i < a.length) : (a.take (i + 1)).reverse = a.getD i 0 :: (a.take i).reverse := by
  rw [List.take_succ, List.reverse_append, List.getElem?_eq_getElem h, List.getD, List.getElem?_eq_getElem h]
  rfl
theorem Dv_0 {a b : List Nat} {j : Nat} (h : j ≤ b.length) : Dv a b 0 j = j := by
  show (b.take j).reverse.length = j
  rw [List.length_reverse, List.length_take, Nat.min_eq_left h]
theorem Dv_i {a b : List Nat} {i : Nat} (h : i ≤ a.length) : Dv a b i 0 = i := by
  show lev (a.take i).reverse [] = i
  rw [lev_nil, List.length_reverse, List.length_take, Nat.min_eq_left h]
theorem Dv_s {a b : List Nat} {i j : Nat} (hi : i < a.length) (hj : j < b.length) : Dv a b (i + 1) (j + 1) = min (Dv a b i j + if a.getD i 0 = b.getD j 0 then 0 else 1) (min (Dv a b i (j + 1)) (Dv a b (i + 1) j) + 1) := by
  simp only [Dv, tk_rev hi, tk_rev hj]
  rfl
theorem Dv_le (a b : List Nat) (i j : Nat) : Dv a b i j ≤ a.length + b.length := by
  have h := lev_le (a.take i).reverse (b.take j).reverse
  simp only [List.length_reverse, List.length_take] at h
  rw [Dv]
  omega
theorem Dv_end (a b : List Nat) : Dv a b a.length b.length = lev b a := by rw [Dv, List.take_length, List.take_length, lev_rev, lev_sym]
theorem gD8 {l : List Nat} (h : snd l) {i : Nat} (hi : i < l.length) : l.getD i 0 < 8 := by
  rw [List.getD, List.getElem?_eq_getElem hi]
  exact h _ (List.getElem_mem hi)
end
section
/-! sets in an int, as the law keeps them -/
theorem fa_or (a b : Nat) : nI a ||| nI b = nI (a ||| b) := by
  apply Int32.toBitVec_inj.1
  show BitVec.ofNat 32 a ||| BitVec.ofNat 32 b = BitVec.ofNat 32 (a ||| b)
  apply BitVec.eq_of_getLsbD_eq
  intro i hi
  simp [hi]
theorem fa_xor (a b : Nat) : nI a ^^^ nI b = nI (a ^^^ b) := by
  apply Int32.toBitVec_inj.1
  show BitVec.ofNat 32 a ^^^ BitVec.ofNat 32 b = BitVec.ofNat 32 (a ^^^ b)
  apply BitVec.eq_of_getLsbD_eq
  intro i hi
  simp [hi]
theorem andn_bv32 (X Y : BitVec 32) : X &&& (Y ^^^ BitVec.allOnes 32) = X ^^^ (X &&& Y) := by
  apply BitVec.eq_of_getLsbD_eq
  intro i hi
  rw [BitVec.getLsbD_and, BitVec.getLsbD_xor, BitVec.getLsbD_xor, BitVec.getLsbD_and, BitVec.getLsbD_allOnes, decide_eq_true hi]
  cases X.getLsbD i <;> cases Y.getLsbD i <;> rfl
theorem andnI (a b : Nat) : nI a &&& (nI b ^^^ (-1)) = nI (a ^^^ (a &&& b)) := by
  rw [← fa_xor, ← fa_and]
  apply Int32.toBitVec_inj.1
  have e : (-1 : Int32).toBitVec = BitVec.allOnes 32 := by decide
  rw [Int32.toBitVec_and, Int32.toBitVec_xor, Int32.toBitVec_xor, Int32.toBitVec_and, e]
  exact andn_bv32 _ _
theorem nI_c31 : ∀ k, k < 31 → ((nI k &&& 31).toBitVec.smod 32).toNat = k := by decide +kernel
theorem shr1 {G k : Nat} (hG : G < 2147483648) (hk : k < 31) : (nI G >>> (nI k &&& 31)) &&& nI 1 = bI (G.testBit k) := by
  rw [pk_shrN hG _ k (nI_c31 k hk), fa_and, Nat.and_one_is_mod, Nat.testBit_eq_decide_div_mod_eq]
  rcases Nat.mod_two_eq_zero_or_one (G / 2 ^ k) with h | h <;> rw [h] <;> rfl
theorem shrm {G k : Nat} (hG : G < 2147483648) (hk : k < 31) : (nI G >>> (nI k &&& 31)) &&& nI 1 = nI (G / 2 ^ k % 2) := by
  rw [pk_shrN hG _ k (nI_c31 k hk), fa_and, Nat.and_one_is_mod]
theorem shl1 {k : Nat} (hk : k < 31) : nI 1 <<< (nI k &&& 31) = nI (2 ^ k) := by
  rw [pk_shlN (nI k &&& 31) k (nI_c31 k hk) (by rw [Nat.one_mul]; exact Nat.pow_lt_pow_right (by decide) (by omega)), Nat.one_mul]
theorem bcS_16 {N : Nat} (h : N < 65536) : bcS N 16 = bc N := by
  have z : ∀ k, 16 ≤ k → bcS N k = bcS N 16 := by
    intro k
    induction k with
    | zero => intro hk; omega
    | succ j ih =>
      intro hk
      by_cases e : j + 1 = 16
      · rw [e]
      · have hp : 65536 ≤ 2 ^ j := Nat.pow_le_pow_right (n := 2) (m := 16) (by decide) (by omega)
        have e2 : N / 2 ^ j = 0 := Nat.div_eq_of_lt (Nat.lt_of_lt_of_le h hp)
        have h3 : N / 2 ^ j % 2 = 0 := by simp [e2]
        exact (congrArg (fun t => bcS N j + t) h3).trans (ih (by omega))
  exact (z 40 (by decide)).symm
def bw (K n : Nat) : Prop := ∀ i, K.testBit i = true → i < n
theorem bw_lt {K n : Nat} (hn : n ≤ 16) (h : bw K n) : K < 65536 := by
  have := Nat.lt_pow_two_of_testBit (n := 16) K (fun i hi => by
    cases e : K.testBit i with
    | false => rfl
    | true => have := h i e; omega)
  simpa using this
theorem bw_le {K n m : Nat} (h : bw K n) (hm : n ≤ m) : bw K m := fun i hi => Nat.lt_of_lt_of_le (h i hi) hm
theorem bw_thS (go : Nat → Bool) (n : Nat) : bw (thS go n) n := fun i hi => by
  rw [thS_bit] at hi
  simp only [Bool.and_eq_true, decide_eq_true_eq] at hi
  exact hi.1
theorem bw_fgS (go : Nat → Bool) (inf : Nat → Int32) (who : Int32) (n : Nat) : bw (fgS go inf who n) n := fun i hi => by
  rw [fgS_bit] at hi
  simp only [Bool.and_eq_true, decide_eq_true_eq] at hi
  exact hi.1
theorem bw_0 (n : Nat) : bw 0 n := fun i hi => by simp at hi
theorem bw_or2 {K n k : Nat} (h : bw K n) (hk : k < n) : bw (K ||| 2 ^ k) n := fun i hi => by
  rw [fb_bit_set] at hi
  simp only [Bool.or_eq_true, decide_eq_true_eq] at hi
  rcases hi with hi | hi
  · exact h i hi
  · omega
theorem bw_andn {K n F : Nat} (h : bw K n) : bw (K ^^^ (K &&& F)) n := fun i hi => by
  rw [andn_bit] at hi
  simp only [Bool.and_eq_true] at hi
  exact h i hi.1
theorem bw_and {K n F : Nat} (h : bw K n) : bw (K &&& F) n := fun i hi => by
  rw [Nat.testBit_and] at hi
  simp only [Bool.and_eq_true] at hi
  exact h i hi.1
abbrev ngo (go : Nat → Bool) : Nat → Bool := fun i => !go i
theorem goS_bit (go : Nat → Bool) {n i : Nat} (hi : i < n) : (thS (ngo go) n).testBit i = go i := by
  rw [thS_bit, decide_eq_true hi]
  cases h : go i <;> simp [ngo, h]
theorem ow_eq {go : Nat → Bool} {n K : Nat} (h : bw K n) : K &&& thS (ngo go) n = K ^^^ (K &&& thS go n) := by
  apply Nat.eq_of_testBit_eq
  intro i
  rw [Nat.testBit_and, andn_bit, thS_bit, thS_bit]
  cases hk : K.testBit i with
  | false => rfl
  | true =>
    rw [decide_eq_true (h i hk)]
    cases hg : go i <;> simp [ngo, hg]
theorem tl_eq {go : Nat → Bool} {n K : Nat} (h : bw K n) : K ^^^ (K &&& thS (ngo go) n) = K &&& thS go n := by
  apply Nat.eq_of_testBit_eq
  intro i
  rw [Nat.testBit_and, andn_bit, thS_bit, thS_bit]
  cases hk : K.testBit i with
  | false => rfl
  | true =>
    rw [decide_eq_true (h i hk)]
    cases hg : go i <;> simp [ngo, hg]
theorem cp_eq {go : Nat → Bool} {n : Nat} : (2 ^ n - 1) ^^^ ((2 ^ n - 1) &&& thS (ngo go) n) = thS go n := by
  apply Nat.eq_of_testBit_eq
  intro i
  rw [andn_bit, thS_bit, thS_bit, Nat.testBit_two_pow_sub_one]
  cases decide (i < n) <;> cases hg : go i <;> simp [ngo, hg]
theorem fg_eq {go : Nat → Bool} {inf : Nat → Int32} {who : Int32} {n : Nat} : thS (ngo go) n ||| fgS go inf who n = thS (ngo (goN n go inf who)) n := by
  apply Nat.eq_of_testBit_eq
  intro i
  rw [Nat.testBit_or, thS_bit, fgS_bit, thS_bit]
  unfold ngo goN
  cases decide (i < n) <;> cases go i <;> cases decide (inf i = who) <;> rfl
theorem or_thS (p q : Nat → Bool) (n : Nat) : thS (ngo p) n ||| thS (ngo q) n = thS (ngo (fun r => p r || q r)) n := by
  apply Nat.eq_of_testBit_eq
  intro i
  rw [Nat.testBit_or, thS_bit, thS_bit, thS_bit]
  unfold ngo
  cases decide (i < n) <;> cases p i <;> cases q i <;> rfl
def fcn (E F : Nat) : Bool := !decide (E &&& F = 0) && decide (E ^^^ (E &&& F) = 0)
theorem fa_eq {L0 : Nat → Int64} {fa : Nat → Bool} {F r E : Nat} (hE : E < 65536) (h : L0 r = lN E) : faN L0 fa F r = (fa r || fcn E F) := by
  have hx : E ^^^ (E &&& F) < 65536 := by
    have := Nat.xor_lt_two_pow (n := 16) (by simpa using hE) (show E &&& F < 2 ^ 16 from Nat.lt_of_le_of_lt Nat.and_le_left (by simpa using hE))
    simpa using this
  have z : ∀ x : Nat, x < 65536 → decide (lN x = 0) = decide (x = 0) := fun x hx => decide_eq_decide.mpr (fb_lN_inj (b := 0) (by omega) (by decide))
  unfold faN fcn
  rw [grN, h, andn, z _ hE, z _ hx]
  congr 1
  by_cases hX : E ^^^ (E &&& F) = 0
  · have hb : ∀ i, (E ^^^ (E &&& F)).testBit i = false := fun i => by rw [hX]; exact Nat.zero_testBit i
    have e : E &&& F = E := by
      apply Nat.eq_of_testBit_eq
      intro i
      have h1 := hb i
      rw [andn_bit] at h1
      rw [Nat.testBit_and]
      cases h2 : E.testBit i with
      | false => rfl
      | true =>
        rw [h2] at h1
        cases h3 : F.testBit i with
        | true => rfl
        | false => rw [h3] at h1; cases h1
    rw [e]
  · rw [decide_eq_false hX, Bool.and_false, Bool.and_false]
/-! the form told most, counted from the last interview on -/
def mdF (hr : Nat → Bool) (fi : Nat → Nat → Int32) (n : Nat) (w p : Int32) : Nat → Int32 × Nat
  | 0 => (-1, 0)
  | j + 1 => if mtc hr fi w p (n - 1 - j) && decide ((mdF hr fi n w p j).2 ≤ cntF hr fi w p (fi 4 (n - 1 - j)) n) then (fi 4 (n - 1 - j), cntF hr fi w p (fi 4 (n - 1 - j)) n) else mdF hr fi n w p j
section MD
variable {hr : Nat → Bool} {fi : Nat → Nat → Int32} {n : Nat} {w p : Int32}
theorem mdF_le : ∀ k, (mdF hr fi n w p k).2 ≤ n
  | 0 => Nat.zero_le _
  | k + 1 => by
    rw [mdF]
    split
    · exact cntF_le hr fi w p _ n
    · exact mdF_le k
theorem cnt_mono (f : Int32) (i : Nat) : ∀ k, cntF hr fi w p f i ≤ cntF hr fi w p f (i + k)
  | 0 => Nat.le_refl _
  | k + 1 => by
    have h := cnt_mono f i k
    show cntF hr fi w p f i ≤ cntF hr fi w p f (i + k + 1)
    rw [cntF]
    split <;> omega
theorem cnt_pos {k : Nat} (hk : k < n) (h : mtc hr fi w p k = true) : 0 < cntF hr fi w p (fi 4 k) n := by
  have h1 : cntF hr fi w p (fi 4 k) (k + 1) = cntF hr fi w p (fi 4 k) k + 1 := cntF_yes (by rw [h]; simp)
  have h2 := cnt_mono (hr := hr) (fi := fi) (w := w) (p := p) (fi 4 k) (k + 1) (n - (k + 1))
  rw [show k + 1 + (n - (k + 1)) = n by omega] at h2
  omega
def best (hr : Nat → Bool) (fi : Nat → Nat → Int32) (n : Nat) (w p : Int32) (a b : Nat) (r : Int32 × Nat) : Prop :=
  (r = (-1, 0) ∧ ∀ i, a ≤ i → i < b → mtc hr fi w p i = false) ∨ ∃ t, a ≤ t ∧ t < b ∧ mtc hr fi w p t = true ∧ r = (fi 4 t, cntF hr fi w p (fi 4 t) n) ∧ (∀ i, a ≤ i → i < b → mtc hr fi w p i = true → cntF hr fi w p (fi 4 i) n ≤ cntF hr fi w p (fi 4 t) n) ∧ (∀ i, a ≤ i → i < t → mtc hr fi w p i = true → cntF hr fi w p (fi 4 i) n < cntF hr fi w p (fi 4 t) n)
theorem best_asc : ∀ k, k ≤ n → best hr fi n w p 0 k (mstF hr fi n w p k)
  | 0, _ => Or.inl ⟨rfl, fun i _ h => absurd h (Nat.not_lt_zero i)⟩
  | k + 1, hk => by
    have ih := best_asc (hr := hr) (fi := fi) (w := w) (p := p) k (by omega)
    by_cases hm : mtc hr fi w p k = true
    · rcases ih with ⟨e, h0⟩ | ⟨t, -, h1, h2, e, h3, h4⟩
      · have hp := cnt_pos (n := n) (by omega) hm
        rw [mstF_yes (by rw [hm, e]; simpa using hp)]
        refine Or.inr ⟨k, Nat.zero_le _, by omega, hm, rfl, fun i _ hi hi2 => ?_, fun i _ hi hi2 => ?_⟩
        · by_cases e9 : i = k
          · rw [e9]; exact Nat.le_refl _
          · rw [h0 i (Nat.zero_le _) (by omega)] at hi2; cases hi2
        · rw [h0 i (Nat.zero_le _) hi] at hi2; cases hi2
      · by_cases hc : cntF hr fi w p (fi 4 t) n < cntF hr fi w p (fi 4 k) n
        · rw [mstF_yes (by rw [hm, e]; simpa using hc)]
          refine Or.inr ⟨k, Nat.zero_le _, by omega, hm, rfl, fun i _ hi hi2 => ?_, fun i _ hi hi2 => ?_⟩
          · by_cases e9 : i = k
            · rw [e9]; exact Nat.le_refl _
            · have := h3 i (Nat.zero_le _) (by omega) hi2; omega
          · have := h3 i (Nat.zero_le _) hi hi2; omega
        · rw [mstF_no (by rw [hm, e]; simpa using hc)]
          refine Or.inr ⟨t, Nat.zero_le _, by omega, h2, e, fun i _ hi hi2 => ?_, h4⟩
          by_cases e9 : i = k
          · rw [e9]; omega
          · exact h3 i (Nat.zero_le _) (by omega) hi2
    · have hm : mtc hr fi w p k = false := by simpa using hm
      rw [mstF_no (by rw [hm]; rfl)]
      rcases ih with ⟨e, h0⟩ | ⟨t, -, h1, h2, e, h3, h4⟩
      · refine Or.inl ⟨e, fun i _ hi => ?_⟩
        by_cases e9 : i = k
        · rw [e9]; exact hm
        · exact h0 i (Nat.zero_le _) (by omega)
      · refine Or.inr ⟨t, Nat.zero_le _, by omega, h2, e, fun i _ hi hi2 => ?_, h4⟩
        by_cases e9 : i = k
        · rw [e9, hm] at hi2; cases hi2
        · exact h3 i (Nat.zero_le _) (by omega) hi2
theorem best_desc : ∀ j, j ≤ n → best hr fi n w p (n - j) n (mdF hr fi n w p j)
  | 0, _ => Or.inl ⟨rfl, fun i h1 h2 => by omega⟩
  | j + 1, hj => by
    have ih := best_desc (hr := hr) (fi := fi) (w := w) (p := p) j (by omega)
    obtain ⟨k, hk, e1, e2⟩ : ∃ k, k < n ∧ n - 1 - j = k ∧ n - j = k + 1 := ⟨n - 1 - j, by omega, rfl, by omega⟩
    rw [show n - (j + 1) = k by omega, mdF, e1]
    rw [e2] at ih
    by_cases hm : mtc hr fi w p k = true
    · rcases ih with ⟨e, h0⟩ | ⟨t, h5, h1, h2, e, h3, h4⟩
      · rw [if_pos (by rw [hm, e]; simp)]
        refine Or.inr ⟨k, Nat.le_refl _, hk, hm, rfl, fun i h7 hi hi2 => ?_, fun i h7 hi hi2 => by omega⟩
        by_cases e9 : i = k
        · rw [e9]; exact Nat.le_refl _
        · rw [h0 i (by omega) hi] at hi2; cases hi2
      · by_cases hc : cntF hr fi w p (fi 4 t) n ≤ cntF hr fi w p (fi 4 k) n
        · rw [if_pos (by rw [hm, e]; simpa using hc)]
          refine Or.inr ⟨k, Nat.le_refl _, hk, hm, rfl, fun i h7 hi hi2 => ?_, fun i h7 hi hi2 => by omega⟩
          by_cases e9 : i = k
          · rw [e9]; exact Nat.le_refl _
          · have := h3 i (by omega) hi hi2; omega
        · rw [if_neg (by rw [hm, e]; simpa using hc)]
          refine Or.inr ⟨t, by omega, h1, h2, e, fun i h7 hi hi2 => ?_, fun i h7 hi hi2 => ?_⟩
          · by_cases e9 : i = k
            · rw [e9]; omega
            · exact h3 i (by omega) hi hi2
          · by_cases e9 : i = k
            · rw [e9]; omega
            · exact h4 i (by omega) hi hi2
    · have hm : mtc hr fi w p k = false := by simpa using hm
      rw [if_neg (by rw [hm]; simp)]
      rcases ih with ⟨e, h0⟩ | ⟨t, h5, h1, h2, e, h3, h4⟩
      · refine Or.inl ⟨e, fun i h7 hi => ?_⟩
        by_cases e9 : i = k
        · rw [e9]; exact hm
        · exact h0 i (by omega) hi
      · refine Or.inr ⟨t, by omega, h1, h2, e, fun i h7 hi hi2 => ?_, fun i h7 hi hi2 => ?_⟩
        · by_cases e9 : i = k
          · rw [e9, hm] at hi2; cases hi2
          · exact h3 i (by omega) hi hi2
        · by_cases e9 : i = k
          · rw [e9, hm] at hi2; cases hi2
          · exact h4 i (by omega) hi hi2
theorem best_one {a b : Nat} {r q : Int32 × Nat} (h : best hr fi n w p a b r) (h2 : best hr fi n w p a b q) : r = q := by
  rcases h with ⟨e, h0⟩ | ⟨t, h5, h1, h2', e, h3, h4⟩
  · rcases h2 with ⟨f, -⟩ | ⟨u, g5, g1, g2, f, g3, g4⟩
    · rw [e, f]
    · rw [h0 u g5 g1] at g2; cases g2
  · rcases h2 with ⟨f, f0⟩ | ⟨u, g5, g1, g2, f, g3, g4⟩
    · rw [f0 t h5 h1] at h2'; cases h2'
    · rcases Nat.lt_trichotomy t u with z | z | z
      · have := g4 t h5 z h2'
        have := h3 u g5 g1 g2
        omega
      · rw [e, f, z]
      · have := h4 u g5 z g2
        have := g3 t h5 h1 h2'
        omega
theorem md_mst : (mdF hr fi n w p n).1 = mst hr fi n w p := by
  have h := best_desc (hr := hr) (fi := fi) (w := w) (p := p) n (Nat.le_refl n)
  rw [Nat.sub_self] at h
  rw [mst, best_one h (best_asc n (Nat.le_refl n))]
end MD
/-- a number counted down: -1 behind 0 -/
def km : Nat → Int32
  | 0 => -1
  | k + 1 => nI k
theorem km_sub {n : Nat} : nI n - nI 1 = km n := by
  cases n with
  | zero => decide
  | succ k => rw [pk_sub (by omega)]; rfl
theorem km_dec {n : Nat} : nI n + Int32.ofInt (-1) = km n := by rw [← km_sub, Int32.sub_eq_add_neg, show -(nI 1) = Int32.ofInt (-1) from by decide]
theorem km_lt {n : Nat} (hn : n < 2147483648) : km n < 0 ↔ n = 0 := by
  cases n with
  | zero => exact ⟨fun _ => rfl, fun _ => by decide⟩
  | succ k =>
    show nI k < 0 ↔ k + 1 = 0
    rw [i_lt, nI_toInt (by omega), i_0]
    omega
/-- what a form told most is -/
theorem mst_val {N : Nat → Nat} {A : Nat → Nat → Int32} {B : Nat → Nat → Bool} {L : Nat → Nat → Int64} (hI : inv N A B L) (w p : Int32) : mst (hrS B) (fiS A) (N 1) w p = -1 ∨ ∃ k : Nat, k < 43046721 ∧ mst (hrS B) (fiS A) (N 1) w p = nI k := by
  rcases best_asc (hr := hrS B) (fi := fiS A) (w := w) (p := p) (N 1) (Nat.le_refl _) with ⟨e, -⟩ | ⟨t, -, ht, -, e, -⟩
  · exact Or.inl (by rw [mst, e])
  · obtain ⟨l, hl⟩ := (hI.2.2.1 t ht).2
    obtain ⟨e2, e3⟩ := unF_some hl
    exact Or.inr ⟨num l, num_ok e3, by rw [mst, e]; exact e2⟩
theorem m1_ge : ¬ (0 : Int32) ≤ -1 := by decide
theorem nI_ge0 {k : Nat} (hk : k < 2147483648) : ¬ nI k < 0 := nI_pos hk
/-- a line of the map -/
def lnb (h t : Int32) (k : Nat) : Nat := if h ≠ -1 ∧ t ≠ -1 ∧ h ≠ t then 2 ^ k else 0
theorem or_0 (x : Int32) : x ||| nI 0 = x := by
  apply Int32.toBitVec_inj.1
  rw [Int32.toBitVec_or]
  exact BitVec.or_zero
theorem drw_step (ms : Nat → Int32) {k : Nat} (hk : k < 31) : drwF ms (k + 1) = drwF ms k ||| nI (lnb (ms k) (ms (k + 1)) k) := by
  rw [drwF, lnb, lnc]
  by_cases h : ms k ≠ -1 ∧ ms (k + 1) ≠ -1 ∧ ms k ≠ ms (k + 1)
  · rw [if_pos h, decide_eq_true h.1, decide_eq_true h.2.1, decide_eq_true h.2.2, shl1 hk]
    rfl
  · rw [if_neg h, or_0]
    have e : (decide (ms k ≠ -1) && (decide (ms (k + 1) ≠ -1) && decide (ms k ≠ ms (k + 1)))) = false := by
      rw [← Bool.decide_and, ← Bool.decide_and]
      exact decide_eq_false h
    rw [e]
    rfl
end
