/-! the world's environment, out of what the entry gives -/
set_option maxHeartbeats 4000000 in
set_option maxRecDepth 100000 in
theorem w_kn {s : State} {args : Array Value} (hW : ∀ w ∈ WS, w.before args s = true) : ∃ (dC : Nat → ClassId) (dI : Nat → Nat → Nat), ∀ (k : Nat) (q : vw_C), vwCl[k]? = some q → u_Kn s q.1 q.2.1 q.2.2 (dC k) (dI k) := by
  obtain ⟨c0, i0, h0⟩ := u_known (C := RJx4a65c) (T := TJx4a65c) (N := 3) (n := 3) hW iw_Jx4a65c (hW _ tb_30)
  obtain ⟨c1, i1, h1⟩ := u_known (C := RX0) (T := TX0) (N := 6) (n := 6) hW iw_X0 (hW _ tb_227)
  obtain ⟨c2, i2, h2⟩ := u_known (C := RX1) (T := TX1) (N := 8) (n := 8) hW iw_X1 (hW _ tb_267)
  obtain ⟨c3, i3, h3⟩ := u_known (C := RX2) (T := TX2) (N := 1) (n := 1) hW iw_X2 (hW _ tb_56)
  obtain ⟨c4, i4, h4⟩ := u_known (C := RX3) (T := TX3) (N := 10) (n := 10) hW iw_X3 (hW _ tb_22)
  refine ⟨fun k => if k = 0 then c0 else if k = 1 then c1 else if k = 2 then c2 else if k = 3 then c3 else c4, fun k => if k = 0 then i0 else if k = 1 then i1 else if k = 2 then i2 else if k = 3 then i3 else i4, ?_⟩
  intro k q hq
  match k, hq with
  | 0, hq => cases hq; exact h0
  | 1, hq => cases hq; exact h1
  | 2, hq => cases hq; exact h2
  | 3, hq => cases hq; exact h3
  | 4, hq => cases hq; exact h4
  | k + 5, hq => simp [vwCl] at hq
theorem w_arr {s : State} {args : Array Value} {ty : FieldType} (hp : match ty with | .object _ => False | _ => True) (h : (Cond.arrayClass ty).before args s = true) : ∃ c, ArrOfT s c ty ∧ va_RA s c ty := by
  obtain ⟨c, k, comp, h1, h2, h3⟩ := Cond.arrayClass_spec h
  refine ⟨c, fun n z => ⟨fun k h => (by cases h), k, h2, comp, h3⟩, ?_⟩
  cases ty <;> first | exact h1 | exact hp.elim
theorem w_arrO {s : State} {args : Array Value} {C : String} (h : (Cond.arrayOver (.object C)).before args s = true) : ∃ c, ArrOfT s c (.object C) ∧ va_RA s c (.object C) := by
  obtain ⟨comp, c, k, h1, -, h3, h4, h5⟩ := Cond.arrayOver_spec h
  exact ⟨c, fun n z => ⟨fun k h => (by cases h), k, h3, comp, h4⟩, k, comp, h3, h4, h1, h5⟩
theorem w_str {s : State} {args : Array Value} {k : Nat} {tx : String} (h1 : (Cond.stringRef RX3 k tx).before args s = true) (h2 : (Cond.exactly (.string RX3 k) "java/lang/String").before args s = true) : ∃ sa, vk_R RX3 k tx sa s := by
  obtain ⟨a, _, _, _, h3, -⟩ := Cond.exactly_spec h2
  exact ⟨a, vk_R.of h1 h3⟩
set_option maxHeartbeats 4000000 in
set_option maxRecDepth 100000 in
theorem w_env {s : State} {args : Array Value} {b n : Nat} {xs : Nat → Int32} (hts : ∀ w ∈ lw_tbl, w.before args s = true) (hgv : (Jvm.Cond.and given_1 narrow_1).before args s = true) (hX : va_X b n xs s s.heap) (hbl : b < s.heap.size) : ∃ g : q_G, g.2.2.1 = s.heap.size ∧ q_sc g = (b, n, xs) ∧ q_env g s := by
  have hf := flat_of_before _ hgv
  have hW : ∀ w ∈ WS, w.before args s = true := fun w hw => hts w (List.mem_filter.mp hw).1
  have hA : ∀ a : Nat, a < s.heap.size → ¬ (fun q : Nat => s.heap.size ≤ q) a := fun a h => Nat.not_le.mpr h
  obtain ⟨dC, dI, hK⟩ := w_kn hW
  obtain ⟨cI, aI⟩ := w_arr trivial (hW _ tb_65)
  obtain ⟨cJ, aJ⟩ := w_arr trivial (hW _ tb_66)
  obtain ⟨cO, aO⟩ := w_arrO (hts (.arrayOver (.object "java/lang/Object")) (by decide +kernel))
  have hlen : (Term.length (.static "java/util/ArrayList" "DEFAULTCAPACITY_EMPTY_ELEMENTDATA" "[Ljava/lang/Object;")).eval args s none [] s = some (.int (Int32.ofNat 0)) := Cond.eq_int (hf (.eq (.length (.static "java/util/ArrayList" "DEFAULTCAPACITY_EMPTY_ELEMENTDATA" "[Ljava/lang/Object;")) (.int 0)) (by decide +kernel)) rfl
  obtain ⟨eD, hv, hT⟩ := va_Tof (N := 0) (f := fun _ => .null) (A := fun q : Nat => s.heap.size ≤ q) (by decide) (hf (.arrayOf (.static "java/util/ArrayList" "DEFAULTCAPACITY_EMPTY_ELEMENTDATA" "[Ljava/lang/Object;") (.object "java/lang/Object")) (by decide +kernel)) hlen (fun j hj => absurd hj (Nat.not_lt_zero j)) hA
  have hZ := va_Zof (A := fun q : Nat => s.heap.size ≤ q) (hts (.laysStatic "java/util/ArrayList" "DEFAULTCAPACITY_EMPTY_ELEMENTDATA" "[Ljava/lang/Object;") (by decide +kernel)) (hts (.initialized "java/util/ArrayList") (by decide +kernel)) hv hA
  obtain ⟨mi, hmi⟩ := va_Mi.of (hf (.isRef (.mirror "[Ljava/lang/Object;")) (by decide +kernel))
  have hU := vx_Zqof (A := fun q : Nat => s.heap.size ≤ q) (hts (.laysStatic "java/lang/Throwable" "UNASSIGNED_STACK" "[Ljava/lang/StackTraceElement;") (by decide +kernel)) (hts (.initialized "java/lang/Throwable") (by decide +kernel)) (hf (.isRef (.static "java/lang/Throwable" "UNASSIGNED_STACK" "[Ljava/lang/StackTraceElement;")) (by decide +kernel)) hA
  have hS := vx_Zqof (A := fun q : Nat => s.heap.size ≤ q) (hts (.laysStatic "java/lang/Throwable" "SUPPRESSED_SENTINEL" "Ljava/util/List;") (by decide +kernel)) (hts (.initialized "java/lang/Throwable") (by decide +kernel)) (hf (.isRef (.static "java/lang/Throwable" "SUPPRESSED_SENTINEL" "Ljava/util/List;")) (by decide +kernel)) hA
  refine ⟨((dC, dI), (cI, cJ, (b, n, xs), cO), s.heap.size, eD, mi), rfl, rfl, Nat.le_refl _, ⟨hK, ?_⟩, ?_, ?_, ?_, hU, hS, hZ, hT, va_AO.of (hts (.arrayOver (.object "java/lang/Object")) (by decide +kernel)), hmi, hX, hbl⟩
  · intro k q hq
    match k, hq with
    | 0, hq => cases hq; exact aI
    | 1, hq => cases hq; exact aJ
    | 2, hq => cases hq; exact aI
    | 3, hq => cases hq; exact aO
    | k + 4, hq => simp [q_tys] at hq
  · intro w hw
    exact va_Nw.of (ng_tab (ng_ng hw)) (hts w (List.mem_filter.mp hw).1)
  · have h1 : ∀ q ∈ STR, (Cond.stringRef RX3 q.1 q.2) ∈ lw_tbl := (by decide +kernel)
    have h2 : ∀ q ∈ STR, (Cond.exactly (.string RX3 q.1) "java/lang/String") ∈ flatC (Jvm.Cond.and given_1 narrow_1) := (by decide +kernel)
    exact fun q hq => w_str (hts _ (h1 q hq)) (hf _ (h2 q hq))
  · exact fun q hq => by simp [NCP] at hq
