theorem q_max {a b : Nat} (ha : a < 2147483648) (hb : b < 2147483648) : (if nI a < nI b then nI b else nI a) = nI (max a b) := by
  by_cases h : a < b
  · rw [if_pos ((nI_ltI ha hb).mpr h), Nat.max_eq_right (Nat.le_of_lt h)]
  · rw [if_neg (fun z => h ((nI_ltI ha hb).mp z)), Nat.max_eq_left (by omega)]
section JROWS
variable {p : Program} {l : Launch} {e : Env} {R : Room} {s : State} {m : MethodId} {args : Array Value} {below : List Frame} {meth : Method} {c : Code} {g : q_G} {nL : Nat} {Q : State → Prop} {cl sl : Nat} {cc : ByteArray} {own : String} {pc : Nat} {lv : List (Nat × Value)} {st : List Value} {ws : va_W}
theorem r_tlen (cx : q_cx g p m c cc nL s args own meth) (hd : decode cc pc = .ok (.arraylength, 1)) (k : AT p l e R s m args below meth c g nL Q cl sl (pc + 1) lv (.int (nI 0) :: st) ws) : AT p l e R s m args below meth c g nL Q cl sl pc lv (.ref g.2.2.2.1 :: st) ws := fun H locs ls hP hD hS hl =>
  va_tlen cx.1.1 cx.1.2.1 cx.2.1.2.2.2.2.2.2.2.2.1 hS rfl hd (k H locs ls hP hD hS hl)
theorem r_gets (cx : q_cx g p m c cc nL s args RJx4a65c meth) (hd : decode cc pc = .ok (.getstatic 39, 3)) (k : AT p l e R s m args below meth c g nL Q cl sl (pc + 3) lv (.ref g.2.2.2.1 :: st) ws) : AT p l e R s m args below meth c g nL Q cl sl pc lv st ws := fun H locs ls hP hD hS hl =>
  va_gets cx.1.1 cx.1.2.1 cx.2.1.2.2.2.2.2.2.2.1 hS cx.1.2.2.2.1 (cx.ok tb_41) (fun _ h => h) hd (k H locs ls hP hD hS hl)
theorem r_acmpE (cx : q_cx g p m c cc nL s args own meth) {x : Nat} {off : Int} {tgt : Nat} (hd : decode cc pc = .ok (.if_acmp .eq off, 3)) (ht : (pc : Int) + off = (tgt : Int)) (k : AT p l e R s m args below meth c g nL Q cl sl tgt lv st ws) : AT p l e R s m args below meth c g nL Q cl sl pc lv (.ref x :: .ref x :: st) ws := fun H locs ls hP hD hS hl =>
  lv_acmp_eq (rx := some x) (ry := some x) cx.1.1 cx.1.2.1 hd ht (fun _ => k H locs ls hP hD hS hl) (fun h => absurd rfl h)
theorem r_acmpN (cx : q_cx g p m c cc nL s args own meth) {x : Nat} {off : Int} {tgt : Nat} (hd : decode cc pc = .ok (.if_acmp .ne off, 3)) (ht : (pc : Int) + off = (tgt : Int)) (k : AT p l e R s m args below meth c g nL Q cl sl (pc + 3) lv st ws) : AT p l e R s m args below meth c g nL Q cl sl pc lv (.ref x :: .ref x :: st) ws := fun H locs ls hP hD hS hl =>
  lv_acmp_ne (rx := some x) (ry := some x) cx.1.1 cx.1.2.1 hd ht (fun h => absurd rfl h) (fun _ => k H locs ls hP hD hS hl)
theorem q_cOn (cx : q_cx g p m c cc nL s args own meth) : s.vm.findClass "[Ljava/lang/Object;" = some (q_cO g) := by
  obtain ⟨kA, comp, h1, h2, h3, h4⟩ := (cx.2.1.2.1.2 3 (q_cO g, .object "java/lang/Object") rfl).2
  have e9 : "[" ++ (FieldType.object "java/lang/Object").toString = "[Ljava/lang/Object;" := by decide +kernel
  rw [e9] at h4
  exact h4
theorem r_newq (cx : q_cx g p m c cc nL s args own meth) {index N : Nat} (m1 : Cond.classLink own index "java/lang/Object" ∈ WS) (hN : N ≤ 100) (hd : decode cc pc = .ok (.anewarray index, 3)) (hcells : cl + 1 ≤ R.cells) (hslots : sl + N ≤ R.slots) (kk : ∀ q : Nat, AT p l e R s m args below meth c g nL Q (cl + 1) (sl + N) (pc + 3) lv (.ref q :: st) (ws ++ [(q, .inl (q_cO g, N, .inr (.inr (.inr (.inr (fun _ => none))))))])) : AT p l e R s m args below meth c g nL Q cl sl pc lv (.int (nI N) :: st) ws := fun H locs ls hP hD hS hl => by
  refine va_newq cx.1.1 cx.1.2.1 cx.1.2.2.2.1 (cx.ok m1) cx.2.1.2.2.2.2.2.2.2.2.2.1 cx.2.1.2.1 hP hD hS cx.hA (nI_pos (by omega)) (nI_clamp (by omega)) (by omega) hcells hslots hd (fun q cA2 H1 hK hP hD hS => ?_)
  have h1 := (hK.2 (q_tys g).length (cA2, .object "java/lang/Object") (by rw [List.getElem?_append_right (Nat.le_refl _), Nat.sub_self]; rfl)).2
  have h2 := (cx.2.1.2.1.2 3 (q_cO g, .object "java/lang/Object") rfl).2
  obtain ⟨kA, comp, -, -, -, h4⟩ := h1
  obtain ⟨kA2, comp2, -, -, -, h5⟩ := h2
  have e : cA2 = q_cO g := Option.some.inj (h4.symm.trans h5)
  rw [e] at hP hD
  exact kk q H1 locs ls hP hD hS hl
theorem r_getC (cx : q_cx g p m c cc nL s args own meth) {index a : Nat} (m1 : Cond.methodLink own index ⟨"java/lang/Object", "getClass", "()Ljava/lang/Class;"⟩ ∈ WS) (hd : decode cc pc = .ok (.invokevirtual index, 3)) (q0 : Nat) {x : vp_A} (he : ws[q0]? = some (a, .inl (q_cO g, x))) (hx : (vp_cell (q_cO g) x).vm.isStatics = false ∧ (vp_cell (q_cO g) x).cls = q_cO g) (hf : 1 ≤ R.frames) (hlo : (st.map fun v => v.category).sum + 14 ≤ R.locals) (k : AT p l e R s m args below meth c g nL Q cl sl (pc + 3) lv (.ref g.2.2.2.2 :: st) ws) : AT p l e R s m args below meth c g nL Q cl sl pc lv (.ref a :: st) ws := fun H locs ls hP hD hS hl =>
  va_getC (C := "[Ljava/lang/Object;") cx.1.1 cx.1.2.1 (cx.1.2.2.1.trans hl.1.symm) cx.1.2.2.2.1 (cx.ok m1) (cx.nok tn_566) (cx.ok tb_565) (cx.ok tb_443) (cx.ok tb_453) cx.2.1.2.2.2.2.2.2.2.2.2.2.1 ⟨_, hP q0 _ he, hx.1, by rw [hx.2]; exact q_cOn cx⟩ hf hlo hd (k H locs ls hP hD hS hl)
theorem r_ldcM (cx : q_cx g p m c cc nL s args own meth) {index : Nat} (m1 : Cond.classLink own index "[Ljava/lang/Object;" ∈ WS) (hd : decode cc pc = .ok (.ldc index, 2)) (k : AT p l e R s m args below meth c g nL Q cl sl (pc + 2) lv (.ref g.2.2.2.2 :: st) ws) : AT p l e R s m args below meth c g nL Q cl sl pc lv st ws := fun H locs ls hP hD hS hl =>
  va_ldcM cx.1.1 cx.1.2.1 cx.1.2.2.2.1 (cx.ok m1) cx.2.1.2.2.2.2.2.2.2.2.2.2.1 hd (k H locs ls hP hD hS hl)
theorem r_astq (cx : q_cx g p m c cc nL s args own meth) (q0 qk : Nat) {ci a n v i : Nat} {q : vw_C} {vs : List Value} {f : Nat → Option Nat} (hd : decode cc pc = .ok (.aastore, 1)) (ha : ws[q0]? = some (a, .inl (q_cO g, n, .inr (.inr (.inr (.inr f)))))) (hc : vwCl[ci]? = some q) (hca : Cond.castable q.1 "java/lang/Object" ∈ NGW) (hv : ws[qk]? = some (v, .inr (ci, vs))) (hi : i < n) (hn : n < 2147483648) (k : AT p l e R s m args below meth c g nL Q cl sl (pc + 1) lv st (ws.set q0 (a, .inl (q_cO g, n, .inr (.inr (.inr (.inr (va_up f i (some v))))))))) : AT p l e R s m args below meth c g nL Q cl sl pc lv (.ref v :: .int (nI i) :: .ref a :: st) ws := fun H locs ls hP hD hS hl =>
  va_astqO cx.1.1 cx.1.2.1 cx.2.1.2.1 hP hD hS q0 3 qk ci ha rfl (cx.2.1.2.2.1 _ hca) hv hc (vp_in_nI hi hn) hd (fun H1 locs1 hP hD hS => by rw [nI_clamp (Nat.lt_trans hi hn)] at hP hD; exact k H1 locs1 ls hP hD hS hl)
theorem r_copyq (cx : q_cx g p m c cc nL s args own meth) {index : Nat} (m1 : Cond.methodLink own index arraycopyName ∈ WS) (q0 q1 : Nat) {a0 a n0 n1 n ci : Nat} {cq : vw_C} {f h : Nat → Option Nat} (hd : decode cc pc = .ok (.invokestatic index, 3)) (ha0 : ws[q0]? = some (a0, .inl (q_cO g, n0, .inr (.inr (.inr (.inr f)))))) (ha1 : ws[q1]? = some (a, .inl (q_cO g, n1, .inr (.inr (.inr (.inr h)))))) (h4 : n ≤ n0) (h5 : n ≤ n1) (hn : n < 2147483648) (hc : vwCl[ci]? = some cq) (hca : Cond.castable cq.1 "java/lang/Object" ∈ NGW) (hel : ∀ i, i < n → ∀ y, f i = some y → ∃ (q : Nat) (fs : List Value), ws[q]? = some (y, .inr (ci, fs))) (hf : 1 ≤ R.frames) (hlo : (st.map fun v => v.category).sum + (nativeFrameWords "java/lang/System" "arraycopy" 5 + 11) ≤ R.locals) (k : AT p l e R s m args below meth c g nL Q cl sl (pc + 3) lv st (ws.set q1 (a, .inl (q_cO g, n1, .inr (.inr (.inr (.inr (va_cpy f h 0 0 n)))))))) : AT p l e R s m args below meth c g nL Q cl sl pc lv (.int (nI n) :: .int (nI 0) :: .ref a :: .int (nI 0) :: .ref a0 :: st) ws := fun H locs ls hP hD hS hl => by
  have z : (nI 0).toNatClampNeg = 0 := nI_clamp (by decide)
  have zn : (nI n).toNatClampNeg = n := nI_clamp hn
  refine va_copyq (C := cq.1) cx.1.1 cx.1.2.1 (cx.1.2.2.1.trans hl.1.symm) cx.1.2.2.2.1 (cx.ok m1) (cx.ok tb_463) (cx.ok tb_462) (cx.ok tb_16) cx.2.1.2.1 hP hD hS q0 q1 3 3 ha0 ha1 rfl rfl (nI_pos (by decide)) (nI_pos (by decide)) (nI_pos hn) (by rw [z, zn]; omega) (by rw [z, zn]; omega) (fun i hi y hy => ?_) (fun comp c0 e1 e2 => ?_) hf hlo hd (fun H1 locs1 hP hD hS => ?_)
  · rw [zn] at hi
    rw [z, Nat.zero_add] at hy
    obtain ⟨q, fs, hq⟩ := hel i hi y hy
    exact va_recv cx.2.1.2.1 hP hc hq
  · obtain ⟨c1, t1, f1, f2, f3⟩ := Cond.castable_spec (va_Nw.use (A := args) rfl (cx.2.1.2.2.1 _ hca))
    cases e2.symm.trans f1
    cases e1.symm.trans f2
    exact f3
  · rw [z, zn] at hP hD
    exact k H1 locs1 ls hP hD hS hl
end JROWS
set_option maxHeartbeats 4000000 in
set_option maxRecDepth 100000 in
theorem c_newLength (l : Launch) (g : q_G) (ws : va_W) (a b d : Nat) (ha : a ≤ 1000) (hb : b ≤ 1000) (hd0 : d ≤ 1000) (h0 : 0 < a) : MetW l g yJ8_newLength_cabcc cJ8_newLength_cabcc 4 (some .int) ({ frames := 1, cells := 0, slots := 0, locals := 30 } : Room) [.int (nI a), .int (nI b), .int (nI d)] (ws) (q_Qi g (fun r w => r = nI (a + max b d) ∧ w = ws)) := by
  refine q_met (own := RJ8) (by decide +kernel) rfl (Nat.le_of_ble_eq_true rfl) (fun p e s m args below meth c cx hr hnm => ?_)
  refine r_lv (lv2 := [(0, .int (nI a)), (1, .int (nI b)), (2, .int (nI d))]) (q_pk [0, 1, 2] rfl) ?_
  refine r_iload_n cx dJ8_newLength_cabcc_0 rfl rfl ?_
  refine r_iload_n cx dJ8_newLength_cabcc_1 rfl rfl ?_
  refine r_iload_n cx dJ8_newLength_cabcc_2 rfl rfl ?_
  refine r_max cx tb_432 tb_433 tb_15 tb_434 dJ8_newLength_cabcc_3 (Nat.le_of_ble_eq_true rfl) (Nat.le_of_ble_eq_true rfl) (Nat.le_of_ble_eq_true rfl) (Nat.le_of_ble_eq_true rfl) ?_
  refine r_eqi (y := nI (max b d)) (q_max (by omega) (by omega)) ?_
  first | refine r_iaddN cx dJ8_newLength_cabcc_6 ?_ | refine r_iadd cx dJ8_newLength_cabcc_6 ?_
  refine r_istore_n cx dJ8_newLength_cabcc_7 rfl (by decide) rfl ?_
  refine r_iconst (v := nI 0) cx dJ8_newLength_cabcc_8 (by decide) ?_
  refine r_iload_n cx dJ8_newLength_cabcc_9 rfl rfl ?_
  refine r_icmpgeN (tgt := 21) cx (by omega) (by omega) dJ8_newLength_cabcc_10 (by decide) (fun h_10 => ?_) (fun h_10 => ?_)
  · exact absurd h_10 (by omega)
  · skip
    refine r_iload_n cx dJ8_newLength_cabcc_13 rfl rfl ?_
    refine r_ldc cx dJ8_newLength_cabcc_14 tb_435 ?_
    refine r_eqi (y := nI 2147483639) rfl ?_
    refine r_icmpgtN (tgt := 21) cx (by omega) (by omega) dJ8_newLength_cabcc_16 (by decide) (fun h_16 => ?_) (fun h_16 => ?_)
    · exact absurd h_16 (by omega)
    · skip
      refine r_iload_n cx dJ8_newLength_cabcc_19 rfl rfl ?_
      exact r_iret cx dJ8_newLength_cabcc_20 hr (⟨rfl, rfl⟩) (Nat.le_of_ble_eq_true rfl) (Nat.le_of_ble_eq_true rfl)
set_option maxHeartbeats 4000000 in
set_option maxRecDepth 100000 in
theorem c_copyOf3 (l : Launch) (g : q_G) (ws : va_W) (qe a n mm ci : Nat) (cq : vw_C) (f : Nat → Option Nat) (hm : mm ≤ 100) (hnm0 : n ≤ mm) (he : ws[qe]? = some (a, .inl (q_cO g, n, .inr (.inr (.inr (.inr (f))))))) (hc : vwCl[ci]? = some cq) (hca : Cond.castable cq.1 "java/lang/Object" ∈ NGW) (hel : ∀ i, i < n → ∀ y, f i = some y → ∃ (q : Nat) (fs : List Value), ws[q]? = some (y, .inr (ci, fs))) : MetW l g yJ7_copyOf_6403c cJ7_copyOf_6403c 4 (some (.array (.object "java/lang/Object"))) ({ frames := 1, cells := 1, slots := 100, locals := 60 } : Room) [.ref a, .int (nI mm), .ref g.2.2.2.2] (ws) (q_Qq g (fun r w => ∃ q : Nat, r = some q ∧ w = ws ++ [(q, .inl (q_cO g, mm, .inr (.inr (.inr (.inr (va_cpy f (fun _ => none) 0 0 n))))))])) := by
  refine q_met (own := RJ7) (by decide +kernel) rfl (Nat.le_of_ble_eq_true rfl) (fun p e s m args below meth c cx hr hnm => ?_)
  refine r_lv (lv2 := [(0, .ref a), (1, .int (nI mm)), (2, .ref g.2.2.2.2)]) (q_pk [0, 1, 2] rfl) ?_
  refine r_aload_n cx dJ7_copyOf_6403c_0 rfl rfl ?_
  refine r_ldcM cx tb_457 dJ7_copyOf_6403c_1 ?_
  refine r_acmpN (tgt := 13) cx dJ7_copyOf_6403c_3 (by decide) ?_
  refine r_iload_n cx dJ7_copyOf_6403c_6 rfl rfl ?_
  refine r_newq cx tb_459 hm dJ7_copyOf_6403c_7 (Nat.le_of_ble_eq_true rfl) (show 0 + mm ≤ 100 by omega) (fun q => ?_)
  refine r_wide (k := 1) (n := 100) (Nat.le_of_ble_eq_true rfl) (show 0 + mm ≤ 100 by omega) ?_
  have he2 : (ws ++ [(q, .inl (q_cO g, mm, .inr (.inr (.inr (.inr (fun _ => none))))))])[qe]? = some (a, .inl (q_cO g, n, .inr (.inr (.inr (.inr (f)))))) := by rw [List.getElem?_append_left (List.getElem?_eq_some_iff.mp he).1]; exact he
  have hq2 : (ws ++ [(q, .inl (q_cO g, mm, .inr (.inr (.inr (.inr (fun _ => none))))))])[ws.length]? = some (q, .inl (q_cO g, mm, .inr (.inr (.inr (.inr (fun _ => none)))))) := by rw [List.getElem?_append_right (Nat.le_refl _), Nat.sub_self]; rfl
  refine r_goto (tgt := 24) cx dJ7_copyOf_6403c_10 (by decide) ?_
  refine r_astore_n cx dJ7_copyOf_6403c_24 rfl (by decide) rfl ?_
  refine r_aload_n cx dJ7_copyOf_6403c_25 rfl rfl ?_
  refine r_iconst (v := nI 0) cx dJ7_copyOf_6403c_26 (by decide) ?_
  refine r_aload_n cx dJ7_copyOf_6403c_27 rfl rfl ?_
  refine r_iconst (v := nI 0) cx dJ7_copyOf_6403c_28 (by decide) ?_
  refine r_aload_n cx dJ7_copyOf_6403c_29 rfl rfl ?_
  refine r_alen (v := nI n) cx qe 3 dJ7_copyOf_6403c_30 he2 rfl rfl ?_
  refine r_iload_n cx dJ7_copyOf_6403c_31 rfl rfl ?_
  refine r_min cx tb_460 tb_286 tb_15 tb_287 dJ7_copyOf_6403c_32 (Nat.le_of_ble_eq_true rfl) (Nat.le_of_ble_eq_true rfl) (Nat.le_of_ble_eq_true rfl) (Nat.le_of_ble_eq_true rfl) ?_
  refine r_eqi (y := nI n) (by rw [q_min (by omega) (by omega), Nat.min_eq_left hnm0]) ?_
  refine r_copyq cx tb_461 qe ws.length dJ7_copyOf_6403c_35 he2 hq2 (Nat.le_refl n) hnm0 (by omega) hc hca (fun i hi y hy => (hel i hi y hy).elim (fun q5 z => z.elim (fun fs z2 => ⟨q5, fs, by rw [List.getElem?_append_left (List.getElem?_eq_some_iff.mp z2).1]; exact z2⟩))) (Nat.le_of_ble_eq_true rfl) (Nat.le_of_ble_eq_true rfl) ?_
  refine r_ws (ws2 := ws ++ [(q, .inl (q_cO g, mm, .inr (.inr (.inr (.inr (va_cpy f (fun _ => none) 0 0 n))))))]) (by rw [List.set_append_right _ _ (Nat.le_refl _), Nat.sub_self]; rfl) ?_
  refine r_aload_n cx dJ7_copyOf_6403c_38 rfl rfl ?_
  exact r_aret cx dJ7_copyOf_6403c_39 hr (r := some q) (Or.inr ⟨_, rfl⟩) (⟨q, rfl, rfl⟩) (Nat.le_of_ble_eq_true rfl) (Nat.le_of_ble_eq_true rfl)
set_option maxHeartbeats 4000000 in
set_option maxRecDepth 100000 in
theorem c_copyOf (l : Launch) (g : q_G) (ws : va_W) (qe a n mm ci : Nat) (cq : vw_C) (f : Nat → Option Nat) (hm : mm ≤ 100) (hnm0 : n ≤ mm) (he : ws[qe]? = some (a, .inl (q_cO g, n, .inr (.inr (.inr (.inr (f))))))) (hc : vwCl[ci]? = some cq) (hca : Cond.castable cq.1 "java/lang/Object" ∈ NGW) (hel : ∀ i, i < n → ∀ y, f i = some y → ∃ (q : Nat) (fs : List Value), ws[q]? = some (y, .inr (ci, fs))) : MetW l g yJ7_copyOf_1904c cJ7_copyOf_1904c 2 (some (.array (.object "java/lang/Object"))) ({ frames := 2, cells := 1, slots := 100, locals := 83 } : Room) [.ref a, .int (nI mm)] (ws) (q_Qq g (fun r w => ∃ q : Nat, r = some q ∧ w = ws ++ [(q, .inl (q_cO g, mm, .inr (.inr (.inr (.inr (va_cpy f (fun _ => none) 0 0 n))))))])) := by
  refine q_met (own := RJ7) (by decide +kernel) rfl (Nat.le_of_ble_eq_true rfl) (fun p e s m args below meth c cx hr hnm => ?_)
  refine r_lv (lv2 := [(0, .ref a), (1, .int (nI mm))]) (q_pk [0, 1] rfl) ?_
  refine r_aload_n cx dJ7_copyOf_1904c_0 rfl rfl ?_
  refine r_iload_n cx dJ7_copyOf_1904c_1 rfl rfl ?_
  refine r_aload_n cx dJ7_copyOf_1904c_2 rfl rfl ?_
  refine r_getC cx tb_442 dJ7_copyOf_1904c_3 qe he ⟨rfl, rfl⟩ (Nat.le_of_ble_eq_true rfl) (Nat.le_of_ble_eq_true rfl) ?_
  refine k_J7_300 cx (c_copyOf3 l g ws qe a n mm ci cq f hm hnm0 he hc hca hel) dJ7_copyOf_1904c_6 ⟨Nat.le_of_ble_eq_true rfl, Nat.le_of_ble_eq_true rfl⟩ ⟨Nat.le_of_ble_eq_true rfl, Nat.le_of_ble_eq_true rfl⟩ rfl rfl (Nat.le_of_ble_eq_true rfl) (fun r w hp => ?_)
  obtain ⟨q, rfl, rfl⟩ := hp
  exact r_aret cx dJ7_copyOf_1904c_9 hr (r := some q) (Or.inr ⟨_, rfl⟩) (⟨q, rfl, rfl⟩) (Nat.le_of_ble_eq_true rfl) (Nat.le_of_ble_eq_true rfl)
set_option maxHeartbeats 4000000 in
set_option maxRecDepth 100000 in
theorem c_grow1e (l : Launch) (g : q_G) (wr : va_W) (li : Nat) (mc : Int32) : MetW l g yJx4a65c_grow_92f84 cJx4a65c_grow_92f84 4 (some (.array (.object "java/lang/Object"))) ({ frames := 1, cells := 1, slots := 100, locals := 40 } : Room) [.ref li, .int (nI 1)] ((li, .inr (0, [.int mc, .ref g.2.2.2.1, .int (nI 0)])) :: wr) (q_Qq g (fun r w => ∃ q : Nat, r = some q ∧ w = (li, .inr (0, [.int mc, .ref q, .int (nI 0)])) :: (q, .inl (q_cO g, 10, .inr (.inr (.inr (.inr (fun _ => none)))))) :: wr)) := by
  refine q_met (own := RJx4a65c) (by decide +kernel) rfl (Nat.le_of_ble_eq_true rfl) (fun p e s m args below meth c cx hr hnm => ?_)
  refine r_lv (lv2 := [(0, .ref li), (1, .int (nI 1))]) (q_pk [0, 1] rfl) ?_
  refine r_aload_n cx dJx4a65c_grow_92f84_0 rfl rfl ?_
  refine gf_Jx4a65c_9 cx dJx4a65c_grow_92f84_1 0 rfl rfl ?_
  refine r_tlen cx dJx4a65c_grow_92f84_4 ?_
  refine r_istore_n cx dJx4a65c_grow_92f84_5 rfl (by decide) rfl ?_
  refine r_iload_n cx dJx4a65c_grow_92f84_6 rfl rfl ?_
  refine r_ifgt (tgt := 20) cx dJx4a65c_grow_92f84_7 (by decide) (fun h_7 => ?_) (fun h_7 => ?_)
  · exact absurd h_7 (by decide)
  · skip
    refine r_aload_n cx dJx4a65c_grow_92f84_10 rfl rfl ?_
    refine gf_Jx4a65c_9 cx dJx4a65c_grow_92f84_11 0 rfl rfl ?_
    refine r_gets cx dJx4a65c_grow_92f84_14 ?_
    refine r_acmpE (tgt := 45) cx dJx4a65c_grow_92f84_17 (by decide) ?_
    refine r_aload_n cx dJx4a65c_grow_92f84_45 rfl rfl ?_
    refine r_bipush (v := nI 10) cx dJx4a65c_grow_92f84_46 (by decide) ?_
    refine r_iload_n cx dJx4a65c_grow_92f84_48 rfl rfl ?_
    refine r_max cx tb_464 tb_433 tb_15 tb_434 dJx4a65c_grow_92f84_49 (Nat.le_of_ble_eq_true rfl) (Nat.le_of_ble_eq_true rfl) (Nat.le_of_ble_eq_true rfl) (Nat.le_of_ble_eq_true rfl) ?_
    refine r_eqi (y := nI 10) (by decide) ?_
    refine r_newq cx tb_465 (by decide) dJx4a65c_grow_92f84_52 (Nat.le_of_ble_eq_true rfl) (Nat.le_of_ble_eq_true rfl) (fun q => ?_)
    refine r_dup_x1 cx dJx4a65c_grow_92f84_55 rfl rfl ?_
    refine pf_Jx4a65c_9 cx dJx4a65c_grow_92f84_56 0 rfl (Nat.le_of_ble_eq_true rfl) ?_
    refine r_perm (ws2 := (li, .inr (0, [.int mc, .ref q, .int (nI 0)])) :: (q, .inl (q_cO g, 10, .inr (.inr (.inr (.inr (fun _ => none)))))) :: wr) (List.Perm.cons _ (List.perm_append_singleton _ _)) ?_
    exact r_aret cx dJx4a65c_grow_92f84_59 hr (r := some q) (Or.inr ⟨_, rfl⟩) (⟨q, rfl, rfl⟩) (Nat.le_of_ble_eq_true rfl) (Nat.le_of_ble_eq_true rfl)
set_option maxHeartbeats 4000000 in
set_option maxRecDepth 100000 in
theorem c_grow0e (l : Launch) (g : q_G) (wr : va_W) (li : Nat) (mc : Int32) : MetW l g yJx4a65c_grow_d5877 cJx4a65c_grow_d5877 1 (some (.array (.object "java/lang/Object"))) ({ frames := 2, cells := 1, slots := 100, locals := 63 } : Room) [.ref li] ((li, .inr (0, [.int mc, .ref g.2.2.2.1, .int (nI 0)])) :: wr) (q_Qq g (fun r w => ∃ q : Nat, r = some q ∧ w = (li, .inr (0, [.int mc, .ref q, .int (nI 0)])) :: (q, .inl (q_cO g, 10, .inr (.inr (.inr (.inr (fun _ => none)))))) :: wr)) := by
  refine q_met (own := RJx4a65c) (by decide +kernel) rfl (Nat.le_of_ble_eq_true rfl) (fun p e s m args below meth c cx hr hnm => ?_)
  refine r_lv (lv2 := [(0, .ref li)]) (q_pk [0] rfl) ?_
  refine r_aload_n cx dJx4a65c_grow_d5877_0 rfl rfl ?_
  refine r_aload_n cx dJx4a65c_grow_d5877_1 rfl rfl ?_
  refine gf_Jx4a65c_48 cx dJx4a65c_grow_d5877_2 0 rfl rfl ?_
  refine r_iconst (v := nI 1) cx dJx4a65c_grow_d5877_5 (by decide) ?_
  first | refine r_iaddN cx dJx4a65c_grow_d5877_6 ?_ | refine r_iadd cx dJx4a65c_grow_d5877_6 ?_
  refine k_Jx4a65c_69 cx (c_grow1e l g wr li mc) dJx4a65c_grow_d5877_7 0 rfl ⟨Nat.le_of_ble_eq_true rfl, Nat.le_of_ble_eq_true rfl⟩ ⟨Nat.le_of_ble_eq_true rfl, Nat.le_of_ble_eq_true rfl⟩ rfl rfl (Nat.le_of_ble_eq_true rfl) (fun r w hp => ?_)
  obtain ⟨q, rfl, rfl⟩ := hp
  exact r_aret cx dJx4a65c_grow_d5877_10 hr (r := some q) (Or.inr ⟨_, rfl⟩) (⟨q, rfl, rfl⟩) (Nat.le_of_ble_eq_true rfl) (Nat.le_of_ble_eq_true rfl)
set_option maxHeartbeats 4000000 in
set_option maxRecDepth 100000 in
theorem c_grow1f (l : Launch) (g : q_G) (wr : va_W) (li el n : Nat) (mc : Int32) (f : Nat → Option Nat) (hn2 : 2 ≤ n) (hn : n ≤ 60) (ci : Nat) (cq : vw_C) (hc : vwCl[ci]? = some cq) (hca : Cond.castable cq.1 "java/lang/Object" ∈ NGW) (hel : ∀ i, i < n → ∀ y, f i = some y → ∃ (q : Nat) (fs : List Value), wr[q]? = some (y, .inr (ci, fs))) : MetW l g yJx4a65c_grow_92f84 cJx4a65c_grow_92f84 4 (some (.array (.object "java/lang/Object"))) ({ frames := 3, cells := 1, slots := 100, locals := 104 } : Room) [.ref li, .int (nI (n + 1))] ((li, .inr (0, [.int mc, .ref el, .int (nI n)])) :: (el, .inl (q_cO g, n, .inr (.inr (.inr (.inr (f)))))) :: wr) (q_Qq g (fun r w => ∃ q : Nat, r = some q ∧ w = (li, .inr (0, [.int mc, .ref q, .int (nI n)])) :: (q, .inl (q_cO g, n + n / 2, .inr (.inr (.inr (.inr (va_cpy f (fun _ => none) 0 0 n)))))) :: wr)) := by
  refine q_met (own := RJx4a65c) (by decide +kernel) rfl (Nat.le_of_ble_eq_true rfl) (fun p e s m args below meth c cx hr hnm => ?_)
  refine r_lv (lv2 := [(0, .ref li), (1, .int (nI (n + 1)))]) (q_pk [0, 1] rfl) ?_
  refine r_aload_n cx dJx4a65c_grow_92f84_0 rfl rfl ?_
  refine gf_Jx4a65c_9 cx dJx4a65c_grow_92f84_1 0 rfl rfl ?_
  refine r_alen (v := nI n) cx 1 3 dJx4a65c_grow_92f84_4 rfl rfl rfl ?_
  refine r_istore_n cx dJx4a65c_grow_92f84_5 rfl (by decide) rfl ?_
  refine r_iload_n cx dJx4a65c_grow_92f84_6 rfl rfl ?_
  refine r_ifgtN (tgt := 20) cx (by omega) dJx4a65c_grow_92f84_7 (by decide) (fun h_7 => ?_) (fun h_7 => ?_)
  · skip
    refine r_iload_n cx dJx4a65c_grow_92f84_20 rfl rfl ?_
    refine r_iload_n cx dJx4a65c_grow_92f84_21 rfl rfl ?_
    refine r_iload_n cx dJx4a65c_grow_92f84_22 rfl rfl ?_
    first | refine r_isubN cx dJx4a65c_grow_92f84_23 (by omega) ?_ | refine r_isub cx dJx4a65c_grow_92f84_23 ?_
    refine r_iload_n cx dJx4a65c_grow_92f84_24 rfl rfl ?_
    refine r_iconst (v := nI 1) cx dJx4a65c_grow_92f84_25 (by decide) ?_
    refine r_ishr cx dJx4a65c_grow_92f84_26 ?_
    refine r_eqi (y := nI (n / 2)) (pk_shrN (by omega) (nI 1 &&& 31) 1 (by decide)) ?_
    rw [show n + 1 - n = 1 by omega]
    refine k_Jx4a65c_73 cx (c_newLength l g _ n 1 (n / 2) (by omega) (by omega) (by omega) (by omega)) dJx4a65c_grow_92f84_27 ⟨Nat.le_of_ble_eq_true rfl, Nat.le_of_ble_eq_true rfl⟩ ⟨Nat.le_of_ble_eq_true rfl, Nat.le_of_ble_eq_true rfl⟩ rfl rfl (Nat.le_of_ble_eq_true rfl) (fun r w hp => ?_)
    obtain ⟨rfl, rfl⟩ := hp
    rw [Nat.max_eq_right (by omega : 1 ≤ n / 2)]
    refine r_istore_n cx dJx4a65c_grow_92f84_30 rfl (by decide) rfl ?_
    refine r_aload_n cx dJx4a65c_grow_92f84_31 rfl rfl ?_
    refine r_aload_n cx dJx4a65c_grow_92f84_32 rfl rfl ?_
    refine gf_Jx4a65c_9 cx dJx4a65c_grow_92f84_33 0 rfl rfl ?_
    refine r_iload_n cx dJx4a65c_grow_92f84_36 rfl rfl ?_
    refine k_Jx4a65c_66 cx (c_copyOf l g _ 1 el n (n + n / 2) ci cq f (by omega) (by omega) rfl hc hca (fun i hi y hy => (hel i hi y hy).elim (fun q5 z => z.elim (fun fs z2 => ⟨q5 + 2, fs, z2⟩)))) dJx4a65c_grow_92f84_37 ⟨Nat.le_of_ble_eq_true rfl, Nat.le_of_ble_eq_true rfl⟩ ⟨Nat.le_of_ble_eq_true rfl, Nat.le_of_ble_eq_true rfl⟩ rfl rfl (Nat.le_of_ble_eq_true rfl) (fun r w hp => ?_)
    obtain ⟨q, rfl, rfl⟩ := hp
    refine r_eqv (y := .ref q) rfl ?_
    refine r_dup_x1 cx dJx4a65c_grow_92f84_40 rfl rfl ?_
    refine pf_Jx4a65c_9 cx dJx4a65c_grow_92f84_41 0 rfl (Nat.le_of_ble_eq_true rfl) ?_
    refine r_drop (ws2 := (li, .inr (0, [.int mc, .ref q, .int (nI n)])) :: (q, .inl (q_cO g, n + n / 2, .inr (.inr (.inr (.inr (va_cpy f (fun _ => none) 0 0 n)))))) :: wr) (wsx := [(el, .inl (q_cO g, n, .inr (.inr (.inr (.inr (f))))))]) (by
      show ((li, .inr (0, [.int mc, .ref q, .int (nI n)])) :: (((q, .inl (q_cO g, n + n / 2, .inr (.inr (.inr (.inr (va_cpy f (fun _ => none) 0 0 n)))))) :: wr) ++ [(el, .inl (q_cO g, n, .inr (.inr (.inr (.inr (f))))))])).Perm ((li, .inr (0, [.int mc, .ref q, .int (nI n)])) :: ((el, .inl (q_cO g, n, .inr (.inr (.inr (.inr (f)))))) :: (wr ++ [(q, .inl (q_cO g, n + n / 2, .inr (.inr (.inr (.inr (va_cpy f (fun _ => none) 0 0 n))))))])))
      exact List.Perm.cons _ ((List.perm_append_singleton _ _).trans (List.Perm.cons _ (List.perm_append_singleton _ _).symm))) ?_
    exact r_aret cx dJx4a65c_grow_92f84_44 hr (r := some q) (Or.inr ⟨_, rfl⟩) (⟨q, rfl, rfl⟩) (Nat.le_of_ble_eq_true rfl) (Nat.le_of_ble_eq_true rfl)
  · exact absurd h_7 (by omega)
set_option maxHeartbeats 4000000 in
set_option maxRecDepth 100000 in
theorem c_grow0f (l : Launch) (g : q_G) (wr : va_W) (li el n : Nat) (mc : Int32) (f : Nat → Option Nat) (hn2 : 2 ≤ n) (hn : n ≤ 60) (ci : Nat) (cq : vw_C) (hc : vwCl[ci]? = some cq) (hca : Cond.castable cq.1 "java/lang/Object" ∈ NGW) (hel : ∀ i, i < n → ∀ y, f i = some y → ∃ (q : Nat) (fs : List Value), wr[q]? = some (y, .inr (ci, fs))) : MetW l g yJx4a65c_grow_d5877 cJx4a65c_grow_d5877 1 (some (.array (.object "java/lang/Object"))) ({ frames := 4, cells := 1, slots := 100, locals := 127 } : Room) [.ref li] ((li, .inr (0, [.int mc, .ref el, .int (nI n)])) :: (el, .inl (q_cO g, n, .inr (.inr (.inr (.inr (f)))))) :: wr) (q_Qq g (fun r w => ∃ q : Nat, r = some q ∧ w = (li, .inr (0, [.int mc, .ref q, .int (nI n)])) :: (q, .inl (q_cO g, n + n / 2, .inr (.inr (.inr (.inr (va_cpy f (fun _ => none) 0 0 n)))))) :: wr)) := by
  refine q_met (own := RJx4a65c) (by decide +kernel) rfl (Nat.le_of_ble_eq_true rfl) (fun p e s m args below meth c cx hr hnm => ?_)
  refine r_lv (lv2 := [(0, .ref li)]) (q_pk [0] rfl) ?_
  refine r_aload_n cx dJx4a65c_grow_d5877_0 rfl rfl ?_
  refine r_aload_n cx dJx4a65c_grow_d5877_1 rfl rfl ?_
  refine gf_Jx4a65c_48 cx dJx4a65c_grow_d5877_2 0 rfl rfl ?_
  refine r_iconst (v := nI 1) cx dJx4a65c_grow_d5877_5 (by decide) ?_
  first | refine r_iaddN cx dJx4a65c_grow_d5877_6 ?_ | refine r_iadd cx dJx4a65c_grow_d5877_6 ?_
  refine k_Jx4a65c_69 cx (c_grow1f l g wr li el n mc f hn2 hn ci cq hc hca hel) dJx4a65c_grow_d5877_7 0 rfl ⟨Nat.le_of_ble_eq_true rfl, Nat.le_of_ble_eq_true rfl⟩ ⟨Nat.le_of_ble_eq_true rfl, Nat.le_of_ble_eq_true rfl⟩ rfl rfl (Nat.le_of_ble_eq_true rfl) (fun r w hp => ?_)
  obtain ⟨q, rfl, rfl⟩ := hp
  exact r_aret cx dJx4a65c_grow_d5877_10 hr (r := some q) (Or.inr ⟨_, rfl⟩) (⟨q, rfl, rfl⟩) (Nat.le_of_ble_eq_true rfl) (Nat.le_of_ble_eq_true rfl)
set_option maxHeartbeats 4000000 in
set_option maxRecDepth 100000 in
theorem c_add3e (l : Launch) (g : q_G) (wr : va_W) (li : Nat) (mc : Int32) (ci : Nat) (cq : vw_C) (hc : vwCl[ci]? = some cq) (hca : Cond.castable cq.1 "java/lang/Object" ∈ NGW) (v qv : Nat) (vs : List Value) (hv : wr[qv]? = some (v, .inr (ci, vs))) : MetW l g yJx4a65c_add_72be8 cJx4a65c_add_72be8 4 none ({ frames := 3, cells := 1, slots := 100, locals := 83 } : Room) [.ref li, .ref v, .ref g.2.2.2.1, .int (nI 0)] ((li, .inr (0, [.int mc, .ref g.2.2.2.1, .int (nI 0)])) :: wr) (q_Qv g (fun w => ∃ q : Nat, w = (li, .inr (0, [.int mc, .ref q, .int (nI 1)])) :: (q, .inl (q_cO g, 10, .inr (.inr (.inr (.inr (va_up (fun _ => none) 0 (some v))))))) :: wr)) := by
  refine q_met (own := RJx4a65c) (by decide +kernel) rfl (Nat.le_of_ble_eq_true rfl) (fun p e s m args below meth c cx hr hnm => ?_)
  refine r_lv (lv2 := [(0, .ref li), (1, .ref v), (2, .ref g.2.2.2.1), (3, .int (nI 0))]) (q_pk [0, 1, 2, 3] rfl) ?_
  refine r_iload_n cx dJx4a65c_add_72be8_0 rfl rfl ?_
  refine r_aload_n cx dJx4a65c_add_72be8_1 rfl rfl ?_
  refine r_tlen cx dJx4a65c_add_72be8_2 ?_
  refine r_icmpneN (tgt := 11) cx (by omega) (by omega) dJx4a65c_add_72be8_3 (by decide) (fun h_3 => ?_) (fun h_3 => ?_)
  · exact absurd rfl h_3
  · skip
    refine r_aload_n cx dJx4a65c_add_72be8_6 rfl rfl ?_
    refine k_Jx4a65c_129 cx (c_grow0e l g wr li mc) dJx4a65c_add_72be8_7 0 rfl ⟨Nat.le_of_ble_eq_true rfl, Nat.le_of_ble_eq_true rfl⟩ ⟨Nat.le_of_ble_eq_true rfl, Nat.le_of_ble_eq_true rfl⟩ rfl rfl (Nat.le_of_ble_eq_true rfl) (fun r w hp => ?_)
    obtain ⟨q, rfl, rfl⟩ := hp
    refine r_eqv (y := .ref q) rfl ?_
    refine r_astore_n cx dJx4a65c_add_72be8_10 rfl (by decide) rfl ?_
    refine r_aload_n cx dJx4a65c_add_72be8_11 rfl rfl ?_
    refine r_iload_n cx dJx4a65c_add_72be8_12 rfl rfl ?_
    refine r_aload_n cx dJx4a65c_add_72be8_13 rfl rfl ?_
    refine r_astq cx 1 (qv + 2) dJx4a65c_add_72be8_14 rfl hc hca hv (by decide) (by decide) ?_
    refine r_aload_n cx dJx4a65c_add_72be8_15 rfl rfl ?_
    refine r_iload_n cx dJx4a65c_add_72be8_16 rfl rfl ?_
    refine r_iconst (v := nI 1) cx dJx4a65c_add_72be8_17 (by decide) ?_
    first | refine r_iaddN cx dJx4a65c_add_72be8_18 ?_ | refine r_iadd cx dJx4a65c_add_72be8_18 ?_
    refine pf_Jx4a65c_48 cx dJx4a65c_add_72be8_19 0 rfl (Nat.le_of_ble_eq_true rfl) ?_
    exact r_vret cx dJx4a65c_add_72be8_22 hr (⟨q, rfl⟩) (Nat.le_of_ble_eq_true rfl) (Nat.le_of_ble_eq_true rfl)
set_option maxHeartbeats 4000000 in
set_option maxRecDepth 100000 in
theorem c_add3f (l : Launch) (g : q_G) (wr : va_W) (li el n : Nat) (mc : Int32) (f : Nat → Option Nat) (hn2 : 2 ≤ n) (hn : n ≤ 60) (ci : Nat) (cq : vw_C) (hc : vwCl[ci]? = some cq) (hca : Cond.castable cq.1 "java/lang/Object" ∈ NGW) (hel : ∀ i, i < n → ∀ y, f i = some y → ∃ (q : Nat) (fs : List Value), wr[q]? = some (y, .inr (ci, fs))) (v qv : Nat) (vs : List Value) (hv : wr[qv]? = some (v, .inr (ci, vs))) : MetW l g yJx4a65c_add_72be8 cJx4a65c_add_72be8 4 none ({ frames := 5, cells := 1, slots := 100, locals := 147 } : Room) [.ref li, .ref v, .ref el, .int (nI n)] ((li, .inr (0, [.int mc, .ref el, .int (nI n)])) :: (el, .inl (q_cO g, n, .inr (.inr (.inr (.inr (f)))))) :: wr) (q_Qv g (fun w => ∃ q : Nat, w = (li, .inr (0, [.int mc, .ref q, .int (nI (n + 1))])) :: (q, .inl (q_cO g, n + n / 2, .inr (.inr (.inr (.inr (va_up (va_cpy f (fun _ => none) 0 0 n) n (some v))))))) :: wr)) := by
  refine q_met (own := RJx4a65c) (by decide +kernel) rfl (Nat.le_of_ble_eq_true rfl) (fun p e s m args below meth c cx hr hnm => ?_)
  refine r_lv (lv2 := [(0, .ref li), (1, .ref v), (2, .ref el), (3, .int (nI n))]) (q_pk [0, 1, 2, 3] rfl) ?_
  refine r_iload_n cx dJx4a65c_add_72be8_0 rfl rfl ?_
  refine r_aload_n cx dJx4a65c_add_72be8_1 rfl rfl ?_
  refine r_alen (v := nI n) cx 1 3 dJx4a65c_add_72be8_2 rfl rfl rfl ?_
  refine r_icmpneN (tgt := 11) cx (by omega) (by omega) dJx4a65c_add_72be8_3 (by decide) (fun h_3 => ?_) (fun h_3 => ?_)
  · exact absurd rfl h_3
  · skip
    refine r_aload_n cx dJx4a65c_add_72be8_6 rfl rfl ?_
    refine k_Jx4a65c_129 cx (c_grow0f l g wr li el n mc f hn2 hn ci cq hc hca hel) dJx4a65c_add_72be8_7 0 rfl ⟨Nat.le_of_ble_eq_true rfl, Nat.le_of_ble_eq_true rfl⟩ ⟨Nat.le_of_ble_eq_true rfl, Nat.le_of_ble_eq_true rfl⟩ rfl rfl (Nat.le_of_ble_eq_true rfl) (fun r w hp => ?_)
    obtain ⟨q, rfl, rfl⟩ := hp
    refine r_eqv (y := .ref q) rfl ?_
    refine r_astore_n cx dJx4a65c_add_72be8_10 rfl (by decide) rfl ?_
    refine r_aload_n cx dJx4a65c_add_72be8_11 rfl rfl ?_
    refine r_iload_n cx dJx4a65c_add_72be8_12 rfl rfl ?_
    refine r_aload_n cx dJx4a65c_add_72be8_13 rfl rfl ?_
    refine r_astq cx 1 (qv + 2) dJx4a65c_add_72be8_14 rfl hc hca hv (by omega) (by omega) ?_
    refine r_aload_n cx dJx4a65c_add_72be8_15 rfl rfl ?_
    refine r_iload_n cx dJx4a65c_add_72be8_16 rfl rfl ?_
    refine r_iconst (v := nI 1) cx dJx4a65c_add_72be8_17 (by decide) ?_
    first | refine r_iaddN cx dJx4a65c_add_72be8_18 ?_ | refine r_iadd cx dJx4a65c_add_72be8_18 ?_
    refine pf_Jx4a65c_48 cx dJx4a65c_add_72be8_19 0 rfl (Nat.le_of_ble_eq_true rfl) ?_
    exact r_vret cx dJx4a65c_add_72be8_22 hr (⟨q, rfl⟩) (Nat.le_of_ble_eq_true rfl) (Nat.le_of_ble_eq_true rfl)
set_option maxHeartbeats 4000000 in
set_option maxRecDepth 100000 in
theorem c_add3r (l : Launch) (g : q_G) (wr : va_W) (li el n cap : Nat) (mc : Int32) (f : Nat → Option Nat) (hn : n < cap) (hcap : cap ≤ 100) (ci : Nat) (cq : vw_C) (hc : vwCl[ci]? = some cq) (hca : Cond.castable cq.1 "java/lang/Object" ∈ NGW) (v qv : Nat) (vs : List Value) (hv : wr[qv]? = some (v, .inr (ci, vs))) : MetW l g yJx4a65c_add_72be8 cJx4a65c_add_72be8 4 none ({ frames := 0, cells := 1, slots := 100, locals := 0 } : Room) [.ref li, .ref v, .ref el, .int (nI n)] ((li, .inr (0, [.int mc, .ref el, .int (nI n)])) :: (el, .inl (q_cO g, cap, .inr (.inr (.inr (.inr (f)))))) :: wr) (q_Qv g (fun w => w = (li, .inr (0, [.int mc, .ref el, .int (nI (n + 1))])) :: (el, .inl (q_cO g, cap, .inr (.inr (.inr (.inr (va_up f n (some v))))))) :: wr)) := by
  refine q_met (own := RJx4a65c) (by decide +kernel) rfl (Nat.le_of_ble_eq_true rfl) (fun p e s m args below meth c cx hr hnm => ?_)
  refine r_lv (lv2 := [(0, .ref li), (1, .ref v), (2, .ref el), (3, .int (nI n))]) (q_pk [0, 1, 2, 3] rfl) ?_
  refine r_iload_n cx dJx4a65c_add_72be8_0 rfl rfl ?_
  refine r_aload_n cx dJx4a65c_add_72be8_1 rfl rfl ?_
  refine r_alen (v := nI cap) cx 1 3 dJx4a65c_add_72be8_2 rfl rfl rfl ?_
  refine r_icmpneN (tgt := 11) cx (by omega) (by omega) dJx4a65c_add_72be8_3 (by decide) (fun h_3 => ?_) (fun h_3 => ?_)
  · skip
    refine r_aload_n cx dJx4a65c_add_72be8_11 rfl rfl ?_
    refine r_iload_n cx dJx4a65c_add_72be8_12 rfl rfl ?_
    refine r_aload_n cx dJx4a65c_add_72be8_13 rfl rfl ?_
    refine r_astq cx 1 (qv + 2) dJx4a65c_add_72be8_14 rfl hc hca hv hn (by omega) ?_
    refine r_aload_n cx dJx4a65c_add_72be8_15 rfl rfl ?_
    refine r_iload_n cx dJx4a65c_add_72be8_16 rfl rfl ?_
    refine r_iconst (v := nI 1) cx dJx4a65c_add_72be8_17 (by decide) ?_
    first | refine r_iaddN cx dJx4a65c_add_72be8_18 ?_ | refine r_iadd cx dJx4a65c_add_72be8_18 ?_
    refine pf_Jx4a65c_48 cx dJx4a65c_add_72be8_19 0 rfl (Nat.le_of_ble_eq_true rfl) ?_
    exact r_vret cx dJx4a65c_add_72be8_22 hr (rfl) (Nat.le_of_ble_eq_true rfl) (Nat.le_of_ble_eq_true rfl)
  · exact absurd h_3 (by omega)
set_option maxHeartbeats 4000000 in
set_option maxRecDepth 100000 in
theorem c_adde (l : Launch) (g : q_G) (wr : va_W) (li : Nat) (mc : Int32) (ci : Nat) (cq : vw_C) (hc : vwCl[ci]? = some cq) (hca : Cond.castable cq.1 "java/lang/Object" ∈ NGW) (v qv : Nat) (vs : List Value) (hv : wr[qv]? = some (v, .inr (ci, vs))) : MetW l g yJx4a65c_add_9ea2d cJx4a65c_add_9ea2d 2 (some .boolean) ({ frames := 4, cells := 1, slots := 100, locals := 106 } : Room) [.ref li, .ref v] ((li, .inr (0, [.int mc, .ref g.2.2.2.1, .int (nI 0)])) :: wr) (q_Qi g (fun r w => ∃ q : Nat, w = (li, .inr (0, [.int (mc + nI 1), .ref q, .int (nI 1)])) :: (q, .inl (q_cO g, 10, .inr (.inr (.inr (.inr (va_up (fun _ => none) 0 (some v))))))) :: wr)) := by
  refine q_met (own := RJx4a65c) (by decide +kernel) rfl (Nat.le_of_ble_eq_true rfl) (fun p e s m args below meth c cx hr hnm => ?_)
  refine r_lv (lv2 := [(0, .ref li), (1, .ref v)]) (q_pk [0, 1] rfl) ?_
  refine r_aload_n cx dJx4a65c_add_9ea2d_0 rfl rfl ?_
  refine r_dup cx dJx4a65c_add_9ea2d_1 rfl ?_
  refine gf_Jx4a65c_63 cx dJx4a65c_add_9ea2d_2 0 rfl rfl ?_
  refine r_iconst (v := nI 1) cx dJx4a65c_add_9ea2d_5 (by decide) ?_
  first | refine r_iaddN cx dJx4a65c_add_9ea2d_6 ?_ | refine r_iadd cx dJx4a65c_add_9ea2d_6 ?_
  refine pf_Jx4a65c_63 cx dJx4a65c_add_9ea2d_7 0 rfl (Nat.le_of_ble_eq_true rfl) ?_
  refine r_aload_n cx dJx4a65c_add_9ea2d_10 rfl rfl ?_
  refine r_aload_n cx dJx4a65c_add_9ea2d_11 rfl rfl ?_
  refine r_aload_n cx dJx4a65c_add_9ea2d_12 rfl rfl ?_
  refine gf_Jx4a65c_9 cx dJx4a65c_add_9ea2d_13 0 rfl rfl ?_
  refine r_aload_n cx dJx4a65c_add_9ea2d_16 rfl rfl ?_
  refine gf_Jx4a65c_48 cx dJx4a65c_add_9ea2d_17 0 rfl rfl ?_
  refine k_Jx4a65c_131 cx (c_add3e l g wr li (mc + nI 1) ci cq hc hca v qv vs hv) dJx4a65c_add_9ea2d_20 0 rfl ⟨Nat.le_of_ble_eq_true rfl, Nat.le_of_ble_eq_true rfl⟩ ⟨Nat.le_of_ble_eq_true rfl, Nat.le_of_ble_eq_true rfl⟩ rfl rfl (Nat.le_of_ble_eq_true rfl) (fun w hp => ?_)
  obtain ⟨q, rfl⟩ := hp
  refine r_iconst (v := nI 1) cx dJx4a65c_add_9ea2d_23 (by decide) ?_
  exact r_zret cx dJx4a65c_add_9ea2d_24 hr rfl (⟨q, rfl⟩) (Nat.le_of_ble_eq_true rfl) (Nat.le_of_ble_eq_true rfl)
set_option maxHeartbeats 4000000 in
set_option maxRecDepth 100000 in
theorem c_addf (l : Launch) (g : q_G) (wr : va_W) (li el n : Nat) (mc : Int32) (f : Nat → Option Nat) (hn2 : 2 ≤ n) (hn : n ≤ 60) (ci : Nat) (cq : vw_C) (hc : vwCl[ci]? = some cq) (hca : Cond.castable cq.1 "java/lang/Object" ∈ NGW) (hel : ∀ i, i < n → ∀ y, f i = some y → ∃ (q : Nat) (fs : List Value), wr[q]? = some (y, .inr (ci, fs))) (v qv : Nat) (vs : List Value) (hv : wr[qv]? = some (v, .inr (ci, vs))) : MetW l g yJx4a65c_add_9ea2d cJx4a65c_add_9ea2d 2 (some .boolean) ({ frames := 6, cells := 1, slots := 100, locals := 170 } : Room) [.ref li, .ref v] ((li, .inr (0, [.int mc, .ref el, .int (nI n)])) :: (el, .inl (q_cO g, n, .inr (.inr (.inr (.inr (f)))))) :: wr) (q_Qi g (fun r w => ∃ q : Nat, w = (li, .inr (0, [.int (mc + nI 1), .ref q, .int (nI (n + 1))])) :: (q, .inl (q_cO g, n + n / 2, .inr (.inr (.inr (.inr (va_up (va_cpy f (fun _ => none) 0 0 n) n (some v))))))) :: wr)) := by
  refine q_met (own := RJx4a65c) (by decide +kernel) rfl (Nat.le_of_ble_eq_true rfl) (fun p e s m args below meth c cx hr hnm => ?_)
  refine r_lv (lv2 := [(0, .ref li), (1, .ref v)]) (q_pk [0, 1] rfl) ?_
  refine r_aload_n cx dJx4a65c_add_9ea2d_0 rfl rfl ?_
  refine r_dup cx dJx4a65c_add_9ea2d_1 rfl ?_
  refine gf_Jx4a65c_63 cx dJx4a65c_add_9ea2d_2 0 rfl rfl ?_
  refine r_iconst (v := nI 1) cx dJx4a65c_add_9ea2d_5 (by decide) ?_
  first | refine r_iaddN cx dJx4a65c_add_9ea2d_6 ?_ | refine r_iadd cx dJx4a65c_add_9ea2d_6 ?_
  refine pf_Jx4a65c_63 cx dJx4a65c_add_9ea2d_7 0 rfl (Nat.le_of_ble_eq_true rfl) ?_
  refine r_aload_n cx dJx4a65c_add_9ea2d_10 rfl rfl ?_
  refine r_aload_n cx dJx4a65c_add_9ea2d_11 rfl rfl ?_
  refine r_aload_n cx dJx4a65c_add_9ea2d_12 rfl rfl ?_
  refine gf_Jx4a65c_9 cx dJx4a65c_add_9ea2d_13 0 rfl rfl ?_
  refine r_aload_n cx dJx4a65c_add_9ea2d_16 rfl rfl ?_
  refine gf_Jx4a65c_48 cx dJx4a65c_add_9ea2d_17 0 rfl rfl ?_
  refine k_Jx4a65c_131 cx (c_add3f l g wr li el n (mc + nI 1) f hn2 hn ci cq hc hca hel v qv vs hv) dJx4a65c_add_9ea2d_20 0 rfl ⟨Nat.le_of_ble_eq_true rfl, Nat.le_of_ble_eq_true rfl⟩ ⟨Nat.le_of_ble_eq_true rfl, Nat.le_of_ble_eq_true rfl⟩ rfl rfl (Nat.le_of_ble_eq_true rfl) (fun w hp => ?_)
  obtain ⟨q, rfl⟩ := hp
  refine r_iconst (v := nI 1) cx dJx4a65c_add_9ea2d_23 (by decide) ?_
  exact r_zret cx dJx4a65c_add_9ea2d_24 hr rfl (⟨q, rfl⟩) (Nat.le_of_ble_eq_true rfl) (Nat.le_of_ble_eq_true rfl)
set_option maxHeartbeats 4000000 in
set_option maxRecDepth 100000 in
theorem c_addr (l : Launch) (g : q_G) (wr : va_W) (li el n cap : Nat) (mc : Int32) (f : Nat → Option Nat) (hn : n < cap) (hcap : cap ≤ 100) (ci : Nat) (cq : vw_C) (hc : vwCl[ci]? = some cq) (hca : Cond.castable cq.1 "java/lang/Object" ∈ NGW) (v qv : Nat) (vs : List Value) (hv : wr[qv]? = some (v, .inr (ci, vs))) : MetW l g yJx4a65c_add_9ea2d cJx4a65c_add_9ea2d 2 (some .boolean) ({ frames := 1, cells := 1, slots := 100, locals := 23 } : Room) [.ref li, .ref v] ((li, .inr (0, [.int mc, .ref el, .int (nI n)])) :: (el, .inl (q_cO g, cap, .inr (.inr (.inr (.inr (f)))))) :: wr) (q_Qi g (fun r w => w = (li, .inr (0, [.int (mc + nI 1), .ref el, .int (nI (n + 1))])) :: (el, .inl (q_cO g, cap, .inr (.inr (.inr (.inr (va_up f n (some v))))))) :: wr)) := by
  refine q_met (own := RJx4a65c) (by decide +kernel) rfl (Nat.le_of_ble_eq_true rfl) (fun p e s m args below meth c cx hr hnm => ?_)
  refine r_lv (lv2 := [(0, .ref li), (1, .ref v)]) (q_pk [0, 1] rfl) ?_
  refine r_aload_n cx dJx4a65c_add_9ea2d_0 rfl rfl ?_
  refine r_dup cx dJx4a65c_add_9ea2d_1 rfl ?_
  refine gf_Jx4a65c_63 cx dJx4a65c_add_9ea2d_2 0 rfl rfl ?_
  refine r_iconst (v := nI 1) cx dJx4a65c_add_9ea2d_5 (by decide) ?_
  first | refine r_iaddN cx dJx4a65c_add_9ea2d_6 ?_ | refine r_iadd cx dJx4a65c_add_9ea2d_6 ?_
  refine pf_Jx4a65c_63 cx dJx4a65c_add_9ea2d_7 0 rfl (Nat.le_of_ble_eq_true rfl) ?_
  refine r_aload_n cx dJx4a65c_add_9ea2d_10 rfl rfl ?_
  refine r_aload_n cx dJx4a65c_add_9ea2d_11 rfl rfl ?_
  refine r_aload_n cx dJx4a65c_add_9ea2d_12 rfl rfl ?_
  refine gf_Jx4a65c_9 cx dJx4a65c_add_9ea2d_13 0 rfl rfl ?_
  refine r_aload_n cx dJx4a65c_add_9ea2d_16 rfl rfl ?_
  refine gf_Jx4a65c_48 cx dJx4a65c_add_9ea2d_17 0 rfl rfl ?_
  refine k_Jx4a65c_131 cx (c_add3r l g wr li el n cap (mc + nI 1) f hn hcap ci cq hc hca v qv vs hv) dJx4a65c_add_9ea2d_20 0 rfl ⟨Nat.le_of_ble_eq_true rfl, Nat.le_of_ble_eq_true rfl⟩ ⟨Nat.le_of_ble_eq_true rfl, Nat.le_of_ble_eq_true rfl⟩ rfl rfl (Nat.le_of_ble_eq_true rfl) (fun w hp => ?_)
  obtain rfl := hp
  refine r_iconst (v := nI 1) cx dJx4a65c_add_9ea2d_23 (by decide) ?_
  exact r_zret cx dJx4a65c_add_9ea2d_24 hr rfl (rfl) (Nat.le_of_ble_eq_true rfl) (Nat.le_of_ble_eq_true rfl)
