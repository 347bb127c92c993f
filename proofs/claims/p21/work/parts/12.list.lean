section LROWS
variable {p : Program} {l : Launch} {e : Env} {R : Room} {s : State} {m : MethodId} {args : Array Value} {below : List Frame} {meth : Method} {c : Code} {g : q_G} {nL : Nat} {Q : State → Prop} {cl sl : Nat} {cc : ByteArray} {own : String} {pc : Nat} {lv : List (Nat × Value)} {st : List Value} {ws : va_W}
theorem r_cast (cx : q_cx g p m c cc nL s args own meth) {nm : String} {index a : Nat} (m1 : Cond.classLink own index nm ∈ WS) (hd : decode cc pc = .ok (.checkcast index, 3)) (q0 : Nat) {ci : Nat} {q : vw_C} {fs : List Value} (hc : vwCl[ci]? = some q) (hq : q.1 = nm) (he : ws[q0]? = some (a, .inr (ci, fs))) (k : AT p l e R s m args below meth c g nL Q cl sl (pc + 3) lv (.ref a :: st) ws) : AT p l e R s m args below meth c g nL Q cl sl pc lv (.ref a :: st) ws := fun H locs ls hP hD hS hl =>
  va_castS (cC := g.1.1 ci) cx.1.1 cx.1.2.1 cx.1.2.2.2.1 (cx.ok m1) (hq ▸ (cx.2.1.2.1.1 ci q hc).2) (hq ▸ va_recv cx.2.1.2.1 hP hc he) hd (k H locs ls hP hD hS hl)
theorem r_min (cx : q_cx g p m c cc nL s args own meth) {index : Nat} {x y : Int32} (m1 : Cond.methodLink own index Lib.Math.min.name ∈ WS) (m2 : Cond.static Lib.Math.min.name ∈ WS) (m3 : Cond.initialized "java/lang/Math" ∈ WS) (m4 : Cond.code Lib.Math.min.name Lib.Math.min.code 2 (some .int) ∈ WS) (hd : decode cc pc = .ok (.invokestatic index, 3)) (hf : 1 ≤ R.frames) (hlo : (st.map fun v => v.category).sum + 13 ≤ R.locals) (hc : cl ≤ R.cells) (hs : sl ≤ R.slots) (k : AT p l e R s m args below meth c g nL Q cl sl (pc + 3) lv (.int (if y < x then y else x) :: st) ws) : AT p l e R s m args below meth c g nL Q cl sl pc lv (.int y :: .int x :: st) ws := fun H locs ls hP hD hS hl =>
  va_mmin cx.1.1 cx.1.2.1 (cx.1.2.2.1.trans hl.1.symm) cx.1.2.2.2.1 (cx.ok m1) (cx.ok m2) (cx.ok m3) (cx.ok m4) hf hlo hc hs hd (k H locs ls hP hD hS hl)
theorem r_max (cx : q_cx g p m c cc nL s args own meth) {index : Nat} {x y : Int32} (m1 : Cond.methodLink own index Lib.Math.max.name ∈ WS) (m2 : Cond.static Lib.Math.max.name ∈ WS) (m3 : Cond.initialized "java/lang/Math" ∈ WS) (m4 : Cond.code Lib.Math.max.name Lib.Math.max.code 2 (some .int) ∈ WS) (hd : decode cc pc = .ok (.invokestatic index, 3)) (hf : 1 ≤ R.frames) (hlo : (st.map fun v => v.category).sum + 13 ≤ R.locals) (hc : cl ≤ R.cells) (hs : sl ≤ R.slots) (k : AT p l e R s m args below meth c g nL Q cl sl (pc + 3) lv (.int (if x < y then y else x) :: st) ws) : AT p l e R s m args below meth c g nL Q cl sl pc lv (.int y :: .int x :: st) ws := fun H locs ls hP hD hS hl =>
  va_mmax cx.1.1 cx.1.2.1 (cx.1.2.2.1.trans hl.1.symm) cx.1.2.2.2.1 (cx.ok m1) (cx.ok m2) (cx.ok m3) (cx.ok m4) hf hlo hc hs hd (k H locs ls hP hD hS hl)
end LROWS
/-- a list of n objects in a world: its cell, and the array behind it -/
def lsV (g : q_G) (ws : va_W) (li n : Nat) (a : Nat → Nat) : Prop := ∃ (ql : Nat) (mc : Int32) (el : Nat), ws[ql]? = some (li, .inr (0, [.int mc, .ref el, .int (nI n)])) ∧ n < 2147483648 ∧
  (n = 0 ∨ ∃ (qe cap : Nat) (f : Nat → Option Nat), ws[qe]? = some (el, .inl (q_cO g, cap, .inr (.inr (.inr (.inr f))))) ∧ n ≤ cap ∧ cap < 2147483648 ∧ ∀ i, i < n → f i = some (a i))
set_option maxHeartbeats 4000000 in
set_option maxRecDepth 100000 in
theorem c_checkIndex3 (l : Launch) (g : q_G) (ws : va_W) (i n : Nat) (hi : i < n) (hn : n < 2147483648) : MetW l g yJ3_checkIndex_8e157 cJ3_checkIndex_8e157 3 (some .int) ({ frames := 0, cells := 0, slots := 0, locals := 0 } : Room) [.int (nI i), .int (nI n), .null] (ws) (q_Qi g (fun r w => r = nI i ∧ w = ws)) := by
  refine q_met (own := RJ3) (by decide +kernel) rfl (Nat.le_of_ble_eq_true rfl) (fun p e s m args below meth c cx hr hnm => ?_)
  refine r_lv (lv2 := [(0, .int (nI i)), (1, .int (nI n)), (2, .null)]) (q_pk [0, 1, 2] rfl) ?_
  refine r_iload_n cx dJ3_checkIndex_8e157_0 rfl rfl ?_
  refine r_ifltN (tgt := 9) cx (by omega) dJ3_checkIndex_8e157_1 (by decide) ?_
  refine r_iload_n cx dJ3_checkIndex_8e157_4 rfl rfl ?_
  refine r_iload_n cx dJ3_checkIndex_8e157_5 rfl rfl ?_
  refine r_icmpltN (tgt := 16) cx (by omega) (by omega) dJ3_checkIndex_8e157_6 (by decide) (fun h_6 => ?_) (fun h_6 => ?_)
  · skip
    refine r_iload_n cx dJ3_checkIndex_8e157_16 rfl rfl ?_
    exact r_iret cx dJ3_checkIndex_8e157_17 hr (⟨rfl, rfl⟩) (Nat.le_of_ble_eq_true rfl) (Nat.le_of_ble_eq_true rfl)
  · exact absurd h_6 (by omega)
set_option maxHeartbeats 4000000 in
set_option maxRecDepth 100000 in
theorem c_checkIndex (l : Launch) (g : q_G) (ws : va_W) (i n : Nat) (hi : i < n) (hn : n < 2147483648) : MetW l g yJ15_checkIndex_7cf53 cJ15_checkIndex_7cf53 2 (some .int) ({ frames := 1, cells := 0, slots := 0, locals := 22 } : Room) [.int (nI i), .int (nI n)] (ws) (q_Qi g (fun r w => r = nI i ∧ w = ws)) := by
  refine q_met (own := RJ15) (by decide +kernel) rfl (Nat.le_of_ble_eq_true rfl) (fun p e s m args below meth c cx hr hnm => ?_)
  refine r_lv (lv2 := [(0, .int (nI i)), (1, .int (nI n))]) (q_pk [0, 1] rfl) ?_
  refine r_iload_n cx dJ15_checkIndex_7cf53_0 rfl rfl ?_
  refine r_iload_n cx dJ15_checkIndex_7cf53_1 rfl rfl ?_
  refine r_null cx dJ15_checkIndex_7cf53_2 ?_
  refine k_J15_105 cx (c_checkIndex3 l g ws i n hi hn) dJ15_checkIndex_7cf53_3 ⟨Nat.le_of_ble_eq_true rfl, Nat.le_of_ble_eq_true rfl⟩ ⟨Nat.le_of_ble_eq_true rfl, Nat.le_of_ble_eq_true rfl⟩ rfl rfl (Nat.le_of_ble_eq_true rfl) (fun r w hp => ?_)
  obtain ⟨rfl, rfl⟩ := hp
  exact r_iret cx dJ15_checkIndex_7cf53_6 hr (⟨rfl, rfl⟩) (Nat.le_of_ble_eq_true rfl) (Nat.le_of_ble_eq_true rfl)
set_option maxHeartbeats 4000000 in
set_option maxRecDepth 100000 in
theorem c_lsize (l : Launch) (g : q_G) (ws : va_W) (li n : Nat) (a : Nat → Nat) (h : lsV g ws li n a) : MetW l g yJx4a65c_size_8abf5 cJx4a65c_size_8abf5 1 (some .int) ({ frames := 0, cells := 0, slots := 0, locals := 0 } : Room) [.ref li] (ws) (q_Qi g (fun r w => r = nI n ∧ w = ws)) := by
  refine q_met (own := RJx4a65c) (by decide +kernel) rfl (Nat.le_of_ble_eq_true rfl) (fun p e s m args below meth c cx hr hnm => ?_)
  obtain ⟨ql, mc, el, h1, hn, h2⟩ := h
  refine r_lv (lv2 := [(0, .ref li)]) (q_pk [0] rfl) ?_
  refine r_aload_n cx dJx4a65c_size_8abf5_0 rfl rfl ?_
  refine gf_Jx4a65c_48 cx dJx4a65c_size_8abf5_1 ql h1 rfl ?_
  exact r_iret cx dJx4a65c_size_8abf5_4 hr (⟨rfl, rfl⟩) (Nat.le_of_ble_eq_true rfl) (Nat.le_of_ble_eq_true rfl)
set_option maxHeartbeats 4000000 in
set_option maxRecDepth 100000 in
theorem c_lelem (l : Launch) (g : q_G) (ws : va_W) (li n i : Nat) (a : Nat → Nat) (h : lsV g ws li n a) (hi : i < n) : MetW l g yJx4a65c_elementData_915e3 cJx4a65c_elementData_915e3 2 (some (.object "java/lang/Object")) ({ frames := 0, cells := 0, slots := 0, locals := 0 } : Room) [.ref li, .int (nI i)] (ws) (q_Qq g (fun r w => r = some (a i) ∧ w = ws)) := by
  refine q_met (own := RJx4a65c) (by decide +kernel) rfl (Nat.le_of_ble_eq_true rfl) (fun p e s m args below meth c cx hr hnm => ?_)
  obtain ⟨ql, mc, el, h1, hn, h2⟩ := h
  obtain ⟨qe, cap, f, h3, h4, h5, h6⟩ := h2.resolve_left (by omega)
  refine r_lv (lv2 := [(0, .ref li), (1, .int (nI i))]) (q_pk [0, 1] rfl) ?_
  refine r_aload_n cx dJx4a65c_elementData_915e3_0 rfl rfl ?_
  refine gf_Jx4a65c_9 cx dJx4a65c_elementData_915e3_1 ql h1 rfl ?_
  refine r_iload_n cx dJx4a65c_elementData_915e3_4 rfl rfl ?_
  refine r_aldq cx qe 3 dJx4a65c_elementData_915e3_5 h3 rfl (vp_in_nI (by omega) (by omega)) ?_
  rw [nI_clamp (by omega)]
  exact r_aret cx dJx4a65c_elementData_915e3_6 hr (Or.inl ⟨_, rfl⟩) (⟨h6 i hi, rfl⟩) (Nat.le_of_ble_eq_true rfl) (Nat.le_of_ble_eq_true rfl)
set_option maxHeartbeats 4000000 in
set_option maxRecDepth 100000 in
theorem c_lget (l : Launch) (g : q_G) (ws : va_W) (li n i : Nat) (a : Nat → Nat) (h : lsV g ws li n a) (hi : i < n) : MetW l g yJx4a65c_get_915e3 cJx4a65c_get_915e3 2 (some (.object "java/lang/Object")) ({ frames := 2, cells := 0, slots := 0, locals := 43 } : Room) [.ref li, .int (nI i)] (ws) (q_Qq g (fun r w => r = some (a i) ∧ w = ws)) := by
  refine q_met (own := RJx4a65c) (by decide +kernel) rfl (Nat.le_of_ble_eq_true rfl) (fun p e s m args below meth c cx hr hnm => ?_)
  have h0 := h
  obtain ⟨ql, mc, el, h1, hn, h2⟩ := h
  refine r_lv (lv2 := [(0, .ref li), (1, .int (nI i))]) (q_pk [0, 1] rfl) ?_
  refine r_iload_n cx dJx4a65c_get_915e3_0 rfl rfl ?_
  refine r_aload_n cx dJx4a65c_get_915e3_1 rfl rfl ?_
  refine gf_Jx4a65c_48 cx dJx4a65c_get_915e3_2 ql h1 rfl ?_
  refine k_Jx4a65c_118 cx (c_checkIndex l g ws i n hi hn) dJx4a65c_get_915e3_5 ⟨Nat.le_of_ble_eq_true rfl, Nat.le_of_ble_eq_true rfl⟩ ⟨Nat.le_of_ble_eq_true rfl, Nat.le_of_ble_eq_true rfl⟩ rfl rfl (Nat.le_of_ble_eq_true rfl) (fun r w hp => ?_)
  obtain ⟨rfl, rfl⟩ := hp
  refine r_pop cx dJx4a65c_get_915e3_8 rfl ?_
  refine r_aload_n cx dJx4a65c_get_915e3_9 rfl rfl ?_
  refine r_iload_n cx dJx4a65c_get_915e3_10 rfl rfl ?_
  refine k_Jx4a65c_123 cx (c_lelem l g w li n i a h0 hi) dJx4a65c_get_915e3_11 ql h1 ⟨Nat.le_of_ble_eq_true rfl, Nat.le_of_ble_eq_true rfl⟩ ⟨Nat.le_of_ble_eq_true rfl, Nat.le_of_ble_eq_true rfl⟩ rfl rfl (Nat.le_of_ble_eq_true rfl) (fun r w2 hp => ?_)
  obtain ⟨rfl, rfl⟩ := hp
  exact r_aret cx dJx4a65c_get_915e3_14 hr (Or.inl ⟨_, rfl⟩) (⟨rfl, rfl⟩) (Nat.le_of_ble_eq_true rfl) (Nat.le_of_ble_eq_true rfl)
