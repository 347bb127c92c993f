/-- the reference's cells -/
def mF (g : q_G) (md : Nat → Nat) (t : Int32) (N : Nat → Nat) (A : Nat → Nat → Int32) (B : Nat → Nat → Bool) (L : Nat → Nat → Int64) (S : Nat → Nat → Int32) : va_W := [(md 21, .inl (q_cI g, 9, .inl (S 3))), (md 20, .inl (q_cI g, 8, .inl (S 2))), (md 19, .inl (q_cI g, 8, .inl (S 1))), (md 18, .inl (q_cI g, 8, .inl (S 0))), (md 17, .inl (q_cI g, 20, .inl (A 13))), (md 16, .inl (q_cJ g, 3, .inr (.inl (L 1)))), (md 15, .inl (q_cJ g, 20, .inr (.inl (L 0)))), (md 14, .inl (q_cZ g, 20, .inl (fun k => bI (B 1 k)))), (md 13, .inl (q_cI g, 20, .inl (A 12))), (md 12, .inl (q_cI g, 20, .inl (A 11))), (md 11, .inl (q_cI g, 20, .inl (A 10))), (md 10, .inl (q_cI g, 20, .inl (A 9))), (md 9, .inl (q_cI g, 20, .inl (A 8))), (md 8, .inl (q_cI g, 20, .inl (A 7))), (md 7, .inl (q_cI g, 4, .inl (A 6))), (md 6, .inl (q_cZ g, 40, .inl (fun k => bI (B 0 k)))), (md 5, .inl (q_cI g, 40, .inl (A 5))), (md 4, .inl (q_cI g, 40, .inl (A 4))), (md 3, .inl (q_cI g, 40, .inl (A 3))), (md 2, .inl (q_cI g, 40, .inl (A 2))), (md 1, .inl (q_cI g, 40, .inl (A 1))), (md 0, .inl (q_cI g, 8, .inl (A 0))), (md 22, .inr (5, [.int t, .int (nI (N 0)), .ref (md 0), .int (nI (N 1)), .ref (md 1), .ref (md 2), .ref (md 3), .ref (md 4), .ref (md 5), .ref (md 6), .ref (md 7), .int (nI (N 2)), .ref (md 8), .ref (md 9), .ref (md 10), .ref (md 11), .ref (md 12), .ref (md 13), .ref (md 14), .ref (md 15), .ref (md 16), .int (nI (N 3)), .ref (md 17), .ref (md 18), .ref (md 19), .ref (md 20), .ref (md 21)]))]
/-- the class's cells, but for the objects in its lists and the lists' arrays -/
def iF (g : q_G) (ad : Nat → Nat) (mc : Nat → Int32) (el sz : Nat → Nat) (th : Int64) (dr dl : Int32) (ro kl : Nat → Int32) (kn : Nat → Int64) (row : Nat → Int32) : va_W :=
  [(ad 0, .inl (q_cI g, 9, .inl row)), (ad 1, .inr (3, [.ref (ad 0)])), (ad 2, .inl (q_cJ g, 3, .inr (.inl kn))), (ad 3, .inl (q_cI g, 4, .inl kl)), (ad 4, .inl (q_cI g, 4, .inl ro)), (ad 5, .inr (0, [.int (mc 2), .ref (el 2), .int (nI (sz 2))])), (ad 6, .inr (0, [.int (mc 1), .ref (el 1), .int (nI (sz 1))])), (ad 7, .inr (0, [.int (mc 0), .ref (el 0), .int (nI (sz 0))])), (ad 8, .inr (4, [.ref (ad 7), .ref (ad 6), .ref (ad 5), .ref (ad 4), .ref (ad 3), .ref (ad 2), .ref (ad 1), .long th, .int dr, .int dl]))]
section PFX
variable {p : Program} {l : Launch} {e : Env} {R : Room} {s : State} {m : MethodId} {args : Array Value} {below : List Frame} {meth : Method} {c : Code} {g : q_G} {nL : Nat} {Q : State → Prop} {cl sl : Nat} {cc : ByteArray} {own : String} {pc : Nat} {lv : List (Nat × Value)} {st : List Value} {ws : va_W}
theorem pf_Jxc12de_7 (cx : q_cx g p m c cc nL s args RJxc12de meth) (hd : decode cc pc = .ok (.putfield 7, 3)) (q0 : Nat) {a : Nat} {fs : List Value} {x : Int32} (he : ws[q0]? = some (a, .inr (0, fs))) (hl9 : 0 < fs.length) (kk : AT p l e R s m args below meth c g nL Q cl sl (pc + 3) lv st (ws.set q0 (a, .inr (0, fs.set 0 (.int x))))) : AT p l e R s m args below meth c g nL Q cl sl pc lv (.int x :: .ref a :: st) ws := fun H locs ls hP hD hS hl => va_put (C := RJx4a65c) (T := TJx4a65c) (N := 3) cx.1.1 cx.1.2.1 cx.1.2.2.2.2 iw_Jx4a65c tyJx4a65c tyJx4a65c_ok nmJx4a65c cx.1.2.2.2.1 cx.2.1.2.1 hP hD hS q0 he rfl 0 (by decide) (cx.ok tb_46) (fun _ h9 => h9) rfl (tyJx4a65c_ok 0 (by decide)) rfl rfl hl9 hd (fun H1 locs1 hP hD hS => kk H1 locs1 ls hP hD hS hl)
theorem q_set_self {q : Nat} {x : Nat × va_E} (h : ws[q]? = some x) : ws.set q x = ws := by
  apply List.ext_getElem?
  intro i
  rw [List.getElem?_set]
  split
  · rename_i e
    subst e
    obtain ⟨h1, h2⟩ := List.getElem?_eq_some_iff.mp h
    rw [if_pos h1, h]
  · rfl
theorem q_set_get {q : Nat} {x y : Nat × va_E} (h : ws[q]? = some x) : (ws.set q y)[q]? = some y := by
  rw [List.getElem?_set_self (List.getElem?_eq_some_iff.mp h).1]
end PFX
set_option maxHeartbeats 4000000 in
set_option maxRecDepth 100000 in
theorem c_AbsColl (l : Launch) (g : q_G) (ws : va_W) (li : Nat) : MetW l g yJxa1e45_init_da8c8 cJxa1e45_init_da8c8 1 none ({ frames := 1, cells := 0, slots := 0, locals := 20 } : Room) [.ref li] (ws) (q_Qv g (fun w => w = ws)) := by
  refine q_met (own := RJxa1e45) (by decide +kernel) rfl (Nat.le_of_ble_eq_true rfl) (fun p e s m args below meth c cx hr hnm => ?_)
  refine r_lv (lv2 := [(0, .ref li)]) (q_pk [0] rfl) ?_
  refine r_aload_n cx dJxa1e45_init_da8c8_0 rfl rfl ?_
  refine r_objInit cx tb_41 tb_28 tb_29 dJxa1e45_init_da8c8_1 (Nat.le_of_ble_eq_true rfl) (Nat.le_of_ble_eq_true rfl) ?_
  exact r_vret cx dJxa1e45_init_da8c8_4 hr (rfl) (Nat.le_of_ble_eq_true rfl) (Nat.le_of_ble_eq_true rfl)
set_option maxHeartbeats 4000000 in
set_option maxRecDepth 100000 in
theorem c_AbsList (l : Launch) (g : q_G) (wr : va_W) (li : Nat) (mc : Int32) (x y : Value) : MetW l g yJxc12de_init_da8c8 cJxc12de_init_da8c8 1 none ({ frames := 2, cells := 0, slots := 0, locals := 40 } : Room) [.ref li] ((li, .inr (0, [.int mc, x, y])) :: wr) (q_Qv g (fun w => w = (li, .inr (0, [.int 0, x, y])) :: wr)) := by
  refine q_met (own := RJxc12de) (by decide +kernel) rfl (Nat.le_of_ble_eq_true rfl) (fun p e s m args below meth c cx hr hnm => ?_)
  refine r_lv (lv2 := [(0, .ref li)]) (q_pk [0] rfl) ?_
  refine r_aload_n cx dJxc12de_init_da8c8_0 rfl rfl ?_
  refine k_Jxc12de_1 cx (c_AbsColl l g _ li) dJxc12de_init_da8c8_1 ⟨Nat.le_of_ble_eq_true rfl, Nat.le_of_ble_eq_true rfl⟩ ⟨Nat.le_of_ble_eq_true rfl, Nat.le_of_ble_eq_true rfl⟩ rfl rfl (Nat.le_of_ble_eq_true rfl) (fun w hp => ?_)
  subst hp
  refine r_aload_n cx dJxc12de_init_da8c8_4 rfl rfl ?_
  refine r_iconst (v := 0) cx dJxc12de_init_da8c8_5 (by decide) ?_
  refine pf_Jxc12de_7 cx dJxc12de_init_da8c8_6 0 rfl (Nat.le_of_ble_eq_true rfl) ?_
  exact r_vret cx dJxc12de_init_da8c8_9 hr (rfl) (Nat.le_of_ble_eq_true rfl) (Nat.le_of_ble_eq_true rfl)
set_option maxHeartbeats 4000000 in
set_option maxRecDepth 100000 in
theorem c_ArrayList (l : Launch) (g : q_G) (wr : va_W) (li : Nat) : MetW l g yJx4a65c_init_da8c8 cJx4a65c_init_da8c8 1 none ({ frames := 3, cells := 0, slots := 0, locals := 60 } : Room) [.ref li] ((li, .inr (0, [.int 0, .null, .int 0])) :: wr) (q_Qv g (fun w => w = (li, .inr (0, [.int 0, .ref g.2.2.2.1, .int 0])) :: wr)) := by
  refine q_met (own := RJx4a65c) (by decide +kernel) rfl (Nat.le_of_ble_eq_true rfl) (fun p e s m args below meth c cx hr hnm => ?_)
  refine r_lv (lv2 := [(0, .ref li)]) (q_pk [0] rfl) ?_
  refine r_aload_n cx dJx4a65c_init_da8c8_0 rfl rfl ?_
  refine k_Jx4a65c_1 cx (c_AbsList l g wr li 0 .null (.int 0)) dJx4a65c_init_da8c8_1 ⟨Nat.le_of_ble_eq_true rfl, Nat.le_of_ble_eq_true rfl⟩ ⟨Nat.le_of_ble_eq_true rfl, Nat.le_of_ble_eq_true rfl⟩ rfl rfl (Nat.le_of_ble_eq_true rfl) (fun w hp => ?_)
  subst hp
  refine r_aload_n cx dJx4a65c_init_da8c8_4 rfl rfl ?_
  refine r_gets cx dJx4a65c_init_da8c8_5 ?_
  refine pf_Jx4a65c_9 cx dJx4a65c_init_da8c8_8 0 rfl (Nat.le_of_ble_eq_true rfl) ?_
  exact r_vret cx dJx4a65c_init_da8c8_11 hr (rfl) (Nat.le_of_ble_eq_true rfl) (Nat.le_of_ble_eq_true rfl)
set_option maxHeartbeats 4000000 in
set_option maxRecDepth 100000 in
theorem c_fill (l : Launch) (g : q_G) (ws : va_W) (qe a n : Nat) (f : Nat → Int32) (v : Int32) (hn : n < 1000) (he : ws[qe]? = some (a, .inl (q_cI g, n, .inl f))) : MetW l g yJ7_fill_53178 cJ7_fill_53178 4 none ({ frames := 0, cells := 0, slots := 0, locals := 0 } : Room) [.ref a, .int v] (ws) (q_Qv g (fun w => ∃ f2 : Nat → Int32, (∀ j, j < n → f2 j = v) ∧ w = ws.set qe (a, .inl (q_cI g, n, .inl f2)))) := by
  refine q_met (own := RJ7) (by decide +kernel) rfl (Nat.le_of_ble_eq_true rfl) (fun p e s m args below meth c cx hr hnm => ?_)
  refine r_lv (lv2 := [(0, .ref a), (1, .int v)]) (q_pk [0, 1] rfl) ?_
  refine r_iconst (v := nI 0) cx dJ7_fill_53178_0 (by decide) ?_
  refine r_istore_n cx dJ7_fill_53178_1 rfl (by decide) rfl ?_
  refine r_aload_n cx dJ7_fill_53178_2 rfl rfl ?_
  refine r_alen (v := nI n) cx qe 0 dJ7_fill_53178_3 he rfl rfl ?_
  refine r_istore_n cx dJ7_fill_53178_4 rfl (by decide) rfl ?_
  refine at_loop (fun (x : Nat × (Nat → Int32)) => x.1 ≤ n ∧ ∀ j, j < x.1 → x.2 j = v) (fun x => [(0, .ref a), (1, .int v), (2, .int (nI x.1)), (3, .int (nI n))]) (fun x => ws.set qe (a, .inl (q_cI g, n, .inl x.2))) (fun x => n - x.1) (0, f) ⟨Nat.zero_le _, fun j hj => absurd hj (Nat.not_lt_zero j)⟩ (q_pk [2, 3, 1, 0] rfl) (q_set_self he).symm (fun x hx ih => ?_)
  obtain ⟨i, f1⟩ := x
  dsimp only at hx ⊢
  obtain ⟨hx1, hx2⟩ := hx
  refine r_iload_n cx dJ7_fill_53178_5 rfl rfl ?_
  refine r_iload_n cx dJ7_fill_53178_6 rfl rfl ?_
  refine r_icmpgeN (tgt := 20) cx (by omega) (by omega) dJ7_fill_53178_7 (by decide) (fun h_7 => ?_) (fun h_7 => ?_)
  · skip
    obtain rfl : i = n := by omega
    exact r_vret cx dJ7_fill_53178_20 hr (⟨f1, hx2, rfl⟩) (Nat.le_of_ble_eq_true rfl) (Nat.le_of_ble_eq_true rfl)
  · skip
    refine r_aload_n cx dJ7_fill_53178_10 rfl rfl ?_
    refine r_iload_n cx dJ7_fill_53178_11 rfl rfl ?_
    refine r_iload_n cx dJ7_fill_53178_12 rfl rfl ?_
    refine r_iastN cx qe 0 dJ7_fill_53178_13 (q_set_get he) rfl (by omega) (by omega) ?_
    rw [List.set_set]
    refine r_iincN (j := 1) cx dJ7_fill_53178_14 rfl rfl (by decide) rfl ?_
    refine r_goto (tgt := 5) cx dJ7_fill_53178_17 (by decide) ?_
    exact r_lv (q_pk [1, 2, 0, 3] rfl) (ih (i + 1, upd f1 i v) ⟨by omega, fun j hj => by
    show upd f1 i v j = v
    by_cases h9 : j = i
    · rw [h9, pk_us]
    · rw [pk_un h9]
      exact hx2 j (by omega)⟩ (by show n - (i + 1) < n - i; omega))
set_option maxHeartbeats 4000000 in
set_option maxRecDepth 100000 in
theorem c_atlas (l : Launch) (g : q_G) (wr : va_W) (a0 : Nat) : MetW l g yX3_init cX3_init 1 none ({ frames := 4, cells := 13, slots := 60, locals := 80 } : Room) [.ref a0] ((a0, .inr (4, [.null, .null, .null, .null, .null, .null, .null, .long 0, .int 0, .int 0])) :: wr) (q_Qv g (fun w => ∃ (ad : Nat → Nat) (ro : Nat → Int32), ad 8 = a0 ∧ (∀ j, j < 4 → ro j = -1) ∧ w = iF g ad (fun _ => 0) (fun _ => g.2.2.2.1) (fun _ => 0) 0 0 0 ro (fun _ => 0) (fun _ => 0) (fun _ => 0) ++ wr)) := by
  refine q_met (own := RX3) (by decide +kernel) rfl (Nat.le_of_ble_eq_true rfl) (fun p e s m args below meth c cx hr hnm => ?_)
  refine r_lv (lv2 := [(0, .ref a0)]) (q_pk [0] rfl) ?_
  refine r_aload_n cx dX3_init_0 rfl rfl ?_
  refine r_objInit cx tb_27 tb_28 tb_29 dX3_init_1 (Nat.le_of_ble_eq_true rfl) (Nat.le_of_ble_eq_true rfl) ?_
  refine r_aload_n cx dX3_init_4 rfl rfl ?_
  refine nw_X3_7 cx dX3_init_5 (Nat.le_of_ble_eq_true rfl) (Nat.le_of_ble_eq_true rfl) (fun q1 => ?_)
  refine r_perm (List.perm_append_singleton _ _) ?_
  refine r_dup cx dX3_init_8 rfl ?_
  refine k_X3_9 cx (c_ArrayList l g _ q1) dX3_init_9 ⟨Nat.le_of_ble_eq_true rfl, Nat.le_of_ble_eq_true rfl⟩ ⟨Nat.le_of_ble_eq_true rfl, Nat.le_of_ble_eq_true rfl⟩ rfl rfl (Nat.le_of_ble_eq_true rfl) (fun w hp => ?_)
  subst hp
  refine pf_X3_10 cx hnm dX3_init_12 1 rfl (Nat.le_of_ble_eq_true rfl) ?_
  refine r_aload_n cx dX3_init_15 rfl rfl ?_
  refine nw_X3_7 cx dX3_init_16 (Nat.le_of_ble_eq_true rfl) (Nat.le_of_ble_eq_true rfl) (fun q2 => ?_)
  refine r_perm (List.perm_append_singleton _ _) ?_
  refine r_dup cx dX3_init_19 rfl ?_
  refine k_X3_9 cx (c_ArrayList l g _ q2) dX3_init_20 ⟨Nat.le_of_ble_eq_true rfl, Nat.le_of_ble_eq_true rfl⟩ ⟨Nat.le_of_ble_eq_true rfl, Nat.le_of_ble_eq_true rfl⟩ rfl rfl (Nat.le_of_ble_eq_true rfl) (fun w hp => ?_)
  subst hp
  refine pf_X3_16 cx hnm dX3_init_23 2 rfl (Nat.le_of_ble_eq_true rfl) ?_
  refine r_aload_n cx dX3_init_26 rfl rfl ?_
  refine nw_X3_7 cx dX3_init_27 (Nat.le_of_ble_eq_true rfl) (Nat.le_of_ble_eq_true rfl) (fun q3 => ?_)
  refine r_perm (List.perm_append_singleton _ _) ?_
  refine r_dup cx dX3_init_30 rfl ?_
  refine k_X3_9 cx (c_ArrayList l g _ q3) dX3_init_31 ⟨Nat.le_of_ble_eq_true rfl, Nat.le_of_ble_eq_true rfl⟩ ⟨Nat.le_of_ble_eq_true rfl, Nat.le_of_ble_eq_true rfl⟩ rfl rfl (Nat.le_of_ble_eq_true rfl) (fun w hp => ?_)
  subst hp
  refine pf_X3_19 cx hnm dX3_init_34 3 rfl (Nat.le_of_ble_eq_true rfl) ?_
  refine r_aload_n cx dX3_init_37 rfl rfl ?_
  refine r_iconst (v := nI 4) cx dX3_init_38 (by decide) ?_
  refine r_newarr (atype := .int) (N := 4) (a0 := (4, .inl (fun _ => 0))) cx 0 tb_66 rfl rfl trivial (fun _ => rfl) (by decide) (by decide) dX3_init_39 (Nat.le_of_ble_eq_true rfl) (Nat.le_of_ble_eq_true rfl) (fun q4 => ?_)
  refine r_perm (List.perm_append_singleton _ _) ?_
  refine pf_X3_22 cx hnm dX3_init_41 4 rfl (Nat.le_of_ble_eq_true rfl) ?_
  refine r_aload_n cx dX3_init_44 rfl rfl ?_
  refine r_iconst (v := nI 4) cx dX3_init_45 (by decide) ?_
  refine r_newarr (atype := .int) (N := 4) (a0 := (4, .inl (fun _ => 0))) cx 0 tb_66 rfl rfl trivial (fun _ => rfl) (by decide) (by decide) dX3_init_46 (Nat.le_of_ble_eq_true rfl) (Nat.le_of_ble_eq_true rfl) (fun q5 => ?_)
  refine r_perm (List.perm_append_singleton _ _) ?_
  refine pf_X3_26 cx hnm dX3_init_48 5 rfl (Nat.le_of_ble_eq_true rfl) ?_
  refine r_aload_n cx dX3_init_51 rfl rfl ?_
  refine r_iconst (v := nI 3) cx dX3_init_52 (by decide) ?_
  refine r_newarr (atype := .long) (N := 3) (a0 := (3, .inr (.inl (fun _ => 0)))) cx 1 tb_67 rfl rfl trivial (fun _ => rfl) (by decide) (by decide) dX3_init_53 (Nat.le_of_ble_eq_true rfl) (Nat.le_of_ble_eq_true rfl) (fun q6 => ?_)
  refine r_perm (List.perm_append_singleton _ _) ?_
  refine pf_X3_29 cx hnm dX3_init_55 6 rfl (Nat.le_of_ble_eq_true rfl) ?_
  refine r_aload_n cx dX3_init_58 rfl rfl ?_
  refine nw_X3_33 cx dX3_init_59 (Nat.le_of_ble_eq_true rfl) (Nat.le_of_ble_eq_true rfl) (fun q7 => ?_)
  refine r_perm (List.perm_append_singleton _ _) ?_
  refine r_dup cx dX3_init_62 rfl ?_
  refine k_X3_35 cx (c_StepCounter l g _ q7) dX3_init_63 ⟨Nat.le_of_ble_eq_true rfl, Nat.le_of_ble_eq_true rfl⟩ ⟨Nat.le_of_ble_eq_true rfl, Nat.le_of_ble_eq_true rfl⟩ rfl rfl (Nat.le_of_ble_eq_true rfl) (fun w hp => ?_)
  obtain ⟨q8, hp⟩ := hp
  subst hp
  refine r_perm (List.perm_append_singleton _ _) ?_
  refine pf_X3_36 cx hnm dX3_init_66 8 rfl (Nat.le_of_ble_eq_true rfl) ?_
  refine r_aload_n cx dX3_init_69 rfl rfl ?_
  refine r_lconst (v := 0) cx dX3_init_70 rfl ?_
  refine pf_X3_40 cx dX3_init_71 8 rfl (Nat.le_of_ble_eq_true rfl) ?_
  refine r_aload_n cx dX3_init_74 rfl rfl ?_
  refine r_iconst (v := 0) cx dX3_init_75 (by decide) ?_
  refine pf_X3_44 cx dX3_init_76 8 rfl (Nat.le_of_ble_eq_true rfl) ?_
  refine r_aload_n cx dX3_init_79 rfl rfl ?_
  refine r_iconst (v := 0) cx dX3_init_80 (by decide) ?_
  refine pf_X3_48 cx dX3_init_81 8 rfl (Nat.le_of_ble_eq_true rfl) ?_
  refine r_aload_n cx dX3_init_84 rfl rfl ?_
  refine gf_X3_22 cx dX3_init_85 8 rfl rfl ?_
  refine r_iconst (v := -1) cx dX3_init_88 (by decide) ?_
  refine k_X3_51 cx (c_fill l g _ 4 q4 4 (fun _ => 0) (-1) (by decide) rfl) dX3_init_89 ⟨Nat.le_of_ble_eq_true rfl, Nat.le_of_ble_eq_true rfl⟩ ⟨Nat.le_of_ble_eq_true rfl, Nat.le_of_ble_eq_true rfl⟩ rfl rfl (Nat.le_of_ble_eq_true rfl) (fun w hp => ?_)
  obtain ⟨ro, hro, hp⟩ := hp
  subst hp
  exact r_vret cx dX3_init_92 hr (⟨(fun k => if k = 0 then q8 else if k = 1 then q7 else if k = 2 then q6 else if k = 3 then q5 else if k = 4 then q4 else if k = 5 then q3 else if k = 6 then q2 else if k = 7 then q1 else a0), ro, rfl, hro, rfl⟩) (Nat.le_of_ble_eq_true rfl) (Nat.le_of_ble_eq_true rfl)
set_option maxHeartbeats 4000000 in
set_option maxRecDepth 100000 in
theorem c_model (l : Launch) (g : q_G) (wr : va_W) (a0 : Nat) : MetW l g yX4_init cX4_init 2 none ({ frames := 1, cells := 22, slots := 600, locals := 20 } : Room) [.ref a0] ((a0, .inr (5, [.int 0, .int 0, .null, .int 0, .null, .null, .null, .null, .null, .null, .null, .int 0, .null, .null, .null, .null, .null, .null, .null, .null, .null, .int 0, .null, .null, .null, .null, .null])) :: wr) (q_Qv g (fun w => ∃ (md : Nat → Nat) (ro : Nat → Int32), md 22 = a0 ∧ (∀ j, j < 4 → ro j = -1) ∧ w = mF g md 0 (fun _ => 0) (fun k => if k = 6 then ro else fun _ => 0) (fun _ _ => false) (fun _ _ => 0) (fun _ _ => 0) ++ wr)) := by
  refine q_met (own := RX4) (by decide +kernel) rfl (Nat.le_of_ble_eq_true rfl) (fun p e s m args below meth c cx hr hnm => ?_)
  refine r_lv (lv2 := [(0, .ref a0)]) (q_pk [0] rfl) ?_
  refine r_aload_n cx dX4_init_0 rfl rfl ?_
  refine r_objInit cx tb_571 tb_28 tb_29 dX4_init_1 (Nat.le_of_ble_eq_true rfl) (Nat.le_of_ble_eq_true rfl) ?_
  refine r_aload_n cx dX4_init_4 rfl rfl ?_
  refine r_bipush (v := nI 8) cx dX4_init_5 (by decide) ?_
  refine r_newarr (atype := .int) (N := 8) (a0 := (8, .inl (fun _ => 0))) cx 0 tb_66 rfl rfl trivial (fun _ => rfl) (by decide) (by decide) dX4_init_7 (Nat.le_of_ble_eq_true rfl) (Nat.le_of_ble_eq_true rfl) (fun q0 => ?_)
  refine r_perm (List.perm_append_singleton _ _) ?_
  refine pf_X4_7 cx hnm dX4_init_9 1 rfl (Nat.le_of_ble_eq_true rfl) ?_
  refine r_ws (ws2 := (q0, .inl (q_cI g, 8, .inl (fun _ => 0))) :: (a0, .inr (5, [.int 0, .int 0, .ref q0, .int 0, .null, .null, .null, .null, .null, .null, .null, .int 0, .null, .null, .null, .null, .null, .null, .null, .null, .null, .int 0, .null, .null, .null, .null, .null])) :: wr) rfl ?_
  refine r_aload_n cx dX4_init_12 rfl rfl ?_
  refine r_bipush (v := nI 40) cx dX4_init_13 (by decide) ?_
  refine r_newarr (atype := .int) (N := 40) (a0 := (40, .inl (fun _ => 0))) cx 0 tb_66 rfl rfl trivial (fun _ => rfl) (by decide) (by decide) dX4_init_15 (Nat.le_of_ble_eq_true rfl) (Nat.le_of_ble_eq_true rfl) (fun q1 => ?_)
  refine r_perm (List.perm_append_singleton _ _) ?_
  refine pf_X4_13 cx hnm dX4_init_17 2 rfl (Nat.le_of_ble_eq_true rfl) ?_
  refine r_ws (ws2 := (q1, .inl (q_cI g, 40, .inl (fun _ => 0))) :: (q0, .inl (q_cI g, 8, .inl (fun _ => 0))) :: (a0, .inr (5, [.int 0, .int 0, .ref q0, .int 0, .ref q1, .null, .null, .null, .null, .null, .null, .int 0, .null, .null, .null, .null, .null, .null, .null, .null, .null, .int 0, .null, .null, .null, .null, .null])) :: wr) rfl ?_
  refine r_aload_n cx dX4_init_20 rfl rfl ?_
  refine r_bipush (v := nI 40) cx dX4_init_21 (by decide) ?_
  refine r_newarr (atype := .int) (N := 40) (a0 := (40, .inl (fun _ => 0))) cx 0 tb_66 rfl rfl trivial (fun _ => rfl) (by decide) (by decide) dX4_init_23 (Nat.le_of_ble_eq_true rfl) (Nat.le_of_ble_eq_true rfl) (fun q2 => ?_)
  refine r_perm (List.perm_append_singleton _ _) ?_
  refine pf_X4_16 cx hnm dX4_init_25 3 rfl (Nat.le_of_ble_eq_true rfl) ?_
  refine r_ws (ws2 := (q2, .inl (q_cI g, 40, .inl (fun _ => 0))) :: (q1, .inl (q_cI g, 40, .inl (fun _ => 0))) :: (q0, .inl (q_cI g, 8, .inl (fun _ => 0))) :: (a0, .inr (5, [.int 0, .int 0, .ref q0, .int 0, .ref q1, .ref q2, .null, .null, .null, .null, .null, .int 0, .null, .null, .null, .null, .null, .null, .null, .null, .null, .int 0, .null, .null, .null, .null, .null])) :: wr) rfl ?_
  refine r_aload_n cx dX4_init_28 rfl rfl ?_
  refine r_bipush (v := nI 40) cx dX4_init_29 (by decide) ?_
  refine r_newarr (atype := .int) (N := 40) (a0 := (40, .inl (fun _ => 0))) cx 0 tb_66 rfl rfl trivial (fun _ => rfl) (by decide) (by decide) dX4_init_31 (Nat.le_of_ble_eq_true rfl) (Nat.le_of_ble_eq_true rfl) (fun q3 => ?_)
  refine r_perm (List.perm_append_singleton _ _) ?_
  refine pf_X4_19 cx hnm dX4_init_33 4 rfl (Nat.le_of_ble_eq_true rfl) ?_
  refine r_ws (ws2 := (q3, .inl (q_cI g, 40, .inl (fun _ => 0))) :: (q2, .inl (q_cI g, 40, .inl (fun _ => 0))) :: (q1, .inl (q_cI g, 40, .inl (fun _ => 0))) :: (q0, .inl (q_cI g, 8, .inl (fun _ => 0))) :: (a0, .inr (5, [.int 0, .int 0, .ref q0, .int 0, .ref q1, .ref q2, .ref q3, .null, .null, .null, .null, .int 0, .null, .null, .null, .null, .null, .null, .null, .null, .null, .int 0, .null, .null, .null, .null, .null])) :: wr) rfl ?_
  refine r_aload_n cx dX4_init_36 rfl rfl ?_
  refine r_bipush (v := nI 40) cx dX4_init_37 (by decide) ?_
  refine r_newarr (atype := .int) (N := 40) (a0 := (40, .inl (fun _ => 0))) cx 0 tb_66 rfl rfl trivial (fun _ => rfl) (by decide) (by decide) dX4_init_39 (Nat.le_of_ble_eq_true rfl) (Nat.le_of_ble_eq_true rfl) (fun q4 => ?_)
  refine r_perm (List.perm_append_singleton _ _) ?_
  refine pf_X4_22 cx hnm dX4_init_41 5 rfl (Nat.le_of_ble_eq_true rfl) ?_
  refine r_ws (ws2 := (q4, .inl (q_cI g, 40, .inl (fun _ => 0))) :: (q3, .inl (q_cI g, 40, .inl (fun _ => 0))) :: (q2, .inl (q_cI g, 40, .inl (fun _ => 0))) :: (q1, .inl (q_cI g, 40, .inl (fun _ => 0))) :: (q0, .inl (q_cI g, 8, .inl (fun _ => 0))) :: (a0, .inr (5, [.int 0, .int 0, .ref q0, .int 0, .ref q1, .ref q2, .ref q3, .ref q4, .null, .null, .null, .int 0, .null, .null, .null, .null, .null, .null, .null, .null, .null, .int 0, .null, .null, .null, .null, .null])) :: wr) rfl ?_
  refine r_aload_n cx dX4_init_44 rfl rfl ?_
  refine r_bipush (v := nI 40) cx dX4_init_45 (by decide) ?_
  refine r_newarr (atype := .int) (N := 40) (a0 := (40, .inl (fun _ => 0))) cx 0 tb_66 rfl rfl trivial (fun _ => rfl) (by decide) (by decide) dX4_init_47 (Nat.le_of_ble_eq_true rfl) (Nat.le_of_ble_eq_true rfl) (fun q5 => ?_)
  refine r_perm (List.perm_append_singleton _ _) ?_
  refine pf_X4_25 cx hnm dX4_init_49 6 rfl (Nat.le_of_ble_eq_true rfl) ?_
  refine r_ws (ws2 := (q5, .inl (q_cI g, 40, .inl (fun _ => 0))) :: (q4, .inl (q_cI g, 40, .inl (fun _ => 0))) :: (q3, .inl (q_cI g, 40, .inl (fun _ => 0))) :: (q2, .inl (q_cI g, 40, .inl (fun _ => 0))) :: (q1, .inl (q_cI g, 40, .inl (fun _ => 0))) :: (q0, .inl (q_cI g, 8, .inl (fun _ => 0))) :: (a0, .inr (5, [.int 0, .int 0, .ref q0, .int 0, .ref q1, .ref q2, .ref q3, .ref q4, .ref q5, .null, .null, .int 0, .null, .null, .null, .null, .null, .null, .null, .null, .null, .int 0, .null, .null, .null, .null, .null])) :: wr) rfl ?_
  refine r_aload_n cx dX4_init_52 rfl rfl ?_
  refine r_bipush (v := nI 40) cx dX4_init_53 (by decide) ?_
  refine r_newarr (atype := .boolean) (N := 40) (a0 := (40, .inl (fun _ => 0))) cx 2 tb_654 rfl rfl trivial (fun _ => rfl) (by decide) (by decide) dX4_init_55 (Nat.le_of_ble_eq_true rfl) (Nat.le_of_ble_eq_true rfl) (fun q6 => ?_)
  refine r_perm (List.perm_append_singleton _ _) ?_
  refine pf_X4_28 cx hnm dX4_init_57 7 rfl (Nat.le_of_ble_eq_true rfl) ?_
  refine r_ws (ws2 := (q6, .inl (q_cZ g, 40, .inl (fun _ => 0))) :: (q5, .inl (q_cI g, 40, .inl (fun _ => 0))) :: (q4, .inl (q_cI g, 40, .inl (fun _ => 0))) :: (q3, .inl (q_cI g, 40, .inl (fun _ => 0))) :: (q2, .inl (q_cI g, 40, .inl (fun _ => 0))) :: (q1, .inl (q_cI g, 40, .inl (fun _ => 0))) :: (q0, .inl (q_cI g, 8, .inl (fun _ => 0))) :: (a0, .inr (5, [.int 0, .int 0, .ref q0, .int 0, .ref q1, .ref q2, .ref q3, .ref q4, .ref q5, .ref q6, .null, .int 0, .null, .null, .null, .null, .null, .null, .null, .null, .null, .int 0, .null, .null, .null, .null, .null])) :: wr) rfl ?_
  refine r_aload_n cx dX4_init_60 rfl rfl ?_
  refine r_iconst (v := nI 4) cx dX4_init_61 (by decide) ?_
  refine r_newarr (atype := .int) (N := 4) (a0 := (4, .inl (fun _ => 0))) cx 0 tb_66 rfl rfl trivial (fun _ => rfl) (by decide) (by decide) dX4_init_62 (Nat.le_of_ble_eq_true rfl) (Nat.le_of_ble_eq_true rfl) (fun q7 => ?_)
  refine r_perm (List.perm_append_singleton _ _) ?_
  refine pf_X4_32 cx hnm dX4_init_64 8 rfl (Nat.le_of_ble_eq_true rfl) ?_
  refine r_ws (ws2 := (q7, .inl (q_cI g, 4, .inl (fun _ => 0))) :: (q6, .inl (q_cZ g, 40, .inl (fun _ => 0))) :: (q5, .inl (q_cI g, 40, .inl (fun _ => 0))) :: (q4, .inl (q_cI g, 40, .inl (fun _ => 0))) :: (q3, .inl (q_cI g, 40, .inl (fun _ => 0))) :: (q2, .inl (q_cI g, 40, .inl (fun _ => 0))) :: (q1, .inl (q_cI g, 40, .inl (fun _ => 0))) :: (q0, .inl (q_cI g, 8, .inl (fun _ => 0))) :: (a0, .inr (5, [.int 0, .int 0, .ref q0, .int 0, .ref q1, .ref q2, .ref q3, .ref q4, .ref q5, .ref q6, .ref q7, .int 0, .null, .null, .null, .null, .null, .null, .null, .null, .null, .int 0, .null, .null, .null, .null, .null])) :: wr) rfl ?_
  refine r_aload_n cx dX4_init_67 rfl rfl ?_
  refine r_bipush (v := nI 20) cx dX4_init_68 (by decide) ?_
  refine r_newarr (atype := .int) (N := 20) (a0 := (20, .inl (fun _ => 0))) cx 0 tb_66 rfl rfl trivial (fun _ => rfl) (by decide) (by decide) dX4_init_70 (Nat.le_of_ble_eq_true rfl) (Nat.le_of_ble_eq_true rfl) (fun q8 => ?_)
  refine r_perm (List.perm_append_singleton _ _) ?_
  refine pf_X4_35 cx hnm dX4_init_72 9 rfl (Nat.le_of_ble_eq_true rfl) ?_
  refine r_ws (ws2 := (q8, .inl (q_cI g, 20, .inl (fun _ => 0))) :: (q7, .inl (q_cI g, 4, .inl (fun _ => 0))) :: (q6, .inl (q_cZ g, 40, .inl (fun _ => 0))) :: (q5, .inl (q_cI g, 40, .inl (fun _ => 0))) :: (q4, .inl (q_cI g, 40, .inl (fun _ => 0))) :: (q3, .inl (q_cI g, 40, .inl (fun _ => 0))) :: (q2, .inl (q_cI g, 40, .inl (fun _ => 0))) :: (q1, .inl (q_cI g, 40, .inl (fun _ => 0))) :: (q0, .inl (q_cI g, 8, .inl (fun _ => 0))) :: (a0, .inr (5, [.int 0, .int 0, .ref q0, .int 0, .ref q1, .ref q2, .ref q3, .ref q4, .ref q5, .ref q6, .ref q7, .int 0, .ref q8, .null, .null, .null, .null, .null, .null, .null, .null, .int 0, .null, .null, .null, .null, .null])) :: wr) rfl ?_
  refine r_aload_n cx dX4_init_75 rfl rfl ?_
  refine r_bipush (v := nI 20) cx dX4_init_76 (by decide) ?_
  refine r_newarr (atype := .int) (N := 20) (a0 := (20, .inl (fun _ => 0))) cx 0 tb_66 rfl rfl trivial (fun _ => rfl) (by decide) (by decide) dX4_init_78 (Nat.le_of_ble_eq_true rfl) (Nat.le_of_ble_eq_true rfl) (fun q9 => ?_)
  refine r_perm (List.perm_append_singleton _ _) ?_
  refine pf_X4_38 cx hnm dX4_init_80 10 rfl (Nat.le_of_ble_eq_true rfl) ?_
  refine r_ws (ws2 := (q9, .inl (q_cI g, 20, .inl (fun _ => 0))) :: (q8, .inl (q_cI g, 20, .inl (fun _ => 0))) :: (q7, .inl (q_cI g, 4, .inl (fun _ => 0))) :: (q6, .inl (q_cZ g, 40, .inl (fun _ => 0))) :: (q5, .inl (q_cI g, 40, .inl (fun _ => 0))) :: (q4, .inl (q_cI g, 40, .inl (fun _ => 0))) :: (q3, .inl (q_cI g, 40, .inl (fun _ => 0))) :: (q2, .inl (q_cI g, 40, .inl (fun _ => 0))) :: (q1, .inl (q_cI g, 40, .inl (fun _ => 0))) :: (q0, .inl (q_cI g, 8, .inl (fun _ => 0))) :: (a0, .inr (5, [.int 0, .int 0, .ref q0, .int 0, .ref q1, .ref q2, .ref q3, .ref q4, .ref q5, .ref q6, .ref q7, .int 0, .ref q8, .ref q9, .null, .null, .null, .null, .null, .null, .null, .int 0, .null, .null, .null, .null, .null])) :: wr) rfl ?_
  refine r_aload_n cx dX4_init_83 rfl rfl ?_
  refine r_bipush (v := nI 20) cx dX4_init_84 (by decide) ?_
  refine r_newarr (atype := .int) (N := 20) (a0 := (20, .inl (fun _ => 0))) cx 0 tb_66 rfl rfl trivial (fun _ => rfl) (by decide) (by decide) dX4_init_86 (Nat.le_of_ble_eq_true rfl) (Nat.le_of_ble_eq_true rfl) (fun q10 => ?_)
  refine r_perm (List.perm_append_singleton _ _) ?_
  refine pf_X4_41 cx hnm dX4_init_88 11 rfl (Nat.le_of_ble_eq_true rfl) ?_
  refine r_ws (ws2 := (q10, .inl (q_cI g, 20, .inl (fun _ => 0))) :: (q9, .inl (q_cI g, 20, .inl (fun _ => 0))) :: (q8, .inl (q_cI g, 20, .inl (fun _ => 0))) :: (q7, .inl (q_cI g, 4, .inl (fun _ => 0))) :: (q6, .inl (q_cZ g, 40, .inl (fun _ => 0))) :: (q5, .inl (q_cI g, 40, .inl (fun _ => 0))) :: (q4, .inl (q_cI g, 40, .inl (fun _ => 0))) :: (q3, .inl (q_cI g, 40, .inl (fun _ => 0))) :: (q2, .inl (q_cI g, 40, .inl (fun _ => 0))) :: (q1, .inl (q_cI g, 40, .inl (fun _ => 0))) :: (q0, .inl (q_cI g, 8, .inl (fun _ => 0))) :: (a0, .inr (5, [.int 0, .int 0, .ref q0, .int 0, .ref q1, .ref q2, .ref q3, .ref q4, .ref q5, .ref q6, .ref q7, .int 0, .ref q8, .ref q9, .ref q10, .null, .null, .null, .null, .null, .null, .int 0, .null, .null, .null, .null, .null])) :: wr) rfl ?_
  refine r_aload_n cx dX4_init_91 rfl rfl ?_
  refine r_bipush (v := nI 20) cx dX4_init_92 (by decide) ?_
  refine r_newarr (atype := .int) (N := 20) (a0 := (20, .inl (fun _ => 0))) cx 0 tb_66 rfl rfl trivial (fun _ => rfl) (by decide) (by decide) dX4_init_94 (Nat.le_of_ble_eq_true rfl) (Nat.le_of_ble_eq_true rfl) (fun q11 => ?_)
  refine r_perm (List.perm_append_singleton _ _) ?_
  refine pf_X4_44 cx hnm dX4_init_96 12 rfl (Nat.le_of_ble_eq_true rfl) ?_
  refine r_ws (ws2 := (q11, .inl (q_cI g, 20, .inl (fun _ => 0))) :: (q10, .inl (q_cI g, 20, .inl (fun _ => 0))) :: (q9, .inl (q_cI g, 20, .inl (fun _ => 0))) :: (q8, .inl (q_cI g, 20, .inl (fun _ => 0))) :: (q7, .inl (q_cI g, 4, .inl (fun _ => 0))) :: (q6, .inl (q_cZ g, 40, .inl (fun _ => 0))) :: (q5, .inl (q_cI g, 40, .inl (fun _ => 0))) :: (q4, .inl (q_cI g, 40, .inl (fun _ => 0))) :: (q3, .inl (q_cI g, 40, .inl (fun _ => 0))) :: (q2, .inl (q_cI g, 40, .inl (fun _ => 0))) :: (q1, .inl (q_cI g, 40, .inl (fun _ => 0))) :: (q0, .inl (q_cI g, 8, .inl (fun _ => 0))) :: (a0, .inr (5, [.int 0, .int 0, .ref q0, .int 0, .ref q1, .ref q2, .ref q3, .ref q4, .ref q5, .ref q6, .ref q7, .int 0, .ref q8, .ref q9, .ref q10, .ref q11, .null, .null, .null, .null, .null, .int 0, .null, .null, .null, .null, .null])) :: wr) rfl ?_
  refine r_aload_n cx dX4_init_99 rfl rfl ?_
  refine r_bipush (v := nI 20) cx dX4_init_100 (by decide) ?_
  refine r_newarr (atype := .int) (N := 20) (a0 := (20, .inl (fun _ => 0))) cx 0 tb_66 rfl rfl trivial (fun _ => rfl) (by decide) (by decide) dX4_init_102 (Nat.le_of_ble_eq_true rfl) (Nat.le_of_ble_eq_true rfl) (fun q12 => ?_)
  refine r_perm (List.perm_append_singleton _ _) ?_
  refine pf_X4_47 cx hnm dX4_init_104 13 rfl (Nat.le_of_ble_eq_true rfl) ?_
  refine r_ws (ws2 := (q12, .inl (q_cI g, 20, .inl (fun _ => 0))) :: (q11, .inl (q_cI g, 20, .inl (fun _ => 0))) :: (q10, .inl (q_cI g, 20, .inl (fun _ => 0))) :: (q9, .inl (q_cI g, 20, .inl (fun _ => 0))) :: (q8, .inl (q_cI g, 20, .inl (fun _ => 0))) :: (q7, .inl (q_cI g, 4, .inl (fun _ => 0))) :: (q6, .inl (q_cZ g, 40, .inl (fun _ => 0))) :: (q5, .inl (q_cI g, 40, .inl (fun _ => 0))) :: (q4, .inl (q_cI g, 40, .inl (fun _ => 0))) :: (q3, .inl (q_cI g, 40, .inl (fun _ => 0))) :: (q2, .inl (q_cI g, 40, .inl (fun _ => 0))) :: (q1, .inl (q_cI g, 40, .inl (fun _ => 0))) :: (q0, .inl (q_cI g, 8, .inl (fun _ => 0))) :: (a0, .inr (5, [.int 0, .int 0, .ref q0, .int 0, .ref q1, .ref q2, .ref q3, .ref q4, .ref q5, .ref q6, .ref q7, .int 0, .ref q8, .ref q9, .ref q10, .ref q11, .ref q12, .null, .null, .null, .null, .int 0, .null, .null, .null, .null, .null])) :: wr) rfl ?_
  refine r_aload_n cx dX4_init_107 rfl rfl ?_
  refine r_bipush (v := nI 20) cx dX4_init_108 (by decide) ?_
  refine r_newarr (atype := .int) (N := 20) (a0 := (20, .inl (fun _ => 0))) cx 0 tb_66 rfl rfl trivial (fun _ => rfl) (by decide) (by decide) dX4_init_110 (Nat.le_of_ble_eq_true rfl) (Nat.le_of_ble_eq_true rfl) (fun q13 => ?_)
  refine r_perm (List.perm_append_singleton _ _) ?_
  refine pf_X4_50 cx hnm dX4_init_112 14 rfl (Nat.le_of_ble_eq_true rfl) ?_
  refine r_ws (ws2 := (q13, .inl (q_cI g, 20, .inl (fun _ => 0))) :: (q12, .inl (q_cI g, 20, .inl (fun _ => 0))) :: (q11, .inl (q_cI g, 20, .inl (fun _ => 0))) :: (q10, .inl (q_cI g, 20, .inl (fun _ => 0))) :: (q9, .inl (q_cI g, 20, .inl (fun _ => 0))) :: (q8, .inl (q_cI g, 20, .inl (fun _ => 0))) :: (q7, .inl (q_cI g, 4, .inl (fun _ => 0))) :: (q6, .inl (q_cZ g, 40, .inl (fun _ => 0))) :: (q5, .inl (q_cI g, 40, .inl (fun _ => 0))) :: (q4, .inl (q_cI g, 40, .inl (fun _ => 0))) :: (q3, .inl (q_cI g, 40, .inl (fun _ => 0))) :: (q2, .inl (q_cI g, 40, .inl (fun _ => 0))) :: (q1, .inl (q_cI g, 40, .inl (fun _ => 0))) :: (q0, .inl (q_cI g, 8, .inl (fun _ => 0))) :: (a0, .inr (5, [.int 0, .int 0, .ref q0, .int 0, .ref q1, .ref q2, .ref q3, .ref q4, .ref q5, .ref q6, .ref q7, .int 0, .ref q8, .ref q9, .ref q10, .ref q11, .ref q12, .ref q13, .null, .null, .null, .int 0, .null, .null, .null, .null, .null])) :: wr) rfl ?_
  refine r_aload_n cx dX4_init_115 rfl rfl ?_
  refine r_bipush (v := nI 20) cx dX4_init_116 (by decide) ?_
  refine r_newarr (atype := .boolean) (N := 20) (a0 := (20, .inl (fun _ => 0))) cx 2 tb_654 rfl rfl trivial (fun _ => rfl) (by decide) (by decide) dX4_init_118 (Nat.le_of_ble_eq_true rfl) (Nat.le_of_ble_eq_true rfl) (fun q14 => ?_)
  refine r_perm (List.perm_append_singleton _ _) ?_
  refine pf_X4_53 cx hnm dX4_init_120 15 rfl (Nat.le_of_ble_eq_true rfl) ?_
  refine r_ws (ws2 := (q14, .inl (q_cZ g, 20, .inl (fun _ => 0))) :: (q13, .inl (q_cI g, 20, .inl (fun _ => 0))) :: (q12, .inl (q_cI g, 20, .inl (fun _ => 0))) :: (q11, .inl (q_cI g, 20, .inl (fun _ => 0))) :: (q10, .inl (q_cI g, 20, .inl (fun _ => 0))) :: (q9, .inl (q_cI g, 20, .inl (fun _ => 0))) :: (q8, .inl (q_cI g, 20, .inl (fun _ => 0))) :: (q7, .inl (q_cI g, 4, .inl (fun _ => 0))) :: (q6, .inl (q_cZ g, 40, .inl (fun _ => 0))) :: (q5, .inl (q_cI g, 40, .inl (fun _ => 0))) :: (q4, .inl (q_cI g, 40, .inl (fun _ => 0))) :: (q3, .inl (q_cI g, 40, .inl (fun _ => 0))) :: (q2, .inl (q_cI g, 40, .inl (fun _ => 0))) :: (q1, .inl (q_cI g, 40, .inl (fun _ => 0))) :: (q0, .inl (q_cI g, 8, .inl (fun _ => 0))) :: (a0, .inr (5, [.int 0, .int 0, .ref q0, .int 0, .ref q1, .ref q2, .ref q3, .ref q4, .ref q5, .ref q6, .ref q7, .int 0, .ref q8, .ref q9, .ref q10, .ref q11, .ref q12, .ref q13, .ref q14, .null, .null, .int 0, .null, .null, .null, .null, .null])) :: wr) rfl ?_
  refine r_aload_n cx dX4_init_123 rfl rfl ?_
  refine r_bipush (v := nI 20) cx dX4_init_124 (by decide) ?_
  refine r_newarr (atype := .long) (N := 20) (a0 := (20, .inr (.inl (fun _ => 0)))) cx 1 tb_67 rfl rfl trivial (fun _ => rfl) (by decide) (by decide) dX4_init_126 (Nat.le_of_ble_eq_true rfl) (Nat.le_of_ble_eq_true rfl) (fun q15 => ?_)
  refine r_perm (List.perm_append_singleton _ _) ?_
  refine pf_X4_56 cx hnm dX4_init_128 16 rfl (Nat.le_of_ble_eq_true rfl) ?_
  refine r_ws (ws2 := (q15, .inl (q_cJ g, 20, .inr (.inl (fun _ => 0)))) :: (q14, .inl (q_cZ g, 20, .inl (fun _ => 0))) :: (q13, .inl (q_cI g, 20, .inl (fun _ => 0))) :: (q12, .inl (q_cI g, 20, .inl (fun _ => 0))) :: (q11, .inl (q_cI g, 20, .inl (fun _ => 0))) :: (q10, .inl (q_cI g, 20, .inl (fun _ => 0))) :: (q9, .inl (q_cI g, 20, .inl (fun _ => 0))) :: (q8, .inl (q_cI g, 20, .inl (fun _ => 0))) :: (q7, .inl (q_cI g, 4, .inl (fun _ => 0))) :: (q6, .inl (q_cZ g, 40, .inl (fun _ => 0))) :: (q5, .inl (q_cI g, 40, .inl (fun _ => 0))) :: (q4, .inl (q_cI g, 40, .inl (fun _ => 0))) :: (q3, .inl (q_cI g, 40, .inl (fun _ => 0))) :: (q2, .inl (q_cI g, 40, .inl (fun _ => 0))) :: (q1, .inl (q_cI g, 40, .inl (fun _ => 0))) :: (q0, .inl (q_cI g, 8, .inl (fun _ => 0))) :: (a0, .inr (5, [.int 0, .int 0, .ref q0, .int 0, .ref q1, .ref q2, .ref q3, .ref q4, .ref q5, .ref q6, .ref q7, .int 0, .ref q8, .ref q9, .ref q10, .ref q11, .ref q12, .ref q13, .ref q14, .ref q15, .null, .int 0, .null, .null, .null, .null, .null])) :: wr) rfl ?_
  refine r_aload_n cx dX4_init_131 rfl rfl ?_
  refine r_iconst (v := nI 3) cx dX4_init_132 (by decide) ?_
  refine r_newarr (atype := .long) (N := 3) (a0 := (3, .inr (.inl (fun _ => 0)))) cx 1 tb_67 rfl rfl trivial (fun _ => rfl) (by decide) (by decide) dX4_init_133 (Nat.le_of_ble_eq_true rfl) (Nat.le_of_ble_eq_true rfl) (fun q16 => ?_)
  refine r_perm (List.perm_append_singleton _ _) ?_
  refine pf_X4_60 cx hnm dX4_init_135 17 rfl (Nat.le_of_ble_eq_true rfl) ?_
  refine r_ws (ws2 := (q16, .inl (q_cJ g, 3, .inr (.inl (fun _ => 0)))) :: (q15, .inl (q_cJ g, 20, .inr (.inl (fun _ => 0)))) :: (q14, .inl (q_cZ g, 20, .inl (fun _ => 0))) :: (q13, .inl (q_cI g, 20, .inl (fun _ => 0))) :: (q12, .inl (q_cI g, 20, .inl (fun _ => 0))) :: (q11, .inl (q_cI g, 20, .inl (fun _ => 0))) :: (q10, .inl (q_cI g, 20, .inl (fun _ => 0))) :: (q9, .inl (q_cI g, 20, .inl (fun _ => 0))) :: (q8, .inl (q_cI g, 20, .inl (fun _ => 0))) :: (q7, .inl (q_cI g, 4, .inl (fun _ => 0))) :: (q6, .inl (q_cZ g, 40, .inl (fun _ => 0))) :: (q5, .inl (q_cI g, 40, .inl (fun _ => 0))) :: (q4, .inl (q_cI g, 40, .inl (fun _ => 0))) :: (q3, .inl (q_cI g, 40, .inl (fun _ => 0))) :: (q2, .inl (q_cI g, 40, .inl (fun _ => 0))) :: (q1, .inl (q_cI g, 40, .inl (fun _ => 0))) :: (q0, .inl (q_cI g, 8, .inl (fun _ => 0))) :: (a0, .inr (5, [.int 0, .int 0, .ref q0, .int 0, .ref q1, .ref q2, .ref q3, .ref q4, .ref q5, .ref q6, .ref q7, .int 0, .ref q8, .ref q9, .ref q10, .ref q11, .ref q12, .ref q13, .ref q14, .ref q15, .ref q16, .int 0, .null, .null, .null, .null, .null])) :: wr) rfl ?_
  refine r_aload_n cx dX4_init_138 rfl rfl ?_
  refine r_bipush (v := nI 20) cx dX4_init_139 (by decide) ?_
  refine r_newarr (atype := .int) (N := 20) (a0 := (20, .inl (fun _ => 0))) cx 0 tb_66 rfl rfl trivial (fun _ => rfl) (by decide) (by decide) dX4_init_141 (Nat.le_of_ble_eq_true rfl) (Nat.le_of_ble_eq_true rfl) (fun q17 => ?_)
  refine r_perm (List.perm_append_singleton _ _) ?_
  refine pf_X4_63 cx hnm dX4_init_143 18 rfl (Nat.le_of_ble_eq_true rfl) ?_
  refine r_ws (ws2 := (q17, .inl (q_cI g, 20, .inl (fun _ => 0))) :: (q16, .inl (q_cJ g, 3, .inr (.inl (fun _ => 0)))) :: (q15, .inl (q_cJ g, 20, .inr (.inl (fun _ => 0)))) :: (q14, .inl (q_cZ g, 20, .inl (fun _ => 0))) :: (q13, .inl (q_cI g, 20, .inl (fun _ => 0))) :: (q12, .inl (q_cI g, 20, .inl (fun _ => 0))) :: (q11, .inl (q_cI g, 20, .inl (fun _ => 0))) :: (q10, .inl (q_cI g, 20, .inl (fun _ => 0))) :: (q9, .inl (q_cI g, 20, .inl (fun _ => 0))) :: (q8, .inl (q_cI g, 20, .inl (fun _ => 0))) :: (q7, .inl (q_cI g, 4, .inl (fun _ => 0))) :: (q6, .inl (q_cZ g, 40, .inl (fun _ => 0))) :: (q5, .inl (q_cI g, 40, .inl (fun _ => 0))) :: (q4, .inl (q_cI g, 40, .inl (fun _ => 0))) :: (q3, .inl (q_cI g, 40, .inl (fun _ => 0))) :: (q2, .inl (q_cI g, 40, .inl (fun _ => 0))) :: (q1, .inl (q_cI g, 40, .inl (fun _ => 0))) :: (q0, .inl (q_cI g, 8, .inl (fun _ => 0))) :: (a0, .inr (5, [.int 0, .int 0, .ref q0, .int 0, .ref q1, .ref q2, .ref q3, .ref q4, .ref q5, .ref q6, .ref q7, .int 0, .ref q8, .ref q9, .ref q10, .ref q11, .ref q12, .ref q13, .ref q14, .ref q15, .ref q16, .int 0, .ref q17, .null, .null, .null, .null])) :: wr) rfl ?_
  refine r_aload_n cx dX4_init_146 rfl rfl ?_
  refine r_bipush (v := nI 8) cx dX4_init_147 (by decide) ?_
  refine r_newarr (atype := .int) (N := 8) (a0 := (8, .inl (fun _ => 0))) cx 0 tb_66 rfl rfl trivial (fun _ => rfl) (by decide) (by decide) dX4_init_149 (Nat.le_of_ble_eq_true rfl) (Nat.le_of_ble_eq_true rfl) (fun q18 => ?_)
  refine r_perm (List.perm_append_singleton _ _) ?_
  refine pf_X4_66 cx hnm dX4_init_151 19 rfl (Nat.le_of_ble_eq_true rfl) ?_
  refine r_ws (ws2 := (q18, .inl (q_cI g, 8, .inl (fun _ => 0))) :: (q17, .inl (q_cI g, 20, .inl (fun _ => 0))) :: (q16, .inl (q_cJ g, 3, .inr (.inl (fun _ => 0)))) :: (q15, .inl (q_cJ g, 20, .inr (.inl (fun _ => 0)))) :: (q14, .inl (q_cZ g, 20, .inl (fun _ => 0))) :: (q13, .inl (q_cI g, 20, .inl (fun _ => 0))) :: (q12, .inl (q_cI g, 20, .inl (fun _ => 0))) :: (q11, .inl (q_cI g, 20, .inl (fun _ => 0))) :: (q10, .inl (q_cI g, 20, .inl (fun _ => 0))) :: (q9, .inl (q_cI g, 20, .inl (fun _ => 0))) :: (q8, .inl (q_cI g, 20, .inl (fun _ => 0))) :: (q7, .inl (q_cI g, 4, .inl (fun _ => 0))) :: (q6, .inl (q_cZ g, 40, .inl (fun _ => 0))) :: (q5, .inl (q_cI g, 40, .inl (fun _ => 0))) :: (q4, .inl (q_cI g, 40, .inl (fun _ => 0))) :: (q3, .inl (q_cI g, 40, .inl (fun _ => 0))) :: (q2, .inl (q_cI g, 40, .inl (fun _ => 0))) :: (q1, .inl (q_cI g, 40, .inl (fun _ => 0))) :: (q0, .inl (q_cI g, 8, .inl (fun _ => 0))) :: (a0, .inr (5, [.int 0, .int 0, .ref q0, .int 0, .ref q1, .ref q2, .ref q3, .ref q4, .ref q5, .ref q6, .ref q7, .int 0, .ref q8, .ref q9, .ref q10, .ref q11, .ref q12, .ref q13, .ref q14, .ref q15, .ref q16, .int 0, .ref q17, .ref q18, .null, .null, .null])) :: wr) rfl ?_
  refine r_aload_n cx dX4_init_154 rfl rfl ?_
  refine r_bipush (v := nI 8) cx dX4_init_155 (by decide) ?_
  refine r_newarr (atype := .int) (N := 8) (a0 := (8, .inl (fun _ => 0))) cx 0 tb_66 rfl rfl trivial (fun _ => rfl) (by decide) (by decide) dX4_init_157 (Nat.le_of_ble_eq_true rfl) (Nat.le_of_ble_eq_true rfl) (fun q19 => ?_)
  refine r_perm (List.perm_append_singleton _ _) ?_
  refine pf_X4_69 cx hnm dX4_init_159 20 rfl (Nat.le_of_ble_eq_true rfl) ?_
  refine r_ws (ws2 := (q19, .inl (q_cI g, 8, .inl (fun _ => 0))) :: (q18, .inl (q_cI g, 8, .inl (fun _ => 0))) :: (q17, .inl (q_cI g, 20, .inl (fun _ => 0))) :: (q16, .inl (q_cJ g, 3, .inr (.inl (fun _ => 0)))) :: (q15, .inl (q_cJ g, 20, .inr (.inl (fun _ => 0)))) :: (q14, .inl (q_cZ g, 20, .inl (fun _ => 0))) :: (q13, .inl (q_cI g, 20, .inl (fun _ => 0))) :: (q12, .inl (q_cI g, 20, .inl (fun _ => 0))) :: (q11, .inl (q_cI g, 20, .inl (fun _ => 0))) :: (q10, .inl (q_cI g, 20, .inl (fun _ => 0))) :: (q9, .inl (q_cI g, 20, .inl (fun _ => 0))) :: (q8, .inl (q_cI g, 20, .inl (fun _ => 0))) :: (q7, .inl (q_cI g, 4, .inl (fun _ => 0))) :: (q6, .inl (q_cZ g, 40, .inl (fun _ => 0))) :: (q5, .inl (q_cI g, 40, .inl (fun _ => 0))) :: (q4, .inl (q_cI g, 40, .inl (fun _ => 0))) :: (q3, .inl (q_cI g, 40, .inl (fun _ => 0))) :: (q2, .inl (q_cI g, 40, .inl (fun _ => 0))) :: (q1, .inl (q_cI g, 40, .inl (fun _ => 0))) :: (q0, .inl (q_cI g, 8, .inl (fun _ => 0))) :: (a0, .inr (5, [.int 0, .int 0, .ref q0, .int 0, .ref q1, .ref q2, .ref q3, .ref q4, .ref q5, .ref q6, .ref q7, .int 0, .ref q8, .ref q9, .ref q10, .ref q11, .ref q12, .ref q13, .ref q14, .ref q15, .ref q16, .int 0, .ref q17, .ref q18, .ref q19, .null, .null])) :: wr) rfl ?_
  refine r_aload_n cx dX4_init_162 rfl rfl ?_
  refine r_bipush (v := nI 8) cx dX4_init_163 (by decide) ?_
  refine r_newarr (atype := .int) (N := 8) (a0 := (8, .inl (fun _ => 0))) cx 0 tb_66 rfl rfl trivial (fun _ => rfl) (by decide) (by decide) dX4_init_165 (Nat.le_of_ble_eq_true rfl) (Nat.le_of_ble_eq_true rfl) (fun q20 => ?_)
  refine r_perm (List.perm_append_singleton _ _) ?_
  refine pf_X4_72 cx hnm dX4_init_167 21 rfl (Nat.le_of_ble_eq_true rfl) ?_
  refine r_ws (ws2 := (q20, .inl (q_cI g, 8, .inl (fun _ => 0))) :: (q19, .inl (q_cI g, 8, .inl (fun _ => 0))) :: (q18, .inl (q_cI g, 8, .inl (fun _ => 0))) :: (q17, .inl (q_cI g, 20, .inl (fun _ => 0))) :: (q16, .inl (q_cJ g, 3, .inr (.inl (fun _ => 0)))) :: (q15, .inl (q_cJ g, 20, .inr (.inl (fun _ => 0)))) :: (q14, .inl (q_cZ g, 20, .inl (fun _ => 0))) :: (q13, .inl (q_cI g, 20, .inl (fun _ => 0))) :: (q12, .inl (q_cI g, 20, .inl (fun _ => 0))) :: (q11, .inl (q_cI g, 20, .inl (fun _ => 0))) :: (q10, .inl (q_cI g, 20, .inl (fun _ => 0))) :: (q9, .inl (q_cI g, 20, .inl (fun _ => 0))) :: (q8, .inl (q_cI g, 20, .inl (fun _ => 0))) :: (q7, .inl (q_cI g, 4, .inl (fun _ => 0))) :: (q6, .inl (q_cZ g, 40, .inl (fun _ => 0))) :: (q5, .inl (q_cI g, 40, .inl (fun _ => 0))) :: (q4, .inl (q_cI g, 40, .inl (fun _ => 0))) :: (q3, .inl (q_cI g, 40, .inl (fun _ => 0))) :: (q2, .inl (q_cI g, 40, .inl (fun _ => 0))) :: (q1, .inl (q_cI g, 40, .inl (fun _ => 0))) :: (q0, .inl (q_cI g, 8, .inl (fun _ => 0))) :: (a0, .inr (5, [.int 0, .int 0, .ref q0, .int 0, .ref q1, .ref q2, .ref q3, .ref q4, .ref q5, .ref q6, .ref q7, .int 0, .ref q8, .ref q9, .ref q10, .ref q11, .ref q12, .ref q13, .ref q14, .ref q15, .ref q16, .int 0, .ref q17, .ref q18, .ref q19, .ref q20, .null])) :: wr) rfl ?_
  refine r_aload_n cx dX4_init_170 rfl rfl ?_
  refine r_bipush (v := nI 9) cx dX4_init_171 (by decide) ?_
  refine r_newarr (atype := .int) (N := 9) (a0 := (9, .inl (fun _ => 0))) cx 0 tb_66 rfl rfl trivial (fun _ => rfl) (by decide) (by decide) dX4_init_173 (Nat.le_of_ble_eq_true rfl) (Nat.le_of_ble_eq_true rfl) (fun q21 => ?_)
  refine r_perm (List.perm_append_singleton _ _) ?_
  refine pf_X4_75 cx hnm dX4_init_175 22 rfl (Nat.le_of_ble_eq_true rfl) ?_
  refine r_ws (ws2 := (q21, .inl (q_cI g, 9, .inl (fun _ => 0))) :: (q20, .inl (q_cI g, 8, .inl (fun _ => 0))) :: (q19, .inl (q_cI g, 8, .inl (fun _ => 0))) :: (q18, .inl (q_cI g, 8, .inl (fun _ => 0))) :: (q17, .inl (q_cI g, 20, .inl (fun _ => 0))) :: (q16, .inl (q_cJ g, 3, .inr (.inl (fun _ => 0)))) :: (q15, .inl (q_cJ g, 20, .inr (.inl (fun _ => 0)))) :: (q14, .inl (q_cZ g, 20, .inl (fun _ => 0))) :: (q13, .inl (q_cI g, 20, .inl (fun _ => 0))) :: (q12, .inl (q_cI g, 20, .inl (fun _ => 0))) :: (q11, .inl (q_cI g, 20, .inl (fun _ => 0))) :: (q10, .inl (q_cI g, 20, .inl (fun _ => 0))) :: (q9, .inl (q_cI g, 20, .inl (fun _ => 0))) :: (q8, .inl (q_cI g, 20, .inl (fun _ => 0))) :: (q7, .inl (q_cI g, 4, .inl (fun _ => 0))) :: (q6, .inl (q_cZ g, 40, .inl (fun _ => 0))) :: (q5, .inl (q_cI g, 40, .inl (fun _ => 0))) :: (q4, .inl (q_cI g, 40, .inl (fun _ => 0))) :: (q3, .inl (q_cI g, 40, .inl (fun _ => 0))) :: (q2, .inl (q_cI g, 40, .inl (fun _ => 0))) :: (q1, .inl (q_cI g, 40, .inl (fun _ => 0))) :: (q0, .inl (q_cI g, 8, .inl (fun _ => 0))) :: (a0, .inr (5, [.int 0, .int 0, .ref q0, .int 0, .ref q1, .ref q2, .ref q3, .ref q4, .ref q5, .ref q6, .ref q7, .int 0, .ref q8, .ref q9, .ref q10, .ref q11, .ref q12, .ref q13, .ref q14, .ref q15, .ref q16, .int 0, .ref q17, .ref q18, .ref q19, .ref q20, .ref q21])) :: wr) rfl ?_
  refine r_iconst (v := nI 0) cx dX4_init_178 (by decide) ?_
  refine r_istore_n cx dX4_init_179 rfl (by decide) rfl ?_
  refine at_loop (fun (x : Nat × (Nat → Int32)) => x.1 ≤ 4 ∧ ∀ j, j < x.1 → x.2 j = -1) (fun x => [(0, .ref a0), (1, .int (nI x.1))]) (fun x => mF g (fun k => if k = 0 then q0 else if k = 1 then q1 else if k = 2 then q2 else if k = 3 then q3 else if k = 4 then q4 else if k = 5 then q5 else if k = 6 then q6 else if k = 7 then q7 else if k = 8 then q8 else if k = 9 then q9 else if k = 10 then q10 else if k = 11 then q11 else if k = 12 then q12 else if k = 13 then q13 else if k = 14 then q14 else if k = 15 then q15 else if k = 16 then q16 else if k = 17 then q17 else if k = 18 then q18 else if k = 19 then q19 else if k = 20 then q20 else if k = 21 then q21 else a0) 0 (fun _ => 0) (fun k => if k = 6 then x.2 else fun _ => 0) (fun _ _ => false) (fun _ _ => 0) (fun _ _ => 0) ++ wr) (fun x => 4 - x.1) (0, fun _ => 0) ⟨Nat.zero_le _, fun j hj => absurd hj (Nat.not_lt_zero j)⟩ (q_pk [1, 0] rfl) rfl (fun x hx ih => ?_)
  obtain ⟨i, f1⟩ := x
  dsimp only at hx ⊢
  obtain ⟨hx1, hx2⟩ := hx
  refine r_iload_n cx dX4_init_180 rfl rfl ?_
  refine r_iconst (v := nI 4) cx dX4_init_181 (by decide) ?_
  refine r_icmpgeN (tgt := 198) cx (by omega) (by omega) dX4_init_182 (by decide) (fun h_182 => ?_) (fun h_182 => ?_)
  · skip
    obtain rfl : i = 4 := by omega
    exact r_vret cx dX4_init_198 hr (⟨(fun k => if k = 0 then q0 else if k = 1 then q1 else if k = 2 then q2 else if k = 3 then q3 else if k = 4 then q4 else if k = 5 then q5 else if k = 6 then q6 else if k = 7 then q7 else if k = 8 then q8 else if k = 9 then q9 else if k = 10 then q10 else if k = 11 then q11 else if k = 12 then q12 else if k = 13 then q13 else if k = 14 then q14 else if k = 15 then q15 else if k = 16 then q16 else if k = 17 then q17 else if k = 18 then q18 else if k = 19 then q19 else if k = 20 then q20 else if k = 21 then q21 else a0), f1, rfl, hx2, rfl⟩) (Nat.le_of_ble_eq_true rfl) (Nat.le_of_ble_eq_true rfl)
  · skip
    refine r_aload_n cx dX4_init_185 rfl rfl ?_
    refine gf_X4_32 cx dX4_init_186 22 rfl rfl ?_
    refine r_iload_n cx dX4_init_189 rfl rfl ?_
    refine r_iconst (v := -1) cx dX4_init_190 (by decide) ?_
    first | refine r_iastN cx 14 0 dX4_init_191 rfl rfl (by omega) (by omega) ?_ | refine r_iast cx 14 0 dX4_init_191 rfl rfl (by omega) ?_
    refine r_iincN (j := 1) cx dX4_init_192 rfl rfl (by decide) rfl ?_
    refine r_goto (tgt := 180) cx dX4_init_195 (by decide) ?_
    exact r_lv (q_pk [1, 0] rfl) (ih (i + 1, upd f1 i (-1)) ⟨by omega, fun j hj => by
    show upd f1 i (-1) j = -1
    by_cases h9 : j = i
    · rw [h9, pk_us]
    · rw [pk_un h9]
      exact hx2 j (by omega)⟩ (by show 4 - (i + 1) < 4 - i; omega))
