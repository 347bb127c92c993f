/-- the class's cells, but for the objects in its lists and the lists' arrays -/
def iF (g : q_G) (ad : Nat → Nat) (mc : Nat → Int32) (el sz : Nat → Nat) (th : Int64) (dr dl : Int32) (ro kl : Nat → Int32) (kn : Nat → Int64) (row : Nat → Int32) : va_W :=
  [(ad 0, .inl (q_cI g, 9, .inl row)), (ad 1, .inr (3, [.ref (ad 0)])), (ad 2, .inl (q_cJ g, 3, .inr (.inl kn))), (ad 3, .inl (q_cI g, 4, .inl kl)), (ad 4, .inl (q_cI g, 4, .inl ro)), (ad 5, .inr (0, [.int (mc 2), .ref (el 2), .int (nI (sz 2))])), (ad 6, .inr (0, [.int (mc 1), .ref (el 1), .int (nI (sz 1))])), (ad 7, .inr (0, [.int (mc 0), .ref (el 0), .int (nI (sz 0))])), (ad 8, .inr (4, [.ref (ad 7), .ref (ad 6), .ref (ad 5), .ref (ad 4), .ref (ad 3), .ref (ad 2), .ref (ad 1), .long th, .int dr, .int dl]))]
section PFX
variable {p : Program} {l : Launch} {e : Env} {R : Room} {s : State} {m : MethodId} {args : Array Value} {below : List Frame} {meth : Method} {c : Code} {g : q_G} {nL : Nat} {Q : State → Prop} {cl sl : Nat} {cc : ByteArray} {own : String} {pc : Nat} {lv : List (Nat × Value)} {st : List Value} {ws : va_W}
theorem pf_Jxc12de_7 (cx : q_cx g p m c cc nL s args RJxc12de meth) (hd : decode cc pc = .ok (.putfield 7, 3)) (q0 : Nat) {a : Nat} {fs : List Value} {x : Int32} (he : ws[q0]? = some (a, .inr (0, fs))) (hl9 : 0 < fs.length) (kk : AT p l e R s m args below meth c g nL Q cl sl (pc + 3) lv st (ws.set q0 (a, .inr (0, fs.set 0 (.int x))))) : AT p l e R s m args below meth c g nL Q cl sl pc lv (.int x :: .ref a :: st) ws := fun H locs ls hP hD hS hl => va_put (C := RJx4a65c) (T := TJx4a65c) (N := 3) cx.1.1 cx.1.2.1 cx.1.2.2.2.2 iw_Jx4a65c tyJx4a65c tyJx4a65c_ok nmJx4a65c cx.1.2.2.2.1 cx.2.1.2.1 hP hD hS q0 he rfl 0 (by decide) (cx.ok tb_45) (fun _ h9 => h9) rfl (tyJx4a65c_ok 0 (by decide)) rfl rfl hl9 hd (fun H1 locs1 hP hD hS => kk H1 locs1 ls hP hD hS hl)
theorem q_set_self {q : Nat} {x : Nat × va_E} (h : ws[q]? = some x) : ws.set q x = ws := by
  apply List.ext_getElem?
  intro i
  rw [List.getElem?_set]
  split
  · rename_i e
    subst e
    obtain ⟨h1, h2⟩ := List.getElem?_eq_some_iff.mp h
    rw [if_pos h1, h]
  · rfl
theorem q_set_get {q : Nat} {x y : Nat × va_E} (h : ws[q]? = some x) : (ws.set q y)[q]? = some y := by
  rw [List.getElem?_set_self (List.getElem?_eq_some_iff.mp h).1]
end PFX
set_option maxHeartbeats 4000000 in
set_option maxRecDepth 100000 in
theorem c_AbsColl (l : Launch) (g : q_G) (ws : va_W) (li : Nat) : MetW l g yJxa1e45_init_da8c8 cJxa1e45_init_da8c8 1 none ({ frames := 1, cells := 0, slots := 0, locals := 20 } : Room) [.ref li] (ws) (q_Qv g (fun w => w = ws)) := by
  refine q_met (own := RJxa1e45) (by decide +kernel) rfl (Nat.le_of_ble_eq_true rfl) (fun p e s m args below meth c cx hr hnm => ?_)
  refine r_lv (lv2 := [(0, .ref li)]) (q_pk [0] rfl) ?_
  refine r_aload_n cx dJxa1e45_init_da8c8_0 rfl rfl ?_
  refine r_objInit cx tb_40 tb_27 tb_28 dJxa1e45_init_da8c8_1 (Nat.le_of_ble_eq_true rfl) (Nat.le_of_ble_eq_true rfl) ?_
  exact r_vret cx dJxa1e45_init_da8c8_4 hr (rfl) (Nat.le_of_ble_eq_true rfl) (Nat.le_of_ble_eq_true rfl)
set_option maxHeartbeats 4000000 in
set_option maxRecDepth 100000 in
theorem c_AbsList (l : Launch) (g : q_G) (wr : va_W) (li : Nat) (mc : Int32) (x y : Value) : MetW l g yJxc12de_init_da8c8 cJxc12de_init_da8c8 1 none ({ frames := 2, cells := 0, slots := 0, locals := 40 } : Room) [.ref li] ((li, .inr (0, [.int mc, x, y])) :: wr) (q_Qv g (fun w => w = (li, .inr (0, [.int 0, x, y])) :: wr)) := by
  refine q_met (own := RJxc12de) (by decide +kernel) rfl (Nat.le_of_ble_eq_true rfl) (fun p e s m args below meth c cx hr hnm => ?_)
  refine r_lv (lv2 := [(0, .ref li)]) (q_pk [0] rfl) ?_
  refine r_aload_n cx dJxc12de_init_da8c8_0 rfl rfl ?_
  refine k_Jxc12de_1 cx (c_AbsColl l g _ li) dJxc12de_init_da8c8_1 ⟨Nat.le_of_ble_eq_true rfl, Nat.le_of_ble_eq_true rfl⟩ ⟨Nat.le_of_ble_eq_true rfl, Nat.le_of_ble_eq_true rfl⟩ rfl rfl (Nat.le_of_ble_eq_true rfl) (fun w hp => ?_)
  subst hp
  refine r_aload_n cx dJxc12de_init_da8c8_4 rfl rfl ?_
  refine r_iconst (v := 0) cx dJxc12de_init_da8c8_5 (by decide) ?_
  refine pf_Jxc12de_7 cx dJxc12de_init_da8c8_6 0 rfl (Nat.le_of_ble_eq_true rfl) ?_
  exact r_vret cx dJxc12de_init_da8c8_9 hr (rfl) (Nat.le_of_ble_eq_true rfl) (Nat.le_of_ble_eq_true rfl)
set_option maxHeartbeats 4000000 in
set_option maxRecDepth 100000 in
theorem c_ArrayList (l : Launch) (g : q_G) (wr : va_W) (li : Nat) : MetW l g yJx4a65c_init_da8c8 cJx4a65c_init_da8c8 1 none ({ frames := 3, cells := 0, slots := 0, locals := 60 } : Room) [.ref li] ((li, .inr (0, [.int 0, .null, .int 0])) :: wr) (q_Qv g (fun w => w = (li, .inr (0, [.int 0, .ref g.2.2.2.1, .int 0])) :: wr)) := by
  refine q_met (own := RJx4a65c) (by decide +kernel) rfl (Nat.le_of_ble_eq_true rfl) (fun p e s m args below meth c cx hr hnm => ?_)
  refine r_lv (lv2 := [(0, .ref li)]) (q_pk [0] rfl) ?_
  refine r_aload_n cx dJx4a65c_init_da8c8_0 rfl rfl ?_
  refine k_Jx4a65c_1 cx (c_AbsList l g wr li 0 .null (.int 0)) dJx4a65c_init_da8c8_1 ⟨Nat.le_of_ble_eq_true rfl, Nat.le_of_ble_eq_true rfl⟩ ⟨Nat.le_of_ble_eq_true rfl, Nat.le_of_ble_eq_true rfl⟩ rfl rfl (Nat.le_of_ble_eq_true rfl) (fun w hp => ?_)
  subst hp
  refine r_aload_n cx dJx4a65c_init_da8c8_4 rfl rfl ?_
  refine r_gets cx dJx4a65c_init_da8c8_5 ?_
  refine pf_Jx4a65c_9 cx dJx4a65c_init_da8c8_8 0 rfl (Nat.le_of_ble_eq_true rfl) ?_
  exact r_vret cx dJx4a65c_init_da8c8_11 hr (rfl) (Nat.le_of_ble_eq_true rfl) (Nat.le_of_ble_eq_true rfl)
set_option maxHeartbeats 4000000 in
set_option maxRecDepth 100000 in
theorem c_fill (l : Launch) (g : q_G) (ws : va_W) (qe a n : Nat) (f : Nat → Int32) (v : Int32) (hn : n < 1000) (he : ws[qe]? = some (a, .inl (q_cI g, n, .inl f))) : MetW l g yJ7_fill_53178 cJ7_fill_53178 4 none ({ frames := 0, cells := 0, slots := 0, locals := 0 } : Room) [.ref a, .int v] (ws) (q_Qv g (fun w => ∃ f2 : Nat → Int32, (∀ j, j < n → f2 j = v) ∧ w = ws.set qe (a, .inl (q_cI g, n, .inl f2)))) := by
  refine q_met (own := RJ7) (by decide +kernel) rfl (Nat.le_of_ble_eq_true rfl) (fun p e s m args below meth c cx hr hnm => ?_)
  refine r_lv (lv2 := [(0, .ref a), (1, .int v)]) (q_pk [0, 1] rfl) ?_
  refine r_iconst (v := nI 0) cx dJ7_fill_53178_0 (by decide) ?_
  refine r_istore_n cx dJ7_fill_53178_1 rfl (by decide) rfl ?_
  refine r_aload_n cx dJ7_fill_53178_2 rfl rfl ?_
  refine r_alen (v := nI n) cx qe 0 dJ7_fill_53178_3 he rfl rfl ?_
  refine r_istore_n cx dJ7_fill_53178_4 rfl (by decide) rfl ?_
  refine at_loop (fun (x : Nat × (Nat → Int32)) => x.1 ≤ n ∧ ∀ j, j < x.1 → x.2 j = v) (fun x => [(0, .ref a), (1, .int v), (2, .int (nI x.1)), (3, .int (nI n))]) (fun x => ws.set qe (a, .inl (q_cI g, n, .inl x.2))) (fun x => n - x.1) (0, f) ⟨Nat.zero_le _, fun j hj => absurd hj (Nat.not_lt_zero j)⟩ (q_pk [2, 3, 1, 0] rfl) (q_set_self he).symm (fun x hx ih => ?_)
  obtain ⟨i, f1⟩ := x
  try dsimp only at hx ⊢
  obtain ⟨hx1, hx2⟩ := hx
  refine r_iload_n cx dJ7_fill_53178_5 rfl rfl ?_
  refine r_iload_n cx dJ7_fill_53178_6 rfl rfl ?_
  refine r_icmpgeN (tgt := 20) cx (by omega) (by omega) dJ7_fill_53178_7 (by decide) (fun h_7 => ?_) (fun h_7 => ?_)
  · skip
    obtain rfl : i = n := by omega
    exact r_vret cx dJ7_fill_53178_20 hr (⟨f1, hx2, rfl⟩) (Nat.le_of_ble_eq_true rfl) (Nat.le_of_ble_eq_true rfl)
  · skip
    refine r_aload_n cx dJ7_fill_53178_10 rfl rfl ?_
    refine r_iload_n cx dJ7_fill_53178_11 rfl rfl ?_
    refine r_iload_n cx dJ7_fill_53178_12 rfl rfl ?_
    refine r_iastN cx qe 0 dJ7_fill_53178_13 (q_set_get he) rfl (by omega) (by omega) ?_
    rw [List.set_set]
    refine r_iincN (j := 1) cx dJ7_fill_53178_14 rfl rfl (by decide) rfl ?_
    refine r_goto (tgt := 5) cx dJ7_fill_53178_17 (by decide) ?_
    exact r_lv (q_pk [1, 2, 0, 3] rfl) (ih (i + 1, upd f1 i v) ⟨by omega, fun j hj => by
    show upd f1 i v j = v
    by_cases h9 : j = i
    · rw [h9, pk_us]
    · rw [pk_un h9]
      exact hx2 j (by omega)⟩ (by show n - (i + 1) < n - i; omega))
set_option maxHeartbeats 4000000 in
set_option maxRecDepth 100000 in
theorem c_atlas (l : Launch) (g : q_G) (wr : va_W) (a0 : Nat) : MetW l g yX3_init cX3_init 1 none ({ frames := 4, cells := 13, slots := 60, locals := 80 } : Room) [.ref a0] ((a0, .inr (4, [.null, .null, .null, .null, .null, .null, .null, .long 0, .int 0, .int 0])) :: wr) (q_Qv g (fun w => ∃ (ad : Nat → Nat) (ro : Nat → Int32), ad 8 = a0 ∧ (∀ j, j < 4 → ro j = -1) ∧ w = iF g ad (fun _ => 0) (fun _ => g.2.2.2.1) (fun _ => 0) 0 0 0 ro (fun _ => 0) (fun _ => 0) (fun _ => 0) ++ wr)) := by
  refine q_met (own := RX3) (by decide +kernel) rfl (Nat.le_of_ble_eq_true rfl) (fun p e s m args below meth c cx hr hnm => ?_)
  refine r_lv (lv2 := [(0, .ref a0)]) (q_pk [0] rfl) ?_
  refine r_aload_n cx dX3_init_0 rfl rfl ?_
  refine r_objInit cx tb_26 tb_27 tb_28 dX3_init_1 (Nat.le_of_ble_eq_true rfl) (Nat.le_of_ble_eq_true rfl) ?_
  refine r_aload_n cx dX3_init_4 rfl rfl ?_
  refine nw_X3_7 cx dX3_init_5 (Nat.le_of_ble_eq_true rfl) (Nat.le_of_ble_eq_true rfl) (fun q1 => ?_)
  refine r_perm (List.perm_append_singleton _ _) ?_
  refine r_dup cx dX3_init_8 rfl ?_
  refine k_X3_9 cx (c_ArrayList l g _ q1) dX3_init_9 ⟨Nat.le_of_ble_eq_true rfl, Nat.le_of_ble_eq_true rfl⟩ ⟨Nat.le_of_ble_eq_true rfl, Nat.le_of_ble_eq_true rfl⟩ rfl rfl (Nat.le_of_ble_eq_true rfl) (fun w hp => ?_)
  subst hp
  refine pf_X3_10 cx hnm dX3_init_12 1 rfl (Nat.le_of_ble_eq_true rfl) ?_
  refine r_aload_n cx dX3_init_15 rfl rfl ?_
  refine nw_X3_7 cx dX3_init_16 (Nat.le_of_ble_eq_true rfl) (Nat.le_of_ble_eq_true rfl) (fun q2 => ?_)
  refine r_perm (List.perm_append_singleton _ _) ?_
  refine r_dup cx dX3_init_19 rfl ?_
  refine k_X3_9 cx (c_ArrayList l g _ q2) dX3_init_20 ⟨Nat.le_of_ble_eq_true rfl, Nat.le_of_ble_eq_true rfl⟩ ⟨Nat.le_of_ble_eq_true rfl, Nat.le_of_ble_eq_true rfl⟩ rfl rfl (Nat.le_of_ble_eq_true rfl) (fun w hp => ?_)
  subst hp
  refine pf_X3_16 cx hnm dX3_init_23 2 rfl (Nat.le_of_ble_eq_true rfl) ?_
  refine r_aload_n cx dX3_init_26 rfl rfl ?_
  refine nw_X3_7 cx dX3_init_27 (Nat.le_of_ble_eq_true rfl) (Nat.le_of_ble_eq_true rfl) (fun q3 => ?_)
  refine r_perm (List.perm_append_singleton _ _) ?_
  refine r_dup cx dX3_init_30 rfl ?_
  refine k_X3_9 cx (c_ArrayList l g _ q3) dX3_init_31 ⟨Nat.le_of_ble_eq_true rfl, Nat.le_of_ble_eq_true rfl⟩ ⟨Nat.le_of_ble_eq_true rfl, Nat.le_of_ble_eq_true rfl⟩ rfl rfl (Nat.le_of_ble_eq_true rfl) (fun w hp => ?_)
  subst hp
  refine pf_X3_19 cx hnm dX3_init_34 3 rfl (Nat.le_of_ble_eq_true rfl) ?_
  refine r_aload_n cx dX3_init_37 rfl rfl ?_
  refine r_iconst (v := nI 4) cx dX3_init_38 (by decide) ?_
  refine r_newarr (atype := .int) (N := 4) (a0 := (4, .inl (fun _ => 0))) cx 0 tb_65 rfl rfl trivial (fun _ => rfl) (by decide) (by decide) dX3_init_39 (Nat.le_of_ble_eq_true rfl) (Nat.le_of_ble_eq_true rfl) (fun q4 => ?_)
  refine r_perm (List.perm_append_singleton _ _) ?_
  refine pf_X3_22 cx hnm dX3_init_41 4 rfl (Nat.le_of_ble_eq_true rfl) ?_
  refine r_aload_n cx dX3_init_44 rfl rfl ?_
  refine r_iconst (v := nI 4) cx dX3_init_45 (by decide) ?_
  refine r_newarr (atype := .int) (N := 4) (a0 := (4, .inl (fun _ => 0))) cx 0 tb_65 rfl rfl trivial (fun _ => rfl) (by decide) (by decide) dX3_init_46 (Nat.le_of_ble_eq_true rfl) (Nat.le_of_ble_eq_true rfl) (fun q5 => ?_)
  refine r_perm (List.perm_append_singleton _ _) ?_
  refine pf_X3_26 cx hnm dX3_init_48 5 rfl (Nat.le_of_ble_eq_true rfl) ?_
  refine r_aload_n cx dX3_init_51 rfl rfl ?_
  refine r_iconst (v := nI 3) cx dX3_init_52 (by decide) ?_
  refine r_newarr (atype := .long) (N := 3) (a0 := (3, .inr (.inl (fun _ => 0)))) cx 1 tb_66 rfl rfl trivial (fun _ => rfl) (by decide) (by decide) dX3_init_53 (Nat.le_of_ble_eq_true rfl) (Nat.le_of_ble_eq_true rfl) (fun q6 => ?_)
  refine r_perm (List.perm_append_singleton _ _) ?_
  refine pf_X3_29 cx hnm dX3_init_55 6 rfl (Nat.le_of_ble_eq_true rfl) ?_
  refine r_aload_n cx dX3_init_58 rfl rfl ?_
  refine nw_X3_33 cx dX3_init_59 (Nat.le_of_ble_eq_true rfl) (Nat.le_of_ble_eq_true rfl) (fun q7 => ?_)
  refine r_perm (List.perm_append_singleton _ _) ?_
  refine r_dup cx dX3_init_62 rfl ?_
  refine k_X3_35 cx (c_StepCounter l g _ q7) dX3_init_63 ⟨Nat.le_of_ble_eq_true rfl, Nat.le_of_ble_eq_true rfl⟩ ⟨Nat.le_of_ble_eq_true rfl, Nat.le_of_ble_eq_true rfl⟩ rfl rfl (Nat.le_of_ble_eq_true rfl) (fun w hp => ?_)
  obtain ⟨q8, hp⟩ := hp
  subst hp
  refine r_perm (List.perm_append_singleton _ _) ?_
  refine pf_X3_36 cx hnm dX3_init_66 8 rfl (Nat.le_of_ble_eq_true rfl) ?_
  refine r_aload_n cx dX3_init_69 rfl rfl ?_
  refine r_lconst (v := 0) cx dX3_init_70 rfl ?_
  refine pf_X3_40 cx dX3_init_71 8 rfl (Nat.le_of_ble_eq_true rfl) ?_
  refine r_aload_n cx dX3_init_74 rfl rfl ?_
  refine r_iconst (v := 0) cx dX3_init_75 (by decide) ?_
  refine pf_X3_44 cx dX3_init_76 8 rfl (Nat.le_of_ble_eq_true rfl) ?_
  refine r_aload_n cx dX3_init_79 rfl rfl ?_
  refine r_iconst (v := 0) cx dX3_init_80 (by decide) ?_
  refine pf_X3_48 cx dX3_init_81 8 rfl (Nat.le_of_ble_eq_true rfl) ?_
  refine r_aload_n cx dX3_init_84 rfl rfl ?_
  refine gf_X3_22 cx dX3_init_85 8 rfl rfl ?_
  refine r_iconst (v := -1) cx dX3_init_88 (by decide) ?_
  refine k_X3_51 cx (c_fill l g _ 4 q4 4 (fun _ => 0) (-1) (by decide) rfl) dX3_init_89 ⟨Nat.le_of_ble_eq_true rfl, Nat.le_of_ble_eq_true rfl⟩ ⟨Nat.le_of_ble_eq_true rfl, Nat.le_of_ble_eq_true rfl⟩ rfl rfl (Nat.le_of_ble_eq_true rfl) (fun w hp => ?_)
  obtain ⟨ro, hro, hp⟩ := hp
  subst hp
  exact r_vret cx dX3_init_92 hr (⟨(fun k => if k = 0 then q8 else if k = 1 then q7 else if k = 2 then q6 else if k = 3 then q5 else if k = 4 then q4 else if k = 5 then q3 else if k = 6 then q2 else if k = 7 then q1 else a0), ro, rfl, hro, rfl⟩) (Nat.le_of_ble_eq_true rfl) (Nat.le_of_ble_eq_true rfl)
