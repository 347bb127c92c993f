set_option maxHeartbeats 4000000 in
set_option maxRecDepth 100000 in
theorem w_begin {p : Program} {l : Launch} {e : Env} {s : State} {m : MethodId} {args : Array Value} {below : List Frame} {meth : Method} {c : Code} {g : q_G} {Q : State → Prop} (cx : q_cx g p m c cL_law 7 s args RL meth) (hl : l.stackTraces = false) {b n : Nat} {xs : Nat → Int32} (hX : va_X b n xs s s.heap) (hbl : b < s.heap.size) (hbA : ¬ q_A g b) (hn : n ≤ 3584)
    (fin : ∀ (cl sl : Nat) (lv : List (Nat × Value)) (ws : va_W), cl ≤ 601024 → sl ≤ 7293034 → AT p l e room_1 s m args below meth c g 7 Q cl sl 1296 lv [.int (nI 1)] ws) : AT p l e room_1 s m args below meth c g 7 Q 0 0 0 [(0, .ref b)] [] [] := by
  refine nw_L_8 cx dL_law_0 (Nat.le_of_ble_eq_true rfl) (Nat.le_of_ble_eq_true rfl) (fun q => ?_)
  refine r_dup cx dL_law_3 rfl ?_
  refine r_ws (ws2 := (q, .inr (4, [.null, .null, .null, .null, .null, .null, .null, .long 0, .int 0, .int 0])) :: []) rfl ?_
  refine k_L_75 cx (c_atlas l g [] q) dL_law_4 ⟨Nat.le_of_ble_eq_true rfl, Nat.le_of_ble_eq_true rfl⟩ ⟨Nat.le_of_ble_eq_true rfl, Nat.le_of_ble_eq_true rfl⟩ rfl rfl (Nat.le_of_ble_eq_true rfl) (fun w hp => ?_)
  obtain ⟨ad, ro, rfl, hro, rfl⟩ := hp
  refine r_astore_n cx dL_law_7 rfl (by decide) rfl ?_
  refine nw_L_76 cx dL_law_8 (Nat.le_of_ble_eq_true rfl) (Nat.le_of_ble_eq_true rfl) (fun q2 => ?_)
  refine r_dup cx dL_law_11 rfl ?_
  refine r_perm (List.perm_append_singleton _ _) ?_
  refine k_L_78 cx (c_model l g (iF g ad (fun _ => 0) (fun _ => g.2.2.2.1) (fun _ => 0) 0 0 0 ro (fun _ => 0) (fun _ => 0) (fun _ => 0) ++ []) q2) dL_law_12 ⟨Nat.le_of_ble_eq_true rfl, Nat.le_of_ble_eq_true rfl⟩ ⟨Nat.le_of_ble_eq_true rfl, Nat.le_of_ble_eq_true rfl⟩ rfl rfl (Nat.le_of_ble_eq_true rfl) (fun w hp => ?_)
  obtain ⟨md, ro2, rfl, hro2, rfl⟩ := hp
  refine r_astore_n cx dL_law_15 rfl (by decide) rfl ?_
  refine r_iconst (v := nI 1) cx dL_law_16 (by decide) ?_
  refine r_newarr (atype := .long) (N := 1) (a0 := (1, .inr (.inl (fun _ => 0)))) cx 1 tb_67 rfl rfl trivial (fun _ => rfl) (by decide) (by decide) dL_law_17 (Nat.le_of_ble_eq_true rfl) (Nat.le_of_ble_eq_true rfl) (fun ao => ?_)
  refine r_perm (List.perm_append_singleton _ _) ?_
  refine r_perm (ws2 := iF g ad (fun _ => 0) (fun _ => g.2.2.2.1) (fun _ => 0) 0 0 0 ro (fun _ => 0) (fun _ => 0) (fun _ => 0) ++ ((ao, .inl (q_cJ g, 1, .inr (.inl (fun _ => 0)))) :: mF g md 0 (fun _ => 0) (fun k => if k = 6 then ro2 else fun _ => 0) (fun _ _ => false) (fun _ _ => 0) (fun _ _ => 0))) (by
    rw [List.append_nil]
    exact List.perm_append_comm (l₁ := (ao, .inl (q_cJ g, 1, .inr (.inl (fun _ => 0)))) :: mF g md 0 (fun _ => 0) (fun k => if k = 6 then ro2 else fun _ => 0) (fun _ _ => false) (fun _ _ => 0) (fun _ _ => 0))) ?_
  refine r_astore_n cx dL_law_19 rfl (by decide) rfl ?_
  refine r_iconst (v := nI 0) cx dL_law_20 (by decide) ?_
  refine r_istore cx dL_law_21 (by decide) rfl ?_
  exact r_lv (lv2 := [(0, .ref b), (1, .ref (ad 8)), (2, .ref (md 22)), (3, .ref ao), (4, .int (nI 0))]) (q_pk [4, 3, 2, 1, 0] rfl) (w_loop cx hl hX hbl hbA hn fin (n + 1) (i := 0) (by omega) (Nat.zero_le _) (Nat.le_of_ble_eq_true rfl) (Nat.le_of_ble_eq_true rfl) ⟨0, _, _, _, _, _, _, inv_start hro2, cR_start g ad ro ro2 _ hro hro2⟩)
