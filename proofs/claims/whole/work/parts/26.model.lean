def mP (g : q_G) (md : Nat → Nat) (wr : va_W) (k : Nat) (v : Int32) (N2 : Nat → Nat) (A2 : Nat → Nat → Int32) (B2 : Nat → Nat → Bool) (L2 : Nat → Nat → Int64) (N : Nat → Nat) (A : Nat → Nat → Int32) (B : Nat → Nat → Bool) (L : Nat → Nat → Int64) (r : Int32) (w : va_W) : Prop :=
  ∃ S : Nat → Nat → Int32, (k = 0 ∧ r = v ∧ w = mF g md (nI 0) N2 A2 B2 L2 S ++ wr) ∨ (k ≠ 0 ∧ w = mF g md (nI k) N A B L S ++ wr)
section MPX
variable {g : q_G} {md : Nat → Nat} {wr : va_W} {k : Nat} {v : Int32} {N2 : Nat → Nat} {A2 : Nat → Nat → Int32} {B2 : Nat → Nat → Bool} {L2 : Nat → Nat → Int64} {N : Nat → Nat} {A : Nat → Nat → Int32} {B : Nat → Nat → Bool} {L : Nat → Nat → Int64} {r : Int32} {w : va_W}
theorem mP_f (n : Nat) (h : k = n) (h0 : n ≠ 0) (S : Nat → Nat → Int32) (hw : w = mF g md (nI n) N A B L S ++ wr) : mP g md wr k v N2 A2 B2 L2 N A B L r w := ⟨S, Or.inr ⟨by rw [h]; exact h0, by rw [h]; exact hw⟩⟩
theorem mP_t (h : k = 0) (hr : r = v) (S : Nat → Nat → Int32) (hw : w = mF g md (nI 0) N2 A2 B2 L2 S ++ wr) : mP g md wr k v N2 A2 B2 L2 N A B L r w := ⟨S, Or.inl ⟨h, hr, hw⟩⟩
end MPX
theorem in_0 (x : Int32) (n : Nat) (hn : n < 2147483647) : (decide (nI 0 ≤ x) && decide (x ≤ nI n)) = inR x (n + 1) := by
  rw [← Bool.decide_and, inR]
  apply decide_eq_decide.mpr
  rw [i_le, i_le, nI_toInt (n := 0) (by decide), nI_toInt (n := n) (by omega)]
  omega
theorem in_1 (x : Int32) (n : Nat) (hn : n < 2147483647) : (decide (nI 0 ≤ x) && decide (x ≤ nI n - nI 1)) = inR x n := by
  cases n with
  | zero =>
    have e : nI 0 - nI 1 = -1 := by decide
    rw [e, ← Bool.decide_and, inR]
    apply decide_eq_decide.mpr
    rw [i_le, i_le, nI_toInt (n := 0) (by decide)]
    have : (-1 : Int32).toInt = -1 := rfl
    omega
  | succ m => rw [pk_sub (by omega)]; exact in_0 x m (by omega)
theorem m1_lt {n : Nat} (hn : n < 2147483647) : nI n - nI 1 < 0 ↔ n = 0 := by
  cases n with
  | zero => exact ⟨fun _ => rfl, fun _ => by decide⟩
  | succ m =>
    rw [pk_sub (by omega), i_lt, nI_toInt (by omega), i_0]
    omega
theorem m1_add (x : Int32) : x - nI 1 = x + Int32.ofInt (-1) := by
  rw [Int32.sub_eq_add_neg, show -(nI 1) = Int32.ofInt (-1) from by decide]
def rowIs (f : Nat → Int32) (l : List Nat) : Prop := ∀ i, i < l.length → f i = nI (l.getD i 0)
set_option maxHeartbeats 4000000 in
set_option maxRecDepth 100000 in
theorem c_mFails (l : Launch) (g : q_G) (md : Nat → Nat) (wr : va_W) (t : Int32) (N : Nat → Nat) (A : Nat → Nat → Int32) (B : Nat → Nat → Bool) (L : Nat → Nat → Int64) (S : Nat → Nat → Int32) (x : Int32) : MetW l g yX4_fails cX4_fails 2 (some .int) ({ frames := 0, cells := 0, slots := 0, locals := 0 } : Room) [.ref (md 22), .int x] (mF g md t N A B L S ++ wr) (q_Qi g (fun r w => r = nI 0 ∧ w = mF g md x N A B L S ++ wr)) := by
  refine q_met (own := RX4) (by decide +kernel) rfl (Nat.le_of_ble_eq_true rfl) (fun p e s m args below meth c cx hr hnm => ?_)
  refine r_lv (lv2 := [(0, .ref (md 22)), (1, .int x)]) (q_pk [0, 1] rfl) ?_
  refine r_aload_n cx dX4_fails_0 rfl rfl ?_
  refine r_iload_n cx dX4_fails_1 rfl rfl ?_
  refine pf_X4_78 cx dX4_fails_2 22 rfl (Nat.le_of_ble_eq_true rfl) ?_
  refine r_iconst (v := nI 0) cx dX4_fails_5 (by decide) ?_
  exact r_iret cx dX4_fails_6 hr (⟨rfl, rfl⟩) (Nat.le_of_ble_eq_true rfl) (Nat.le_of_ble_eq_true rfl)
set_option maxHeartbeats 4000000 in
set_option maxRecDepth 100000 in
theorem c_mIn (l : Launch) (g : q_G) (ws : va_W) (x lo hi : Int32) : MetW l g yX4_in cX4_in 3 (some .boolean) ({ frames := 0, cells := 0, slots := 0, locals := 0 } : Room) [.int x, .int lo, .int hi] (ws) (q_Qi g (fun r w => r = bI (decide (lo ≤ x) && decide (x ≤ hi)) ∧ w = ws)) := by
  refine q_met (own := RX4) (by decide +kernel) rfl (Nat.le_of_ble_eq_true rfl) (fun p e s m args below meth c cx hr hnm => ?_)
  refine r_lv (lv2 := [(0, .int x), (1, .int lo), (2, .int hi)]) (q_pk [0, 1, 2] rfl) ?_
  refine r_iload_n cx dX4_in_0 rfl rfl ?_
  refine r_iload_n cx dX4_in_1 rfl rfl ?_
  refine r_icmplt (tgt := 14) cx dX4_in_2 (by decide) (fun h_2 => ?_) (fun h_2 => ?_)
  · skip
    refine r_iconst (v := nI 0) cx dX4_in_14 (by decide) ?_
    exact r_zret cx dX4_in_15 hr rfl (⟨by first | (rw [decide_eq_false (Int32.not_le.mpr h_2)]; rfl) | (rw [decide_eq_true (Int32.not_lt.mp h_2), decide_eq_false (Int32.not_le.mpr h_7)]; rfl) | (rw [decide_eq_true (Int32.not_lt.mp h_2), decide_eq_true (Int32.not_lt.mp h_7)]; rfl), rfl⟩) (Nat.le_of_ble_eq_true rfl) (Nat.le_of_ble_eq_true rfl)
  · skip
    refine r_iload_n cx dX4_in_5 rfl rfl ?_
    refine r_iload_n cx dX4_in_6 rfl rfl ?_
    refine r_icmpgt (tgt := 14) cx dX4_in_7 (by decide) (fun h_7 => ?_) (fun h_7 => ?_)
    · skip
      refine r_iconst (v := nI 0) cx dX4_in_14 (by decide) ?_
      exact r_zret cx dX4_in_15 hr rfl (⟨by first | (rw [decide_eq_false (Int32.not_le.mpr h_2)]; rfl) | (rw [decide_eq_true (Int32.not_lt.mp h_2), decide_eq_false (Int32.not_le.mpr h_7)]; rfl) | (rw [decide_eq_true (Int32.not_lt.mp h_2), decide_eq_true (Int32.not_lt.mp h_7)]; rfl), rfl⟩) (Nat.le_of_ble_eq_true rfl) (Nat.le_of_ble_eq_true rfl)
    · skip
      refine r_iconst (v := nI 1) cx dX4_in_10 (by decide) ?_
      refine r_goto (tgt := 15) cx dX4_in_11 (by decide) ?_
      exact r_zret cx dX4_in_15 hr rfl (⟨by first | (rw [decide_eq_false (Int32.not_le.mpr h_2)]; rfl) | (rw [decide_eq_true (Int32.not_lt.mp h_2), decide_eq_false (Int32.not_le.mpr h_7)]; rfl) | (rw [decide_eq_true (Int32.not_lt.mp h_2), decide_eq_true (Int32.not_lt.mp h_7)]; rfl), rfl⟩) (Nat.le_of_ble_eq_true rfl) (Nat.le_of_ble_eq_true rfl)
set_option maxHeartbeats 4000000 in
set_option maxRecDepth 100000 in
theorem c_mPl (l : Launch) (g : q_G) (ws : va_W) (x : Int32) : MetW l g yX4_isPlace cX4_isPlace 1 (some .boolean) ({ frames := 1, cells := 0, slots := 0, locals := 22 } : Room) [.int x] (ws) (q_Qi g (fun r w => r = bI (inR x 10) ∧ w = ws)) := by
  refine q_met (own := RX4) (by decide +kernel) rfl (Nat.le_of_ble_eq_true rfl) (fun p e s m args below meth c cx hr hnm => ?_)
  refine r_lv (lv2 := [(0, .int x)]) (q_pk [0] rfl) ?_
  refine r_iload_n cx dX4_isPlace_0 rfl rfl ?_
  refine r_iconst (v := nI 0) cx dX4_isPlace_1 (by decide) ?_
  refine r_bipush (v := nI 9) cx dX4_isPlace_2 (by decide) ?_
  refine k_X4_82 cx (c_mIn l g _ x (nI 0) (nI 9)) dX4_isPlace_4 ⟨Nat.le_of_ble_eq_true rfl, Nat.le_of_ble_eq_true rfl⟩ ⟨Nat.le_of_ble_eq_true rfl, Nat.le_of_ble_eq_true rfl⟩ rfl rfl (Nat.le_of_ble_eq_true rfl) (fun r w hp => ?_)
  obtain ⟨rfl, rfl⟩ := hp
  rw [in_0 x 9 (by decide)]
  exact r_zret cx dX4_isPlace_7 hr (bI_nar _) (⟨rfl, rfl⟩) (Nat.le_of_ble_eq_true rfl) (Nat.le_of_ble_eq_true rfl)
set_option maxHeartbeats 4000000 in
set_option maxRecDepth 100000 in
theorem c_mWo (l : Launch) (g : q_G) (ws : va_W) (x : Int32) : MetW l g yX4_isWord cX4_isWord 1 (some .boolean) ({ frames := 1, cells := 0, slots := 0, locals := 22 } : Room) [.int x] (ws) (q_Qi g (fun r w => r = bI (inR x 4) ∧ w = ws)) := by
  refine q_met (own := RX4) (by decide +kernel) rfl (Nat.le_of_ble_eq_true rfl) (fun p e s m args below meth c cx hr hnm => ?_)
  refine r_lv (lv2 := [(0, .int x)]) (q_pk [0] rfl) ?_
  refine r_iload_n cx dX4_isWord_0 rfl rfl ?_
  refine r_iconst (v := nI 0) cx dX4_isWord_1 (by decide) ?_
  refine r_iconst (v := nI 3) cx dX4_isWord_2 (by decide) ?_
  refine k_X4_82 cx (c_mIn l g _ x (nI 0) (nI 3)) dX4_isWord_3 ⟨Nat.le_of_ble_eq_true rfl, Nat.le_of_ble_eq_true rfl⟩ ⟨Nat.le_of_ble_eq_true rfl, Nat.le_of_ble_eq_true rfl⟩ rfl rfl (Nat.le_of_ble_eq_true rfl) (fun r w hp => ?_)
  obtain ⟨rfl, rfl⟩ := hp
  rw [in_0 x 3 (by decide)]
  exact r_zret cx dX4_isWord_6 hr (bI_nar _) (⟨rfl, rfl⟩) (Nat.le_of_ble_eq_true rfl) (Nat.le_of_ble_eq_true rfl)
set_option maxHeartbeats 4000000 in
set_option maxRecDepth 100000 in
theorem c_mSo (l : Launch) (g : q_G) (ws : va_W) (x : Int32) : MetW l g yX4_isSound cX4_isSound 1 (some .boolean) ({ frames := 1, cells := 0, slots := 0, locals := 22 } : Room) [.int x] (ws) (q_Qi g (fun r w => r = bI (inR x 8) ∧ w = ws)) := by
  refine q_met (own := RX4) (by decide +kernel) rfl (Nat.le_of_ble_eq_true rfl) (fun p e s m args below meth c cx hr hnm => ?_)
  refine r_lv (lv2 := [(0, .int x)]) (q_pk [0] rfl) ?_
  refine r_iload_n cx dX4_isSound_0 rfl rfl ?_
  refine r_iconst (v := nI 0) cx dX4_isSound_1 (by decide) ?_
  refine r_bipush (v := nI 7) cx dX4_isSound_2 (by decide) ?_
  refine k_X4_82 cx (c_mIn l g _ x (nI 0) (nI 7)) dX4_isSound_4 ⟨Nat.le_of_ble_eq_true rfl, Nat.le_of_ble_eq_true rfl⟩ ⟨Nat.le_of_ble_eq_true rfl, Nat.le_of_ble_eq_true rfl⟩ rfl rfl (Nat.le_of_ble_eq_true rfl) (fun r w hp => ?_)
  obtain ⟨rfl, rfl⟩ := hp
  rw [in_0 x 7 (by decide)]
  exact r_zret cx dX4_isSound_7 hr (bI_nar _) (⟨rfl, rfl⟩) (Nat.le_of_ble_eq_true rfl) (Nat.le_of_ble_eq_true rfl)
set_option maxHeartbeats 4000000 in
set_option maxRecDepth 100000 in
theorem c_mSc (l : Launch) (g : q_G) (ws : va_W) (x : Int32) : MetW l g yX4_isSchool cX4_isSchool 1 (some .boolean) ({ frames := 1, cells := 0, slots := 0, locals := 22 } : Room) [.int x] (ws) (q_Qi g (fun r w => r = bI (inR x 3) ∧ w = ws)) := by
  refine q_met (own := RX4) (by decide +kernel) rfl (Nat.le_of_ble_eq_true rfl) (fun p e s m args below meth c cx hr hnm => ?_)
  refine r_lv (lv2 := [(0, .int x)]) (q_pk [0] rfl) ?_
  refine r_iload_n cx dX4_isSchool_0 rfl rfl ?_
  refine r_iconst (v := nI 0) cx dX4_isSchool_1 (by decide) ?_
  refine r_iconst (v := nI 2) cx dX4_isSchool_2 (by decide) ?_
  refine k_X4_82 cx (c_mIn l g _ x (nI 0) (nI 2)) dX4_isSchool_3 ⟨Nat.le_of_ble_eq_true rfl, Nat.le_of_ble_eq_true rfl⟩ ⟨Nat.le_of_ble_eq_true rfl, Nat.le_of_ble_eq_true rfl⟩ rfl rfl (Nat.le_of_ble_eq_true rfl) (fun r w hp => ?_)
  obtain ⟨rfl, rfl⟩ := hp
  rw [in_0 x 2 (by decide)]
  exact r_zret cx dX4_isSchool_6 hr (bI_nar _) (⟨rfl, rfl⟩) (Nat.le_of_ble_eq_true rfl) (Nat.le_of_ble_eq_true rfl)
set_option maxHeartbeats 4000000 in
set_option maxRecDepth 100000 in
theorem c_mIi (l : Launch) (g : q_G) (md : Nat → Nat) (wr : va_W) (t : Int32) (N : Nat → Nat) (A : Nat → Nat → Int32) (B : Nat → Nat → Bool) (L : Nat → Nat → Int64) (S : Nat → Nat → Int32) (x : Int32) (hn : N 1 ≤ 40) : MetW l g yX4_isInterview cX4_isInterview 2 (some .boolean) ({ frames := 1, cells := 0, slots := 0, locals := 22 } : Room) [.ref (md 22), .int x] (mF g md t N A B L S ++ wr) (q_Qi g (fun r w => r = bI (inR x (N 1)) ∧ w = mF g md t N A B L S ++ wr)) := by
  refine q_met (own := RX4) (by decide +kernel) rfl (Nat.le_of_ble_eq_true rfl) (fun p e s m args below meth c cx hr hnm => ?_)
  refine r_lv (lv2 := [(0, .ref (md 22)), (1, .int x)]) (q_pk [0, 1] rfl) ?_
  refine r_iload_n cx dX4_isInterview_0 rfl rfl ?_
  refine r_iconst (v := nI 0) cx dX4_isInterview_1 (by decide) ?_
  refine r_aload_n cx dX4_isInterview_2 rfl rfl ?_
  refine gf_X4_86 cx dX4_isInterview_3 22 rfl rfl ?_
  refine r_iconst (v := nI 1) cx dX4_isInterview_6 (by decide) ?_
  refine r_isub cx dX4_isInterview_7 ?_
  refine k_X4_82 cx (c_mIn l g _ x (nI 0) (nI (N 1) - nI 1)) dX4_isInterview_8 ⟨Nat.le_of_ble_eq_true rfl, Nat.le_of_ble_eq_true rfl⟩ ⟨Nat.le_of_ble_eq_true rfl, Nat.le_of_ble_eq_true rfl⟩ rfl rfl (Nat.le_of_ble_eq_true rfl) (fun r w hp => ?_)
  obtain ⟨rfl, rfl⟩ := hp
  rw [in_1 x (N 1) (by omega)]
  exact r_zret cx dX4_isInterview_11 hr (bI_nar _) (⟨rfl, rfl⟩) (Nat.le_of_ble_eq_true rfl) (Nat.le_of_ble_eq_true rfl)
set_option maxHeartbeats 4000000 in
set_option maxRecDepth 100000 in
theorem c_mIr (l : Launch) (g : q_G) (md : Nat → Nat) (wr : va_W) (t : Int32) (N : Nat → Nat) (A : Nat → Nat → Int32) (B : Nat → Nat → Bool) (L : Nat → Nat → Int64) (S : Nat → Nat → Int32) (x : Int32) (hn : N 2 ≤ 40) : MetW l g yX4_isRule cX4_isRule 2 (some .boolean) ({ frames := 1, cells := 0, slots := 0, locals := 22 } : Room) [.ref (md 22), .int x] (mF g md t N A B L S ++ wr) (q_Qi g (fun r w => r = bI (inR x (N 2)) ∧ w = mF g md t N A B L S ++ wr)) := by
  refine q_met (own := RX4) (by decide +kernel) rfl (Nat.le_of_ble_eq_true rfl) (fun p e s m args below meth c cx hr hnm => ?_)
  refine r_lv (lv2 := [(0, .ref (md 22)), (1, .int x)]) (q_pk [0, 1] rfl) ?_
  refine r_iload_n cx dX4_isRule_0 rfl rfl ?_
  refine r_iconst (v := nI 0) cx dX4_isRule_1 (by decide) ?_
  refine r_aload_n cx dX4_isRule_2 rfl rfl ?_
  refine gf_X4_89 cx dX4_isRule_3 22 rfl rfl ?_
  refine r_iconst (v := nI 1) cx dX4_isRule_6 (by decide) ?_
  refine r_isub cx dX4_isRule_7 ?_
  refine k_X4_82 cx (c_mIn l g _ x (nI 0) (nI (N 2) - nI 1)) dX4_isRule_8 ⟨Nat.le_of_ble_eq_true rfl, Nat.le_of_ble_eq_true rfl⟩ ⟨Nat.le_of_ble_eq_true rfl, Nat.le_of_ble_eq_true rfl⟩ rfl rfl (Nat.le_of_ble_eq_true rfl) (fun r w hp => ?_)
  obtain ⟨rfl, rfl⟩ := hp
  rw [in_1 x (N 2) (by omega)]
  exact r_zret cx dX4_isRule_11 hr (bI_nar _) (⟨rfl, rfl⟩) (Nat.le_of_ble_eq_true rfl) (Nat.le_of_ble_eq_true rfl)
set_option maxHeartbeats 4000000 in
set_option maxRecDepth 100000 in
theorem c_mNum (l : Launch) (g : q_G) (ws : va_W) (q0 a n0 : Nat) (f : Nat → Int32) (k : Nat) (hk : k ≤ n0) (hn0 : n0 < 1000) (he : ws[q0]? = some (a, .inl (q_cI g, n0, .inl f))) (hs : ∀ i, i < k → f i = nI (c32 (f i))) : MetW l g yX4_number cX4_number 4 (some .int) ({ frames := 0, cells := 0, slots := 0, locals := 0 } : Room) [.ref a, .int (nI k)] (ws) (q_Qi g (fun r w => r = nI (num (drL f k)) ∧ w = ws)) := by
  refine q_met (own := RX4) (by decide +kernel) rfl (Nat.le_of_ble_eq_true rfl) (fun p e s m args below meth c cx hr hnm => ?_)
  refine r_lv (lv2 := [(0, .ref a), (1, .int (nI k))]) (q_pk [0, 1] rfl) ?_
  refine r_iconst (v := nI 0) cx dX4_number_0 (by decide) ?_
  refine r_istore_n cx dX4_number_1 rfl (by decide) rfl ?_
  refine r_iconst (v := nI 0) cx dX4_number_2 (by decide) ?_
  refine r_istore_n cx dX4_number_3 rfl (by decide) rfl ?_
  refine at_loop (fun (x : Nat) => x ≤ k) (fun x => [(0, .ref a), (1, .int (nI k)), (2, .int (nI (num (drL f x)))), (3, .int (nI x))]) (fun x => ws) (fun x => k - x) 0 (Nat.zero_le k) (q_pk [2, 3, 1, 0] rfl) rfl (fun i hx ih => ?_)
  dsimp only at hx ⊢
  refine r_iload_n cx dX4_number_4 rfl rfl ?_
  refine r_iload_n cx dX4_number_5 rfl rfl ?_
  refine r_icmpgeN (tgt := 26) cx (by omega) (by omega) dX4_number_6 (by decide) (fun h_6 => ?_) (fun h_6 => ?_)
  · skip
    obtain rfl : i = k := by omega
    refine r_iload_n cx dX4_number_26 rfl rfl ?_
    exact r_iret cx dX4_number_27 hr (⟨rfl, rfl⟩) (Nat.le_of_ble_eq_true rfl) (Nat.le_of_ble_eq_true rfl)
  · skip
    refine r_bipush (v := nI 9) cx dX4_number_9 (by decide) ?_
    refine r_iload_n cx dX4_number_11 rfl rfl ?_
    first | refine r_imulN cx dX4_number_12 ?_ | refine r_imul cx dX4_number_12 ?_
    refine r_aload_n cx dX4_number_13 rfl rfl ?_
    refine r_iload_n cx dX4_number_14 rfl rfl ?_
    refine r_ialdN cx q0 0 dX4_number_15 he rfl (by omega) (by omega) ?_
    refine r_eqi (y := nI (c32 (f i))) (hs i h_6) ?_
    first | refine r_iaddN cx dX4_number_16 ?_ | refine r_iadd cx dX4_number_16 ?_
    refine r_iconst (v := nI 1) cx dX4_number_17 (by decide) ?_
    first | refine r_iaddN cx dX4_number_18 ?_ | refine r_iadd cx dX4_number_18 ?_
    refine r_istore_n cx dX4_number_19 rfl (by decide) rfl ?_
    refine r_iincN (j := 1) cx dX4_number_20 rfl rfl (by decide) rfl ?_
    refine r_goto (tgt := 4) cx dX4_number_23 (by decide) ?_
    have z := ih (i + 1) (by omega) (by omega)
    dsimp only at z
    rw [drL_succ, num_snoc] at z
    exact r_lv (q_pk [2, 3, 1, 0] rfl) (z)
set_option maxHeartbeats 4000000 in
set_option maxRecDepth 100000 in
theorem c_mDr (l : Launch) (g : q_G) (md : Nat → Nat) (wr : va_W) (t : Int32) (N : Nat → Nat) (A : Nat → Nat → Int32) (B : Nat → Nat → Bool) (L : Nat → Nat → Int64) (S : Nat → Nat → Int32) (h0 : N 0 ≤ 8) (hs : ∀ i, i < N 0 → A 0 i = nI (c32 (A 0 i))) : MetW l g yX4_drafted cX4_drafted 2 (some .int) ({ frames := 1, cells := 0, slots := 0, locals := 23 } : Room) [.ref (md 22)] (mF g md t N A B L S ++ wr) (q_Qi g (fun r w => r = nI (num (drL (A 0) (N 0))) ∧ w = mF g md t (va_up N 0 0) A B L S ++ wr)) := by
  refine q_met (own := RX4) (by decide +kernel) rfl (Nat.le_of_ble_eq_true rfl) (fun p e s m args below meth c cx hr hnm => ?_)
  refine r_lv (lv2 := [(0, .ref (md 22))]) (q_pk [0] rfl) ?_
  refine r_aload_n cx dX4_drafted_0 rfl rfl ?_
  refine gf_X4_7 cx dX4_drafted_1 22 rfl rfl ?_
  refine r_aload_n cx dX4_drafted_4 rfl rfl ?_
  refine gf_X4_92 cx dX4_drafted_5 22 rfl rfl ?_
  refine k_X4_95 cx (c_mNum l g _ 21 (md 0) 8 (A 0) (N 0) h0 (by decide) rfl hs) dX4_drafted_8 ⟨Nat.le_of_ble_eq_true rfl, Nat.le_of_ble_eq_true rfl⟩ ⟨Nat.le_of_ble_eq_true rfl, Nat.le_of_ble_eq_true rfl⟩ rfl rfl (Nat.le_of_ble_eq_true rfl) (fun r w hp => ?_)
  obtain ⟨rfl, rfl⟩ := hp
  refine r_istore_n cx dX4_drafted_11 rfl (by decide) rfl ?_
  refine r_aload_n cx dX4_drafted_12 rfl rfl ?_
  refine r_iconst (v := nI 0) cx dX4_drafted_13 (by decide) ?_
  refine pf_X4_92 cx dX4_drafted_14 22 rfl (Nat.le_of_ble_eq_true rfl) ?_
  refine r_iload_n cx dX4_drafted_17 rfl rfl ?_
  exact r_iret cx dX4_drafted_18 hr (⟨rfl, rfl⟩) (Nat.le_of_ble_eq_true rfl) (Nat.le_of_ble_eq_true rfl)
set_option maxHeartbeats 4000000 in
set_option maxRecDepth 100000 in
theorem c_mCnt (l : Launch) (g : q_G) (ws : va_W) (M : Nat) (hM : M < 1099511627776) : MetW l g yX4_count cX4_count 4 (some .int) ({ frames := 0, cells := 0, slots := 0, locals := 0 } : Room) [.long (lN M)] (ws) (q_Qi g (fun r w => r = nI (bc M) ∧ w = ws)) := by
  refine q_met (own := RX4) (by decide +kernel) rfl (Nat.le_of_ble_eq_true rfl) (fun p e s m args below meth c cx hr hnm => ?_)
  refine r_lv (lv2 := [(0, .long (lN M))]) (q_pk [0] rfl) ?_
  refine r_iconst (v := nI 0) cx dX4_count_0 (by decide) ?_
  refine r_istore_n cx dX4_count_1 rfl (by decide) rfl ?_
  refine r_iconst (v := nI 0) cx dX4_count_2 (by decide) ?_
  refine r_istore_n cx dX4_count_3 rfl (by decide) rfl ?_
  refine at_loop (fun (x : Nat) => x ≤ 40) (fun x => [(0, .long (lN M)), (2, .int (nI (bcS M x))), (3, .int (nI x))]) (fun x => ws) (fun x => 40 - x) 0 (Nat.zero_le 40) (q_pk [2, 1, 0] rfl) rfl (fun i hx ih => ?_)
  dsimp only at hx ⊢
  refine r_iload_n cx dX4_count_4 rfl rfl ?_
  refine r_bipush (v := nI 40) cx dX4_count_5 (by decide) ?_
  refine r_icmpgeN (tgt := 25) cx (by omega) (by omega) dX4_count_7 (by decide) (fun h_7 => ?_) (fun h_7 => ?_)
  · skip
    obtain rfl : i = 40 := by omega
    refine r_iload_n cx dX4_count_25 rfl rfl ?_
    exact r_iret cx dX4_count_26 hr (⟨rfl, rfl⟩) (Nat.le_of_ble_eq_true rfl) (Nat.le_of_ble_eq_true rfl)
  · skip
    refine r_iload_n cx dX4_count_10 rfl rfl ?_
    refine r_lload_n cx dX4_count_11 rfl rfl ?_
    refine r_iload_n cx dX4_count_12 rfl rfl ?_
    refine r_lshr (v := lN (M / 2 ^ i)) cx dX4_count_13 (s_sh (by omega) (by omega)) ?_
    refine r_lconst (v := 1) cx dX4_count_14 rfl ?_
    refine r_land cx dX4_count_15 ?_
    refine r_eql (y := lN (M / 2 ^ i % 2)) (by rw [show (1 : Int64) = lN 1 from rfl, fb_andL, Nat.and_one_is_mod]) ?_
    refine r_l2i (v := nI (M / 2 ^ i % 2)) cx dX4_count_16 (lN_i _) ?_
    first | refine r_iaddN cx dX4_count_17 ?_ | refine r_iadd cx dX4_count_17 ?_
    refine r_istore_n cx dX4_count_18 rfl (by decide) rfl ?_
    refine r_iincN (j := 1) cx dX4_count_19 rfl rfl (by decide) rfl ?_
    refine r_goto (tgt := 4) cx dX4_count_22 (by decide) ?_
    exact r_lv (q_pk [2, 1, 0] rfl) (ih (i + 1) (by omega) (by omega))
set_option maxHeartbeats 4000000 in
set_option maxRecDepth 100000 in
theorem c_mTh (l : Launch) (g : q_G) (md : Nat → Nat) (wr : va_W) (t : Int32) (N : Nat → Nat) (A : Nat → Nat → Int32) (B : Nat → Nat → Bool) (L : Nat → Nat → Int64) (S : Nat → Nat → Int32) (h1 : N 1 ≤ 40) : MetW l g yX4_there cX4_there 4 (some .long) ({ frames := 0, cells := 0, slots := 0, locals := 0 } : Room) [.ref (md 22)] (mF g md t N A B L S ++ wr) (q_Ql g (fun r w => r = lN (thS (B 0) (N 1)) ∧ w = mF g md t N A B L S ++ wr)) := by
  refine q_met (own := RX4) (by decide +kernel) rfl (Nat.le_of_ble_eq_true rfl) (fun p e s m args below meth c cx hr hnm => ?_)
  refine r_lv (lv2 := [(0, .ref (md 22))]) (q_pk [0] rfl) ?_
  refine r_lconst (v := 0) cx dX4_there_0 rfl ?_
  refine r_lstore_n cx dX4_there_1 rfl (by decide) rfl ?_
  refine r_iconst (v := nI 0) cx dX4_there_2 (by decide) ?_
  refine r_istore_n cx dX4_there_3 rfl (by decide) rfl ?_
  refine at_loop (fun (x : Nat) => x ≤ N 1) (fun x => [(0, .ref (md 22)), (1, .long (lN (thS (B 0) x))), (3, .int (nI x))]) (fun x => mF g md t N A B L S ++ wr) (fun x => N 1 - x) 0 (Nat.zero_le _) (q_pk [2, 1, 0] rfl) rfl (fun i hx ih => ?_)
  dsimp only at hx ⊢
  refine r_iload_n cx dX4_there_4 rfl rfl ?_
  refine r_aload_n cx dX4_there_5 rfl rfl ?_
  refine gf_X4_86 cx dX4_there_6 22 rfl rfl ?_
  refine r_icmpgeN (tgt := 37) cx (by omega) (by omega) dX4_there_9 (by decide) (fun h_9 => ?_) (fun h_9 => ?_)
  · skip
    obtain rfl : i = N 1 := by omega
    refine r_lload_n cx dX4_there_37 rfl rfl ?_
    exact r_lret cx dX4_there_38 hr (⟨rfl, rfl⟩) (Nat.le_of_ble_eq_true rfl) (Nat.le_of_ble_eq_true rfl)
  · skip
    refine r_lload_n cx dX4_there_12 rfl rfl ?_
    refine r_aload_n cx dX4_there_13 rfl rfl ?_
    refine gf_X4_28 cx dX4_there_14 22 rfl rfl ?_
    refine r_iload_n cx dX4_there_17 rfl rfl ?_
    first | refine r_zaldN cx 15 2 dX4_there_18 rfl rfl (by omega) (by omega) ?_ | refine r_zald cx 15 2 dX4_there_18 rfl rfl (by omega) ?_
    refine r_ifeqb (tgt := 26) cx dX4_there_19 (by decide) (fun h_19 => ?_) (fun h_19 => ?_)
    · skip
      refine r_lconst (v := 1) cx dX4_there_26 rfl ?_
      refine r_iload_n cx dX4_there_27 rfl rfl ?_
      refine r_lshl (v := lN (2 ^ i)) cx dX4_there_28 (by rw [show (1 : Int64) = lN 1 from rfl, wb_shl 1 (by omega), Nat.one_mul]) ?_
      refine r_lor cx dX4_there_29 ?_
      refine r_eql (y := lN (thS (B 0) (i + 1))) (by rw [thS, h_19]; exact fb_orL _ _) ?_
      refine r_lstore_n cx dX4_there_30 rfl (by decide) rfl ?_
      refine r_iincN (j := 1) cx dX4_there_31 rfl rfl (by decide) rfl ?_
      refine r_goto (tgt := 4) cx dX4_there_34 (by decide) ?_
      exact r_lv (q_pk [2, 1, 0] rfl) (ih (i + 1) (by omega) (by omega))
    · skip
      refine r_lconst (v := 0) cx dX4_there_22 rfl ?_
      refine r_goto (tgt := 29) cx dX4_there_23 (by decide) ?_
      refine r_lor cx dX4_there_29 ?_
      refine r_eql (y := lN (thS (B 0) (i + 1))) (by rw [thS, h_19]; exact fb_orL _ _) ?_
      refine r_lstore_n cx dX4_there_30 rfl (by decide) rfl ?_
      refine r_iincN (j := 1) cx dX4_there_31 rfl rfl (by decide) rfl ?_
      refine r_goto (tgt := 4) cx dX4_there_34 (by decide) ?_
      exact r_lv (q_pk [2, 1, 0] rfl) (ih (i + 1) (by omega) (by omega))
set_option maxHeartbeats 4000000 in
set_option maxRecDepth 100000 in
theorem c_mLays (l : Launch) (g : q_G) (ws : va_W) (q0 a : Nat) (f : Nat → Int32) (l0 : List Nat) (ho : okL l0) (he : ws[q0]? = some (a, .inl (q_cI g, 8, .inl f))) : MetW l g yX4_lays cX4_lays 5 (some .int) ({ frames := 0, cells := 0, slots := 0, locals := 0 } : Room) [.int (nI (num l0)), .ref a] (ws) (q_Qi g (fun r w => r = nI l0.length ∧ ∃ f2, rowIs f2 l0 ∧ w = ws.set q0 (a, .inl (q_cI g, 8, .inl f2)))) := by
  refine q_met (own := RX4) (by decide +kernel) rfl (Nat.le_of_ble_eq_true rfl) (fun p e s m args below meth c cx hr hnm => ?_)
  obtain ⟨ho1, ho2, ho3⟩ := id ho
  refine r_lv (lv2 := [(0, .int (nI (num l0))), (1, .ref a)]) (q_pk [0, 1] rfl) ?_
  refine r_iconst (v := nI 0) cx dX4_lays_0 (by decide) ?_
  refine r_istore_n cx dX4_lays_1 rfl (by decide) rfl ?_
  refine r_iload_n cx dX4_lays_2 rfl rfl ?_
  refine r_istore_n cx dX4_lays_3 rfl (by decide) rfl ?_
  refine at_loop (fun (x : List Nat × List Nat) => x.1 ++ x.2 = l0) (fun x => [(0, .int (nI (num l0))), (1, .ref a), (2, .int (nI x.2.length)), (3, .int (nI (num x.1)))]) (fun x => ws) (fun x => x.1.length) (l0, []) (List.append_nil l0) (q_pk [2, 3, 1, 0] rfl) rfl (fun x hx ih => ?_)
  obtain ⟨l1, l2⟩ := x
  dsimp only at hx ⊢
  have hx1 := hx
  have hlen : l1.length + l2.length = l0.length := by rw [← hx1, List.length_append]
  have hs1 : snd l1 := (snd_app.mp (hx1 ▸ ho1)).1
  have hb1 := num_bd hs1 (by omega)
  refine r_iload_n cx dX4_lays_4 rfl rfl ?_
  refine r_ifleN (tgt := 19) cx (by omega) dX4_lays_5 (by decide) (fun h_5 => ?_) (fun h_5 => ?_)
  · skip
    obtain rfl : l1 = [] := num_zero.mp (by omega)
    obtain rfl : l0 = l2 := by simpa using hx1.symm
    refine r_iload_n cx dX4_lays_19 rfl rfl ?_
    refine r_istore_n cx dX4_lays_20 rfl (by decide) rfl ?_
    refine r_iload_n cx dX4_lays_21 rfl rfl ?_
    refine r_iconst (v := nI 1) cx dX4_lays_22 (by decide) ?_
    refine r_isub cx dX4_lays_23 ?_
    refine r_istore cx dX4_lays_24 (by decide) rfl ?_
    refine at_loop (fun (x : (List Nat × List Nat) × (Nat → Int32)) => x.1.1 ++ x.1.2 = l0 ∧ ∀ i, x.1.1.length ≤ i → i < l0.length → x.2 i = nI (l0.getD i 0)) (fun x => [(1, .ref a), (2, .int (nI l0.length)), (3, .int (nI (num x.1.1))), (4, .int (nI x.1.1.length - nI 1))]) (fun x => ws.set q0 (a, .inl (q_cI g, 8, .inl x.2))) (fun x => x.1.1.length) ((l0, []), f) ⟨List.append_nil l0, fun i h1 h2 => absurd h2 (Nat.not_lt.mpr h1)⟩ (q_pk [3, 4, 1, 0] rfl) (q_set_self he).symm (fun x hx ih => ?_)
    obtain ⟨⟨l1, l2⟩, f1⟩ := x
    dsimp only at hx ⊢
    obtain ⟨hx1, hx2⟩ := hx
    have hlen : l1.length + l2.length = l0.length := by rw [← hx1, List.length_append]
    have hs1 : snd l1 := (snd_app.mp (hx1 ▸ ho1)).1
    have hb1 := num_bd hs1 (by omega)
    refine r_iload cx dX4_lays_26 rfl ?_
    refine r_iflt (tgt := 52) cx dX4_lays_28 (by decide) (fun h_28 => ?_) (fun h_28 => ?_)
    · skip
      obtain rfl : l1 = [] := List.eq_nil_of_length_eq_zero ((m1_lt (by omega)).mp h_28)
      obtain rfl : l0 = l2 := by simpa using hx1.symm
      refine r_iload_n cx dX4_lays_52 rfl rfl ?_
      exact r_iret cx dX4_lays_53 hr (⟨rfl, f1, fun i hi => hx2 i (Nat.zero_le _) hi, rfl⟩) (Nat.le_of_ble_eq_true rfl) (Nat.le_of_ble_eq_true rfl)
    · skip
      obtain ⟨l1, y, rfl⟩ := l_snoc (l := l1) (fun z => by rw [z] at h_28; exact h_28 (by decide))
      have hy8 : y < 8 := hs1 y (by simp)
      have hsn := num_snoc l1 y
      rw [List.length_append, List.length_singleton] at hlen
      refine r_aload_n cx dX4_lays_31 rfl rfl ?_
      refine r_iload cx dX4_lays_32 rfl ?_
      refine r_eqi (y := nI l1.length) (by rw [List.length_append, List.length_singleton, pk_sub (by omega)]; rfl) ?_
      refine r_iload_n cx dX4_lays_34 rfl rfl ?_
      refine r_bipush (v := nI 9) cx dX4_lays_35 (by decide) ?_
      refine r_iremN cx dX4_lays_37 (by omega) (by omega) (by omega) ?_
      refine r_iconst (v := nI 1) cx dX4_lays_38 (by decide) ?_
      first | refine r_isubN cx dX4_lays_39 (by omega) ?_ | refine r_isub cx dX4_lays_39 ?_
      refine r_eqi (y := nI y) (congrArg nI (by omega)) ?_
      refine r_iastN cx q0 0 dX4_lays_40 (q_set_get he) rfl (by omega) (by omega) ?_
      rw [List.set_set]
      refine r_iload_n cx dX4_lays_41 rfl rfl ?_
      refine r_bipush (v := nI 9) cx dX4_lays_42 (by decide) ?_
      refine r_idivN cx dX4_lays_44 (by omega) (by omega) (by omega) ?_
      refine r_eqi (y := nI (num l1)) (congrArg nI (by omega)) ?_
      refine r_istore_n cx dX4_lays_45 rfl (by decide) rfl ?_
      refine r_iinc cx dX4_lays_46 rfl rfl (by decide) rfl ?_
      refine r_goto (tgt := 26) cx dX4_lays_49 (by decide) ?_
      have z := ih ((l1, y :: l2), upd f1 l1.length (nI y)) ⟨by rw [← hx1]; simp, fun i h1 h2 => by
          show upd f1 l1.length (nI y) i = _
          by_cases h9 : i = l1.length
          · subst h9
            rw [pk_us, ← hx1]
            simp [List.getD]
          · rw [pk_un h9]
            exact hx2 i (by simp only [List.length_append, List.length_singleton]; simp only at h1; omega) h2⟩ (by simp)
      dsimp only at z
      rw [show nI l1.length - nI 1 = nI (l1 ++ [y]).length - nI 1 + Int32.ofInt (-1) from by rw [List.length_append, List.length_singleton, pk_sub (a := l1.length + 1) (by omega), Nat.add_sub_cancel]; exact m1_add _] at z
      exact r_lv (q_pk [2, 3, 1, 0] rfl) (z)
  · skip
    obtain ⟨l1, y, rfl⟩ := l_snoc (l := l1) (fun z => by rw [z] at h_5; exact absurd h_5 (by decide))
    have hy8 : y < 8 := hs1 y (by simp)
    have hsn := num_snoc l1 y
    rw [List.length_append, List.length_singleton] at hlen
    refine r_iincN (j := 1) cx dX4_lays_8 rfl rfl (by decide) rfl ?_
    refine r_iload_n cx dX4_lays_11 rfl rfl ?_
    refine r_bipush (v := nI 9) cx dX4_lays_12 (by decide) ?_
    refine r_idivN cx dX4_lays_14 (by omega) (by omega) (by omega) ?_
    refine r_eqi (y := nI (num l1)) (congrArg nI (by omega)) ?_
    refine r_istore_n cx dX4_lays_15 rfl (by decide) rfl ?_
    refine r_goto (tgt := 4) cx dX4_lays_16 (by decide) ?_
    exact r_lv (q_pk [2, 3, 1, 0] rfl) (ih (l1, y :: l2) (by rw [← hx1]; simp) (by simp))
