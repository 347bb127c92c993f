theorem in_m1 (x : Int32) : (decide (-1 ≤ x) && decide (x ≤ nI 7)) = (decide (x = -1) || inR x 8) := by
  rw [← Bool.decide_and, inR, ← Bool.decide_or]
  apply decide_eq_decide.mpr
  rw [i_le, i_le, i_eq, nI_toInt (n := 7) (by decide)]
  have : (-1 : Int32).toInt = -1 := rfl
  omega
theorem or_z (x : Int32) : x ||| nI 0 = x := by
  apply Int32.toBitVec_inj.1
  rw [Int32.toBitVec_or]
  exact BitVec.or_zero
theorem lshr_b {G j : Nat} (hG : G < 1099511627776) (hj : j < 40) : lN (G / 2 ^ j) &&& 1 = lN (if G.testBit j then 1 else 0) := by
  rw [show (1 : Int64) = lN 1 from rfl, fb_andL, Nat.and_one_is_mod, Nat.testBit_eq_decide_div_mod_eq]
  rcases Nat.mod_two_eq_zero_or_one (G / 2 ^ j) with h | h <;> rw [h] <;> rfl
theorem p_lt3 {a b d : Prop} (h : ¬ (a ∧ b ∧ d)) : ¬ a ∨ ¬ b ∨ ¬ d := by
  by_cases ha : a
  · by_cases hb : b
    · exact Or.inr (Or.inr (fun hd => h ⟨ha, hb, hd⟩))
    · exact Or.inr (Or.inl hb)
  · exact Or.inl ha
theorem up5 (A : Nat → Nat → Int32) (k : Nat) (f : Nat → Int32) : va_up A k f k = f := va_up_self _ _ _
set_option maxHeartbeats 4000000 in
set_option maxRecDepth 100000 in
theorem c_mInterview (l : Launch) (g : q_G) (md : Nat → Nat) (wr : va_W) (t : Int32) (N : Nat → Nat) (A : Nat → Nat → Int32) (B : Nat → Nat → Bool) (L : Nat → Nat → Int64) (S : Nat → Nat → Int32) (hI : inv N A B L) (x1 : Int32) (x2 : Int32) (x3 : Int32) (x4 : Int32) : MetW l g yX4_interview cX4_interview 5 (some .int) ({ frames := 2, cells := 0, slots := 0, locals := 44 } : Room) [.ref (md 22), .int x1, .int x2, .int x3, .int x4] (mF g md t N A B L S ++ wr) (q_Qi g (fun r w => mP g md wr (kc (!(inR x1 8 && inR x2 10 && inR x4 4)) (!inR x3 301) (decide (N 0 = 0) || decide (N 1 = 40))) (nI (N 1)) (va_up (va_up N 1 (N 1 + 1)) 0 0) (ivA A (N 1) x1 x2 x3 x4 (nI (num (drL (A 0) (N 0))))) B L N A B L r w)) := by
  refine q_met (own := RX4) (by decide +kernel) rfl (Nat.le_of_ble_eq_true rfl) (fun p e s m args below meth c cx hr hnm => ?_)
  obtain ⟨⟨i1, i2, i3, i4⟩, j2, j3, j4, j5, j6, j7, j8, j9, j10, j11⟩ := id hI
  refine r_lv (lv2 := [(0, .ref (md 22)), (1, .int x1), (2, .int x2), (3, .int x3), (4, .int x4)]) (q_pk [0, 1, 2, 3, 4] rfl) ?_
  refine r_aload_n cx dX4_interview_0 rfl rfl ?_
  refine r_iconst (v := nI 0) cx dX4_interview_1 (by decide) ?_
  refine pf_X4_78 cx dX4_interview_2 22 rfl (Nat.le_of_ble_eq_true rfl) ?_
  refine r_ws (ws2 := mF g md (nI 0) N A B L S ++ wr) rfl ?_
  refine r_iload_n cx dX4_interview_5 rfl rfl ?_
  refine r_iconst (v := nI 0) cx dX4_interview_6 (by decide) ?_
  refine r_bipush (v := nI 7) cx dX4_interview_7 (by decide) ?_
  refine k_X4_82 cx (c_mIn l g _ x1 (nI 0) (nI 7)) dX4_interview_9 ⟨Nat.le_of_ble_eq_true rfl, Nat.le_of_ble_eq_true rfl⟩ ⟨Nat.le_of_ble_eq_true rfl, Nat.le_of_ble_eq_true rfl⟩ rfl rfl (Nat.le_of_ble_eq_true rfl) (fun r w hp => ?_)
  obtain ⟨rfl, rfl⟩ := hp
  rw [in_0 x1 7 (by decide)]
  refine r_ifeqb (tgt := 30) cx dX4_interview_12 (by decide) (fun h_12 => ?_) (fun h_12 => ?_)
  · skip
    refine r_aload_n cx dX4_interview_30 rfl rfl ?_
    refine r_iconst (v := nI 1) cx dX4_interview_31 (by decide) ?_
    refine k_X4_103 cx (c_mFails l g md wr _ N A B L S (nI 1)) dX4_interview_32 22 rfl ⟨Nat.le_of_ble_eq_true rfl, Nat.le_of_ble_eq_true rfl⟩ ⟨Nat.le_of_ble_eq_true rfl, Nat.le_of_ble_eq_true rfl⟩ rfl rfl (Nat.le_of_ble_eq_true rfl) (fun r w hp => ?_)
    obtain ⟨rfl, rfl⟩ := hp
    exact r_iret cx dX4_interview_35 hr (mP_f 1 (by simp [kc, h_12]) (by decide) S rfl) (Nat.le_of_ble_eq_true rfl) (Nat.le_of_ble_eq_true rfl)
  · skip
    refine r_iload_n cx dX4_interview_15 rfl rfl ?_
    refine k_X4_107 cx (c_mPl l g _ x2) dX4_interview_16 ⟨Nat.le_of_ble_eq_true rfl, Nat.le_of_ble_eq_true rfl⟩ ⟨Nat.le_of_ble_eq_true rfl, Nat.le_of_ble_eq_true rfl⟩ rfl rfl (Nat.le_of_ble_eq_true rfl) (fun r w hp => ?_)
    obtain ⟨rfl, rfl⟩ := hp
    refine r_ifeqb (tgt := 30) cx dX4_interview_19 (by decide) (fun h_19 => ?_) (fun h_19 => ?_)
    · skip
      refine r_aload_n cx dX4_interview_30 rfl rfl ?_
      refine r_iconst (v := nI 1) cx dX4_interview_31 (by decide) ?_
      refine k_X4_103 cx (c_mFails l g md wr _ N A B L S (nI 1)) dX4_interview_32 22 rfl ⟨Nat.le_of_ble_eq_true rfl, Nat.le_of_ble_eq_true rfl⟩ ⟨Nat.le_of_ble_eq_true rfl, Nat.le_of_ble_eq_true rfl⟩ rfl rfl (Nat.le_of_ble_eq_true rfl) (fun r w hp => ?_)
      obtain ⟨rfl, rfl⟩ := hp
      exact r_iret cx dX4_interview_35 hr (mP_f 1 (by simp [kc, h_19]) (by decide) S rfl) (Nat.le_of_ble_eq_true rfl) (Nat.le_of_ble_eq_true rfl)
    · skip
      refine r_iload cx dX4_interview_22 rfl ?_
      refine k_X4_110 cx (c_mWo l g _ x4) dX4_interview_24 ⟨Nat.le_of_ble_eq_true rfl, Nat.le_of_ble_eq_true rfl⟩ ⟨Nat.le_of_ble_eq_true rfl, Nat.le_of_ble_eq_true rfl⟩ rfl rfl (Nat.le_of_ble_eq_true rfl) (fun r w hp => ?_)
      obtain ⟨rfl, rfl⟩ := hp
      refine r_ifneb (tgt := 36) cx dX4_interview_27 (by decide) (fun h_27 => ?_) (fun h_27 => ?_)
      · skip
        refine r_iload_n cx dX4_interview_36 rfl rfl ?_
        refine r_iconst (v := nI 0) cx dX4_interview_37 (by decide) ?_
        refine r_sipush (v := nI 300) cx dX4_interview_38 (by decide) ?_
        refine k_X4_82 cx (c_mIn l g _ x3 (nI 0) (nI 300)) dX4_interview_41 ⟨Nat.le_of_ble_eq_true rfl, Nat.le_of_ble_eq_true rfl⟩ ⟨Nat.le_of_ble_eq_true rfl, Nat.le_of_ble_eq_true rfl⟩ rfl rfl (Nat.le_of_ble_eq_true rfl) (fun r w hp => ?_)
        obtain ⟨rfl, rfl⟩ := hp
        rw [in_0 x3 300 (by decide)]
        refine r_ifneb (tgt := 53) cx dX4_interview_44 (by decide) (fun h_44 => ?_) (fun h_44 => ?_)
        · skip
          refine r_aload_n cx dX4_interview_53 rfl rfl ?_
          refine gf_X4_92 cx dX4_interview_54 22 rfl rfl ?_
          refine r_ifeqN (tgt := 69) cx (by omega) dX4_interview_57 (by decide) (fun h_57 => ?_) (fun h_57 => ?_)
          · skip
            refine r_aload_n cx dX4_interview_69 rfl rfl ?_
            refine r_iconst (v := nI 3) cx dX4_interview_70 (by decide) ?_
            refine k_X4_103 cx (c_mFails l g md wr _ N A B L S (nI 3)) dX4_interview_71 22 rfl ⟨Nat.le_of_ble_eq_true rfl, Nat.le_of_ble_eq_true rfl⟩ ⟨Nat.le_of_ble_eq_true rfl, Nat.le_of_ble_eq_true rfl⟩ rfl rfl (Nat.le_of_ble_eq_true rfl) (fun r w hp => ?_)
            obtain ⟨rfl, rfl⟩ := hp
            exact r_iret cx dX4_interview_74 hr (mP_f 3 (by simp [kc, h_12, h_19, h_27, h_44, h_57]) (by decide) S rfl) (Nat.le_of_ble_eq_true rfl) (Nat.le_of_ble_eq_true rfl)
          · skip
            refine r_aload_n cx dX4_interview_60 rfl rfl ?_
            refine gf_X4_86 cx dX4_interview_61 22 rfl rfl ?_
            refine r_bipush (v := nI 40) cx dX4_interview_64 (by decide) ?_
            refine r_icmpneN (tgt := 75) cx (by omega) (by omega) dX4_interview_66 (by decide) (fun h_66 => ?_) (fun h_66 => ?_)
            · skip
              refine r_aload_n cx dX4_interview_75 rfl rfl ?_
              refine gf_X4_13 cx dX4_interview_76 22 rfl rfl ?_
              refine r_aload_n cx dX4_interview_79 rfl rfl ?_
              refine gf_X4_86 cx dX4_interview_80 22 rfl rfl ?_
              refine r_iload_n cx dX4_interview_83 rfl rfl ?_
              first | refine r_iastN cx 20 0 dX4_interview_84 rfl rfl (by omega) (by omega) ?_ | refine r_iast cx 20 0 dX4_interview_84 rfl rfl (by omega) ?_
              refine r_aload_n cx dX4_interview_85 rfl rfl ?_
              refine gf_X4_16 cx dX4_interview_86 22 rfl rfl ?_
              refine r_aload_n cx dX4_interview_89 rfl rfl ?_
              refine gf_X4_86 cx dX4_interview_90 22 rfl rfl ?_
              refine r_iload_n cx dX4_interview_93 rfl rfl ?_
              first | refine r_iastN cx 19 0 dX4_interview_94 rfl rfl (by omega) (by omega) ?_ | refine r_iast cx 19 0 dX4_interview_94 rfl rfl (by omega) ?_
              refine r_aload_n cx dX4_interview_95 rfl rfl ?_
              refine gf_X4_19 cx dX4_interview_96 22 rfl rfl ?_
              refine r_aload_n cx dX4_interview_99 rfl rfl ?_
              refine gf_X4_86 cx dX4_interview_100 22 rfl rfl ?_
              refine r_iload_n cx dX4_interview_103 rfl rfl ?_
              first | refine r_iastN cx 18 0 dX4_interview_104 rfl rfl (by omega) (by omega) ?_ | refine r_iast cx 18 0 dX4_interview_104 rfl rfl (by omega) ?_
              refine r_aload_n cx dX4_interview_105 rfl rfl ?_
              refine gf_X4_22 cx dX4_interview_106 22 rfl rfl ?_
              refine r_aload_n cx dX4_interview_109 rfl rfl ?_
              refine gf_X4_86 cx dX4_interview_110 22 rfl rfl ?_
              refine r_iload cx dX4_interview_113 rfl ?_
              first | refine r_iastN cx 17 0 dX4_interview_115 rfl rfl (by omega) (by omega) ?_ | refine r_iast cx 17 0 dX4_interview_115 rfl rfl (by omega) ?_
              refine r_ws (ws2 := mF g md (nI 0) N (va_up (va_up (va_up (va_up A 1 (upd (A 1) (N 1) x1)) 2 (upd (A 2) (N 1) x2)) 3 (upd (A 3) (N 1) x3)) 4 (upd (A 4) (N 1) x4)) B L S ++ wr) rfl ?_
              refine r_aload_n cx dX4_interview_116 rfl rfl ?_
              refine gf_X4_25 cx dX4_interview_117 22 rfl rfl ?_
              refine r_aload_n cx dX4_interview_120 rfl rfl ?_
              refine gf_X4_86 cx dX4_interview_121 22 rfl rfl ?_
              refine r_aload_n cx dX4_interview_124 rfl rfl ?_
              refine k_X4_113 cx (c_mDr l g md wr _ N (va_up (va_up (va_up (va_up A 1 (upd (A 1) (N 1) x1)) 2 (upd (A 2) (N 1) x2)) 3 (upd (A 3) (N 1) x3)) 4 (upd (A 4) (N 1) x4)) B L S i1 (fun i hi => (j2 i hi).2)) dX4_interview_125 22 rfl ⟨Nat.le_of_ble_eq_true rfl, Nat.le_of_ble_eq_true rfl⟩ ⟨Nat.le_of_ble_eq_true rfl, Nat.le_of_ble_eq_true rfl⟩ rfl rfl (Nat.le_of_ble_eq_true rfl) (fun r w hp => ?_)
              obtain ⟨rfl, rfl⟩ := hp
              first | refine r_iastN cx 16 0 dX4_interview_128 rfl rfl (by omega) (by omega) ?_ | refine r_iast cx 16 0 dX4_interview_128 rfl rfl (by omega) ?_
              refine r_aload_n cx dX4_interview_129 rfl rfl ?_
              refine r_dup cx dX4_interview_130 rfl ?_
              refine gf_X4_86 cx dX4_interview_131 22 rfl rfl ?_
              refine r_iconst (v := nI 1) cx dX4_interview_134 (by decide) ?_
              first | refine r_iaddN cx dX4_interview_135 ?_ | refine r_iadd cx dX4_interview_135 ?_
              refine pf_X4_86 cx dX4_interview_136 22 rfl (Nat.le_of_ble_eq_true rfl) ?_
              refine r_aload_n cx dX4_interview_139 rfl rfl ?_
              refine gf_X4_86 cx dX4_interview_140 22 rfl rfl ?_
              refine r_iconst (v := nI 1) cx dX4_interview_143 (by decide) ?_
              first | refine r_isubN cx dX4_interview_144 (by omega) ?_ | refine r_isub cx dX4_interview_144 ?_
              exact r_iret cx dX4_interview_145 hr (mP_t (by simp [kc, h_12, h_19, h_27, h_44, h_57, h_66]) (rfl) S rfl) (Nat.le_of_ble_eq_true rfl) (Nat.le_of_ble_eq_true rfl)
            · skip
              refine r_aload_n cx dX4_interview_69 rfl rfl ?_
              refine r_iconst (v := nI 3) cx dX4_interview_70 (by decide) ?_
              refine k_X4_103 cx (c_mFails l g md wr _ N A B L S (nI 3)) dX4_interview_71 22 rfl ⟨Nat.le_of_ble_eq_true rfl, Nat.le_of_ble_eq_true rfl⟩ ⟨Nat.le_of_ble_eq_true rfl, Nat.le_of_ble_eq_true rfl⟩ rfl rfl (Nat.le_of_ble_eq_true rfl) (fun r w hp => ?_)
              obtain ⟨rfl, rfl⟩ := hp
              exact r_iret cx dX4_interview_74 hr (mP_f 3 (by simp [kc, h_12, h_19, h_27, h_44, h_57, h_66]) (by decide) S rfl) (Nat.le_of_ble_eq_true rfl) (Nat.le_of_ble_eq_true rfl)
        · skip
          refine r_aload_n cx dX4_interview_47 rfl rfl ?_
          refine r_iconst (v := nI 2) cx dX4_interview_48 (by decide) ?_
          refine k_X4_103 cx (c_mFails l g md wr _ N A B L S (nI 2)) dX4_interview_49 22 rfl ⟨Nat.le_of_ble_eq_true rfl, Nat.le_of_ble_eq_true rfl⟩ ⟨Nat.le_of_ble_eq_true rfl, Nat.le_of_ble_eq_true rfl⟩ rfl rfl (Nat.le_of_ble_eq_true rfl) (fun r w hp => ?_)
          obtain ⟨rfl, rfl⟩ := hp
          exact r_iret cx dX4_interview_52 hr (mP_f 2 (by simp [kc, h_12, h_19, h_27, h_44]) (by decide) S rfl) (Nat.le_of_ble_eq_true rfl) (Nat.le_of_ble_eq_true rfl)
      · skip
        refine r_aload_n cx dX4_interview_30 rfl rfl ?_
        refine r_iconst (v := nI 1) cx dX4_interview_31 (by decide) ?_
        refine k_X4_103 cx (c_mFails l g md wr _ N A B L S (nI 1)) dX4_interview_32 22 rfl ⟨Nat.le_of_ble_eq_true rfl, Nat.le_of_ble_eq_true rfl⟩ ⟨Nat.le_of_ble_eq_true rfl, Nat.le_of_ble_eq_true rfl⟩ rfl rfl (Nat.le_of_ble_eq_true rfl) (fun r w hp => ?_)
        obtain ⟨rfl, rfl⟩ := hp
        exact r_iret cx dX4_interview_35 hr (mP_f 1 (by simp [kc, h_27]) (by decide) S rfl) (Nat.le_of_ble_eq_true rfl) (Nat.le_of_ble_eq_true rfl)
set_option maxHeartbeats 4000000 in
set_option maxRecDepth 100000 in
theorem c_mRule (l : Launch) (g : q_G) (md : Nat → Nat) (wr : va_W) (t : Int32) (N : Nat → Nat) (A : Nat → Nat → Int32) (B : Nat → Nat → Bool) (L : Nat → Nat → Int64) (S : Nat → Nat → Int32) (hI : inv N A B L) (x1 : Int32) (x2 : Int32) (x3 : Int32) (x4 : Int32) (x5 : Int32) (x6 : Int32) : MetW l g yX4_rule cX4_rule 7 (some .int) ({ frames := 2, cells := 0, slots := 0, locals := 42 } : Room) [.ref (md 22), .int x1, .int x2, .int x3, .int x4, .int x5, .int x6] (mF g md t N A B L S ++ wr) (q_Qi g (fun r w => mP g md wr (kc (!(inR x1 8 && (inR x4 10 && inR x5 10))) (decide (x2 = x1) || !(decide (x2 = -1) || inR x2 8) || !inR x3 10 || decide (x5 < x4) || !inR x6 301) (decide (N 2 = 20))) (nI (N 2)) (va_up N 2 (N 2 + 1)) (rlA A (N 2) x1 x2 x3 x4 x5 x6) B L N A B L r w)) := by
  refine q_met (own := RX4) (by decide +kernel) rfl (Nat.le_of_ble_eq_true rfl) (fun p e s m args below meth c cx hr hnm => ?_)
  obtain ⟨⟨i1, i2, i3, i4⟩, j2, j3, j4, j5, j6, j7, j8, j9, j10, j11⟩ := id hI
  refine r_lv (lv2 := [(0, .ref (md 22)), (1, .int x1), (2, .int x2), (3, .int x3), (4, .int x4), (5, .int x5), (6, .int x6)]) (q_pk [0, 1, 2, 3, 4, 5, 6] rfl) ?_
  refine r_aload_n cx dX4_rule_0 rfl rfl ?_
  refine r_iconst (v := nI 0) cx dX4_rule_1 (by decide) ?_
  refine pf_X4_78 cx dX4_rule_2 22 rfl (Nat.le_of_ble_eq_true rfl) ?_
  refine r_ws (ws2 := mF g md (nI 0) N A B L S ++ wr) rfl ?_
  refine r_iload_n cx dX4_rule_5 rfl rfl ?_
  refine k_X4_99 cx (c_mSo l g _ x1) dX4_rule_6 ⟨Nat.le_of_ble_eq_true rfl, Nat.le_of_ble_eq_true rfl⟩ ⟨Nat.le_of_ble_eq_true rfl, Nat.le_of_ble_eq_true rfl⟩ rfl rfl (Nat.le_of_ble_eq_true rfl) (fun r w hp => ?_)
  obtain ⟨rfl, rfl⟩ := hp
  refine r_ifeqb (tgt := 28) cx dX4_rule_9 (by decide) (fun h_9 => ?_) (fun h_9 => ?_)
  · skip
    refine r_aload_n cx dX4_rule_28 rfl rfl ?_
    refine r_iconst (v := nI 1) cx dX4_rule_29 (by decide) ?_
    refine k_X4_103 cx (c_mFails l g md wr _ N A B L S (nI 1)) dX4_rule_30 22 rfl ⟨Nat.le_of_ble_eq_true rfl, Nat.le_of_ble_eq_true rfl⟩ ⟨Nat.le_of_ble_eq_true rfl, Nat.le_of_ble_eq_true rfl⟩ rfl rfl (Nat.le_of_ble_eq_true rfl) (fun r w hp => ?_)
    obtain ⟨rfl, rfl⟩ := hp
    exact r_iret cx dX4_rule_33 hr (mP_f 1 (by simp [kc, h_9]) (by decide) S rfl) (Nat.le_of_ble_eq_true rfl) (Nat.le_of_ble_eq_true rfl)
  · skip
    refine r_iload cx dX4_rule_12 rfl ?_
    refine k_X4_107 cx (c_mPl l g _ x4) dX4_rule_14 ⟨Nat.le_of_ble_eq_true rfl, Nat.le_of_ble_eq_true rfl⟩ ⟨Nat.le_of_ble_eq_true rfl, Nat.le_of_ble_eq_true rfl⟩ rfl rfl (Nat.le_of_ble_eq_true rfl) (fun r w hp => ?_)
    obtain ⟨rfl, rfl⟩ := hp
    refine r_ifeqb (tgt := 28) cx dX4_rule_17 (by decide) (fun h_17 => ?_) (fun h_17 => ?_)
    · skip
      refine r_aload_n cx dX4_rule_28 rfl rfl ?_
      refine r_iconst (v := nI 1) cx dX4_rule_29 (by decide) ?_
      refine k_X4_103 cx (c_mFails l g md wr _ N A B L S (nI 1)) dX4_rule_30 22 rfl ⟨Nat.le_of_ble_eq_true rfl, Nat.le_of_ble_eq_true rfl⟩ ⟨Nat.le_of_ble_eq_true rfl, Nat.le_of_ble_eq_true rfl⟩ rfl rfl (Nat.le_of_ble_eq_true rfl) (fun r w hp => ?_)
      obtain ⟨rfl, rfl⟩ := hp
      exact r_iret cx dX4_rule_33 hr (mP_f 1 (by simp [kc, h_17]) (by decide) S rfl) (Nat.le_of_ble_eq_true rfl) (Nat.le_of_ble_eq_true rfl)
    · skip
      refine r_iload cx dX4_rule_20 rfl ?_
      refine k_X4_107 cx (c_mPl l g _ x5) dX4_rule_22 ⟨Nat.le_of_ble_eq_true rfl, Nat.le_of_ble_eq_true rfl⟩ ⟨Nat.le_of_ble_eq_true rfl, Nat.le_of_ble_eq_true rfl⟩ rfl rfl (Nat.le_of_ble_eq_true rfl) (fun r w hp => ?_)
      obtain ⟨rfl, rfl⟩ := hp
      refine r_ifneb (tgt := 34) cx dX4_rule_25 (by decide) (fun h_25 => ?_) (fun h_25 => ?_)
      · skip
        refine r_iload_n cx dX4_rule_34 rfl rfl ?_
        refine r_iconst (v := -1) cx dX4_rule_35 (by decide) ?_
        refine r_bipush (v := nI 7) cx dX4_rule_36 (by decide) ?_
        refine k_X4_82 cx (c_mIn l g _ x2 (-1) (nI 7)) dX4_rule_38 ⟨Nat.le_of_ble_eq_true rfl, Nat.le_of_ble_eq_true rfl⟩ ⟨Nat.le_of_ble_eq_true rfl, Nat.le_of_ble_eq_true rfl⟩ rfl rfl (Nat.le_of_ble_eq_true rfl) (fun r w hp => ?_)
        obtain ⟨rfl, rfl⟩ := hp
        rw [in_m1 x2]
        refine r_ifeqb (tgt := 78) cx dX4_rule_41 (by decide) (fun h_41 => ?_) (fun h_41 => ?_)
        · skip
          refine r_aload_n cx dX4_rule_78 rfl rfl ?_
          refine r_iconst (v := nI 2) cx dX4_rule_79 (by decide) ?_
          refine k_X4_103 cx (c_mFails l g md wr _ N A B L S (nI 2)) dX4_rule_80 22 rfl ⟨Nat.le_of_ble_eq_true rfl, Nat.le_of_ble_eq_true rfl⟩ ⟨Nat.le_of_ble_eq_true rfl, Nat.le_of_ble_eq_true rfl⟩ rfl rfl (Nat.le_of_ble_eq_true rfl) (fun r w hp => ?_)
          obtain ⟨rfl, rfl⟩ := hp
          exact r_iret cx dX4_rule_83 hr (mP_f 2 (by simp only [kc, h_9, h_17, h_25, h_41]; simp) (by decide) S rfl) (Nat.le_of_ble_eq_true rfl) (Nat.le_of_ble_eq_true rfl)
        · skip
          refine r_iload_n cx dX4_rule_44 rfl rfl ?_
          refine r_iconst (v := nI 0) cx dX4_rule_45 (by decide) ?_
          refine r_bipush (v := nI 9) cx dX4_rule_46 (by decide) ?_
          refine k_X4_82 cx (c_mIn l g _ x3 (nI 0) (nI 9)) dX4_rule_48 ⟨Nat.le_of_ble_eq_true rfl, Nat.le_of_ble_eq_true rfl⟩ ⟨Nat.le_of_ble_eq_true rfl, Nat.le_of_ble_eq_true rfl⟩ rfl rfl (Nat.le_of_ble_eq_true rfl) (fun r w hp => ?_)
          obtain ⟨rfl, rfl⟩ := hp
          rw [in_0 x3 9 (by decide)]
          refine r_ifeqb (tgt := 78) cx dX4_rule_51 (by decide) (fun h_51 => ?_) (fun h_51 => ?_)
          · skip
            refine r_aload_n cx dX4_rule_78 rfl rfl ?_
            refine r_iconst (v := nI 2) cx dX4_rule_79 (by decide) ?_
            refine k_X4_103 cx (c_mFails l g md wr _ N A B L S (nI 2)) dX4_rule_80 22 rfl ⟨Nat.le_of_ble_eq_true rfl, Nat.le_of_ble_eq_true rfl⟩ ⟨Nat.le_of_ble_eq_true rfl, Nat.le_of_ble_eq_true rfl⟩ rfl rfl (Nat.le_of_ble_eq_true rfl) (fun r w hp => ?_)
            obtain ⟨rfl, rfl⟩ := hp
            exact r_iret cx dX4_rule_83 hr (mP_f 2 (by simp [kc, h_9, h_17, h_25, h_51]) (by decide) S rfl) (Nat.le_of_ble_eq_true rfl) (Nat.le_of_ble_eq_true rfl)
          · skip
            refine r_iload cx dX4_rule_54 rfl ?_
            refine r_iconst (v := nI 0) cx dX4_rule_56 (by decide) ?_
            refine r_sipush (v := nI 300) cx dX4_rule_57 (by decide) ?_
            refine k_X4_82 cx (c_mIn l g _ x6 (nI 0) (nI 300)) dX4_rule_60 ⟨Nat.le_of_ble_eq_true rfl, Nat.le_of_ble_eq_true rfl⟩ ⟨Nat.le_of_ble_eq_true rfl, Nat.le_of_ble_eq_true rfl⟩ rfl rfl (Nat.le_of_ble_eq_true rfl) (fun r w hp => ?_)
            obtain ⟨rfl, rfl⟩ := hp
            rw [in_0 x6 300 (by decide)]
            refine r_ifeqb (tgt := 78) cx dX4_rule_63 (by decide) (fun h_63 => ?_) (fun h_63 => ?_)
            · skip
              refine r_aload_n cx dX4_rule_78 rfl rfl ?_
              refine r_iconst (v := nI 2) cx dX4_rule_79 (by decide) ?_
              refine k_X4_103 cx (c_mFails l g md wr _ N A B L S (nI 2)) dX4_rule_80 22 rfl ⟨Nat.le_of_ble_eq_true rfl, Nat.le_of_ble_eq_true rfl⟩ ⟨Nat.le_of_ble_eq_true rfl, Nat.le_of_ble_eq_true rfl⟩ rfl rfl (Nat.le_of_ble_eq_true rfl) (fun r w hp => ?_)
              obtain ⟨rfl, rfl⟩ := hp
              exact r_iret cx dX4_rule_83 hr (mP_f 2 (by simp [kc, h_9, h_17, h_25, h_63]) (by decide) S rfl) (Nat.le_of_ble_eq_true rfl) (Nat.le_of_ble_eq_true rfl)
            · skip
              refine r_iload_n cx dX4_rule_66 rfl rfl ?_
              refine r_iload_n cx dX4_rule_67 rfl rfl ?_
              refine r_icmpeq (tgt := 78) cx dX4_rule_68 (by decide) (fun h_68 => ?_) (fun h_68 => ?_)
              · skip
                refine r_aload_n cx dX4_rule_78 rfl rfl ?_
                refine r_iconst (v := nI 2) cx dX4_rule_79 (by decide) ?_
                refine k_X4_103 cx (c_mFails l g md wr _ N A B L S (nI 2)) dX4_rule_80 22 rfl ⟨Nat.le_of_ble_eq_true rfl, Nat.le_of_ble_eq_true rfl⟩ ⟨Nat.le_of_ble_eq_true rfl, Nat.le_of_ble_eq_true rfl⟩ rfl rfl (Nat.le_of_ble_eq_true rfl) (fun r w hp => ?_)
                obtain ⟨rfl, rfl⟩ := hp
                exact r_iret cx dX4_rule_83 hr (mP_f 2 (by simp [kc, h_9, h_17, h_25, h_68]) (by decide) S rfl) (Nat.le_of_ble_eq_true rfl) (Nat.le_of_ble_eq_true rfl)
              · skip
                refine r_iload cx dX4_rule_71 rfl ?_
                refine r_iload cx dX4_rule_73 rfl ?_
                refine r_icmpge (tgt := 84) cx dX4_rule_75 (by decide) (fun h_75 => ?_) (fun h_75 => ?_)
                · skip
                  refine r_aload_n cx dX4_rule_84 rfl rfl ?_
                  refine gf_X4_89 cx dX4_rule_85 22 rfl rfl ?_
                  refine r_bipush (v := nI 20) cx dX4_rule_88 (by decide) ?_
                  refine r_icmpneN (tgt := 99) cx (by omega) (by omega) dX4_rule_90 (by decide) (fun h_90 => ?_) (fun h_90 => ?_)
                  · skip
                    refine r_aload_n cx dX4_rule_99 rfl rfl ?_
                    refine gf_X4_35 cx dX4_rule_100 22 rfl rfl ?_
                    refine r_aload_n cx dX4_rule_103 rfl rfl ?_
                    refine gf_X4_89 cx dX4_rule_104 22 rfl rfl ?_
                    refine r_iload_n cx dX4_rule_107 rfl rfl ?_
                    first | refine r_iastN cx 13 0 dX4_rule_108 rfl rfl (by omega) (by omega) ?_ | refine r_iast cx 13 0 dX4_rule_108 rfl rfl (by omega) ?_
                    refine r_aload_n cx dX4_rule_109 rfl rfl ?_
                    refine gf_X4_38 cx dX4_rule_110 22 rfl rfl ?_
                    refine r_aload_n cx dX4_rule_113 rfl rfl ?_
                    refine gf_X4_89 cx dX4_rule_114 22 rfl rfl ?_
                    refine r_iload_n cx dX4_rule_117 rfl rfl ?_
                    first | refine r_iastN cx 12 0 dX4_rule_118 rfl rfl (by omega) (by omega) ?_ | refine r_iast cx 12 0 dX4_rule_118 rfl rfl (by omega) ?_
                    refine r_aload_n cx dX4_rule_119 rfl rfl ?_
                    refine gf_X4_41 cx dX4_rule_120 22 rfl rfl ?_
                    refine r_aload_n cx dX4_rule_123 rfl rfl ?_
                    refine gf_X4_89 cx dX4_rule_124 22 rfl rfl ?_
                    refine r_iload_n cx dX4_rule_127 rfl rfl ?_
                    first | refine r_iastN cx 11 0 dX4_rule_128 rfl rfl (by omega) (by omega) ?_ | refine r_iast cx 11 0 dX4_rule_128 rfl rfl (by omega) ?_
                    refine r_aload_n cx dX4_rule_129 rfl rfl ?_
                    refine gf_X4_44 cx dX4_rule_130 22 rfl rfl ?_
                    refine r_aload_n cx dX4_rule_133 rfl rfl ?_
                    refine gf_X4_89 cx dX4_rule_134 22 rfl rfl ?_
                    refine r_iload cx dX4_rule_137 rfl ?_
                    first | refine r_iastN cx 10 0 dX4_rule_139 rfl rfl (by omega) (by omega) ?_ | refine r_iast cx 10 0 dX4_rule_139 rfl rfl (by omega) ?_
                    refine r_aload_n cx dX4_rule_140 rfl rfl ?_
                    refine gf_X4_47 cx dX4_rule_141 22 rfl rfl ?_
                    refine r_aload_n cx dX4_rule_144 rfl rfl ?_
                    refine gf_X4_89 cx dX4_rule_145 22 rfl rfl ?_
                    refine r_iload cx dX4_rule_148 rfl ?_
                    first | refine r_iastN cx 9 0 dX4_rule_150 rfl rfl (by omega) (by omega) ?_ | refine r_iast cx 9 0 dX4_rule_150 rfl rfl (by omega) ?_
                    refine r_aload_n cx dX4_rule_151 rfl rfl ?_
                    refine gf_X4_50 cx dX4_rule_152 22 rfl rfl ?_
                    refine r_aload_n cx dX4_rule_155 rfl rfl ?_
                    refine gf_X4_89 cx dX4_rule_156 22 rfl rfl ?_
                    refine r_iload cx dX4_rule_159 rfl ?_
                    first | refine r_iastN cx 8 0 dX4_rule_161 rfl rfl (by omega) (by omega) ?_ | refine r_iast cx 8 0 dX4_rule_161 rfl rfl (by omega) ?_
                    refine r_aload_n cx dX4_rule_162 rfl rfl ?_
                    refine r_dup cx dX4_rule_163 rfl ?_
                    refine gf_X4_89 cx dX4_rule_164 22 rfl rfl ?_
                    refine r_iconst (v := nI 1) cx dX4_rule_167 (by decide) ?_
                    first | refine r_iaddN cx dX4_rule_168 ?_ | refine r_iadd cx dX4_rule_168 ?_
                    refine pf_X4_89 cx dX4_rule_169 22 rfl (Nat.le_of_ble_eq_true rfl) ?_
                    refine r_aload_n cx dX4_rule_172 rfl rfl ?_
                    refine gf_X4_89 cx dX4_rule_173 22 rfl rfl ?_
                    refine r_iconst (v := nI 1) cx dX4_rule_176 (by decide) ?_
                    first | refine r_isubN cx dX4_rule_177 (by omega) ?_ | refine r_isub cx dX4_rule_177 ?_
                    exact r_iret cx dX4_rule_178 hr (mP_t (by simp only [kc, h_9, h_17, h_25, h_41, h_51, h_63, decide_eq_false h_68, decide_eq_false (Int32.not_lt.mpr h_75), decide_eq_false h_90]; simp) (rfl) S rfl) (Nat.le_of_ble_eq_true rfl) (Nat.le_of_ble_eq_true rfl)
                  · skip
                    refine r_aload_n cx dX4_rule_93 rfl rfl ?_
                    refine r_iconst (v := nI 3) cx dX4_rule_94 (by decide) ?_
                    refine k_X4_103 cx (c_mFails l g md wr _ N A B L S (nI 3)) dX4_rule_95 22 rfl ⟨Nat.le_of_ble_eq_true rfl, Nat.le_of_ble_eq_true rfl⟩ ⟨Nat.le_of_ble_eq_true rfl, Nat.le_of_ble_eq_true rfl⟩ rfl rfl (Nat.le_of_ble_eq_true rfl) (fun r w hp => ?_)
                    obtain ⟨rfl, rfl⟩ := hp
                    exact r_iret cx dX4_rule_98 hr (mP_f 3 (by simp only [kc, h_9, h_17, h_25, h_41, h_51, h_63, decide_eq_false h_68, decide_eq_false (Int32.not_lt.mpr h_75), h_90]; simp) (by decide) S rfl) (Nat.le_of_ble_eq_true rfl) (Nat.le_of_ble_eq_true rfl)
                · skip
                  refine r_aload_n cx dX4_rule_78 rfl rfl ?_
                  refine r_iconst (v := nI 2) cx dX4_rule_79 (by decide) ?_
                  refine k_X4_103 cx (c_mFails l g md wr _ N A B L S (nI 2)) dX4_rule_80 22 rfl ⟨Nat.le_of_ble_eq_true rfl, Nat.le_of_ble_eq_true rfl⟩ ⟨Nat.le_of_ble_eq_true rfl, Nat.le_of_ble_eq_true rfl⟩ rfl rfl (Nat.le_of_ble_eq_true rfl) (fun r w hp => ?_)
                  obtain ⟨rfl, rfl⟩ := hp
                  exact r_iret cx dX4_rule_83 hr (mP_f 2 (by simp only [kc, h_9, h_17, h_25, h_51, h_63, decide_eq_true (Int32.not_le.mp h_75)]; simp) (by decide) S rfl) (Nat.le_of_ble_eq_true rfl) (Nat.le_of_ble_eq_true rfl)
      · skip
        refine r_aload_n cx dX4_rule_28 rfl rfl ?_
        refine r_iconst (v := nI 1) cx dX4_rule_29 (by decide) ?_
        refine k_X4_103 cx (c_mFails l g md wr _ N A B L S (nI 1)) dX4_rule_30 22 rfl ⟨Nat.le_of_ble_eq_true rfl, Nat.le_of_ble_eq_true rfl⟩ ⟨Nat.le_of_ble_eq_true rfl, Nat.le_of_ble_eq_true rfl⟩ rfl rfl (Nat.le_of_ble_eq_true rfl) (fun r w hp => ?_)
        obtain ⟨rfl, rfl⟩ := hp
        exact r_iret cx dX4_rule_33 hr (mP_f 1 (by simp [kc, h_25]) (by decide) S rfl) (Nat.le_of_ble_eq_true rfl) (Nat.le_of_ble_eq_true rfl)
set_option maxHeartbeats 4000000 in
set_option maxRecDepth 100000 in
theorem c_mRest (l : Launch) (g : q_G) (md : Nat → Nat) (wr : va_W) (t : Int32) (N : Nat → Nat) (A : Nat → Nat → Int32) (B : Nat → Nat → Bool) (L : Nat → Nat → Int64) (S : Nat → Nat → Int32) (hI : inv N A B L) (x1 : Int32) (x2 : Int32) : MetW l g yX4_rest cX4_rest 3 (some .int) ({ frames := 2, cells := 0, slots := 0, locals := 43 } : Room) [.ref (md 22), .int x1, .int x2] (mF g md t N A B L S ++ wr) (q_Qi g (fun r w => mP g md wr (kc (!(inR x1 (N 2) && inR x2 (N 1))) (B 1 (c32 x1) || B 0 (c32 x2) || hasB (L 0 (c32 x1)) (lN (2 ^ c32 x2))) false) (nI (bcL (L 0 (c32 x1) ||| lN (2 ^ c32 x2)))) N A B (va_up L 0 (vp_updL (L 0) (c32 x1) (L 0 (c32 x1) ||| lN (2 ^ c32 x2)))) N A B L r w)) := by
  refine q_met (own := RX4) (by decide +kernel) rfl (Nat.le_of_ble_eq_true rfl) (fun p e s m args below meth c cx hr hnm => ?_)
  obtain ⟨⟨i1, i2, i3, i4⟩, j2, j3, j4, j5, j6, j7, j8, j9, j10, j11⟩ := id hI
  refine r_lv (lv2 := [(0, .ref (md 22)), (1, .int x1), (2, .int x2)]) (q_pk [0, 1, 2] rfl) ?_
  refine r_aload_n cx dX4_rest_0 rfl rfl ?_
  refine r_iconst (v := nI 0) cx dX4_rest_1 (by decide) ?_
  refine pf_X4_78 cx dX4_rest_2 22 rfl (Nat.le_of_ble_eq_true rfl) ?_
  refine r_ws (ws2 := mF g md (nI 0) N A B L S ++ wr) rfl ?_
  refine r_aload_n cx dX4_rest_5 rfl rfl ?_
  refine r_iload_n cx dX4_rest_6 rfl rfl ?_
  refine k_X4_120 cx (c_mIr l g md wr _ N A B L S x1 (by omega)) dX4_rest_7 22 rfl ⟨Nat.le_of_ble_eq_true rfl, Nat.le_of_ble_eq_true rfl⟩ ⟨Nat.le_of_ble_eq_true rfl, Nat.le_of_ble_eq_true rfl⟩ rfl rfl (Nat.le_of_ble_eq_true rfl) (fun r w hp => ?_)
  obtain ⟨rfl, rfl⟩ := hp
  refine r_ifeqb (tgt := 21) cx dX4_rest_10 (by decide) (fun h_10 => ?_) (fun h_10 => ?_)
  · skip
    refine r_aload_n cx dX4_rest_21 rfl rfl ?_
    refine r_iconst (v := nI 1) cx dX4_rest_22 (by decide) ?_
    refine k_X4_103 cx (c_mFails l g md wr _ N A B L S (nI 1)) dX4_rest_23 22 rfl ⟨Nat.le_of_ble_eq_true rfl, Nat.le_of_ble_eq_true rfl⟩ ⟨Nat.le_of_ble_eq_true rfl, Nat.le_of_ble_eq_true rfl⟩ rfl rfl (Nat.le_of_ble_eq_true rfl) (fun r w hp => ?_)
    obtain ⟨rfl, rfl⟩ := hp
    exact r_iret cx dX4_rest_26 hr (mP_f 1 (by simp [kc, h_10]) (by decide) S rfl) (Nat.le_of_ble_eq_true rfl) (Nat.le_of_ble_eq_true rfl)
  · skip
    refine r_aload_n cx dX4_rest_13 rfl rfl ?_
    refine r_iload_n cx dX4_rest_14 rfl rfl ?_
    refine k_X4_117 cx (c_mIi l g md wr _ N A B L S x2 i2) dX4_rest_15 22 rfl ⟨Nat.le_of_ble_eq_true rfl, Nat.le_of_ble_eq_true rfl⟩ ⟨Nat.le_of_ble_eq_true rfl, Nat.le_of_ble_eq_true rfl⟩ rfl rfl (Nat.le_of_ble_eq_true rfl) (fun r w hp => ?_)
    obtain ⟨rfl, rfl⟩ := hp
    refine r_ifneb (tgt := 27) cx dX4_rest_18 (by decide) (fun h_18 => ?_) (fun h_18 => ?_)
    · skip
      obtain ⟨j, hj, rfl, hcj⟩ := inR_ix (x := x1) (n := N 2) (by simpa using h_10) (by omega)
      obtain ⟨i, hi, rfl, hci⟩ := inR_ix (x := x2) (n := N 1) (by simpa using h_18) (by omega)
      obtain ⟨G, hG, hGe⟩ := j9 j
      refine r_aload_n cx dX4_rest_27 rfl rfl ?_
      refine gf_X4_53 cx dX4_rest_28 22 rfl rfl ?_
      refine r_iload_n cx dX4_rest_31 rfl rfl ?_
      first | refine r_zaldN cx 7 2 dX4_rest_32 rfl rfl (by omega) (by omega) ?_ | refine r_zald cx 7 2 dX4_rest_32 rfl rfl (by omega) ?_
      refine r_ifneb (tgt := 60) cx dX4_rest_33 (by decide) (fun h_33 => ?_) (fun h_33 => ?_)
      · skip
        refine r_aload_n cx dX4_rest_60 rfl rfl ?_
        refine r_iconst (v := nI 2) cx dX4_rest_61 (by decide) ?_
        refine k_X4_103 cx (c_mFails l g md wr _ N A B L S (nI 2)) dX4_rest_62 22 rfl ⟨Nat.le_of_ble_eq_true rfl, Nat.le_of_ble_eq_true rfl⟩ ⟨Nat.le_of_ble_eq_true rfl, Nat.le_of_ble_eq_true rfl⟩ rfl rfl (Nat.le_of_ble_eq_true rfl) (fun r w hp => ?_)
        obtain ⟨rfl, rfl⟩ := hp
        exact r_iret cx dX4_rest_65 hr (mP_f 2 (by rw [hcj, hci]; simp [kc, h_10, h_18, h_33]) (by decide) S rfl) (Nat.le_of_ble_eq_true rfl) (Nat.le_of_ble_eq_true rfl)
      · skip
        refine r_aload_n cx dX4_rest_36 rfl rfl ?_
        refine gf_X4_28 cx dX4_rest_37 22 rfl rfl ?_
        refine r_iload_n cx dX4_rest_40 rfl rfl ?_
        first | refine r_zaldN cx 15 2 dX4_rest_41 rfl rfl (by omega) (by omega) ?_ | refine r_zald cx 15 2 dX4_rest_41 rfl rfl (by omega) ?_
        refine r_ifneb (tgt := 60) cx dX4_rest_42 (by decide) (fun h_42 => ?_) (fun h_42 => ?_)
        · skip
          refine r_aload_n cx dX4_rest_60 rfl rfl ?_
          refine r_iconst (v := nI 2) cx dX4_rest_61 (by decide) ?_
          refine k_X4_103 cx (c_mFails l g md wr _ N A B L S (nI 2)) dX4_rest_62 22 rfl ⟨Nat.le_of_ble_eq_true rfl, Nat.le_of_ble_eq_true rfl⟩ ⟨Nat.le_of_ble_eq_true rfl, Nat.le_of_ble_eq_true rfl⟩ rfl rfl (Nat.le_of_ble_eq_true rfl) (fun r w hp => ?_)
          obtain ⟨rfl, rfl⟩ := hp
          exact r_iret cx dX4_rest_65 hr (mP_f 2 (by rw [hcj, hci]; simp [kc, h_10, h_18, h_42]) (by decide) S rfl) (Nat.le_of_ble_eq_true rfl) (Nat.le_of_ble_eq_true rfl)
        · skip
          refine r_aload_n cx dX4_rest_45 rfl rfl ?_
          refine gf_X4_56 cx dX4_rest_46 22 rfl rfl ?_
          refine r_iload_n cx dX4_rest_49 rfl rfl ?_
          first | refine r_laldN cx 6 1 dX4_rest_50 rfl rfl (by omega) (by omega) ?_ | refine r_lald cx 6 1 dX4_rest_50 rfl rfl (by omega) ?_
          refine r_iload_n cx dX4_rest_51 rfl rfl ?_
          refine r_lshr (v := lN (G / 2 ^ i)) cx dX4_rest_52 (by rw [hGe]; exact s_sh (by omega) (by omega)) ?_
          refine r_lconst (v := 1) cx dX4_rest_53 rfl ?_
          refine r_land cx dX4_rest_54 ?_
          refine r_eql (lshr_b hG (by omega)) ?_
          refine r_lconst (v := 1) cx dX4_rest_55 rfl ?_
          refine r_lcmp cx dX4_rest_56 ?_
          refine r_ifne (tgt := 66) cx dX4_rest_57 (by decide) (fun h_57 => ?_) (fun h_57 => ?_)
          · skip
            have hb : G.testBit i = false := by
              cases hb : G.testBit i with
              | false => rfl
              | true => rw [hb] at h_57; exact absurd h_57 (by decide)
            refine r_aload_n cx dX4_rest_66 rfl rfl ?_
            refine gf_X4_56 cx dX4_rest_67 22 rfl rfl ?_
            refine r_iload_n cx dX4_rest_70 rfl rfl ?_
            refine r_dup2 cx dX4_rest_71 rfl rfl ?_
            first | refine r_laldN cx 6 1 dX4_rest_72 rfl rfl (by omega) (by omega) ?_ | refine r_lald cx 6 1 dX4_rest_72 rfl rfl (by omega) ?_
            refine r_lconst (v := 1) cx dX4_rest_73 rfl ?_
            refine r_iload_n cx dX4_rest_74 rfl rfl ?_
            refine r_lshl (v := lN (2 ^ i)) cx dX4_rest_75 (by rw [show (1 : Int64) = lN 1 from rfl, wb_shl 1 (by omega), Nat.one_mul]) ?_
            refine r_lor cx dX4_rest_76 ?_
            first | refine r_lastN cx 6 1 dX4_rest_77 rfl rfl (by omega) (by omega) ?_ | refine r_last cx 6 1 dX4_rest_77 rfl rfl (by omega) ?_
            refine r_aload_n cx dX4_rest_78 rfl rfl ?_
            refine gf_X4_56 cx dX4_rest_79 22 rfl rfl ?_
            refine r_iload_n cx dX4_rest_82 rfl rfl ?_
            first | refine r_laldN cx 6 1 dX4_rest_83 rfl rfl (by omega) (by omega) ?_ | refine r_lald cx 6 1 dX4_rest_83 rfl rfl (by omega) ?_
            refine r_eql (y := lN (G ||| 2 ^ i)) (by rw [← fb_orL, ← hGe]; exact pk_uLs) ?_
            refine k_X4_123 cx (c_mCnt l g _ _ (or_lt40 hG (p2_lt (by omega : i < 40)))) dX4_rest_84 ⟨Nat.le_of_ble_eq_true rfl, Nat.le_of_ble_eq_true rfl⟩ ⟨Nat.le_of_ble_eq_true rfl, Nat.le_of_ble_eq_true rfl⟩ rfl rfl (Nat.le_of_ble_eq_true rfl) (fun r w hp => ?_)
            obtain ⟨rfl, rfl⟩ := hp
            exact r_iret cx dX4_rest_87 hr (mP_t (by rw [hcj, hci, hGe, hasB_bit (by omega), hb]; simp [kc, h_10, h_18, h_33, h_42]) (by rw [hcj, hci, hGe, fb_orL, bcL_lN (or_lt40 hG (p2_lt (by omega)))]) S (by rw [hcj, hci]; rfl)) (Nat.le_of_ble_eq_true rfl) (Nat.le_of_ble_eq_true rfl)
          · skip
            have hb : G.testBit i = true := by
              cases hb : G.testBit i with
              | true => rfl
              | false => rw [hb] at h_57; exact absurd h_57 (by decide)
            refine r_aload_n cx dX4_rest_60 rfl rfl ?_
            refine r_iconst (v := nI 2) cx dX4_rest_61 (by decide) ?_
            refine k_X4_103 cx (c_mFails l g md wr _ N A B L S (nI 2)) dX4_rest_62 22 rfl ⟨Nat.le_of_ble_eq_true rfl, Nat.le_of_ble_eq_true rfl⟩ ⟨Nat.le_of_ble_eq_true rfl, Nat.le_of_ble_eq_true rfl⟩ rfl rfl (Nat.le_of_ble_eq_true rfl) (fun r w hp => ?_)
            obtain ⟨rfl, rfl⟩ := hp
            exact r_iret cx dX4_rest_65 hr (mP_f 2 (by rw [hcj, hci, hGe, hasB_bit (by omega), hb]; simp [kc, h_10, h_18]) (by decide) S rfl) (Nat.le_of_ble_eq_true rfl) (Nat.le_of_ble_eq_true rfl)
    · skip
      refine r_aload_n cx dX4_rest_21 rfl rfl ?_
      refine r_iconst (v := nI 1) cx dX4_rest_22 (by decide) ?_
      refine k_X4_103 cx (c_mFails l g md wr _ N A B L S (nI 1)) dX4_rest_23 22 rfl ⟨Nat.le_of_ble_eq_true rfl, Nat.le_of_ble_eq_true rfl⟩ ⟨Nat.le_of_ble_eq_true rfl, Nat.le_of_ble_eq_true rfl⟩ rfl rfl (Nat.le_of_ble_eq_true rfl) (fun r w hp => ?_)
      obtain ⟨rfl, rfl⟩ := hp
      exact r_iret cx dX4_rest_26 hr (mP_f 1 (by simp [kc, h_18]) (by decide) S rfl) (Nat.le_of_ble_eq_true rfl) (Nat.le_of_ble_eq_true rfl)
set_option maxHeartbeats 4000000 in
set_option maxRecDepth 100000 in
theorem c_mMost (l : Launch) (g : q_G) (md : Nat → Nat) (wr : va_W) (t : Int32) (N : Nat → Nat) (A : Nat → Nat → Int32) (B : Nat → Nat → Bool) (L : Nat → Nat → Int64) (S : Nat → Nat → Int32) (x1 x2 : Int32) (i2 : N 1 ≤ 40) : MetW l g yX4_most cX4_most 8 (some .int) ({ frames := 0, cells := 0, slots := 0, locals := 0 } : Room) [.ref (md 22), .int x1, .int x2] (mF g md t N A B L S ++ wr) (q_Qi g (fun r w => r = mst (hrS B) (fiS A) (N 1) x1 x2 ∧ w = mF g md t N A B L S ++ wr)) := by
  refine q_met (own := RX4) (by decide +kernel) rfl (Nat.le_of_ble_eq_true rfl) (fun p e s m args below meth c cx hr hnm => ?_)
  refine r_lv (lv2 := [(0, .ref (md 22)), (1, .int x1), (2, .int x2)]) (q_pk [0, 1, 2] rfl) ?_
  refine r_iconst (v := -1) cx dX4_most_0 (by decide) ?_
  refine r_istore_n cx dX4_most_1 rfl (by decide) rfl ?_
  refine r_iconst (v := nI 0) cx dX4_most_2 (by decide) ?_
  refine r_istore cx dX4_most_3 (by decide) rfl ?_
  refine r_iconst (v := nI 0) cx dX4_most_5 (by decide) ?_
  refine r_istore cx dX4_most_6 (by decide) rfl ?_
  refine at_loop (fun (x : Nat) => x ≤ N 1) (fun x => [(0, .ref (md 22)), (1, .int x1), (2, .int x2), (3, .int (mstF (hrS B) (fiS A) (N 1) x1 x2 x).1), (4, .int (nI (mstF (hrS B) (fiS A) (N 1) x1 x2 x).2)), (5, .int (nI x))]) (fun x => mF g md t N A B L S ++ wr) (fun x => N 1 - x) 0 (Nat.zero_le _) (q_pk [3, 4, 5, 2, 1, 0] rfl) rfl (fun i hx ih => ?_)
  try dsimp only at hx ⊢
  have hc := mstF_le (hrS B) (fiS A) (N 1) x1 x2 i
  refine r_iload cx dX4_most_8 rfl ?_
  refine r_aload_n cx dX4_most_10 rfl rfl ?_
  refine gf_X4_86 cx dX4_most_11 22 rfl rfl ?_
  refine r_icmpgeN (tgt := 187) cx (by omega) (by omega) dX4_most_14 (by decide) (fun h_14 => ?_) (fun h_14 => ?_)
  · skip
    obtain rfl : i = N 1 := by omega
    refine r_iload_n cx dX4_most_187 rfl rfl ?_
    exact r_iret cx dX4_most_188 hr (⟨rfl, rfl⟩) (Nat.le_of_ble_eq_true rfl) (Nat.le_of_ble_eq_true rfl)
  · skip
    refine r_iconst (v := nI 0) cx dX4_most_17 (by decide) ?_
    refine r_istore cx dX4_most_18 (by decide) rfl ?_
    refine r_iconst (v := nI 0) cx dX4_most_20 (by decide) ?_
    refine r_istore cx dX4_most_21 (by decide) rfl ?_
    refine at_loop (fun (x : Nat) => x ≤ N 1) (fun x => [(0, .ref (md 22)), (1, .int x1), (2, .int x2), (3, .int (mstF (hrS B) (fiS A) (N 1) x1 x2 i).1), (4, .int (nI (mstF (hrS B) (fiS A) (N 1) x1 x2 i).2)), (5, .int (nI i)), (6, .int (nI (cntF (hrS B) (fiS A) x1 x2 (A 5 i) x))), (7, .int (nI x))]) (fun x => mF g md t N A B L S ++ wr) (fun x => N 1 - x) 0 (Nat.zero_le _) (q_pk [2, 3, 4, 5, 6, 7, 1, 0] rfl) rfl (fun j hx1 ih_1 => ?_)
    try dsimp only at hx1 ⊢
    refine r_iload cx dX4_most_23 rfl ?_
    refine r_aload_n cx dX4_most_25 rfl rfl ?_
    refine gf_X4_86 cx dX4_most_26 22 rfl rfl ?_
    refine r_icmpgeN (tgt := 97) cx (by omega) (by omega) dX4_most_29 (by decide) (fun h_29 => ?_) (fun h_29 => ?_)
    · skip
      obtain rfl : j = N 1 := by omega
      have hc2 := cntF_le (hrS B) (fiS A) x1 x2 (A 5 i) (N 1)
      refine at_join (tgt := 136) (fun (z : Bool) => z = mtc (hrS B) (fiS A) x1 x2 i) (fun z => [(0, .ref (md 22)), (1, .int x1), (2, .int x2), (3, .int (mstF (hrS B) (fiS A) (N 1) x1 x2 i).1), (4, .int (nI (mstF (hrS B) (fiS A) (N 1) x1 x2 i).2)), (5, .int (nI i)), (6, .int (nI (cntF (hrS B) (fiS A) x1 x2 (A 5 i) (N 1)))), (7, .int (bI z))]) (fun z => []) (fun z => mF g md t N A B L S ++ wr) ?_ (fun J_136 => ?_)
      · intro z hz
        try dsimp only at hz ⊢
        refine r_iload cx dX4_most_136 rfl ?_
        refine r_ifeqb (tgt := 158) cx dX4_most_138 (by decide) (fun h_138 => ?_) (fun h_138 => ?_)
        · skip
          refine r_iload_n cx dX4_most_158 rfl rfl ?_
          refine r_istore_n cx dX4_most_159 rfl (by decide) rfl ?_
          refine r_iload cx dX4_most_160 rfl ?_
          refine r_ifeqb (tgt := 177) cx dX4_most_162 (by decide) (fun h_162 => ?_) (fun h_162 => ?_)
          · skip
            refine r_iload cx dX4_most_177 rfl ?_
            refine r_istore cx dX4_most_179 (by decide) rfl ?_
            refine r_iincN (j := 1) cx dX4_most_181 rfl rfl (by decide) rfl ?_
            refine r_goto (tgt := 8) cx dX4_most_184 (by decide) ?_
            have w9 := ih (i + 1) (by omega) (by omega)
            try dsimp only at w9
            rw [mstF_no (by rw [← hz, h_138]; rfl)] at w9
            exact r_lv (q_pk [3, 4, 5, 2, 1, 0] rfl) (w9)
          · exact absurd (h_138.symm.trans h_162) (by decide)
        · skip
          refine r_iload cx dX4_most_141 rfl ?_
          refine r_iload cx dX4_most_143 rfl ?_
          refine r_icmpleN (tgt := 158) cx (by omega) (by omega) dX4_most_145 (by decide) (fun h_145 => ?_) (fun h_145 => ?_)
          · skip
            refine r_iload_n cx dX4_most_158 rfl rfl ?_
            refine r_istore_n cx dX4_most_159 rfl (by decide) rfl ?_
            refine r_iload cx dX4_most_160 rfl ?_
            refine r_ifeqb (tgt := 177) cx dX4_most_162 (by decide) (fun h_162 => ?_) (fun h_162 => ?_)
            · exact absurd (h_138.symm.trans h_162) (by decide)
            · skip
              refine r_iload cx dX4_most_165 rfl ?_
              refine r_iload cx dX4_most_167 rfl ?_
              refine r_icmpleN (tgt := 177) cx (by omega) (by omega) dX4_most_169 (by decide) (fun h_169 => ?_) (fun h_169 => ?_)
              · skip
                refine r_iload cx dX4_most_177 rfl ?_
                refine r_istore cx dX4_most_179 (by decide) rfl ?_
                refine r_iincN (j := 1) cx dX4_most_181 rfl rfl (by decide) rfl ?_
                refine r_goto (tgt := 8) cx dX4_most_184 (by decide) ?_
                have w9 := ih (i + 1) (by omega) (by omega)
                try dsimp only at w9
                rw [mstF_no (by rw [decide_eq_false (show ¬ (mstF (hrS B) (fiS A) (N 1) x1 x2 i).2 < cntF (hrS B) (fiS A) x1 x2 (fiS A 4 i) (N 1) from fun w => by have w2 : (mstF (hrS B) (fiS A) (N 1) x1 x2 i).2 < cntF (hrS B) (fiS A) x1 x2 (A 5 i) (N 1) := w; omega), Bool.and_false])] at w9
                exact r_lv (q_pk [3, 4, 5, 2, 1, 0] rfl) (w9)
              · omega
          · skip
            refine r_aload_n cx dX4_most_148 rfl rfl ?_
            refine gf_X4_25 cx dX4_most_149 22 rfl rfl ?_
            refine r_iload cx dX4_most_152 rfl ?_
            first | refine r_ialdN cx 16 0 dX4_most_154 rfl rfl (by omega) (by omega) ?_ | refine r_iald cx 16 0 dX4_most_154 rfl rfl (by omega) ?_
            refine r_goto (tgt := 159) cx dX4_most_155 (by decide) ?_
            refine r_istore_n cx dX4_most_159 rfl (by decide) rfl ?_
            refine r_iload cx dX4_most_160 rfl ?_
            refine r_ifeqb (tgt := 177) cx dX4_most_162 (by decide) (fun h_162 => ?_) (fun h_162 => ?_)
            · exact absurd (h_138.symm.trans h_162) (by decide)
            · skip
              refine r_iload cx dX4_most_165 rfl ?_
              refine r_iload cx dX4_most_167 rfl ?_
              refine r_icmpleN (tgt := 177) cx (by omega) (by omega) dX4_most_169 (by decide) (fun h_169 => ?_) (fun h_169 => ?_)
              · omega
              · skip
                refine r_iload cx dX4_most_172 rfl ?_
                refine r_goto (tgt := 179) cx dX4_most_174 (by decide) ?_
                refine r_istore cx dX4_most_179 (by decide) rfl ?_
                refine r_iincN (j := 1) cx dX4_most_181 rfl rfl (by decide) rfl ?_
                refine r_goto (tgt := 8) cx dX4_most_184 (by decide) ?_
                have w9 := ih (i + 1) (by omega) (by omega)
                try dsimp only at w9
                rw [mstF_yes (by rw [← hz, h_138]; exact decide_eq_true (show (mstF (hrS B) (fiS A) (N 1) x1 x2 i).2 < cntF (hrS B) (fiS A) x1 x2 (A 5 i) (N 1) by omega))] at w9
                exact r_lv (q_pk [3, 4, 5, 2, 1, 0] rfl) (w9)
      · skip
        refine r_aload_n cx dX4_most_97 rfl rfl ?_
        refine gf_X4_28 cx dX4_most_98 22 rfl rfl ?_
        refine r_iload cx dX4_most_101 rfl ?_
        first | refine r_zaldN cx 15 2 dX4_most_103 rfl rfl (by omega) (by omega) ?_ | refine r_zald cx 15 2 dX4_most_103 rfl rfl (by omega) ?_
        refine r_ifneb (tgt := 133) cx dX4_most_104 (by decide) (fun h_104 => ?_) (fun h_104 => ?_)
        · skip
          refine r_iconst (v := nI 0) cx dX4_most_133 (by decide) ?_
          refine r_istore cx dX4_most_134 (by decide) rfl ?_
          exact r_lv (q_pk [1, 2, 3, 4, 5, 6, 7, 0] rfl) (J_136 false (by simp [mtc, hrS, h_104]))
        · skip
          refine r_aload_n cx dX4_most_107 rfl rfl ?_
          refine gf_X4_22 cx dX4_most_108 22 rfl rfl ?_
          refine r_iload cx dX4_most_111 rfl ?_
          first | refine r_ialdN cx 17 0 dX4_most_113 rfl rfl (by omega) (by omega) ?_ | refine r_iald cx 17 0 dX4_most_113 rfl rfl (by omega) ?_
          refine r_iload_n cx dX4_most_114 rfl rfl ?_
          refine r_icmpne (tgt := 133) cx dX4_most_115 (by decide) (fun h_115 => ?_) (fun h_115 => ?_)
          · skip
            refine r_iconst (v := nI 0) cx dX4_most_133 (by decide) ?_
            refine r_istore cx dX4_most_134 (by decide) rfl ?_
            exact r_lv (q_pk [1, 2, 3, 4, 5, 6, 7, 0] rfl) (J_136 false (by have h9 : ¬ fiS A 3 i = x1 := h_115; simp [mtc, h9]))
          · skip
            refine r_aload_n cx dX4_most_118 rfl rfl ?_
            refine gf_X4_16 cx dX4_most_119 22 rfl rfl ?_
            refine r_iload cx dX4_most_122 rfl ?_
            first | refine r_ialdN cx 19 0 dX4_most_124 rfl rfl (by omega) (by omega) ?_ | refine r_iald cx 19 0 dX4_most_124 rfl rfl (by omega) ?_
            refine r_iload_n cx dX4_most_125 rfl rfl ?_
            refine r_icmpne (tgt := 133) cx dX4_most_126 (by decide) (fun h_126 => ?_) (fun h_126 => ?_)
            · skip
              refine r_iconst (v := nI 0) cx dX4_most_133 (by decide) ?_
              refine r_istore cx dX4_most_134 (by decide) rfl ?_
              exact r_lv (q_pk [1, 2, 3, 4, 5, 6, 7, 0] rfl) (J_136 false (by have h9 : ¬ fiS A 1 i = x2 := h_126; simp [mtc, h9]))
            · skip
              refine r_iconst (v := nI 1) cx dX4_most_129 (by decide) ?_
              refine r_goto (tgt := 134) cx dX4_most_130 (by decide) ?_
              refine r_istore cx dX4_most_134 (by decide) rfl ?_
              exact r_lv (q_pk [1, 2, 3, 4, 5, 6, 7, 0] rfl) (J_136 true (by have h7 : fiS A 3 i = x1 := h_115; have h8 : fiS A 1 i = x2 := h_126; simp [mtc, hrS, h_104, h7, h8]))
    · skip
      refine r_iload cx dX4_most_32 rfl ?_
      refine r_aload_n cx dX4_most_34 rfl rfl ?_
      refine gf_X4_28 cx dX4_most_35 22 rfl rfl ?_
      refine r_iload cx dX4_most_38 rfl ?_
      first | refine r_zaldN cx 15 2 dX4_most_40 rfl rfl (by omega) (by omega) ?_ | refine r_zald cx 15 2 dX4_most_40 rfl rfl (by omega) ?_
      refine r_ifneb (tgt := 87) cx dX4_most_41 (by decide) (fun h_41 => ?_) (fun h_41 => ?_)
      · skip
        refine r_iconst (v := nI 0) cx dX4_most_87 (by decide) ?_
        first | refine r_iaddN cx dX4_most_88 ?_ | refine r_iadd cx dX4_most_88 ?_
        refine r_istore cx dX4_most_89 (by decide) rfl ?_
        refine r_iincN (j := 1) cx dX4_most_91 rfl rfl (by decide) rfl ?_
        refine r_goto (tgt := 23) cx dX4_most_94 (by decide) ?_
        have z := ih_1 (j + 1) (by omega) (by omega)
        try dsimp only at z
        rw [cntF_no (by simp [mtc, hrS, h_41])] at z
        exact r_lv (q_pk [2, 3, 4, 5, 6, 7, 1, 0] rfl) (z)
      · skip
        refine r_aload_n cx dX4_most_44 rfl rfl ?_
        refine gf_X4_22 cx dX4_most_45 22 rfl rfl ?_
        refine r_iload cx dX4_most_48 rfl ?_
        first | refine r_ialdN cx 17 0 dX4_most_50 rfl rfl (by omega) (by omega) ?_ | refine r_iald cx 17 0 dX4_most_50 rfl rfl (by omega) ?_
        refine r_iload_n cx dX4_most_51 rfl rfl ?_
        refine r_icmpne (tgt := 87) cx dX4_most_52 (by decide) (fun h_52 => ?_) (fun h_52 => ?_)
        · skip
          refine r_iconst (v := nI 0) cx dX4_most_87 (by decide) ?_
          first | refine r_iaddN cx dX4_most_88 ?_ | refine r_iadd cx dX4_most_88 ?_
          refine r_istore cx dX4_most_89 (by decide) rfl ?_
          refine r_iincN (j := 1) cx dX4_most_91 rfl rfl (by decide) rfl ?_
          refine r_goto (tgt := 23) cx dX4_most_94 (by decide) ?_
          have z := ih_1 (j + 1) (by omega) (by omega)
          try dsimp only at z
          rw [cntF_no (by have h9 : ¬ fiS A 3 j = x1 := h_52; simp [mtc, h9])] at z
          exact r_lv (q_pk [2, 3, 4, 5, 6, 7, 1, 0] rfl) (z)
        · skip
          refine r_aload_n cx dX4_most_55 rfl rfl ?_
          refine gf_X4_16 cx dX4_most_56 22 rfl rfl ?_
          refine r_iload cx dX4_most_59 rfl ?_
          first | refine r_ialdN cx 19 0 dX4_most_61 rfl rfl (by omega) (by omega) ?_ | refine r_iald cx 19 0 dX4_most_61 rfl rfl (by omega) ?_
          refine r_iload_n cx dX4_most_62 rfl rfl ?_
          refine r_icmpne (tgt := 87) cx dX4_most_63 (by decide) (fun h_63 => ?_) (fun h_63 => ?_)
          · skip
            refine r_iconst (v := nI 0) cx dX4_most_87 (by decide) ?_
            first | refine r_iaddN cx dX4_most_88 ?_ | refine r_iadd cx dX4_most_88 ?_
            refine r_istore cx dX4_most_89 (by decide) rfl ?_
            refine r_iincN (j := 1) cx dX4_most_91 rfl rfl (by decide) rfl ?_
            refine r_goto (tgt := 23) cx dX4_most_94 (by decide) ?_
            have z := ih_1 (j + 1) (by omega) (by omega)
            try dsimp only at z
            rw [cntF_no (by have h9 : ¬ fiS A 1 j = x2 := h_63; simp [mtc, h9])] at z
            exact r_lv (q_pk [2, 3, 4, 5, 6, 7, 1, 0] rfl) (z)
          · skip
            refine r_aload_n cx dX4_most_66 rfl rfl ?_
            refine gf_X4_25 cx dX4_most_67 22 rfl rfl ?_
            refine r_iload cx dX4_most_70 rfl ?_
            first | refine r_ialdN cx 16 0 dX4_most_72 rfl rfl (by omega) (by omega) ?_ | refine r_iald cx 16 0 dX4_most_72 rfl rfl (by omega) ?_
            refine r_aload_n cx dX4_most_73 rfl rfl ?_
            refine gf_X4_25 cx dX4_most_74 22 rfl rfl ?_
            refine r_iload cx dX4_most_77 rfl ?_
            first | refine r_ialdN cx 16 0 dX4_most_79 rfl rfl (by omega) (by omega) ?_ | refine r_iald cx 16 0 dX4_most_79 rfl rfl (by omega) ?_
            refine r_icmpne (tgt := 87) cx dX4_most_80 (by decide) (fun h_80 => ?_) (fun h_80 => ?_)
            · skip
              refine r_iconst (v := nI 0) cx dX4_most_87 (by decide) ?_
              first | refine r_iaddN cx dX4_most_88 ?_ | refine r_iadd cx dX4_most_88 ?_
              refine r_istore cx dX4_most_89 (by decide) rfl ?_
              refine r_iincN (j := 1) cx dX4_most_91 rfl rfl (by decide) rfl ?_
              refine r_goto (tgt := 23) cx dX4_most_94 (by decide) ?_
              have z := ih_1 (j + 1) (by omega) (by omega)
              try dsimp only at z
              rw [cntF_no (by have h9 : ¬ fiS A 4 j = A 5 i := h_80; simp [h9])] at z
              exact r_lv (q_pk [2, 3, 4, 5, 6, 7, 1, 0] rfl) (z)
            · skip
              refine r_iconst (v := nI 1) cx dX4_most_83 (by decide) ?_
              refine r_goto (tgt := 88) cx dX4_most_84 (by decide) ?_
              first | refine r_iaddN cx dX4_most_88 ?_ | refine r_iadd cx dX4_most_88 ?_
              refine r_istore cx dX4_most_89 (by decide) rfl ?_
              refine r_iincN (j := 1) cx dX4_most_91 rfl rfl (by decide) rfl ?_
              refine r_goto (tgt := 23) cx dX4_most_94 (by decide) ?_
              have z := ih_1 (j + 1) (by omega) (by omega)
              try dsimp only at z
              rw [cntF_yes (by have h7 : fiS A 3 j = x1 := h_52; have h8 : fiS A 1 j = x2 := h_63; have h9 : fiS A 4 j = A 5 i := h_80; simp [mtc, hrS, h_41, h7, h8, h9])] at z
              exact r_lv (q_pk [2, 3, 4, 5, 6, 7, 1, 0] rfl) (z)
