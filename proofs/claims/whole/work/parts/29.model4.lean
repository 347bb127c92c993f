set_option maxHeartbeats 4000000 in
set_option maxRecDepth 100000 in
theorem c_mDrawn (l : Launch) (g : q_G) (md : Nat → Nat) (wr : va_W) (t : Int32) (N : Nat → Nat) (A : Nat → Nat → Int32) (B : Nat → Nat → Bool) (L : Nat → Nat → Int64) (S : Nat → Nat → Int32) (x1 : Int32) (i2 : N 1 ≤ 40) : MetW l g yX4_drawn cX4_drawn 6 (some .int) ({ frames := 1, cells := 0, slots := 0, locals := 27 } : Room) [.ref (md 22), .int x1] (mF g md t N A B L S ++ wr) (q_Qi g (fun r w => r = drw (hrS B) (fiS A) (N 1) x1 ∧ w = mF g md t N A B L S ++ wr)) := by
  refine q_met (own := RX4) (by decide +kernel) rfl (Nat.le_of_ble_eq_true rfl) (fun p e s m args below meth c cx hr hnm => ?_)
  refine r_lv (lv2 := [(0, .ref (md 22)), (1, .int x1)]) (q_pk [0, 1] rfl) ?_
  refine r_iconst (v := 0) cx dX4_drawn_0 (by decide) ?_
  refine r_istore_n cx dX4_drawn_1 rfl (by decide) rfl ?_
  refine r_aload_n cx dX4_drawn_2 rfl rfl ?_
  refine r_iload_n cx dX4_drawn_3 rfl rfl ?_
  refine r_iconst (v := nI 0) cx dX4_drawn_4 (by decide) ?_
  refine k_X4_142 cx (c_mMost l g md wr _ N A B L S x1 (nI 0) i2) dX4_drawn_5 22 rfl ⟨Nat.le_of_ble_eq_true rfl, Nat.le_of_ble_eq_true rfl⟩ ⟨Nat.le_of_ble_eq_true rfl, Nat.le_of_ble_eq_true rfl⟩ rfl rfl (Nat.le_of_ble_eq_true rfl) (fun r w hp => ?_)
  obtain ⟨rfl, rfl⟩ := hp
  refine r_istore_n cx dX4_drawn_8 rfl (by decide) rfl ?_
  refine r_iconst (v := nI 0) cx dX4_drawn_9 (by decide) ?_
  refine r_istore cx dX4_drawn_10 (by decide) rfl ?_
  refine at_loop (fun (x : Nat) => x ≤ 9) (fun x => [(0, .ref (md 22)), (1, .int x1), (2, .int (drwF (fun k => mst (hrS B) (fiS A) (N 1) x1 (nI k)) x)), (3, .int ((fun k => mst (hrS B) (fiS A) (N 1) x1 (nI k)) x)), (4, .int (nI x))]) (fun x => mF g md t N A B L S ++ wr) (fun x => 9 - x) 0 (Nat.zero_le 9) (q_pk [3, 4, 2, 1, 0] rfl) rfl (fun i hx ih => ?_)
  try dsimp only at hx ⊢
  refine r_iload cx dX4_drawn_12 rfl ?_
  refine r_iconst (v := nI 1) cx dX4_drawn_14 (by decide) ?_
  first | refine r_iaddN cx dX4_drawn_15 ?_ | refine r_iadd cx dX4_drawn_15 ?_
  refine r_bipush (v := nI 10) cx dX4_drawn_16 (by decide) ?_
  refine r_icmpgeN (tgt := 69) cx (by omega) (by omega) dX4_drawn_18 (by decide) (fun h_18 => ?_) (fun h_18 => ?_)
  · skip
    obtain rfl : i = 9 := by omega
    refine r_iload_n cx dX4_drawn_69 rfl rfl ?_
    exact r_iret cx dX4_drawn_70 hr (⟨rfl, rfl⟩) (Nat.le_of_ble_eq_true rfl) (Nat.le_of_ble_eq_true rfl)
  · skip
    refine r_aload_n cx dX4_drawn_21 rfl rfl ?_
    refine r_iload_n cx dX4_drawn_22 rfl rfl ?_
    refine r_iload cx dX4_drawn_23 rfl ?_
    refine r_iconst (v := nI 1) cx dX4_drawn_25 (by decide) ?_
    first | refine r_iaddN cx dX4_drawn_26 ?_ | refine r_iadd cx dX4_drawn_26 ?_
    refine k_X4_142 cx (c_mMost l g md wr _ N A B L S x1 (nI (i + 1)) i2) dX4_drawn_27 22 rfl ⟨Nat.le_of_ble_eq_true rfl, Nat.le_of_ble_eq_true rfl⟩ ⟨Nat.le_of_ble_eq_true rfl, Nat.le_of_ble_eq_true rfl⟩ rfl rfl (Nat.le_of_ble_eq_true rfl) (fun r w hp => ?_)
    obtain ⟨rfl, rfl⟩ := hp
    refine r_istore cx dX4_drawn_30 (by decide) rfl ?_
    refine r_iload_n cx dX4_drawn_32 rfl rfl ?_
    refine r_iload_n cx dX4_drawn_33 rfl rfl ?_
    refine r_iconst (v := -1) cx dX4_drawn_34 (by decide) ?_
    refine r_icmpeq (tgt := 57) cx dX4_drawn_35 (by decide) (fun h_35 => ?_) (fun h_35 => ?_)
    · skip
      refine r_iconst (v := nI 0) cx dX4_drawn_57 (by decide) ?_
      refine r_ior cx dX4_drawn_58 ?_
      rw [or_z]
      refine r_istore_n cx dX4_drawn_59 rfl (by decide) rfl ?_
      refine r_iload cx dX4_drawn_60 rfl ?_
      refine r_istore_n cx dX4_drawn_62 rfl (by decide) rfl ?_
      refine r_iincN (j := 1) cx dX4_drawn_63 rfl rfl (by decide) rfl ?_
      refine r_goto (tgt := 12) cx dX4_drawn_66 (by decide) ?_
      have z := ih (i + 1) (by omega) (by omega)
      try dsimp only at z
      rw [drwF_no (ms := (fun k => mst (hrS B) (fiS A) (N 1) x1 (nI k))) (by simp [lnc, h_35])] at z
      exact r_lv (q_pk [4, 5, 2, 1, 0] rfl) (z)
    · skip
      refine r_iload cx dX4_drawn_38 rfl ?_
      refine r_iconst (v := -1) cx dX4_drawn_40 (by decide) ?_
      refine r_icmpeq (tgt := 57) cx dX4_drawn_41 (by decide) (fun h_41 => ?_) (fun h_41 => ?_)
      · skip
        refine r_iconst (v := nI 0) cx dX4_drawn_57 (by decide) ?_
        refine r_ior cx dX4_drawn_58 ?_
        rw [or_z]
        refine r_istore_n cx dX4_drawn_59 rfl (by decide) rfl ?_
        refine r_iload cx dX4_drawn_60 rfl ?_
        refine r_istore_n cx dX4_drawn_62 rfl (by decide) rfl ?_
        refine r_iincN (j := 1) cx dX4_drawn_63 rfl rfl (by decide) rfl ?_
        refine r_goto (tgt := 12) cx dX4_drawn_66 (by decide) ?_
        have z := ih (i + 1) (by omega) (by omega)
        try dsimp only at z
        rw [drwF_no (ms := (fun k => mst (hrS B) (fiS A) (N 1) x1 (nI k))) (by simp [lnc, h_41])] at z
        exact r_lv (q_pk [4, 5, 2, 1, 0] rfl) (z)
      · skip
        refine r_iload_n cx dX4_drawn_44 rfl rfl ?_
        refine r_iload cx dX4_drawn_45 rfl ?_
        refine r_icmpeq (tgt := 57) cx dX4_drawn_47 (by decide) (fun h_47 => ?_) (fun h_47 => ?_)
        · skip
          refine r_iconst (v := nI 0) cx dX4_drawn_57 (by decide) ?_
          refine r_ior cx dX4_drawn_58 ?_
          rw [or_z]
          refine r_istore_n cx dX4_drawn_59 rfl (by decide) rfl ?_
          refine r_iload cx dX4_drawn_60 rfl ?_
          refine r_istore_n cx dX4_drawn_62 rfl (by decide) rfl ?_
          refine r_iincN (j := 1) cx dX4_drawn_63 rfl rfl (by decide) rfl ?_
          refine r_goto (tgt := 12) cx dX4_drawn_66 (by decide) ?_
          have z := ih (i + 1) (by omega) (by omega)
          try dsimp only at z
          rw [drwF_no (ms := (fun k => mst (hrS B) (fiS A) (N 1) x1 (nI k))) (by simp [lnc, h_47])] at z
          exact r_lv (q_pk [4, 5, 2, 1, 0] rfl) (z)
        · skip
          refine r_iconst (v := nI 1) cx dX4_drawn_50 (by decide) ?_
          refine r_iload cx dX4_drawn_51 rfl ?_
          refine r_ishl cx dX4_drawn_53 ?_
          refine r_goto (tgt := 58) cx dX4_drawn_54 (by decide) ?_
          refine r_ior cx dX4_drawn_58 ?_
          refine r_istore_n cx dX4_drawn_59 rfl (by decide) rfl ?_
          refine r_iload cx dX4_drawn_60 rfl ?_
          refine r_istore_n cx dX4_drawn_62 rfl (by decide) rfl ?_
          refine r_iincN (j := 1) cx dX4_drawn_63 rfl rfl (by decide) rfl ?_
          refine r_goto (tgt := 12) cx dX4_drawn_66 (by decide) ?_
          have z := ih (i + 1) (by omega) (by omega)
          try dsimp only at z
          rw [drwF_yes (ms := (fun k => mst (hrS B) (fiS A) (N 1) x1 (nI k))) (by simp [lnc, h_35, h_41, h_47])] at z
          exact r_lv (q_pk [4, 5, 2, 1, 0] rfl) (z)
set_option maxHeartbeats 4000000 in
set_option maxRecDepth 100000 in
theorem c_mFormAt (l : Launch) (g : q_G) (md : Nat → Nat) (wr : va_W) (t : Int32) (N : Nat → Nat) (A : Nat → Nat → Int32) (B : Nat → Nat → Bool) (L : Nat → Nat → Int64) (S : Nat → Nat → Int32) (hI : inv N A B L) (x1 : Int32) (x2 : Int32) : MetW l g yX4_formAt cX4_formAt 3 (some .int) ({ frames := 2, cells := 0, slots := 0, locals := 42 } : Room) [.ref (md 22), .int x1, .int x2] (mF g md t N A B L S ++ wr) (q_Qi g (fun r w => mP g md wr (kc (!(inR x1 4 && inR x2 10)) false false) (mst (hrS B) (fiS A) (N 1) x1 x2) N A B L N A B L r w)) := by
  refine q_met (own := RX4) (by decide +kernel) rfl (Nat.le_of_ble_eq_true rfl) (fun p e s m args below meth c cx hr hnm => ?_)
  obtain ⟨⟨i1, i2, i3, i4⟩, j2, j3, j4, j5, j6, j7, j8, j9, j10, j11⟩ := id hI
  refine r_lv (lv2 := [(0, .ref (md 22)), (1, .int x1), (2, .int x2)]) (q_pk [0, 1, 2] rfl) ?_
  refine r_aload_n cx dX4_formAt_0 rfl rfl ?_
  refine r_iconst (v := nI 0) cx dX4_formAt_1 (by decide) ?_
  refine pf_X4_78 cx dX4_formAt_2 22 rfl (Nat.le_of_ble_eq_true rfl) ?_
  refine r_ws (ws2 := mF g md (nI 0) N A B L S ++ wr) rfl ?_
  refine r_iload_n cx dX4_formAt_5 rfl rfl ?_
  refine k_X4_110 cx (c_mWo l g _ x1) dX4_formAt_6 ⟨Nat.le_of_ble_eq_true rfl, Nat.le_of_ble_eq_true rfl⟩ ⟨Nat.le_of_ble_eq_true rfl, Nat.le_of_ble_eq_true rfl⟩ rfl rfl (Nat.le_of_ble_eq_true rfl) (fun r w hp => ?_)
  obtain ⟨rfl, rfl⟩ := hp
  refine r_ifeqb (tgt := 28) cx dX4_formAt_9 (by decide) (fun h_9 => ?_) (fun h_9 => ?_)
  · skip
    refine r_aload_n cx dX4_formAt_28 rfl rfl ?_
    refine r_iconst (v := nI 1) cx dX4_formAt_29 (by decide) ?_
    refine k_X4_103 cx (c_mFails l g md wr _ N A B L S (nI 1)) dX4_formAt_30 22 rfl ⟨Nat.le_of_ble_eq_true rfl, Nat.le_of_ble_eq_true rfl⟩ ⟨Nat.le_of_ble_eq_true rfl, Nat.le_of_ble_eq_true rfl⟩ rfl rfl (Nat.le_of_ble_eq_true rfl) (fun r w hp => ?_)
    obtain ⟨rfl, rfl⟩ := hp
    exact r_iret cx dX4_formAt_33 hr (mP_f 1 (by simp [kc, h_9]) (by decide) S rfl) (Nat.le_of_ble_eq_true rfl) (Nat.le_of_ble_eq_true rfl)
  · skip
    refine r_iload_n cx dX4_formAt_12 rfl rfl ?_
    refine k_X4_107 cx (c_mPl l g _ x2) dX4_formAt_13 ⟨Nat.le_of_ble_eq_true rfl, Nat.le_of_ble_eq_true rfl⟩ ⟨Nat.le_of_ble_eq_true rfl, Nat.le_of_ble_eq_true rfl⟩ rfl rfl (Nat.le_of_ble_eq_true rfl) (fun r w hp => ?_)
    obtain ⟨rfl, rfl⟩ := hp
    refine r_ifeqb (tgt := 28) cx dX4_formAt_16 (by decide) (fun h_16 => ?_) (fun h_16 => ?_)
    · skip
      refine r_aload_n cx dX4_formAt_28 rfl rfl ?_
      refine r_iconst (v := nI 1) cx dX4_formAt_29 (by decide) ?_
      refine k_X4_103 cx (c_mFails l g md wr _ N A B L S (nI 1)) dX4_formAt_30 22 rfl ⟨Nat.le_of_ble_eq_true rfl, Nat.le_of_ble_eq_true rfl⟩ ⟨Nat.le_of_ble_eq_true rfl, Nat.le_of_ble_eq_true rfl⟩ rfl rfl (Nat.le_of_ble_eq_true rfl) (fun r w hp => ?_)
      obtain ⟨rfl, rfl⟩ := hp
      exact r_iret cx dX4_formAt_33 hr (mP_f 1 (by simp [kc, h_16]) (by decide) S rfl) (Nat.le_of_ble_eq_true rfl) (Nat.le_of_ble_eq_true rfl)
    · skip
      refine r_aload_n cx dX4_formAt_19 rfl rfl ?_
      refine r_iload_n cx dX4_formAt_20 rfl rfl ?_
      refine r_iload_n cx dX4_formAt_21 rfl rfl ?_
      refine k_X4_142 cx (c_mMost l g md wr _ N A B L S x1 x2 i2) dX4_formAt_22 22 rfl ⟨Nat.le_of_ble_eq_true rfl, Nat.le_of_ble_eq_true rfl⟩ ⟨Nat.le_of_ble_eq_true rfl, Nat.le_of_ble_eq_true rfl⟩ rfl rfl (Nat.le_of_ble_eq_true rfl) (fun r w hp => ?_)
      obtain ⟨rfl, rfl⟩ := hp
      refine r_goto (tgt := 33) cx dX4_formAt_25 (by decide) ?_
      exact r_iret cx dX4_formAt_33 hr (mP_t (by simp [kc, h_9, h_16]) (rfl) S rfl) (Nat.le_of_ble_eq_true rfl) (Nat.le_of_ble_eq_true rfl)
set_option maxHeartbeats 4000000 in
set_option maxRecDepth 100000 in
theorem c_mLines (l : Launch) (g : q_G) (md : Nat → Nat) (wr : va_W) (t : Int32) (N : Nat → Nat) (A : Nat → Nat → Int32) (B : Nat → Nat → Bool) (L : Nat → Nat → Int64) (S : Nat → Nat → Int32) (hI : inv N A B L) (x1 : Int32) : MetW l g yX4_lines cX4_lines 2 (some .int) ({ frames := 2, cells := 0, slots := 0, locals := 52 } : Room) [.ref (md 22), .int x1] (mF g md t N A B L S ++ wr) (q_Qi g (fun r w => mP g md wr (kc (!inR x1 4) false false) (drw (hrS B) (fiS A) (N 1) x1) N A B L N A B L r w)) := by
  refine q_met (own := RX4) (by decide +kernel) rfl (Nat.le_of_ble_eq_true rfl) (fun p e s m args below meth c cx hr hnm => ?_)
  obtain ⟨⟨i1, i2, i3, i4⟩, j2, j3, j4, j5, j6, j7, j8, j9, j10, j11⟩ := id hI
  refine r_lv (lv2 := [(0, .ref (md 22)), (1, .int x1)]) (q_pk [0, 1] rfl) ?_
  refine r_aload_n cx dX4_lines_0 rfl rfl ?_
  refine r_iconst (v := nI 0) cx dX4_lines_1 (by decide) ?_
  refine pf_X4_78 cx dX4_lines_2 22 rfl (Nat.le_of_ble_eq_true rfl) ?_
  refine r_ws (ws2 := mF g md (nI 0) N A B L S ++ wr) rfl ?_
  refine r_iload_n cx dX4_lines_5 rfl rfl ?_
  refine k_X4_110 cx (c_mWo l g _ x1) dX4_lines_6 ⟨Nat.le_of_ble_eq_true rfl, Nat.le_of_ble_eq_true rfl⟩ ⟨Nat.le_of_ble_eq_true rfl, Nat.le_of_ble_eq_true rfl⟩ rfl rfl (Nat.le_of_ble_eq_true rfl) (fun r w hp => ?_)
  obtain ⟨rfl, rfl⟩ := hp
  refine r_ifeqb (tgt := 20) cx dX4_lines_9 (by decide) (fun h_9 => ?_) (fun h_9 => ?_)
  · skip
    refine r_aload_n cx dX4_lines_20 rfl rfl ?_
    refine r_iconst (v := nI 1) cx dX4_lines_21 (by decide) ?_
    refine k_X4_103 cx (c_mFails l g md wr _ N A B L S (nI 1)) dX4_lines_22 22 rfl ⟨Nat.le_of_ble_eq_true rfl, Nat.le_of_ble_eq_true rfl⟩ ⟨Nat.le_of_ble_eq_true rfl, Nat.le_of_ble_eq_true rfl⟩ rfl rfl (Nat.le_of_ble_eq_true rfl) (fun r w hp => ?_)
    obtain ⟨rfl, rfl⟩ := hp
    exact r_iret cx dX4_lines_25 hr (mP_f 1 (by simp [kc, h_9]) (by decide) S rfl) (Nat.le_of_ble_eq_true rfl) (Nat.le_of_ble_eq_true rfl)
  · skip
    refine r_aload_n cx dX4_lines_12 rfl rfl ?_
    refine r_iload_n cx dX4_lines_13 rfl rfl ?_
    refine k_X4_145 cx (c_mDrawn l g md wr _ N A B L S x1 i2) dX4_lines_14 22 rfl ⟨Nat.le_of_ble_eq_true rfl, Nat.le_of_ble_eq_true rfl⟩ ⟨Nat.le_of_ble_eq_true rfl, Nat.le_of_ble_eq_true rfl⟩ rfl rfl (Nat.le_of_ble_eq_true rfl) (fun r w hp => ?_)
    obtain ⟨rfl, rfl⟩ := hp
    refine r_goto (tgt := 25) cx dX4_lines_17 (by decide) ?_
    exact r_iret cx dX4_lines_25 hr (mP_t (by simp [kc, h_9]) (rfl) S rfl) (Nat.le_of_ble_eq_true rfl) (Nat.le_of_ble_eq_true rfl)
set_option maxHeartbeats 4000000 in
set_option maxRecDepth 100000 in
theorem c_mLinesBy (l : Launch) (g : q_G) (md : Nat → Nat) (wr : va_W) (t : Int32) (N : Nat → Nat) (A : Nat → Nat → Int32) (B : Nat → Nat → Bool) (L : Nat → Nat → Int64) (S : Nat → Nat → Int32) (hI : inv N A B L) (x1 : Int32) : MetW l g yX4_linesByForms cX4_linesByForms 2 (some .int) ({ frames := 2, cells := 0, slots := 0, locals := 52 } : Room) [.ref (md 22), .int x1] (mF g md t N A B L S ++ wr) (q_Qi g (fun r w => mP g md wr (kc (!inR x1 4) false false) (drw (hrS B) (fiS A) (N 1) x1) N A B L N A B L r w)) := by
  refine q_met (own := RX4) (by decide +kernel) rfl (Nat.le_of_ble_eq_true rfl) (fun p e s m args below meth c cx hr hnm => ?_)
  obtain ⟨⟨i1, i2, i3, i4⟩, j2, j3, j4, j5, j6, j7, j8, j9, j10, j11⟩ := id hI
  refine r_lv (lv2 := [(0, .ref (md 22)), (1, .int x1)]) (q_pk [0, 1] rfl) ?_
  refine r_aload_n cx dX4_linesByForms_0 rfl rfl ?_
  refine r_iconst (v := nI 0) cx dX4_linesByForms_1 (by decide) ?_
  refine pf_X4_78 cx dX4_linesByForms_2 22 rfl (Nat.le_of_ble_eq_true rfl) ?_
  refine r_ws (ws2 := mF g md (nI 0) N A B L S ++ wr) rfl ?_
  refine r_iload_n cx dX4_linesByForms_5 rfl rfl ?_
  refine k_X4_110 cx (c_mWo l g _ x1) dX4_linesByForms_6 ⟨Nat.le_of_ble_eq_true rfl, Nat.le_of_ble_eq_true rfl⟩ ⟨Nat.le_of_ble_eq_true rfl, Nat.le_of_ble_eq_true rfl⟩ rfl rfl (Nat.le_of_ble_eq_true rfl) (fun r w hp => ?_)
  obtain ⟨rfl, rfl⟩ := hp
  refine r_ifeqb (tgt := 20) cx dX4_linesByForms_9 (by decide) (fun h_9 => ?_) (fun h_9 => ?_)
  · skip
    refine r_aload_n cx dX4_linesByForms_20 rfl rfl ?_
    refine r_iconst (v := nI 1) cx dX4_linesByForms_21 (by decide) ?_
    refine k_X4_103 cx (c_mFails l g md wr _ N A B L S (nI 1)) dX4_linesByForms_22 22 rfl ⟨Nat.le_of_ble_eq_true rfl, Nat.le_of_ble_eq_true rfl⟩ ⟨Nat.le_of_ble_eq_true rfl, Nat.le_of_ble_eq_true rfl⟩ rfl rfl (Nat.le_of_ble_eq_true rfl) (fun r w hp => ?_)
    obtain ⟨rfl, rfl⟩ := hp
    exact r_iret cx dX4_linesByForms_25 hr (mP_f 1 (by simp [kc, h_9]) (by decide) S rfl) (Nat.le_of_ble_eq_true rfl) (Nat.le_of_ble_eq_true rfl)
  · skip
    refine r_aload_n cx dX4_linesByForms_12 rfl rfl ?_
    refine r_iload_n cx dX4_linesByForms_13 rfl rfl ?_
    refine k_X4_145 cx (c_mDrawn l g md wr _ N A B L S x1 i2) dX4_linesByForms_14 22 rfl ⟨Nat.le_of_ble_eq_true rfl, Nat.le_of_ble_eq_true rfl⟩ ⟨Nat.le_of_ble_eq_true rfl, Nat.le_of_ble_eq_true rfl⟩ rfl rfl (Nat.le_of_ble_eq_true rfl) (fun r w hp => ?_)
    obtain ⟨rfl, rfl⟩ := hp
    refine r_goto (tgt := 25) cx dX4_linesByForms_17 (by decide) ?_
    exact r_iret cx dX4_linesByForms_25 hr (mP_t (by simp [kc, h_9]) (rfl) S rfl) (Nat.le_of_ble_eq_true rfl) (Nat.le_of_ble_eq_true rfl)
theorem upB (f : Nat → Bool) (i : Nat) (b : Bool) : upd (fun k => bI (f k)) i (bI b) = fun k => bI (va_up f i b k) := by
  funext k
  unfold upd va_up
  split <;> rfl
theorem fg_mod {go : Nat → Bool} {inf : Nat → Int32} {who : Int32} {n i : Nat} (hi : i < n) : fgS go inf who n / 2 ^ i % 2 = if (!go i && decide (inf i = who)) then 1 else 0 := by
  have h := fgS_bit go inf who n i
  rw [Nat.testBit_eq_decide_div_mod_eq, decide_eq_true hi, Bool.true_and] at h
  rw [← h]
  rcases Nat.mod_two_eq_zero_or_one (fgS go inf who n / 2 ^ i) with z | z <;> rw [z] <;> rfl
theorem bcS_top {M : Nat} : ∀ {k n : Nat}, n ≤ k → (∀ i, n ≤ i → M.testBit i = false) → bcS M k = bcS M n
  | 0, n, h, _ => by rw [Nat.le_zero.mp h]
  | k + 1, n, h, hb => by
    by_cases e : n = k + 1
    · rw [e]
    · have h2 := hb k (by omega)
      rw [Nat.testBit_eq_decide_div_mod_eq] at h2
      have h3 : M / 2 ^ k % 2 = 0 := by have := of_decide_eq_false h2; omega
      rw [bcS, h3, bcS_top (by omega) hb]
      rfl
theorem bc_fg {go : Nat → Bool} {inf : Nat → Int32} {who : Int32} {n : Nat} (hn : n ≤ 40) : bcL (lN (fgS go inf who n)) = bcS (fgS go inf who n) n := by
  rw [bcL_lN (fgS_lt hn), bc]
  exact bcS_top hn (fun i hi => by rw [fgS_bit, decide_eq_false (by omega)]; rfl)
theorem goN_0 (go : Nat → Bool) (inf : Nat → Int32) (who : Int32) : goN 0 go inf who = go := by
  funext i
  simp [goN]
theorem goN_s (go : Nat → Bool) (inf : Nat → Int32) (who : Int32) (i : Nat) : va_up (goN i go inf who) i (go i || decide (inf i = who)) = goN (i + 1) go inf who := by
  funext k
  by_cases h : k = i
  · subst h
    rw [va_up_self, goN, decide_eq_true (show k < k + 1 by omega)]
    rfl
  · rw [va_up_ne _ _ h, goN, goN]
    by_cases h2 : k < i
    · rw [decide_eq_true h2, decide_eq_true (show k < i + 1 by omega)]
    · rw [decide_eq_false h2, decide_eq_false (show ¬ k < i + 1 by omega)]
def grP (n : Nat) (L0 : Nat → Int64) (F : Nat) : Nat → Int64 := fun r => if r < n then grN L0 F r else L0 r
def faP (n : Nat) (L0 : Nat → Int64) (fa : Nat → Bool) (F : Nat) : Nat → Bool := fun r => if r < n then faN L0 fa F r else fa r
theorem grP_0 (L0 : Nat → Int64) (F : Nat) : grP 0 L0 F = L0 := by
  funext k
  exact if_neg (Nat.not_lt_zero k)
theorem faP_0 (L0 : Nat → Int64) (fa : Nat → Bool) (F : Nat) : faP 0 L0 fa F = fa := by
  funext k
  exact if_neg (Nat.not_lt_zero k)
theorem goN_at (go : Nat → Bool) (inf : Nat → Int32) (who : Int32) (i : Nat) : goN i go inf who i = go i := by
  rw [goN, decide_eq_false (Nat.lt_irrefl i)]
  exact Bool.or_false _
theorem grP_at (L0 : Nat → Int64) (F i : Nat) : grP i L0 F i = L0 i := if_neg (Nat.lt_irrefl i)
theorem faP_at (L0 : Nat → Int64) (fa : Nat → Bool) (F i : Nat) : faP i L0 fa F i = fa i := if_neg (Nat.lt_irrefl i)
theorem grP_s (L0 : Nat → Int64) (F i : Nat) : vp_updL (grP i L0 F) i (grN L0 F i) = grP (i + 1) L0 F := by
  funext k
  by_cases h : k = i
  · subst h
    rw [pk_uLs, grP, if_pos (by omega)]
  · rw [pk_uLn h, grP, grP]
    by_cases h2 : k < i
    · rw [if_pos h2, if_pos (by omega)]
    · rw [if_neg h2, if_neg (by omega)]
theorem faP_s (L0 : Nat → Int64) (fa : Nat → Bool) (F i : Nat) : va_up (faP i L0 fa F) i (faN L0 fa F i) = faP (i + 1) L0 fa F := by
  funext k
  by_cases h : k = i
  · subst h
    rw [va_up_self, faP, if_pos (by omega)]
  · rw [va_up_ne _ _ h, faP, faP]
    by_cases h2 : k < i
    · rw [if_pos h2, if_pos (by omega)]
    · rw [if_neg h2, if_neg (by omega)]
theorem grP_end {n : Nat} {L0 : Nat → Int64} {F : Nat} (h : ∀ r, n ≤ r → L0 r = 0) : grP n L0 F = grN L0 F := by
  funext k
  by_cases h2 : k < n
  · exact if_pos h2
  · rw [grP, if_neg h2, grN, h k (by omega)]
    exact Int64.zero_and.symm
theorem faP_end {n : Nat} {L0 : Nat → Int64} {fa : Nat → Bool} {F : Nat} (h : ∀ r, n ≤ r → L0 r = 0 ∧ fa r = false) : faP n L0 fa F = faN L0 fa F := by
  funext k
  by_cases h2 : k < n
  · exact if_pos h2
  · obtain ⟨h3, h4⟩ := h k (by omega)
    rw [faP, if_neg h2, faN, h3, h4]
    rfl
section MFX
variable {g : q_G} {md : Nat → Nat} {wr : va_W} {t : Int32} {N : Nat → Nat} {A : Nat → Nat → Int32} {B : Nat → Nat → Bool} {L : Nat → Nat → Int64} {S : Nat → Nat → Int32}
theorem mF_B0 {B2 : Nat → Nat → Bool} {f2 : Nat → Int32} (hf : f2 = fun k => bI (B2 0 k)) (h1 : B2 1 = B 1) : (mF g md t N A B L S ++ wr).set 15 (md 6, .inl (q_cZ g, 40, .inl f2)) = mF g md t N A B2 L S ++ wr := by
  subst hf
  simp only [mF, h1]
  rfl
theorem mF_B1 {B2 : Nat → Nat → Bool} {f2 : Nat → Int32} (hf : f2 = fun k => bI (B2 1 k)) (h1 : B2 0 = B 0) : (mF g md t N A B L S ++ wr).set 7 (md 14, .inl (q_cZ g, 20, .inl f2)) = mF g md t N A B2 L S ++ wr := by
  subst hf
  simp only [mF, h1]
  rfl
theorem mF_L0 {L2 : Nat → Nat → Int64} {f2 : Nat → Int64} (hf : f2 = L2 0) (h1 : L2 1 = L 1) : (mF g md t N A B L S ++ wr).set 6 (md 15, .inl (q_cJ g, 20, .inr (.inl f2))) = mF g md t N A B L2 S ++ wr := by
  subst hf
  simp only [mF, h1]
  rfl
end MFX
set_option maxHeartbeats 4000000 in
set_option maxRecDepth 100000 in
theorem c_mForget (l : Launch) (g : q_G) (md : Nat → Nat) (wr : va_W) (t : Int32) (N : Nat → Nat) (A : Nat → Nat → Int32) (B : Nat → Nat → Bool) (L : Nat → Nat → Int64) (S : Nat → Nat → Int32) (hI : inv N A B L) (x1 : Int32) : MetW l g yX4_forget cX4_forget 7 (some .int) ({ frames := 1, cells := 0, slots := 0, locals := 22 } : Room) [.ref (md 22), .int x1] (mF g md t N A B L S ++ wr) (q_Qi g (fun r w => mP g md wr (kc (!inR x1 8) false false) (nI (bcL (lN (fgS (B 0) (A 1) x1 (N 1))))) N A (va_up (va_up B 0 (goN (N 1) (B 0) (A 1) x1)) 1 (faN (L 0) (B 1) (fgS (B 0) (A 1) x1 (N 1)))) (va_up L 0 (grN (L 0) (fgS (B 0) (A 1) x1 (N 1)))) N A B L r w)) := by
  refine q_met (own := RX4) (by decide +kernel) rfl (Nat.le_of_ble_eq_true rfl) (fun p e s m args below meth c cx hr hnm => ?_)
  obtain ⟨⟨i1, i2, i3, i4⟩, j2, j3, j4, j5, j6, j7, j8, j9, j10, j11⟩ := id hI
  refine r_lv (lv2 := [(0, .ref (md 22)), (1, .int x1)]) (q_pk [0, 1] rfl) ?_
  refine r_aload_n cx dX4_forget_0 rfl rfl ?_
  refine r_iconst (v := nI 0) cx dX4_forget_1 (by decide) ?_
  refine pf_X4_78 cx dX4_forget_2 22 rfl (Nat.le_of_ble_eq_true rfl) ?_
  refine r_ws (ws2 := mF g md (nI 0) N A B L S ++ wr) rfl ?_
  refine r_iload_n cx dX4_forget_5 rfl rfl ?_
  refine r_iconst (v := nI 0) cx dX4_forget_6 (by decide) ?_
  refine r_bipush (v := nI 7) cx dX4_forget_7 (by decide) ?_
  refine k_X4_82 cx (c_mIn l g _ x1 (nI 0) (nI 7)) dX4_forget_9 ⟨Nat.le_of_ble_eq_true rfl, Nat.le_of_ble_eq_true rfl⟩ ⟨Nat.le_of_ble_eq_true rfl, Nat.le_of_ble_eq_true rfl⟩ rfl rfl (Nat.le_of_ble_eq_true rfl) (fun r w hp => ?_)
  obtain ⟨rfl, rfl⟩ := hp
  rw [in_0 x1 7 (by decide)]
  refine r_ifneb (tgt := 21) cx dX4_forget_12 (by decide) (fun h_12 => ?_) (fun h_12 => ?_)
  · skip
    refine r_iconst (v := nI 0) cx dX4_forget_21 (by decide) ?_
    refine r_istore_n cx dX4_forget_22 rfl (by decide) rfl ?_
    refine r_lconst (v := 0) cx dX4_forget_23 rfl ?_
    refine r_lstore_n cx dX4_forget_24 rfl (by decide) rfl ?_
    refine r_iconst (v := nI 0) cx dX4_forget_25 (by decide) ?_
    refine r_istore cx dX4_forget_26 (by decide) rfl ?_
    refine at_loop (fun (x : Nat) => x ≤ N 1) (fun x => [(0, .ref (md 22)), (1, .int x1), (2, .int (nI (bcS (fgS (B 0) (A 1) x1 (N 1)) x))), (3, .long (lN (fgS (B 0) (A 1) x1 x))), (5, .int (nI x))]) (fun x => mF g md (nI 0) N A (va_up B 0 (goN x (B 0) (A 1) x1)) L S ++ wr) (fun x => N 1 - x) 0 (Nat.zero_le _) (q_pk [3, 4, 2, 1, 0] rfl) (by show _ = mF g md (nI 0) N A (va_up B 0 (goN 0 (B 0) (A 1) x1)) L S ++ wr; rw [goN_0]; rfl) (fun i hx ih => ?_)
    try dsimp only at hx ⊢
    refine r_iload cx dX4_forget_28 rfl ?_
    refine r_aload_n cx dX4_forget_30 rfl rfl ?_
    refine gf_X4_86 cx dX4_forget_31 22 rfl rfl ?_
    refine r_icmpgeN (tgt := 127) cx (by omega) (by omega) dX4_forget_34 (by decide) (fun h_34 => ?_) (fun h_34 => ?_)
    · skip
      obtain rfl : i = N 1 := by omega
      refine r_iconst (v := nI 0) cx dX4_forget_127 (by decide) ?_
      refine r_istore cx dX4_forget_128 (by decide) rfl ?_
      refine at_loop (fun (x : Nat) => x ≤ N 2) (fun x => [(0, .ref (md 22)), (2, .int (nI (bcS (fgS (B 0) (A 1) x1 (N 1)) (N 1)))), (3, .long (lN (fgS (B 0) (A 1) x1 (N 1)))), (5, .int (nI x))]) (fun x => mF g md (nI 0) N A (va_up (va_up B 0 (goN (N 1) (B 0) (A 1) x1)) 1 (faP x (L 0) (B 1) (fgS (B 0) (A 1) x1 (N 1)))) (va_up L 0 (grP x (L 0) (fgS (B 0) (A 1) x1 (N 1)))) S ++ wr) (fun x => N 2 - x) 0 (Nat.zero_le _) (q_pk [1, 3, 4, 0] rfl) (by show _ = mF g md (nI 0) N A (va_up (va_up B 0 (goN (N 1) (B 0) (A 1) x1)) 1 (faP 0 (L 0) (B 1) (fgS (B 0) (A 1) x1 (N 1)))) (va_up L 0 (grP 0 (L 0) (fgS (B 0) (A 1) x1 (N 1)))) S ++ wr; rw [grP_0, faP_0]; rfl) (fun i hx ih => ?_)
      try dsimp only at hx ⊢
      refine r_iload cx dX4_forget_130 rfl ?_
      refine r_aload_n cx dX4_forget_132 rfl rfl ?_
      refine gf_X4_89 cx dX4_forget_133 22 rfl rfl ?_
      refine r_icmpgeN (tgt := 218) cx (by omega) (by omega) dX4_forget_136 (by decide) (fun h_136 => ?_) (fun h_136 => ?_)
      · skip
        obtain rfl : i = N 2 := by omega
        refine r_iload_n cx dX4_forget_218 rfl rfl ?_
        exact r_iret cx dX4_forget_219 hr (mP_t (by simp [kc, h_12]) (by rw [bc_fg i2]) S (by rw [grP_end (fun r hr => (j7 r hr).1), faP_end j7])) (Nat.le_of_ble_eq_true rfl) (Nat.le_of_ble_eq_true rfl)
      · skip
        refine at_join (tgt := 156) (fun (z : Bool) => z = !decide (L 0 i = 0)) (fun z => [(0, .ref (md 22)), (2, .int (nI (bcS (fgS (B 0) (A 1) x1 (N 1)) (N 1)))), (3, .long (lN (fgS (B 0) (A 1) x1 (N 1)))), (5, .int (nI i))]) (fun z => [.int (bI z)]) (fun z => mF g md (nI 0) N A (va_up (va_up B 0 (goN (N 1) (B 0) (A 1) x1)) 1 (faP i (L 0) (B 1) (fgS (B 0) (A 1) x1 (N 1)))) (va_up L 0 (grP i (L 0) (fgS (B 0) (A 1) x1 (N 1)))) S ++ wr) ?_ (fun J_156 => ?_)
        · intro z hz
          try dsimp only at hz ⊢
          refine r_istore cx dX4_forget_156 (by decide) rfl ?_
          refine r_aload_n cx dX4_forget_158 rfl rfl ?_
          refine gf_X4_56 cx dX4_forget_159 22 rfl rfl ?_
          refine r_iload cx dX4_forget_162 rfl ?_
          refine r_dup2 cx dX4_forget_164 rfl rfl ?_
          first | refine r_laldN cx 6 1 dX4_forget_165 rfl rfl (by omega) (by omega) ?_ | refine r_lald cx 6 1 dX4_forget_165 rfl rfl (by omega) ?_
          refine r_eql (y := L 0 i) (grP_at _ _ _) ?_
          refine r_lload_n cx dX4_forget_166 rfl rfl ?_
          refine r_ldc2 cx dX4_forget_167 tb_768 ?_
          refine r_lxor cx dX4_forget_170 ?_
          refine r_land cx dX4_forget_171 ?_
          refine r_eql (y := grN (L 0) (fgS (B 0) (A 1) x1 (N 1)) i) rfl ?_
          first | refine r_lastN cx 6 1 dX4_forget_172 rfl rfl (by omega) (by omega) ?_ | refine r_last cx 6 1 dX4_forget_172 rfl rfl (by omega) ?_
          refine r_ws (ws2 := mF g md (nI 0) N A (va_up (va_up B 0 (goN (N 1) (B 0) (A 1) x1)) 1 (faP i (L 0) (B 1) (fgS (B 0) (A 1) x1 (N 1)))) (va_up L 0 (grP (i + 1) (L 0) (fgS (B 0) (A 1) x1 (N 1)))) S ++ wr) (mF_L0 (grP_s _ _ _) rfl) ?_
          refine r_aload_n cx dX4_forget_173 rfl rfl ?_
          refine gf_X4_53 cx dX4_forget_174 22 rfl rfl ?_
          refine r_iload cx dX4_forget_177 rfl ?_
          refine r_aload_n cx dX4_forget_179 rfl rfl ?_
          refine gf_X4_53 cx dX4_forget_180 22 rfl rfl ?_
          refine r_iload cx dX4_forget_183 rfl ?_
          first | refine r_zaldN cx 7 2 dX4_forget_185 rfl rfl (by omega) (by omega) ?_ | refine r_zald cx 7 2 dX4_forget_185 rfl rfl (by omega) ?_
          refine r_eqi (y := bI (B 1 i)) (congrArg bI (faP_at _ _ _ _)) ?_
          refine r_ifneb (tgt := 206) cx dX4_forget_186 (by decide) (fun h_186 => ?_) (fun h_186 => ?_)
          · skip
            refine r_iconst (v := bI true) cx dX4_forget_206 (by decide) ?_
            refine r_goto (tgt := 211) cx dX4_forget_207 (by decide) ?_
            first | refine r_zastN cx 7 2 dX4_forget_211 rfl rfl (by omega) (by omega) ?_ | refine r_zast cx 7 2 dX4_forget_211 rfl rfl (by omega) ?_
            have e8 : faN (L 0) (B 1) (fgS (B 0) (A 1) x1 (N 1)) i = true := by
              show (B 1 i || (!decide (L 0 i = 0) && decide (grN (L 0) (fgS (B 0) (A 1) x1 (N 1)) i = 0))) = true
              rw [h_186]; rfl
            have e9 : va_up (faP i (L 0) (B 1) (fgS (B 0) (A 1) x1 (N 1))) i true = faP (i + 1) (L 0) (B 1) (fgS (B 0) (A 1) x1 (N 1)) := by
              rw [← faP_s, e8]
            refine r_ws (ws2 := mF g md (nI 0) N A (va_up (va_up B 0 (goN (N 1) (B 0) (A 1) x1)) 1 (faP (i + 1) (L 0) (B 1) (fgS (B 0) (A 1) x1 (N 1)))) (va_up L 0 (grP (i + 1) (L 0) (fgS (B 0) (A 1) x1 (N 1)))) S ++ wr) (mF_B1 ((upB _ _ _).trans (congrArg (fun h => fun k => bI (h k)) e9)) rfl) ?_
            refine r_iincN (j := 1) cx dX4_forget_212 rfl rfl (by decide) rfl ?_
            refine r_goto (tgt := 130) cx dX4_forget_215 (by decide) ?_
            exact r_lv (q_pk [2, 3, 4, 0] rfl) (ih (i + 1) (by omega) (by omega))
          · skip
            refine r_iload cx dX4_forget_189 rfl ?_
            refine r_ifeqb (tgt := 210) cx dX4_forget_191 (by decide) (fun h_191 => ?_) (fun h_191 => ?_)
            · skip
              refine r_iconst (v := bI false) cx dX4_forget_210 (by decide) ?_
              first | refine r_zastN cx 7 2 dX4_forget_211 rfl rfl (by omega) (by omega) ?_ | refine r_zast cx 7 2 dX4_forget_211 rfl rfl (by omega) ?_
              have e8 : faN (L 0) (B 1) (fgS (B 0) (A 1) x1 (N 1)) i = false := by
                show (B 1 i || (!decide (L 0 i = 0) && decide (grN (L 0) (fgS (B 0) (A 1) x1 (N 1)) i = 0))) = false
                rw [h_186, ← hz, h_191]; rfl
              have e9 : va_up (faP i (L 0) (B 1) (fgS (B 0) (A 1) x1 (N 1))) i false = faP (i + 1) (L 0) (B 1) (fgS (B 0) (A 1) x1 (N 1)) := by
                rw [← faP_s, e8]
              refine r_ws (ws2 := mF g md (nI 0) N A (va_up (va_up B 0 (goN (N 1) (B 0) (A 1) x1)) 1 (faP (i + 1) (L 0) (B 1) (fgS (B 0) (A 1) x1 (N 1)))) (va_up L 0 (grP (i + 1) (L 0) (fgS (B 0) (A 1) x1 (N 1)))) S ++ wr) (mF_B1 ((upB _ _ _).trans (congrArg (fun h => fun k => bI (h k)) e9)) rfl) ?_
              refine r_iincN (j := 1) cx dX4_forget_212 rfl rfl (by decide) rfl ?_
              refine r_goto (tgt := 130) cx dX4_forget_215 (by decide) ?_
              exact r_lv (q_pk [2, 3, 4, 0] rfl) (ih (i + 1) (by omega) (by omega))
            · skip
              refine r_aload_n cx dX4_forget_194 rfl rfl ?_
              refine gf_X4_56 cx dX4_forget_195 22 rfl rfl ?_
              refine r_iload cx dX4_forget_198 rfl ?_
              first | refine r_laldN cx 6 1 dX4_forget_200 rfl rfl (by omega) (by omega) ?_ | refine r_lald cx 6 1 dX4_forget_200 rfl rfl (by omega) ?_
              refine r_eql (y := grN (L 0) (fgS (B 0) (A 1) x1 (N 1)) i) (if_pos (Nat.lt_succ_self i)) ?_
              refine r_lconst (v := 0) cx dX4_forget_201 rfl ?_
              refine r_lcmp cx dX4_forget_202 ?_
              refine r_ifne (tgt := 210) cx dX4_forget_203 (by decide) (fun h_203 => ?_) (fun h_203 => ?_)
              · skip
                refine r_iconst (v := bI false) cx dX4_forget_210 (by decide) ?_
                first | refine r_zastN cx 7 2 dX4_forget_211 rfl rfl (by omega) (by omega) ?_ | refine r_zast cx 7 2 dX4_forget_211 rfl rfl (by omega) ?_
                have e8 : faN (L 0) (B 1) (fgS (B 0) (A 1) x1 (N 1)) i = false := by
                  show (B 1 i || (!decide (L 0 i = 0) && decide (grN (L 0) (fgS (B 0) (A 1) x1 (N 1)) i = 0))) = false
                  rw [h_186, ← hz, h_191, decide_eq_false (fun w => h_203 ((lcmp_z _ _).mpr w))]; rfl
                have e9 : va_up (faP i (L 0) (B 1) (fgS (B 0) (A 1) x1 (N 1))) i false = faP (i + 1) (L 0) (B 1) (fgS (B 0) (A 1) x1 (N 1)) := by
                  rw [← faP_s, e8]
                refine r_ws (ws2 := mF g md (nI 0) N A (va_up (va_up B 0 (goN (N 1) (B 0) (A 1) x1)) 1 (faP (i + 1) (L 0) (B 1) (fgS (B 0) (A 1) x1 (N 1)))) (va_up L 0 (grP (i + 1) (L 0) (fgS (B 0) (A 1) x1 (N 1)))) S ++ wr) (mF_B1 ((upB _ _ _).trans (congrArg (fun h => fun k => bI (h k)) e9)) rfl) ?_
                refine r_iincN (j := 1) cx dX4_forget_212 rfl rfl (by decide) rfl ?_
                refine r_goto (tgt := 130) cx dX4_forget_215 (by decide) ?_
                exact r_lv (q_pk [2, 3, 4, 0] rfl) (ih (i + 1) (by omega) (by omega))
              · skip
                refine r_iconst (v := bI true) cx dX4_forget_206 (by decide) ?_
                refine r_goto (tgt := 211) cx dX4_forget_207 (by decide) ?_
                first | refine r_zastN cx 7 2 dX4_forget_211 rfl rfl (by omega) (by omega) ?_ | refine r_zast cx 7 2 dX4_forget_211 rfl rfl (by omega) ?_
                have e8 : faN (L 0) (B 1) (fgS (B 0) (A 1) x1 (N 1)) i = true := by
                  show (B 1 i || (!decide (L 0 i = 0) && decide (grN (L 0) (fgS (B 0) (A 1) x1 (N 1)) i = 0))) = true
                  rw [h_186, ← hz, h_191, decide_eq_true ((lcmp_z _ _).mp h_203)]; rfl
                have e9 : va_up (faP i (L 0) (B 1) (fgS (B 0) (A 1) x1 (N 1))) i true = faP (i + 1) (L 0) (B 1) (fgS (B 0) (A 1) x1 (N 1)) := by
                  rw [← faP_s, e8]
                refine r_ws (ws2 := mF g md (nI 0) N A (va_up (va_up B 0 (goN (N 1) (B 0) (A 1) x1)) 1 (faP (i + 1) (L 0) (B 1) (fgS (B 0) (A 1) x1 (N 1)))) (va_up L 0 (grP (i + 1) (L 0) (fgS (B 0) (A 1) x1 (N 1)))) S ++ wr) (mF_B1 ((upB _ _ _).trans (congrArg (fun h => fun k => bI (h k)) e9)) rfl) ?_
                refine r_iincN (j := 1) cx dX4_forget_212 rfl rfl (by decide) rfl ?_
                refine r_goto (tgt := 130) cx dX4_forget_215 (by decide) ?_
                exact r_lv (q_pk [2, 3, 4, 0] rfl) (ih (i + 1) (by omega) (by omega))
        · skip
          refine r_aload_n cx dX4_forget_139 rfl rfl ?_
          refine gf_X4_56 cx dX4_forget_140 22 rfl rfl ?_
          refine r_iload cx dX4_forget_143 rfl ?_
          first | refine r_laldN cx 6 1 dX4_forget_145 rfl rfl (by omega) (by omega) ?_ | refine r_lald cx 6 1 dX4_forget_145 rfl rfl (by omega) ?_
          refine r_eql (y := L 0 i) (grP_at _ _ _) ?_
          refine r_lconst (v := 0) cx dX4_forget_146 rfl ?_
          refine r_lcmp cx dX4_forget_147 ?_
          refine r_ifeq (tgt := 155) cx dX4_forget_148 (by decide) (fun h_148 => ?_) (fun h_148 => ?_)
          · skip
            refine r_iconst (v := nI 0) cx dX4_forget_155 (by decide) ?_
            exact r_lv (q_pk [0, 1, 2, 3] rfl) (J_156 false (by rw [decide_eq_true ((lcmp_z _ _).mp h_148)]; rfl))
          · skip
            refine r_iconst (v := nI 1) cx dX4_forget_151 (by decide) ?_
            refine r_goto (tgt := 156) cx dX4_forget_152 (by decide) ?_
            exact r_lv (q_pk [0, 1, 2, 3] rfl) (J_156 true (by rw [decide_eq_false (fun w => h_148 ((lcmp_z _ _).mpr w))]; rfl))
    · skip
      refine at_join (tgt := 63) (fun (z : Bool) => z = (!B 0 i && decide (A 1 i = x1))) (fun z => [(0, .ref (md 22)), (1, .int x1), (2, .int (nI (bcS (fgS (B 0) (A 1) x1 (N 1)) i))), (3, .long (lN (fgS (B 0) (A 1) x1 i))), (5, .int (nI i))]) (fun z => [.int (bI z)]) (fun z => mF g md (nI 0) N A (va_up B 0 (goN i (B 0) (A 1) x1)) L S ++ wr) ?_ (fun J_63 => ?_)
      · intro z hz
        try dsimp only at hz ⊢
        refine r_istore cx dX4_forget_63 (by decide) rfl ?_
        refine r_iload_n cx dX4_forget_65 rfl rfl ?_
        refine r_iload cx dX4_forget_66 rfl ?_
        refine r_ifeqb (tgt := 75) cx dX4_forget_68 (by decide) (fun h_68 => ?_) (fun h_68 => ?_)
        · skip
          refine r_iconst (v := nI 0) cx dX4_forget_75 (by decide) ?_
          first | refine r_iaddN cx dX4_forget_76 ?_ | refine r_iadd cx dX4_forget_76 ?_
          refine r_eqi (y := nI (bcS (fgS (B 0) (A 1) x1 (N 1)) (i + 1))) (congrArg nI (by rw [bcS, fg_mod h_34, ← hz, h_68]; rfl)) ?_
          refine r_istore_n cx dX4_forget_77 rfl (by decide) rfl ?_
          refine r_lload_n cx dX4_forget_78 rfl rfl ?_
          refine r_iload cx dX4_forget_79 rfl ?_
          refine r_ifeqb (tgt := 91) cx dX4_forget_81 (by decide) (fun h_81 => ?_) (fun h_81 => ?_)
          · skip
            refine r_lconst (v := 0) cx dX4_forget_91 rfl ?_
            refine r_lor cx dX4_forget_92 ?_
            refine r_eql (y := lN (fgS (B 0) (A 1) x1 (i + 1))) (by rw [fgS, ← hz, h_68, show (0 : Int64) = lN 0 from rfl, fb_orL, Nat.or_zero]; rfl) ?_
            refine r_lstore_n cx dX4_forget_93 rfl (by decide) rfl ?_
            refine r_aload_n cx dX4_forget_94 rfl rfl ?_
            refine gf_X4_28 cx dX4_forget_95 22 rfl rfl ?_
            refine r_iload cx dX4_forget_98 rfl ?_
            refine r_aload_n cx dX4_forget_100 rfl rfl ?_
            refine gf_X4_28 cx dX4_forget_101 22 rfl rfl ?_
            refine r_iload cx dX4_forget_104 rfl ?_
            first | refine r_zaldN cx 15 2 dX4_forget_106 rfl rfl (by omega) (by omega) ?_ | refine r_zald cx 15 2 dX4_forget_106 rfl rfl (by omega) ?_
            refine r_eqi (y := bI (B 0 i)) (congrArg bI (goN_at _ _ _ _)) ?_
            refine r_ifneb (tgt := 115) cx dX4_forget_107 (by decide) (fun h_107 => ?_) (fun h_107 => ?_)
            · skip
              refine r_iconst (v := bI true) cx dX4_forget_115 (by decide) ?_
              refine r_goto (tgt := 120) cx dX4_forget_116 (by decide) ?_
              first | refine r_zastN cx 15 2 dX4_forget_120 rfl rfl (by omega) (by omega) ?_ | refine r_zast cx 15 2 dX4_forget_120 rfl rfl (by omega) ?_
              have e9 : va_up (goN i (B 0) (A 1) x1) i true = goN (i + 1) (B 0) (A 1) x1 := by
                rw [← goN_s, h_107, Bool.true_or]
              refine r_ws (ws2 := mF g md (nI 0) N A (va_up B 0 (goN (i + 1) (B 0) (A 1) x1)) L S ++ wr) (mF_B0 ((upB _ _ _).trans (congrArg (fun h => fun k => bI (h k)) e9)) rfl) ?_
              refine r_iincN (j := 1) cx dX4_forget_121 rfl rfl (by decide) rfl ?_
              refine r_goto (tgt := 28) cx dX4_forget_124 (by decide) ?_
              exact r_lv (q_pk [4, 5, 2, 1, 0] rfl) (ih (i + 1) (by omega) (by omega))
            · skip
              refine r_iload cx dX4_forget_110 rfl ?_
              refine r_ifeqb (tgt := 119) cx dX4_forget_112 (by decide) (fun h_112 => ?_) (fun h_112 => ?_)
              · skip
                refine r_iconst (v := bI false) cx dX4_forget_119 (by decide) ?_
                first | refine r_zastN cx 15 2 dX4_forget_120 rfl rfl (by omega) (by omega) ?_ | refine r_zast cx 15 2 dX4_forget_120 rfl rfl (by omega) ?_
                have e9 : va_up (goN i (B 0) (A 1) x1) i false = goN (i + 1) (B 0) (A 1) x1 := by
                  rw [← goN_s, h_107, show decide (A 1 i = x1) = z by rw [hz, h_107]; rfl, h_68, Bool.false_or]
                refine r_ws (ws2 := mF g md (nI 0) N A (va_up B 0 (goN (i + 1) (B 0) (A 1) x1)) L S ++ wr) (mF_B0 ((upB _ _ _).trans (congrArg (fun h => fun k => bI (h k)) e9)) rfl) ?_
                refine r_iincN (j := 1) cx dX4_forget_121 rfl rfl (by decide) rfl ?_
                refine r_goto (tgt := 28) cx dX4_forget_124 (by decide) ?_
                exact r_lv (q_pk [4, 5, 2, 1, 0] rfl) (ih (i + 1) (by omega) (by omega))
              · exact absurd (h_112.symm.trans h_68) (by decide)
          · exact absurd (h_81.symm.trans h_68) (by decide)
        · skip
          refine r_iconst (v := nI 1) cx dX4_forget_71 (by decide) ?_
          refine r_goto (tgt := 76) cx dX4_forget_72 (by decide) ?_
          first | refine r_iaddN cx dX4_forget_76 ?_ | refine r_iadd cx dX4_forget_76 ?_
          refine r_eqi (y := nI (bcS (fgS (B 0) (A 1) x1 (N 1)) (i + 1))) (congrArg nI (by rw [bcS, fg_mod h_34, ← hz, h_68]; rfl)) ?_
          refine r_istore_n cx dX4_forget_77 rfl (by decide) rfl ?_
          refine r_lload_n cx dX4_forget_78 rfl rfl ?_
          refine r_iload cx dX4_forget_79 rfl ?_
          refine r_ifeqb (tgt := 91) cx dX4_forget_81 (by decide) (fun h_81 => ?_) (fun h_81 => ?_)
          · exact absurd (h_68.symm.trans h_81) (by decide)
          · skip
            refine r_lconst (v := 1) cx dX4_forget_84 rfl ?_
            refine r_iload cx dX4_forget_85 rfl ?_
            refine r_lshl (v := lN (2 ^ i)) cx dX4_forget_87 (by rw [show (1 : Int64) = lN 1 from rfl, wb_shl 1 (by omega), Nat.one_mul]) ?_
            refine r_goto (tgt := 92) cx dX4_forget_88 (by decide) ?_
            refine r_lor cx dX4_forget_92 ?_
            refine r_eql (y := lN (fgS (B 0) (A 1) x1 (i + 1))) (by rw [fgS, ← hz, h_68, fb_orL]; rfl) ?_
            refine r_lstore_n cx dX4_forget_93 rfl (by decide) rfl ?_
            refine r_aload_n cx dX4_forget_94 rfl rfl ?_
            refine gf_X4_28 cx dX4_forget_95 22 rfl rfl ?_
            refine r_iload cx dX4_forget_98 rfl ?_
            refine r_aload_n cx dX4_forget_100 rfl rfl ?_
            refine gf_X4_28 cx dX4_forget_101 22 rfl rfl ?_
            refine r_iload cx dX4_forget_104 rfl ?_
            first | refine r_zaldN cx 15 2 dX4_forget_106 rfl rfl (by omega) (by omega) ?_ | refine r_zald cx 15 2 dX4_forget_106 rfl rfl (by omega) ?_
            refine r_eqi (y := bI (B 0 i)) (congrArg bI (goN_at _ _ _ _)) ?_
            refine r_ifneb (tgt := 115) cx dX4_forget_107 (by decide) (fun h_107 => ?_) (fun h_107 => ?_)
            · skip
              refine r_iconst (v := bI true) cx dX4_forget_115 (by decide) ?_
              refine r_goto (tgt := 120) cx dX4_forget_116 (by decide) ?_
              first | refine r_zastN cx 15 2 dX4_forget_120 rfl rfl (by omega) (by omega) ?_ | refine r_zast cx 15 2 dX4_forget_120 rfl rfl (by omega) ?_
              have e9 : va_up (goN i (B 0) (A 1) x1) i true = goN (i + 1) (B 0) (A 1) x1 := by
                rw [← goN_s, h_107, Bool.true_or]
              refine r_ws (ws2 := mF g md (nI 0) N A (va_up B 0 (goN (i + 1) (B 0) (A 1) x1)) L S ++ wr) (mF_B0 ((upB _ _ _).trans (congrArg (fun h => fun k => bI (h k)) e9)) rfl) ?_
              refine r_iincN (j := 1) cx dX4_forget_121 rfl rfl (by decide) rfl ?_
              refine r_goto (tgt := 28) cx dX4_forget_124 (by decide) ?_
              exact r_lv (q_pk [4, 5, 2, 1, 0] rfl) (ih (i + 1) (by omega) (by omega))
            · skip
              refine r_iload cx dX4_forget_110 rfl ?_
              refine r_ifeqb (tgt := 119) cx dX4_forget_112 (by decide) (fun h_112 => ?_) (fun h_112 => ?_)
              · exact absurd (h_68.symm.trans h_112) (by decide)
              · skip
                refine r_iconst (v := bI true) cx dX4_forget_115 (by decide) ?_
                refine r_goto (tgt := 120) cx dX4_forget_116 (by decide) ?_
                first | refine r_zastN cx 15 2 dX4_forget_120 rfl rfl (by omega) (by omega) ?_ | refine r_zast cx 15 2 dX4_forget_120 rfl rfl (by omega) ?_
                have e9 : va_up (goN i (B 0) (A 1) x1) i true = goN (i + 1) (B 0) (A 1) x1 := by
                  rw [← goN_s, h_107, show decide (A 1 i = x1) = z by rw [hz, h_107]; rfl, h_68, Bool.false_or]
                refine r_ws (ws2 := mF g md (nI 0) N A (va_up B 0 (goN (i + 1) (B 0) (A 1) x1)) L S ++ wr) (mF_B0 ((upB _ _ _).trans (congrArg (fun h => fun k => bI (h k)) e9)) rfl) ?_
                refine r_iincN (j := 1) cx dX4_forget_121 rfl rfl (by decide) rfl ?_
                refine r_goto (tgt := 28) cx dX4_forget_124 (by decide) ?_
                exact r_lv (q_pk [4, 5, 2, 1, 0] rfl) (ih (i + 1) (by omega) (by omega))
      · skip
        refine r_aload_n cx dX4_forget_37 rfl rfl ?_
        refine gf_X4_13 cx dX4_forget_38 22 rfl rfl ?_
        refine r_iload cx dX4_forget_41 rfl ?_
        first | refine r_ialdN cx 20 0 dX4_forget_43 rfl rfl (by omega) (by omega) ?_ | refine r_iald cx 20 0 dX4_forget_43 rfl rfl (by omega) ?_
        refine r_iload_n cx dX4_forget_44 rfl rfl ?_
        refine r_icmpne (tgt := 62) cx dX4_forget_45 (by decide) (fun h_45 => ?_) (fun h_45 => ?_)
        · skip
          refine r_iconst (v := nI 0) cx dX4_forget_62 (by decide) ?_
          exact r_lv (q_pk [0, 1, 2, 3, 4] rfl) (J_63 false (by rw [decide_eq_false h_45, Bool.and_false]))
        · skip
          refine r_aload_n cx dX4_forget_48 rfl rfl ?_
          refine gf_X4_28 cx dX4_forget_49 22 rfl rfl ?_
          refine r_iload cx dX4_forget_52 rfl ?_
          first | refine r_zaldN cx 15 2 dX4_forget_54 rfl rfl (by omega) (by omega) ?_ | refine r_zald cx 15 2 dX4_forget_54 rfl rfl (by omega) ?_
          refine r_eqi (y := bI (B 0 i)) (congrArg bI (goN_at _ _ _ _)) ?_
          refine r_ifneb (tgt := 62) cx dX4_forget_55 (by decide) (fun h_55 => ?_) (fun h_55 => ?_)
          · skip
            refine r_iconst (v := nI 0) cx dX4_forget_62 (by decide) ?_
            exact r_lv (q_pk [0, 1, 2, 3, 4] rfl) (J_63 false (by rw [h_55]; rfl))
          · skip
            refine r_iconst (v := nI 1) cx dX4_forget_58 (by decide) ?_
            refine r_goto (tgt := 63) cx dX4_forget_59 (by decide) ?_
            exact r_lv (q_pk [0, 1, 2, 3, 4] rfl) (J_63 true (by rw [h_55, decide_eq_true h_45]; rfl))
  · skip
    refine r_aload_n cx dX4_forget_15 rfl rfl ?_
    refine r_iconst (v := nI 1) cx dX4_forget_16 (by decide) ?_
    refine k_X4_103 cx (c_mFails l g md wr _ N A B L S (nI 1)) dX4_forget_17 22 rfl ⟨Nat.le_of_ble_eq_true rfl, Nat.le_of_ble_eq_true rfl⟩ ⟨Nat.le_of_ble_eq_true rfl, Nat.le_of_ble_eq_true rfl⟩ rfl rfl (Nat.le_of_ble_eq_true rfl) (fun r w hp => ?_)
    obtain ⟨rfl, rfl⟩ := hp
    exact r_iret cx dX4_forget_20 hr (mP_f 1 (by simp [kc, h_12]) (by decide) S rfl) (Nat.le_of_ble_eq_true rfl) (Nat.le_of_ble_eq_true rfl)
