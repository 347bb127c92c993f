set_option maxHeartbeats 4000000 in
set_option maxRecDepth 100000 in
theorem c_mSound (l : Launch) (g : q_G) (md : Nat → Nat) (wr : va_W) (t : Int32) (N : Nat → Nat) (A : Nat → Nat → Int32) (B : Nat → Nat → Bool) (L : Nat → Nat → Int64) (S : Nat → Nat → Int32) (hI : inv N A B L) (x1 : Int32) : MetW l g yX4_sound cX4_sound 2 (some .int) ({ frames := 2, cells := 0, slots := 0, locals := 42 } : Room) [.ref (md 22), .int x1] (mF g md t N A B L S ++ wr) (q_Qi g (fun r w => mP g md wr (kc (!inR x1 8) (decide (N 0 = 8)) false) (nI (N 0 + 1)) (va_up N 0 (N 0 + 1)) (va_up A 0 (upd (A 0) (N 0) x1)) B L N A B L r w)) := by
  refine q_met (own := RX4) (by decide +kernel) rfl (Nat.le_of_ble_eq_true rfl) (fun p e s m args below meth c cx hr hnm => ?_)
  obtain ⟨⟨i1, i2, i3, i4⟩, j2, j3, j4, j5, j6, j7, j8, j9, j10, j11⟩ := id hI
  refine r_lv (lv2 := [(0, .ref (md 22)), (1, .int x1)]) (q_pk [0, 1] rfl) ?_
  refine r_aload_n cx dX4_sound_0 rfl rfl ?_
  refine r_iconst (v := nI 0) cx dX4_sound_1 (by decide) ?_
  refine pf_X4_78 cx dX4_sound_2 22 rfl (Nat.le_of_ble_eq_true rfl) ?_
  refine r_ws (ws2 := mF g md (nI 0) N A B L S ++ wr) rfl ?_
  refine r_iload_n cx dX4_sound_5 rfl rfl ?_
  refine k_X4_99 cx (c_mSo l g _ x1) dX4_sound_6 ⟨Nat.le_of_ble_eq_true rfl, Nat.le_of_ble_eq_true rfl⟩ ⟨Nat.le_of_ble_eq_true rfl, Nat.le_of_ble_eq_true rfl⟩ rfl rfl (Nat.le_of_ble_eq_true rfl) (fun r w hp => ?_)
  obtain ⟨rfl, rfl⟩ := hp
  refine r_ifneb (tgt := 18) cx dX4_sound_9 (by decide) (fun h_9 => ?_) (fun h_9 => ?_)
  · skip
    refine r_aload_n cx dX4_sound_18 rfl rfl ?_
    refine gf_X4_92 cx dX4_sound_19 22 rfl rfl ?_
    refine r_bipush (v := nI 8) cx dX4_sound_22 (by decide) ?_
    refine r_icmpneN (tgt := 33) cx (by omega) (by omega) dX4_sound_24 (by decide) (fun h_24 => ?_) (fun h_24 => ?_)
    · skip
      refine r_aload_n cx dX4_sound_33 rfl rfl ?_
      refine gf_X4_7 cx dX4_sound_34 22 rfl rfl ?_
      refine r_aload_n cx dX4_sound_37 rfl rfl ?_
      refine gf_X4_92 cx dX4_sound_38 22 rfl rfl ?_
      refine r_iload_n cx dX4_sound_41 rfl rfl ?_
      first | refine r_iastN cx 21 0 dX4_sound_42 rfl rfl (by omega) (by omega) ?_ | refine r_iast cx 21 0 dX4_sound_42 rfl rfl (by omega) ?_
      refine r_aload_n cx dX4_sound_43 rfl rfl ?_
      refine r_dup cx dX4_sound_44 rfl ?_
      refine gf_X4_92 cx dX4_sound_45 22 rfl rfl ?_
      refine r_iconst (v := nI 1) cx dX4_sound_48 (by decide) ?_
      first | refine r_iaddN cx dX4_sound_49 ?_ | refine r_iadd cx dX4_sound_49 ?_
      refine pf_X4_92 cx dX4_sound_50 22 rfl (Nat.le_of_ble_eq_true rfl) ?_
      refine r_aload_n cx dX4_sound_53 rfl rfl ?_
      refine gf_X4_92 cx dX4_sound_54 22 rfl rfl ?_
      exact r_iret cx dX4_sound_57 hr (mP_t (by simp [kc, h_9, h_24]) (rfl) S rfl) (Nat.le_of_ble_eq_true rfl) (Nat.le_of_ble_eq_true rfl)
    · skip
      refine r_aload_n cx dX4_sound_27 rfl rfl ?_
      refine r_iconst (v := nI 2) cx dX4_sound_28 (by decide) ?_
      refine k_X4_103 cx (c_mFails l g md wr _ N A B L S (nI 2)) dX4_sound_29 22 rfl ⟨Nat.le_of_ble_eq_true rfl, Nat.le_of_ble_eq_true rfl⟩ ⟨Nat.le_of_ble_eq_true rfl, Nat.le_of_ble_eq_true rfl⟩ rfl rfl (Nat.le_of_ble_eq_true rfl) (fun r w hp => ?_)
      obtain ⟨rfl, rfl⟩ := hp
      exact r_iret cx dX4_sound_32 hr (mP_f 2 (by simp [kc, h_9, h_24]) (by decide) S rfl) (Nat.le_of_ble_eq_true rfl) (Nat.le_of_ble_eq_true rfl)
  · skip
    refine r_aload_n cx dX4_sound_12 rfl rfl ?_
    refine r_iconst (v := nI 1) cx dX4_sound_13 (by decide) ?_
    refine k_X4_103 cx (c_mFails l g md wr _ N A B L S (nI 1)) dX4_sound_14 22 rfl ⟨Nat.le_of_ble_eq_true rfl, Nat.le_of_ble_eq_true rfl⟩ ⟨Nat.le_of_ble_eq_true rfl, Nat.le_of_ble_eq_true rfl⟩ rfl rfl (Nat.le_of_ble_eq_true rfl) (fun r w hp => ?_)
    obtain ⟨rfl, rfl⟩ := hp
    exact r_iret cx dX4_sound_17 hr (mP_f 1 (by simp [kc, h_9]) (by decide) S rfl) (Nat.le_of_ble_eq_true rfl) (Nat.le_of_ble_eq_true rfl)
set_option maxHeartbeats 4000000 in
set_option maxRecDepth 100000 in
theorem c_mSetRoot (l : Launch) (g : q_G) (md : Nat → Nat) (wr : va_W) (t : Int32) (N : Nat → Nat) (A : Nat → Nat → Int32) (B : Nat → Nat → Bool) (L : Nat → Nat → Int64) (S : Nat → Nat → Int32) (hI : inv N A B L) (x1 : Int32) : MetW l g yX4_setRoot cX4_setRoot 3 (some .int) ({ frames := 2, cells := 0, slots := 0, locals := 44 } : Room) [.ref (md 22), .int x1] (mF g md t N A B L S ++ wr) (q_Qi g (fun r w => mP g md wr (kc (!inR x1 4) (decide (N 0 = 0)) false) (A 6 (c32 x1)) (va_up N 0 0) (va_up A 6 (upd (A 6) (c32 x1) (nI (num (drL (A 0) (N 0)))))) B L N A B L r w)) := by
  refine q_met (own := RX4) (by decide +kernel) rfl (Nat.le_of_ble_eq_true rfl) (fun p e s m args below meth c cx hr hnm => ?_)
  obtain ⟨⟨i1, i2, i3, i4⟩, j2, j3, j4, j5, j6, j7, j8, j9, j10, j11⟩ := id hI
  refine r_lv (lv2 := [(0, .ref (md 22)), (1, .int x1)]) (q_pk [0, 1] rfl) ?_
  refine r_aload_n cx dX4_setRoot_0 rfl rfl ?_
  refine r_iconst (v := nI 0) cx dX4_setRoot_1 (by decide) ?_
  refine pf_X4_78 cx dX4_setRoot_2 22 rfl (Nat.le_of_ble_eq_true rfl) ?_
  refine r_ws (ws2 := mF g md (nI 0) N A B L S ++ wr) rfl ?_
  refine r_iload_n cx dX4_setRoot_5 rfl rfl ?_
  refine k_X4_110 cx (c_mWo l g _ x1) dX4_setRoot_6 ⟨Nat.le_of_ble_eq_true rfl, Nat.le_of_ble_eq_true rfl⟩ ⟨Nat.le_of_ble_eq_true rfl, Nat.le_of_ble_eq_true rfl⟩ rfl rfl (Nat.le_of_ble_eq_true rfl) (fun r w hp => ?_)
  obtain ⟨rfl, rfl⟩ := hp
  refine r_ifneb (tgt := 18) cx dX4_setRoot_9 (by decide) (fun h_9 => ?_) (fun h_9 => ?_)
  · skip
    obtain ⟨j, hj, rfl, hcj⟩ := inR_ix (x := x1) (n := 4) (by simpa using h_9) (by omega)
    refine r_aload_n cx dX4_setRoot_18 rfl rfl ?_
    refine gf_X4_92 cx dX4_setRoot_19 22 rfl rfl ?_
    refine r_ifneN (tgt := 31) cx (by omega) dX4_setRoot_22 (by decide) (fun h_22 => ?_) (fun h_22 => ?_)
    · skip
      refine r_aload_n cx dX4_setRoot_31 rfl rfl ?_
      refine gf_X4_32 cx dX4_setRoot_32 22 rfl rfl ?_
      refine r_iload_n cx dX4_setRoot_35 rfl rfl ?_
      first | refine r_ialdN cx 14 0 dX4_setRoot_36 rfl rfl (by omega) (by omega) ?_ | refine r_iald cx 14 0 dX4_setRoot_36 rfl rfl (by omega) ?_
      refine r_istore_n cx dX4_setRoot_37 rfl (by decide) rfl ?_
      refine r_aload_n cx dX4_setRoot_38 rfl rfl ?_
      refine gf_X4_32 cx dX4_setRoot_39 22 rfl rfl ?_
      refine r_iload_n cx dX4_setRoot_42 rfl rfl ?_
      refine r_aload_n cx dX4_setRoot_43 rfl rfl ?_
      refine k_X4_113 cx (c_mDr l g md wr _ N A B L S i1 (fun i hi => (j2 i hi).2)) dX4_setRoot_44 22 rfl ⟨Nat.le_of_ble_eq_true rfl, Nat.le_of_ble_eq_true rfl⟩ ⟨Nat.le_of_ble_eq_true rfl, Nat.le_of_ble_eq_true rfl⟩ rfl rfl (Nat.le_of_ble_eq_true rfl) (fun r w hp => ?_)
      obtain ⟨rfl, rfl⟩ := hp
      first | refine r_iastN cx 14 0 dX4_setRoot_47 rfl rfl (by omega) (by omega) ?_ | refine r_iast cx 14 0 dX4_setRoot_47 rfl rfl (by omega) ?_
      refine r_iload_n cx dX4_setRoot_48 rfl rfl ?_
      exact r_iret cx dX4_setRoot_49 hr (mP_t (by simp [kc, h_9, h_22]) (by rw [hcj]) S (by rw [hcj]; rfl)) (Nat.le_of_ble_eq_true rfl) (Nat.le_of_ble_eq_true rfl)
    · skip
      refine r_aload_n cx dX4_setRoot_25 rfl rfl ?_
      refine r_iconst (v := nI 2) cx dX4_setRoot_26 (by decide) ?_
      refine k_X4_103 cx (c_mFails l g md wr _ N A B L S (nI 2)) dX4_setRoot_27 22 rfl ⟨Nat.le_of_ble_eq_true rfl, Nat.le_of_ble_eq_true rfl⟩ ⟨Nat.le_of_ble_eq_true rfl, Nat.le_of_ble_eq_true rfl⟩ rfl rfl (Nat.le_of_ble_eq_true rfl) (fun r w hp => ?_)
      obtain ⟨rfl, rfl⟩ := hp
      exact r_iret cx dX4_setRoot_30 hr (mP_f 2 (by simp [kc, h_9, h_22]) (by decide) S rfl) (Nat.le_of_ble_eq_true rfl) (Nat.le_of_ble_eq_true rfl)
  · skip
    refine r_aload_n cx dX4_setRoot_12 rfl rfl ?_
    refine r_iconst (v := nI 1) cx dX4_setRoot_13 (by decide) ?_
    refine k_X4_103 cx (c_mFails l g md wr _ N A B L S (nI 1)) dX4_setRoot_14 22 rfl ⟨Nat.le_of_ble_eq_true rfl, Nat.le_of_ble_eq_true rfl⟩ ⟨Nat.le_of_ble_eq_true rfl, Nat.le_of_ble_eq_true rfl⟩ rfl rfl (Nat.le_of_ble_eq_true rfl) (fun r w hp => ?_)
    obtain ⟨rfl, rfl⟩ := hp
    exact r_iret cx dX4_setRoot_17 hr (mP_f 1 (by simp [kc, h_9]) (by decide) S rfl) (Nat.le_of_ble_eq_true rfl) (Nat.le_of_ble_eq_true rfl)
set_option maxHeartbeats 4000000 in
set_option maxRecDepth 100000 in
theorem c_mForm (l : Launch) (g : q_G) (md : Nat → Nat) (wr : va_W) (t : Int32) (N : Nat → Nat) (A : Nat → Nat → Int32) (B : Nat → Nat → Bool) (L : Nat → Nat → Int64) (S : Nat → Nat → Int32) (hI : inv N A B L) (x1 : Int32) : MetW l g yX4_form cX4_form 2 (some .int) ({ frames := 2, cells := 0, slots := 0, locals := 43 } : Room) [.ref (md 22), .int x1] (mF g md t N A B L S ++ wr) (q_Qi g (fun r w => mP g md wr (kc (!inR x1 (N 1)) false false) ((if B 0 (c32 x1) then -1 else A 5 (c32 x1))) N A B L N A B L r w)) := by
  refine q_met (own := RX4) (by decide +kernel) rfl (Nat.le_of_ble_eq_true rfl) (fun p e s m args below meth c cx hr hnm => ?_)
  obtain ⟨⟨i1, i2, i3, i4⟩, j2, j3, j4, j5, j6, j7, j8, j9, j10, j11⟩ := id hI
  refine r_lv (lv2 := [(0, .ref (md 22)), (1, .int x1)]) (q_pk [0, 1] rfl) ?_
  refine r_aload_n cx dX4_form_0 rfl rfl ?_
  refine r_iconst (v := nI 0) cx dX4_form_1 (by decide) ?_
  refine pf_X4_78 cx dX4_form_2 22 rfl (Nat.le_of_ble_eq_true rfl) ?_
  refine r_ws (ws2 := mF g md (nI 0) N A B L S ++ wr) rfl ?_
  refine r_aload_n cx dX4_form_5 rfl rfl ?_
  refine r_iload_n cx dX4_form_6 rfl rfl ?_
  refine k_X4_117 cx (c_mIi l g md wr _ N A B L S x1 i2) dX4_form_7 22 rfl ⟨Nat.le_of_ble_eq_true rfl, Nat.le_of_ble_eq_true rfl⟩ ⟨Nat.le_of_ble_eq_true rfl, Nat.le_of_ble_eq_true rfl⟩ rfl rfl (Nat.le_of_ble_eq_true rfl) (fun r w hp => ?_)
  obtain ⟨rfl, rfl⟩ := hp
  refine r_ifneb (tgt := 19) cx dX4_form_10 (by decide) (fun h_10 => ?_) (fun h_10 => ?_)
  · skip
    obtain ⟨j, hj, rfl, hcj⟩ := inR_ix (x := x1) (n := N 1) (by simpa using h_10) (by omega)
    refine r_aload_n cx dX4_form_19 rfl rfl ?_
    refine gf_X4_28 cx dX4_form_20 22 rfl rfl ?_
    refine r_iload_n cx dX4_form_23 rfl rfl ?_
    first | refine r_zaldN cx 15 2 dX4_form_24 rfl rfl (by omega) (by omega) ?_ | refine r_zald cx 15 2 dX4_form_24 rfl rfl (by omega) ?_
    refine r_ifeqb (tgt := 32) cx dX4_form_25 (by decide) (fun h_25 => ?_) (fun h_25 => ?_)
    · skip
      refine r_aload_n cx dX4_form_32 rfl rfl ?_
      refine gf_X4_25 cx dX4_form_33 22 rfl rfl ?_
      refine r_iload_n cx dX4_form_36 rfl rfl ?_
      first | refine r_ialdN cx 16 0 dX4_form_37 rfl rfl (by omega) (by omega) ?_ | refine r_iald cx 16 0 dX4_form_37 rfl rfl (by omega) ?_
      exact r_iret cx dX4_form_38 hr (mP_t (by simp [kc, h_10]) (by rw [hcj, h_25]; rfl) S rfl) (Nat.le_of_ble_eq_true rfl) (Nat.le_of_ble_eq_true rfl)
    · skip
      refine r_iconst (v := -1) cx dX4_form_28 (by decide) ?_
      refine r_goto (tgt := 38) cx dX4_form_29 (by decide) ?_
      exact r_iret cx dX4_form_38 hr (mP_t (by simp [kc, h_10]) (by rw [hcj, h_25]; rfl) S rfl) (Nat.le_of_ble_eq_true rfl) (Nat.le_of_ble_eq_true rfl)
  · skip
    refine r_aload_n cx dX4_form_13 rfl rfl ?_
    refine r_iconst (v := nI 1) cx dX4_form_14 (by decide) ?_
    refine k_X4_103 cx (c_mFails l g md wr _ N A B L S (nI 1)) dX4_form_15 22 rfl ⟨Nat.le_of_ble_eq_true rfl, Nat.le_of_ble_eq_true rfl⟩ ⟨Nat.le_of_ble_eq_true rfl, Nat.le_of_ble_eq_true rfl⟩ rfl rfl (Nat.le_of_ble_eq_true rfl) (fun r w hp => ?_)
    obtain ⟨rfl, rfl⟩ := hp
    exact r_iret cx dX4_form_18 hr (mP_f 1 (by simp [kc, h_10]) (by decide) S rfl) (Nat.le_of_ble_eq_true rfl) (Nat.le_of_ble_eq_true rfl)
set_option maxHeartbeats 4000000 in
set_option maxRecDepth 100000 in
theorem c_mStands (l : Launch) (g : q_G) (md : Nat → Nat) (wr : va_W) (t : Int32) (N : Nat → Nat) (A : Nat → Nat → Int32) (B : Nat → Nat → Bool) (L : Nat → Nat → Int64) (S : Nat → Nat → Int32) (hI : inv N A B L) (x1 : Int32) : MetW l g yX4_stands cX4_stands 2 (some .boolean) ({ frames := 2, cells := 0, slots := 0, locals := 43 } : Room) [.ref (md 22), .int x1] (mF g md t N A B L S ++ wr) (q_Qi g (fun r w => mP g md wr (kc (!inR x1 (N 2)) false false) (bI (!B 1 (c32 x1))) N A B L N A B L r w)) := by
  refine q_met (own := RX4) (by decide +kernel) rfl (Nat.le_of_ble_eq_true rfl) (fun p e s m args below meth c cx hr hnm => ?_)
  obtain ⟨⟨i1, i2, i3, i4⟩, j2, j3, j4, j5, j6, j7, j8, j9, j10, j11⟩ := id hI
  refine r_lv (lv2 := [(0, .ref (md 22)), (1, .int x1)]) (q_pk [0, 1] rfl) ?_
  refine r_aload_n cx dX4_stands_0 rfl rfl ?_
  refine r_aload_n cx dX4_stands_1 rfl rfl ?_
  refine r_iload_n cx dX4_stands_2 rfl rfl ?_
  refine k_X4_120 cx (c_mIr l g md wr _ N A B L S x1 (by omega)) dX4_stands_3 22 rfl ⟨Nat.le_of_ble_eq_true rfl, Nat.le_of_ble_eq_true rfl⟩ ⟨Nat.le_of_ble_eq_true rfl, Nat.le_of_ble_eq_true rfl⟩ rfl rfl (Nat.le_of_ble_eq_true rfl) (fun r w hp => ?_)
  obtain ⟨rfl, rfl⟩ := hp
  refine r_ifeqb (tgt := 13) cx dX4_stands_6 (by decide) (fun h_6 => ?_) (fun h_6 => ?_)
  · skip
    refine r_iconst (v := nI 1) cx dX4_stands_13 (by decide) ?_
    refine pf_X4_78 cx dX4_stands_14 22 rfl (Nat.le_of_ble_eq_true rfl) ?_
    refine r_aload_n cx dX4_stands_17 rfl rfl ?_
    refine gf_X4_78 cx dX4_stands_18 22 rfl rfl ?_
    refine r_ifne (tgt := 37) cx dX4_stands_21 (by decide) (fun h_21 => ?_) (fun h_21 => ?_)
    · skip
      refine r_iconst (v := nI 0) cx dX4_stands_37 (by decide) ?_
      exact r_zret cx dX4_stands_38 hr rfl (mP_f 1 (by simp [kc, h_6]) (by decide) S rfl) (Nat.le_of_ble_eq_true rfl) (Nat.le_of_ble_eq_true rfl)
    · exact absurd h_21 (by decide)
  · skip
    obtain ⟨j, hj, rfl, hcj⟩ := inR_ix (x := x1) (n := N 2) (by simpa using h_6) (by omega)
    refine r_iconst (v := nI 0) cx dX4_stands_9 (by decide) ?_
    refine r_goto (tgt := 14) cx dX4_stands_10 (by decide) ?_
    refine pf_X4_78 cx dX4_stands_14 22 rfl (Nat.le_of_ble_eq_true rfl) ?_
    refine r_aload_n cx dX4_stands_17 rfl rfl ?_
    refine gf_X4_78 cx dX4_stands_18 22 rfl rfl ?_
    refine r_ifne (tgt := 37) cx dX4_stands_21 (by decide) (fun h_21 => ?_) (fun h_21 => ?_)
    · exact absurd h_21 (by decide)
    · skip
      refine r_aload_n cx dX4_stands_24 rfl rfl ?_
      refine gf_X4_53 cx dX4_stands_25 22 rfl rfl ?_
      refine r_iload_n cx dX4_stands_28 rfl rfl ?_
      first | refine r_zaldN cx 7 2 dX4_stands_29 rfl rfl (by omega) (by omega) ?_ | refine r_zald cx 7 2 dX4_stands_29 rfl rfl (by omega) ?_
      refine r_ifneb (tgt := 37) cx dX4_stands_30 (by decide) (fun h_30 => ?_) (fun h_30 => ?_)
      · skip
        refine r_iconst (v := nI 0) cx dX4_stands_37 (by decide) ?_
        exact r_zret cx dX4_stands_38 hr rfl (mP_t (by simp [kc, h_6]) (by rw [hcj, h_30]; rfl) S rfl) (Nat.le_of_ble_eq_true rfl) (Nat.le_of_ble_eq_true rfl)
      · skip
        refine r_iconst (v := nI 1) cx dX4_stands_33 (by decide) ?_
        refine r_goto (tgt := 38) cx dX4_stands_34 (by decide) ?_
        exact r_zret cx dX4_stands_38 hr rfl (mP_t (by simp [kc, h_6]) (by rw [hcj, h_30]; rfl) S rfl) (Nat.le_of_ble_eq_true rfl) (Nat.le_of_ble_eq_true rfl)
set_option maxHeartbeats 4000000 in
set_option maxRecDepth 100000 in
theorem c_mCopy (l : Launch) (g : q_G) (md : Nat → Nat) (wr : va_W) (t : Int32) (N : Nat → Nat) (A : Nat → Nat → Int32) (B : Nat → Nat → Bool) (L : Nat → Nat → Int64) (S : Nat → Nat → Int32) (hI : inv N A B L) (x1 : Int32) : MetW l g yX4_copy cX4_copy 2 (some .int) ({ frames := 2, cells := 0, slots := 0, locals := 42 } : Room) [.ref (md 22), .int x1] (mF g md t N A B L S ++ wr) (q_Qi g (fun r w => mP g md wr (kc (!inR x1 3) false false) (nI (bcL (lN (thS (B 0) (N 1))))) N A B (va_up L 1 (vp_updL (L 1) (c32 x1) (lN (thS (B 0) (N 1))))) N A B L r w)) := by
  refine q_met (own := RX4) (by decide +kernel) rfl (Nat.le_of_ble_eq_true rfl) (fun p e s m args below meth c cx hr hnm => ?_)
  obtain ⟨⟨i1, i2, i3, i4⟩, j2, j3, j4, j5, j6, j7, j8, j9, j10, j11⟩ := id hI
  refine r_lv (lv2 := [(0, .ref (md 22)), (1, .int x1)]) (q_pk [0, 1] rfl) ?_
  refine r_aload_n cx dX4_copy_0 rfl rfl ?_
  refine r_iconst (v := nI 0) cx dX4_copy_1 (by decide) ?_
  refine pf_X4_78 cx dX4_copy_2 22 rfl (Nat.le_of_ble_eq_true rfl) ?_
  refine r_ws (ws2 := mF g md (nI 0) N A B L S ++ wr) rfl ?_
  refine r_iload_n cx dX4_copy_5 rfl rfl ?_
  refine k_X4_150 cx (c_mSc l g _ x1) dX4_copy_6 ⟨Nat.le_of_ble_eq_true rfl, Nat.le_of_ble_eq_true rfl⟩ ⟨Nat.le_of_ble_eq_true rfl, Nat.le_of_ble_eq_true rfl⟩ rfl rfl (Nat.le_of_ble_eq_true rfl) (fun r w hp => ?_)
  obtain ⟨rfl, rfl⟩ := hp
  refine r_ifneb (tgt := 18) cx dX4_copy_9 (by decide) (fun h_9 => ?_) (fun h_9 => ?_)
  · skip
    obtain ⟨j, hj, rfl, hcj⟩ := inR_ix (x := x1) (n := 3) (by simpa using h_9) (by omega)
    refine r_aload_n cx dX4_copy_18 rfl rfl ?_
    refine gf_X4_60 cx dX4_copy_19 22 rfl rfl ?_
    refine r_iload_n cx dX4_copy_22 rfl rfl ?_
    refine r_aload_n cx dX4_copy_23 rfl rfl ?_
    refine k_X4_153 cx (c_mTh l g md wr _ N A B L S i2) dX4_copy_24 22 rfl ⟨Nat.le_of_ble_eq_true rfl, Nat.le_of_ble_eq_true rfl⟩ ⟨Nat.le_of_ble_eq_true rfl, Nat.le_of_ble_eq_true rfl⟩ rfl rfl (Nat.le_of_ble_eq_true rfl) (fun r w hp => ?_)
    obtain ⟨rfl, rfl⟩ := hp
    first | refine r_lastN cx 5 1 dX4_copy_27 rfl rfl (by omega) (by omega) ?_ | refine r_last cx 5 1 dX4_copy_27 rfl rfl (by omega) ?_
    refine r_aload_n cx dX4_copy_28 rfl rfl ?_
    refine gf_X4_60 cx dX4_copy_29 22 rfl rfl ?_
    refine r_iload_n cx dX4_copy_32 rfl rfl ?_
    first | refine r_laldN cx 5 1 dX4_copy_33 rfl rfl (by omega) (by omega) ?_ | refine r_lald cx 5 1 dX4_copy_33 rfl rfl (by omega) ?_
    refine r_eql (y := lN (thS (B 0) (N 1))) pk_uLs ?_
    refine k_X4_123 cx (c_mCnt l g _ _ (thS_lt i2)) dX4_copy_34 ⟨Nat.le_of_ble_eq_true rfl, Nat.le_of_ble_eq_true rfl⟩ ⟨Nat.le_of_ble_eq_true rfl, Nat.le_of_ble_eq_true rfl⟩ rfl rfl (Nat.le_of_ble_eq_true rfl) (fun r w hp => ?_)
    obtain ⟨rfl, rfl⟩ := hp
    exact r_iret cx dX4_copy_37 hr (mP_t (by simp [kc, h_9]) (by rw [bcL_lN (thS_lt i2)]) S (by rw [hcj]; rfl)) (Nat.le_of_ble_eq_true rfl) (Nat.le_of_ble_eq_true rfl)
  · skip
    refine r_aload_n cx dX4_copy_12 rfl rfl ?_
    refine r_iconst (v := nI 1) cx dX4_copy_13 (by decide) ?_
    refine k_X4_103 cx (c_mFails l g md wr _ N A B L S (nI 1)) dX4_copy_14 22 rfl ⟨Nat.le_of_ble_eq_true rfl, Nat.le_of_ble_eq_true rfl⟩ ⟨Nat.le_of_ble_eq_true rfl, Nat.le_of_ble_eq_true rfl⟩ rfl rfl (Nat.le_of_ble_eq_true rfl) (fun r w hp => ?_)
    obtain ⟨rfl, rfl⟩ := hp
    exact r_iret cx dX4_copy_17 hr (mP_f 1 (by simp [kc, h_9]) (by decide) S rfl) (Nat.le_of_ble_eq_true rfl) (Nat.le_of_ble_eq_true rfl)
set_option maxHeartbeats 4000000 in
set_option maxRecDepth 100000 in
theorem c_mOwed (l : Launch) (g : q_G) (md : Nat → Nat) (wr : va_W) (t : Int32) (N : Nat → Nat) (A : Nat → Nat → Int32) (B : Nat → Nat → Bool) (L : Nat → Nat → Int64) (S : Nat → Nat → Int32) (hI : inv N A B L) (x1 : Int32) : MetW l g yX4_owed cX4_owed 2 (some .int) ({ frames := 2, cells := 0, slots := 0, locals := 42 } : Room) [.ref (md 22), .int x1] (mF g md t N A B L S ++ wr) (q_Qi g (fun r w => mP g md wr (kc (!inR x1 3) false false) (nI (bcL (L 1 (c32 x1) &&& (lN (thS (B 0) (N 1)) ^^^ (-1))))) N A B L N A B L r w)) := by
  refine q_met (own := RX4) (by decide +kernel) rfl (Nat.le_of_ble_eq_true rfl) (fun p e s m args below meth c cx hr hnm => ?_)
  obtain ⟨⟨i1, i2, i3, i4⟩, j2, j3, j4, j5, j6, j7, j8, j9, j10, j11⟩ := id hI
  refine r_lv (lv2 := [(0, .ref (md 22)), (1, .int x1)]) (q_pk [0, 1] rfl) ?_
  refine r_aload_n cx dX4_owed_0 rfl rfl ?_
  refine r_iconst (v := nI 0) cx dX4_owed_1 (by decide) ?_
  refine pf_X4_78 cx dX4_owed_2 22 rfl (Nat.le_of_ble_eq_true rfl) ?_
  refine r_ws (ws2 := mF g md (nI 0) N A B L S ++ wr) rfl ?_
  refine r_iload_n cx dX4_owed_5 rfl rfl ?_
  refine k_X4_150 cx (c_mSc l g _ x1) dX4_owed_6 ⟨Nat.le_of_ble_eq_true rfl, Nat.le_of_ble_eq_true rfl⟩ ⟨Nat.le_of_ble_eq_true rfl, Nat.le_of_ble_eq_true rfl⟩ rfl rfl (Nat.le_of_ble_eq_true rfl) (fun r w hp => ?_)
  obtain ⟨rfl, rfl⟩ := hp
  refine r_ifeqb (tgt := 33) cx dX4_owed_9 (by decide) (fun h_9 => ?_) (fun h_9 => ?_)
  · skip
    refine r_aload_n cx dX4_owed_33 rfl rfl ?_
    refine r_iconst (v := nI 1) cx dX4_owed_34 (by decide) ?_
    refine k_X4_103 cx (c_mFails l g md wr _ N A B L S (nI 1)) dX4_owed_35 22 rfl ⟨Nat.le_of_ble_eq_true rfl, Nat.le_of_ble_eq_true rfl⟩ ⟨Nat.le_of_ble_eq_true rfl, Nat.le_of_ble_eq_true rfl⟩ rfl rfl (Nat.le_of_ble_eq_true rfl) (fun r w hp => ?_)
    obtain ⟨rfl, rfl⟩ := hp
    exact r_iret cx dX4_owed_38 hr (mP_f 1 (by simp [kc, h_9]) (by decide) S rfl) (Nat.le_of_ble_eq_true rfl) (Nat.le_of_ble_eq_true rfl)
  · skip
    obtain ⟨j, hj, rfl, hcj⟩ := inR_ix (x := x1) (n := 3) (by simpa using h_9) (by omega)
    obtain ⟨K, hK, hKe⟩ := j10 j hj
    refine r_aload_n cx dX4_owed_12 rfl rfl ?_
    refine gf_X4_60 cx dX4_owed_13 22 rfl rfl ?_
    refine r_iload_n cx dX4_owed_16 rfl rfl ?_
    first | refine r_laldN cx 5 1 dX4_owed_17 rfl rfl (by omega) (by omega) ?_ | refine r_lald cx 5 1 dX4_owed_17 rfl rfl (by omega) ?_
    refine r_eql hKe ?_
    refine r_aload_n cx dX4_owed_18 rfl rfl ?_
    refine k_X4_153 cx (c_mTh l g md wr _ N A B L S i2) dX4_owed_19 22 rfl ⟨Nat.le_of_ble_eq_true rfl, Nat.le_of_ble_eq_true rfl⟩ ⟨Nat.le_of_ble_eq_true rfl, Nat.le_of_ble_eq_true rfl⟩ rfl rfl (Nat.le_of_ble_eq_true rfl) (fun r w hp => ?_)
    obtain ⟨rfl, rfl⟩ := hp
    refine r_ldc2 cx dX4_owed_22 tb_768 ?_
    refine r_lxor cx dX4_owed_25 ?_
    refine r_land cx dX4_owed_26 ?_
    refine r_eql (andn _ _) ?_
    refine k_X4_123 cx (c_mCnt l g _ _ (andn_lt hK)) dX4_owed_27 ⟨Nat.le_of_ble_eq_true rfl, Nat.le_of_ble_eq_true rfl⟩ ⟨Nat.le_of_ble_eq_true rfl, Nat.le_of_ble_eq_true rfl⟩ rfl rfl (Nat.le_of_ble_eq_true rfl) (fun r w hp => ?_)
    obtain ⟨rfl, rfl⟩ := hp
    refine r_goto (tgt := 38) cx dX4_owed_30 (by decide) ?_
    exact r_iret cx dX4_owed_38 hr (mP_t (by simp [kc, h_9]) (by rw [hcj, hKe, andn, bcL_lN (andn_lt hK)]) S rfl) (Nat.le_of_ble_eq_true rfl) (Nat.le_of_ble_eq_true rfl)
set_option maxHeartbeats 4000000 in
set_option maxRecDepth 100000 in
theorem c_mTell (l : Launch) (g : q_G) (md : Nat → Nat) (wr : va_W) (t : Int32) (N : Nat → Nat) (A : Nat → Nat → Int32) (B : Nat → Nat → Bool) (L : Nat → Nat → Int64) (S : Nat → Nat → Int32) (hI : inv N A B L) (x1 : Int32) : MetW l g yX4_tell cX4_tell 3 (some .int) ({ frames := 2, cells := 0, slots := 0, locals := 42 } : Room) [.ref (md 22), .int x1] (mF g md t N A B L S ++ wr) (q_Qi g (fun r w => mP g md wr (kc (!inR x1 3) false false) (nI (bcL (L 1 (c32 x1) &&& (lN (thS (B 0) (N 1)) ^^^ (-1))))) N A B (va_up L 1 (vp_updL (L 1) (c32 x1) (L 1 (c32 x1) &&& lN (thS (B 0) (N 1))))) N A B L r w)) := by
  refine q_met (own := RX4) (by decide +kernel) rfl (Nat.le_of_ble_eq_true rfl) (fun p e s m args below meth c cx hr hnm => ?_)
  obtain ⟨⟨i1, i2, i3, i4⟩, j2, j3, j4, j5, j6, j7, j8, j9, j10, j11⟩ := id hI
  refine r_lv (lv2 := [(0, .ref (md 22)), (1, .int x1)]) (q_pk [0, 1] rfl) ?_
  refine r_aload_n cx dX4_tell_0 rfl rfl ?_
  refine r_iconst (v := nI 0) cx dX4_tell_1 (by decide) ?_
  refine pf_X4_78 cx dX4_tell_2 22 rfl (Nat.le_of_ble_eq_true rfl) ?_
  refine r_ws (ws2 := mF g md (nI 0) N A B L S ++ wr) rfl ?_
  refine r_iload_n cx dX4_tell_5 rfl rfl ?_
  refine k_X4_150 cx (c_mSc l g _ x1) dX4_tell_6 ⟨Nat.le_of_ble_eq_true rfl, Nat.le_of_ble_eq_true rfl⟩ ⟨Nat.le_of_ble_eq_true rfl, Nat.le_of_ble_eq_true rfl⟩ rfl rfl (Nat.le_of_ble_eq_true rfl) (fun r w hp => ?_)
  obtain ⟨rfl, rfl⟩ := hp
  refine r_ifneb (tgt := 18) cx dX4_tell_9 (by decide) (fun h_9 => ?_) (fun h_9 => ?_)
  · skip
    obtain ⟨j, hj, rfl, hcj⟩ := inR_ix (x := x1) (n := 3) (by simpa using h_9) (by omega)
    obtain ⟨K, hK, hKe⟩ := j10 j hj
    refine r_aload_n cx dX4_tell_18 rfl rfl ?_
    refine gf_X4_60 cx dX4_tell_19 22 rfl rfl ?_
    refine r_iload_n cx dX4_tell_22 rfl rfl ?_
    first | refine r_laldN cx 5 1 dX4_tell_23 rfl rfl (by omega) (by omega) ?_ | refine r_lald cx 5 1 dX4_tell_23 rfl rfl (by omega) ?_
    refine r_eql hKe ?_
    refine r_aload_n cx dX4_tell_24 rfl rfl ?_
    refine k_X4_153 cx (c_mTh l g md wr _ N A B L S i2) dX4_tell_25 22 rfl ⟨Nat.le_of_ble_eq_true rfl, Nat.le_of_ble_eq_true rfl⟩ ⟨Nat.le_of_ble_eq_true rfl, Nat.le_of_ble_eq_true rfl⟩ rfl rfl (Nat.le_of_ble_eq_true rfl) (fun r w hp => ?_)
    obtain ⟨rfl, rfl⟩ := hp
    refine r_ldc2 cx dX4_tell_28 tb_768 ?_
    refine r_lxor cx dX4_tell_31 ?_
    refine r_land cx dX4_tell_32 ?_
    refine r_eql (andn _ _) ?_
    refine k_X4_123 cx (c_mCnt l g _ _ (andn_lt hK)) dX4_tell_33 ⟨Nat.le_of_ble_eq_true rfl, Nat.le_of_ble_eq_true rfl⟩ ⟨Nat.le_of_ble_eq_true rfl, Nat.le_of_ble_eq_true rfl⟩ rfl rfl (Nat.le_of_ble_eq_true rfl) (fun r w hp => ?_)
    obtain ⟨rfl, rfl⟩ := hp
    refine r_istore_n cx dX4_tell_36 rfl (by decide) rfl ?_
    refine r_aload_n cx dX4_tell_37 rfl rfl ?_
    refine gf_X4_60 cx dX4_tell_38 22 rfl rfl ?_
    refine r_iload_n cx dX4_tell_41 rfl rfl ?_
    refine r_dup2 cx dX4_tell_42 rfl rfl ?_
    first | refine r_laldN cx 5 1 dX4_tell_43 rfl rfl (by omega) (by omega) ?_ | refine r_lald cx 5 1 dX4_tell_43 rfl rfl (by omega) ?_
    refine r_aload_n cx dX4_tell_44 rfl rfl ?_
    refine k_X4_153 cx (c_mTh l g md wr _ N A B L S i2) dX4_tell_45 22 rfl ⟨Nat.le_of_ble_eq_true rfl, Nat.le_of_ble_eq_true rfl⟩ ⟨Nat.le_of_ble_eq_true rfl, Nat.le_of_ble_eq_true rfl⟩ rfl rfl (Nat.le_of_ble_eq_true rfl) (fun r w hp => ?_)
    obtain ⟨rfl, rfl⟩ := hp
    refine r_land cx dX4_tell_48 ?_
    first | refine r_lastN cx 5 1 dX4_tell_49 rfl rfl (by omega) (by omega) ?_ | refine r_last cx 5 1 dX4_tell_49 rfl rfl (by omega) ?_
    refine r_iload_n cx dX4_tell_50 rfl rfl ?_
    exact r_iret cx dX4_tell_51 hr (mP_t (by simp [kc, h_9]) (by rw [hcj, hKe, andn, bcL_lN (andn_lt hK)]) S (by rw [hcj]; rfl)) (Nat.le_of_ble_eq_true rfl) (Nat.le_of_ble_eq_true rfl)
  · skip
    refine r_aload_n cx dX4_tell_12 rfl rfl ?_
    refine r_iconst (v := nI 1) cx dX4_tell_13 (by decide) ?_
    refine k_X4_103 cx (c_mFails l g md wr _ N A B L S (nI 1)) dX4_tell_14 22 rfl ⟨Nat.le_of_ble_eq_true rfl, Nat.le_of_ble_eq_true rfl⟩ ⟨Nat.le_of_ble_eq_true rfl, Nat.le_of_ble_eq_true rfl⟩ rfl rfl (Nat.le_of_ble_eq_true rfl) (fun r w hp => ?_)
    obtain ⟨rfl, rfl⟩ := hp
    exact r_iret cx dX4_tell_17 hr (mP_f 1 (by simp [kc, h_9]) (by decide) S rfl) (Nat.le_of_ble_eq_true rfl) (Nat.le_of_ble_eq_true rfl)
set_option maxHeartbeats 4000000 in
set_option maxRecDepth 100000 in
theorem c_mQuote (l : Launch) (g : q_G) (md : Nat → Nat) (wr : va_W) (t : Int32) (N : Nat → Nat) (A : Nat → Nat → Int32) (B : Nat → Nat → Bool) (L : Nat → Nat → Int64) (S : Nat → Nat → Int32) (hI : inv N A B L) (x1 : Int32) : MetW l g yX4_quote cX4_quote 2 (some .int) ({ frames := 2, cells := 0, slots := 0, locals := 43 } : Room) [.ref (md 22), .int x1] (mF g md t N A B L S ++ wr) (q_Qi g (fun r w => mP g md wr (kc (!inR x1 (N 1)) (B 0 (c32 x1) || decide (N 3 = 20)) false) (nI (N 3)) (va_up N 3 (N 3 + 1)) (va_up A 13 (upd (A 13) (N 3) x1)) B L N A B L r w)) := by
  refine q_met (own := RX4) (by decide +kernel) rfl (Nat.le_of_ble_eq_true rfl) (fun p e s m args below meth c cx hr hnm => ?_)
  obtain ⟨⟨i1, i2, i3, i4⟩, j2, j3, j4, j5, j6, j7, j8, j9, j10, j11⟩ := id hI
  refine r_lv (lv2 := [(0, .ref (md 22)), (1, .int x1)]) (q_pk [0, 1] rfl) ?_
  refine r_aload_n cx dX4_quote_0 rfl rfl ?_
  refine r_iconst (v := nI 0) cx dX4_quote_1 (by decide) ?_
  refine pf_X4_78 cx dX4_quote_2 22 rfl (Nat.le_of_ble_eq_true rfl) ?_
  refine r_ws (ws2 := mF g md (nI 0) N A B L S ++ wr) rfl ?_
  refine r_aload_n cx dX4_quote_5 rfl rfl ?_
  refine r_iload_n cx dX4_quote_6 rfl rfl ?_
  refine k_X4_117 cx (c_mIi l g md wr _ N A B L S x1 i2) dX4_quote_7 22 rfl ⟨Nat.le_of_ble_eq_true rfl, Nat.le_of_ble_eq_true rfl⟩ ⟨Nat.le_of_ble_eq_true rfl, Nat.le_of_ble_eq_true rfl⟩ rfl rfl (Nat.le_of_ble_eq_true rfl) (fun r w hp => ?_)
  obtain ⟨rfl, rfl⟩ := hp
  refine r_ifneb (tgt := 19) cx dX4_quote_10 (by decide) (fun h_10 => ?_) (fun h_10 => ?_)
  · skip
    obtain ⟨j, hj, rfl, hcj⟩ := inR_ix (x := x1) (n := N 1) (by simpa using h_10) (by omega)
    refine r_aload_n cx dX4_quote_19 rfl rfl ?_
    refine gf_X4_28 cx dX4_quote_20 22 rfl rfl ?_
    refine r_iload_n cx dX4_quote_23 rfl rfl ?_
    first | refine r_zaldN cx 15 2 dX4_quote_24 rfl rfl (by omega) (by omega) ?_ | refine r_zald cx 15 2 dX4_quote_24 rfl rfl (by omega) ?_
    refine r_ifneb (tgt := 37) cx dX4_quote_25 (by decide) (fun h_25 => ?_) (fun h_25 => ?_)
    · skip
      refine r_aload_n cx dX4_quote_37 rfl rfl ?_
      refine r_iconst (v := nI 2) cx dX4_quote_38 (by decide) ?_
      refine k_X4_103 cx (c_mFails l g md wr _ N A B L S (nI 2)) dX4_quote_39 22 rfl ⟨Nat.le_of_ble_eq_true rfl, Nat.le_of_ble_eq_true rfl⟩ ⟨Nat.le_of_ble_eq_true rfl, Nat.le_of_ble_eq_true rfl⟩ rfl rfl (Nat.le_of_ble_eq_true rfl) (fun r w hp => ?_)
      obtain ⟨rfl, rfl⟩ := hp
      exact r_iret cx dX4_quote_42 hr (mP_f 2 (by rw [hcj]; simp [kc, h_10, h_25]) (by decide) S rfl) (Nat.le_of_ble_eq_true rfl) (Nat.le_of_ble_eq_true rfl)
    · skip
      refine r_aload_n cx dX4_quote_28 rfl rfl ?_
      refine gf_X4_157 cx dX4_quote_29 22 rfl rfl ?_
      refine r_bipush (v := nI 20) cx dX4_quote_32 (by decide) ?_
      refine r_icmpneN (tgt := 43) cx (by omega) (by omega) dX4_quote_34 (by decide) (fun h_34 => ?_) (fun h_34 => ?_)
      · skip
        refine r_aload_n cx dX4_quote_43 rfl rfl ?_
        refine gf_X4_63 cx dX4_quote_44 22 rfl rfl ?_
        refine r_aload_n cx dX4_quote_47 rfl rfl ?_
        refine gf_X4_157 cx dX4_quote_48 22 rfl rfl ?_
        refine r_iload_n cx dX4_quote_51 rfl rfl ?_
        first | refine r_iastN cx 4 0 dX4_quote_52 rfl rfl (by omega) (by omega) ?_ | refine r_iast cx 4 0 dX4_quote_52 rfl rfl (by omega) ?_
        refine r_aload_n cx dX4_quote_53 rfl rfl ?_
        refine r_dup cx dX4_quote_54 rfl ?_
        refine gf_X4_157 cx dX4_quote_55 22 rfl rfl ?_
        refine r_iconst (v := nI 1) cx dX4_quote_58 (by decide) ?_
        first | refine r_iaddN cx dX4_quote_59 ?_ | refine r_iadd cx dX4_quote_59 ?_
        refine pf_X4_157 cx dX4_quote_60 22 rfl (Nat.le_of_ble_eq_true rfl) ?_
        refine r_aload_n cx dX4_quote_63 rfl rfl ?_
        refine gf_X4_157 cx dX4_quote_64 22 rfl rfl ?_
        refine r_iconst (v := nI 1) cx dX4_quote_67 (by decide) ?_
        first | refine r_isubN cx dX4_quote_68 (by omega) ?_ | refine r_isub cx dX4_quote_68 ?_
        exact r_iret cx dX4_quote_69 hr (mP_t (by rw [hcj]; simp [kc, h_10, h_25, h_34]) (rfl) S rfl) (Nat.le_of_ble_eq_true rfl) (Nat.le_of_ble_eq_true rfl)
      · skip
        refine r_aload_n cx dX4_quote_37 rfl rfl ?_
        refine r_iconst (v := nI 2) cx dX4_quote_38 (by decide) ?_
        refine k_X4_103 cx (c_mFails l g md wr _ N A B L S (nI 2)) dX4_quote_39 22 rfl ⟨Nat.le_of_ble_eq_true rfl, Nat.le_of_ble_eq_true rfl⟩ ⟨Nat.le_of_ble_eq_true rfl, Nat.le_of_ble_eq_true rfl⟩ rfl rfl (Nat.le_of_ble_eq_true rfl) (fun r w hp => ?_)
        obtain ⟨rfl, rfl⟩ := hp
        exact r_iret cx dX4_quote_42 hr (mP_f 2 (by rw [hcj]; simp [kc, h_10, h_25, h_34]) (by decide) S rfl) (Nat.le_of_ble_eq_true rfl) (Nat.le_of_ble_eq_true rfl)
  · skip
    refine r_aload_n cx dX4_quote_13 rfl rfl ?_
    refine r_iconst (v := nI 1) cx dX4_quote_14 (by decide) ?_
    refine k_X4_103 cx (c_mFails l g md wr _ N A B L S (nI 1)) dX4_quote_15 22 rfl ⟨Nat.le_of_ble_eq_true rfl, Nat.le_of_ble_eq_true rfl⟩ ⟨Nat.le_of_ble_eq_true rfl, Nat.le_of_ble_eq_true rfl⟩ rfl rfl (Nat.le_of_ble_eq_true rfl) (fun r w hp => ?_)
    obtain ⟨rfl, rfl⟩ := hp
    exact r_iret cx dX4_quote_18 hr (mP_f 1 (by simp [kc, h_10]) (by decide) S rfl) (Nat.le_of_ble_eq_true rfl) (Nat.le_of_ble_eq_true rfl)
set_option maxHeartbeats 4000000 in
set_option maxRecDepth 100000 in
theorem c_mQuoted (l : Launch) (g : q_G) (md : Nat → Nat) (wr : va_W) (t : Int32) (N : Nat → Nat) (A : Nat → Nat → Int32) (B : Nat → Nat → Bool) (L : Nat → Nat → Int64) (S : Nat → Nat → Int32) (hI : inv N A B L) (x1 : Int32) : MetW l g yX4_quoted cX4_quoted 2 (some .int) ({ frames := 1, cells := 0, slots := 0, locals := 22 } : Room) [.ref (md 22), .int x1] (mF g md t N A B L S ++ wr) (q_Qi g (fun r w => mP g md wr (kc (!inR x1 (N 3)) false false) ((if B 0 (c32 (A 13 (c32 x1))) then -1 else A 5 (c32 (A 13 (c32 x1))))) N A B L N A B L r w)) := by
  refine q_met (own := RX4) (by decide +kernel) rfl (Nat.le_of_ble_eq_true rfl) (fun p e s m args below meth c cx hr hnm => ?_)
  obtain ⟨⟨i1, i2, i3, i4⟩, j2, j3, j4, j5, j6, j7, j8, j9, j10, j11⟩ := id hI
  refine r_lv (lv2 := [(0, .ref (md 22)), (1, .int x1)]) (q_pk [0, 1] rfl) ?_
  refine r_aload_n cx dX4_quoted_0 rfl rfl ?_
  refine r_iconst (v := nI 0) cx dX4_quoted_1 (by decide) ?_
  refine pf_X4_78 cx dX4_quoted_2 22 rfl (Nat.le_of_ble_eq_true rfl) ?_
  refine r_ws (ws2 := mF g md (nI 0) N A B L S ++ wr) rfl ?_
  refine r_iload_n cx dX4_quoted_5 rfl rfl ?_
  refine r_iconst (v := nI 0) cx dX4_quoted_6 (by decide) ?_
  refine r_aload_n cx dX4_quoted_7 rfl rfl ?_
  refine gf_X4_157 cx dX4_quoted_8 22 rfl rfl ?_
  refine r_iconst (v := nI 1) cx dX4_quoted_11 (by decide) ?_
  refine r_isub cx dX4_quoted_12 ?_
  refine k_X4_82 cx (c_mIn l g _ x1 (nI 0) (nI (N 3) - nI 1)) dX4_quoted_13 ⟨Nat.le_of_ble_eq_true rfl, Nat.le_of_ble_eq_true rfl⟩ ⟨Nat.le_of_ble_eq_true rfl, Nat.le_of_ble_eq_true rfl⟩ rfl rfl (Nat.le_of_ble_eq_true rfl) (fun r w hp => ?_)
  obtain ⟨rfl, rfl⟩ := hp
  rw [in_1 x1 (N 3) (by omega)]
  refine r_ifneb (tgt := 25) cx dX4_quoted_16 (by decide) (fun h_16 => ?_) (fun h_16 => ?_)
  · skip
    obtain ⟨j, hj, rfl, hcj⟩ := inR_ix (x := x1) (n := N 3) (by simpa using h_16) (by omega)
    obtain ⟨hq1, hq2⟩ := j11 j hj
    obtain ⟨q, hq⟩ : ∃ q, q = c32 (A 13 j) := ⟨_, rfl⟩
    rw [← hq] at hq1 hq2
    refine r_aload_n cx dX4_quoted_25 rfl rfl ?_
    refine gf_X4_28 cx dX4_quoted_26 22 rfl rfl ?_
    refine r_aload_n cx dX4_quoted_29 rfl rfl ?_
    refine gf_X4_63 cx dX4_quoted_30 22 rfl rfl ?_
    refine r_iload_n cx dX4_quoted_33 rfl rfl ?_
    first | refine r_ialdN cx 4 0 dX4_quoted_34 rfl rfl (by omega) (by omega) ?_ | refine r_iald cx 4 0 dX4_quoted_34 rfl rfl (by omega) ?_
    refine r_eqi hq2 ?_
    first | refine r_zaldN cx 15 2 dX4_quoted_35 rfl rfl (by omega) (by omega) ?_ | refine r_zald cx 15 2 dX4_quoted_35 rfl rfl (by omega) ?_
    refine r_ifeqb (tgt := 43) cx dX4_quoted_36 (by decide) (fun h_36 => ?_) (fun h_36 => ?_)
    · skip
      refine r_aload_n cx dX4_quoted_43 rfl rfl ?_
      refine gf_X4_25 cx dX4_quoted_44 22 rfl rfl ?_
      refine r_aload_n cx dX4_quoted_47 rfl rfl ?_
      refine gf_X4_63 cx dX4_quoted_48 22 rfl rfl ?_
      refine r_iload_n cx dX4_quoted_51 rfl rfl ?_
      first | refine r_ialdN cx 4 0 dX4_quoted_52 rfl rfl (by omega) (by omega) ?_ | refine r_iald cx 4 0 dX4_quoted_52 rfl rfl (by omega) ?_
      refine r_eqi hq2 ?_
      first | refine r_ialdN cx 16 0 dX4_quoted_53 rfl rfl (by omega) (by omega) ?_ | refine r_iald cx 16 0 dX4_quoted_53 rfl rfl (by omega) ?_
      exact r_iret cx dX4_quoted_54 hr (mP_t (by simp [kc, h_16]) (by rw [hcj, ← hq, h_36]; rfl) S rfl) (Nat.le_of_ble_eq_true rfl) (Nat.le_of_ble_eq_true rfl)
    · skip
      refine r_iconst (v := -1) cx dX4_quoted_39 (by decide) ?_
      refine r_goto (tgt := 54) cx dX4_quoted_40 (by decide) ?_
      exact r_iret cx dX4_quoted_54 hr (mP_t (by simp [kc, h_16]) (by rw [hcj, ← hq, h_36]; rfl) S rfl) (Nat.le_of_ble_eq_true rfl) (Nat.le_of_ble_eq_true rfl)
  · skip
    refine r_aload_n cx dX4_quoted_19 rfl rfl ?_
    refine r_iconst (v := nI 1) cx dX4_quoted_20 (by decide) ?_
    refine k_X4_103 cx (c_mFails l g md wr _ N A B L S (nI 1)) dX4_quoted_21 22 rfl ⟨Nat.le_of_ble_eq_true rfl, Nat.le_of_ble_eq_true rfl⟩ ⟨Nat.le_of_ble_eq_true rfl, Nat.le_of_ble_eq_true rfl⟩ rfl rfl (Nat.le_of_ble_eq_true rfl) (fun r w hp => ?_)
    obtain ⟨rfl, rfl⟩ := hp
    exact r_iret cx dX4_quoted_24 hr (mP_f 1 (by simp [kc, h_16]) (by decide) S rfl) (Nat.le_of_ble_eq_true rfl) (Nat.le_of_ble_eq_true rfl)
