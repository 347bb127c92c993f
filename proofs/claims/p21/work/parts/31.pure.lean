set_option maxHeartbeats 4000000 in
set_option maxRecDepth 100000 in
theorem p_form (l : Launch) (g : q_G) (N : Nat → Nat) (A : Nat → Nat → Int32) (B : Nat → Nat → Bool) (L : Nat → Nat → Int64) (wm ws : va_W) (a0 : Nat) (hI : inv N A B L) (hR : cR g a0 N A B L wm ws) (x1 : Int32) (hk : (kc (!inR x1 (N 1)) false false) = 0) : MetW l g yX3_form cX3_form 2 (some .int) ({ frames := 6, cells := 0, slots := 0, locals := 90 } : Room) [.ref a0, .int x1] (ws) (q_Qi g (fun r w => (kc (!inR x1 (N 1)) false false) = 0 ∧ r = (if B 0 (c32 x1) then -1 else A 5 (c32 x1)) ∧ w = ws)) := by
  refine q_met (own := RX3) (by decide +kernel) rfl (Nat.le_of_ble_eq_true rfl) (fun p e s m args below meth c cx hr hnm => ?_)
  obtain ⟨ad, mc, el, ia, ra, th, dr, dl, ro, kl, kn, row, P, f, rfl, rfl, hF⟩ := hR
  have hiv := cF_iv (ad := ad) (mc := mc) (row := row) (wm := wm) hI hF
  have hrl := cF_rl (ad := ad) (mc := mc) (row := row) (wm := wm) hI hF
  have hqu := cF_qu (ad := ad) (mc := mc) (row := row) (wm := wm) hI hF
  obtain ⟨⟨rfl, rfl, rfl⟩, f2, f3, f4, f5, f6, f7, f8, f9, f10, f11, f12, f13⟩ := id hF
  obtain ⟨⟨i1, i2, i3, i4⟩, j2, j3, j4, j5, j6, j7, j8, j9, j10, j11⟩ := id hI
  refine r_lv (lv2 := [(0, .ref (ad 8)), (1, .int x1)]) (q_pk [0, 1] rfl) ?_
  refine r_iload_n cx dX3_form_0 rfl rfl ?_
  refine r_aload_n cx dX3_form_1 rfl rfl ?_
  refine gf_X3_10 cx dX3_form_2 8 rfl rfl ?_
  refine k_X3_80 cx (c_lsize l g _ (ad 7) (N 1) ia hiv.2.1) dX3_form_5 7 rfl ⟨Nat.le_of_ble_eq_true rfl, Nat.le_of_ble_eq_true rfl⟩ ⟨Nat.le_of_ble_eq_true rfl, Nat.le_of_ble_eq_true rfl⟩ rfl rfl (Nat.le_of_ble_eq_true rfl) (fun r w hp => ?_)
  obtain ⟨rfl, rfl⟩ := hp
  refine k_X3_57 cx (c_isOutside l g _ x1 (N 1) (by omega)) dX3_form_8 ⟨Nat.le_of_ble_eq_true rfl, Nat.le_of_ble_eq_true rfl⟩ ⟨Nat.le_of_ble_eq_true rfl, Nat.le_of_ble_eq_true rfl⟩ rfl rfl (Nat.le_of_ble_eq_true rfl) (fun r w hp => ?_)
  obtain ⟨rfl, rfl⟩ := hp
  refine r_ifeqb (tgt := 24) cx dX3_form_11 (by decide) (fun h_11 => ?_) (fun h_11 => ?_)
  · skip
    obtain ⟨j, hj, rfl, hcj⟩ := inR_ix (x := x1) (n := N 1) (by simpa using h_11) (by omega)
    refine r_aload_n cx dX3_form_24 rfl rfl ?_
    refine r_aload_n cx dX3_form_25 rfl rfl ?_
    refine gf_X3_10 cx dX3_form_26 8 rfl rfl ?_
    refine r_iload_n cx dX3_form_29 rfl rfl ?_
    refine k_X3_108 cx (c_lget l g _ (ad 7) (N 1) j ia hiv.2.1 hj) dX3_form_30 7 rfl ⟨Nat.le_of_ble_eq_true rfl, Nat.le_of_ble_eq_true rfl⟩ ⟨Nat.le_of_ble_eq_true rfl, Nat.le_of_ble_eq_true rfl⟩ rfl rfl (Nat.le_of_ble_eq_true rfl) (fun r w hp => ?_)
    obtain ⟨rfl, rfl⟩ := hp
    obtain ⟨qi, hqi⟩ := hiv.2.2.2 j hj
    refine r_eqv (y := .ref (ia j)) rfl ?_
    refine r_cast (ci := 1) cx tb_219 dX3_form_33 qi rfl rfl hqi ?_
    refine k_X3_112 cx (c_formIfThere l g _ 8 qi _ _ _ _ _ _ _ _ _ _ _ _ _ _ _ _ _ _ rfl hqi) dX3_form_36 8 rfl ⟨Nat.le_of_ble_eq_true rfl, Nat.le_of_ble_eq_true rfl⟩ ⟨Nat.le_of_ble_eq_true rfl, Nat.le_of_ble_eq_true rfl⟩ rfl rfl (Nat.le_of_ble_eq_true rfl) (fun r w hp => ?_)
    obtain ⟨rfl, rfl⟩ := hp
    exact r_iret cx dX3_form_39 hr (⟨by simp [kc, h_11], by rw [hr_th i2 hj, hcj]; cases B 0 j <;> rfl, rfl⟩) (Nat.le_of_ble_eq_true rfl) (Nat.le_of_ble_eq_true rfl)
  · skip
    exact absurd (show pe1 (kc (!inR x1 (N 1)) false false) [] "java/lang/IndexOutOfBoundsException" [] from ⟨⟨rfl, by simp [kc, h_11]⟩, rfl⟩) (pe1_no hk)
set_option maxHeartbeats 4000000 in
set_option maxRecDepth 100000 in
theorem p_stands (l : Launch) (g : q_G) (N : Nat → Nat) (A : Nat → Nat → Int32) (B : Nat → Nat → Bool) (L : Nat → Nat → Int64) (wm ws : va_W) (a0 : Nat) (hI : inv N A B L) (hR : cR g a0 N A B L wm ws) (x1 : Int32) (hk : (kc (!inR x1 (N 2)) false false) = 0) : MetW l g yX3_stands cX3_stands 2 (some .boolean) ({ frames := 6, cells := 0, slots := 0, locals := 90 } : Room) [.ref a0, .int x1] (ws) (q_Qi g (fun r w => (kc (!inR x1 (N 2)) false false) = 0 ∧ r = bI (!B 1 (c32 x1)) ∧ w = ws)) := by
  refine q_met (own := RX3) (by decide +kernel) rfl (Nat.le_of_ble_eq_true rfl) (fun p e s m args below meth c cx hr hnm => ?_)
  obtain ⟨ad, mc, el, ia, ra, th, dr, dl, ro, kl, kn, row, P, f, rfl, rfl, hF⟩ := hR
  have hiv := cF_iv (ad := ad) (mc := mc) (row := row) (wm := wm) hI hF
  have hrl := cF_rl (ad := ad) (mc := mc) (row := row) (wm := wm) hI hF
  have hqu := cF_qu (ad := ad) (mc := mc) (row := row) (wm := wm) hI hF
  obtain ⟨⟨rfl, rfl, rfl⟩, f2, f3, f4, f5, f6, f7, f8, f9, f10, f11, f12, f13⟩ := id hF
  obtain ⟨⟨i1, i2, i3, i4⟩, j2, j3, j4, j5, j6, j7, j8, j9, j10, j11⟩ := id hI
  refine r_lv (lv2 := [(0, .ref (ad 8)), (1, .int x1)]) (q_pk [0, 1] rfl) ?_
  refine r_iload_n cx dX3_stands_0 rfl rfl ?_
  refine r_aload_n cx dX3_stands_1 rfl rfl ?_
  refine gf_X3_16 cx dX3_stands_2 8 rfl rfl ?_
  refine k_X3_80 cx (c_lsize l g _ (ad 6) (N 2) ra hrl.2.1) dX3_stands_5 6 rfl ⟨Nat.le_of_ble_eq_true rfl, Nat.le_of_ble_eq_true rfl⟩ ⟨Nat.le_of_ble_eq_true rfl, Nat.le_of_ble_eq_true rfl⟩ rfl rfl (Nat.le_of_ble_eq_true rfl) (fun r w hp => ?_)
  obtain ⟨rfl, rfl⟩ := hp
  refine k_X3_57 cx (c_isOutside l g _ x1 (N 2) (by omega)) dX3_stands_8 ⟨Nat.le_of_ble_eq_true rfl, Nat.le_of_ble_eq_true rfl⟩ ⟨Nat.le_of_ble_eq_true rfl, Nat.le_of_ble_eq_true rfl⟩ rfl rfl (Nat.le_of_ble_eq_true rfl) (fun r w hp => ?_)
  obtain ⟨rfl, rfl⟩ := hp
  refine r_ifeqb (tgt := 24) cx dX3_stands_11 (by decide) (fun h_11 => ?_) (fun h_11 => ?_)
  · skip
    obtain ⟨j, hj, rfl, hcj⟩ := inR_ix (x := x1) (n := N 2) (by simpa using h_11) (by omega)
    refine r_aload_n cx dX3_stands_24 rfl rfl ?_
    refine gf_X3_16 cx dX3_stands_25 8 rfl rfl ?_
    refine r_iload_n cx dX3_stands_28 rfl rfl ?_
    refine k_X3_108 cx (c_lget l g _ (ad 6) (N 2) j ra hrl.2.1 hj) dX3_stands_29 6 rfl ⟨Nat.le_of_ble_eq_true rfl, Nat.le_of_ble_eq_true rfl⟩ ⟨Nat.le_of_ble_eq_true rfl, Nat.le_of_ble_eq_true rfl⟩ rfl rfl (Nat.le_of_ble_eq_true rfl) (fun r w hp => ?_)
    obtain ⟨rfl, rfl⟩ := hp
    obtain ⟨qr, hqr⟩ := hrl.2.2.2.2 j hj
    refine r_eqv (y := .ref (ra j)) rfl ?_
    refine r_cast (ci := 2) cx tb_263 dX3_stands_32 qr rfl rfl hqr ?_
    refine gf_X3_135 cx dX3_stands_35 qr hqr rfl ?_
    refine r_ifneb (tgt := 45) cx dX3_stands_38 (by decide) (fun h_38 => ?_) (fun h_38 => ?_)
    · skip
      refine r_iconst (v := nI 0) cx dX3_stands_45 (by decide) ?_
      exact r_zret cx dX3_stands_46 hr rfl (⟨by simp [kc, h_11], by rw [hcj, h_38]; rfl, rfl⟩) (Nat.le_of_ble_eq_true rfl) (Nat.le_of_ble_eq_true rfl)
    · skip
      refine r_iconst (v := nI 1) cx dX3_stands_41 (by decide) ?_
      refine r_goto (tgt := 46) cx dX3_stands_42 (by decide) ?_
      exact r_zret cx dX3_stands_46 hr rfl (⟨by simp [kc, h_11], by rw [hcj, h_38]; rfl, rfl⟩) (Nat.le_of_ble_eq_true rfl) (Nat.le_of_ble_eq_true rfl)
  · skip
    exact absurd (show pe1 (kc (!inR x1 (N 2)) false false) [] "java/lang/IndexOutOfBoundsException" [] from ⟨⟨rfl, by simp [kc, h_11]⟩, rfl⟩) (pe1_no hk)
set_option maxHeartbeats 4000000 in
set_option maxRecDepth 100000 in
theorem p_expected (l : Launch) (g : q_G) (N : Nat → Nat) (A : Nat → Nat → Int32) (B : Nat → Nat → Bool) (L : Nat → Nat → Int64) (wm ws : va_W) (a0 : Nat) (hI : inv N A B L) (hR : cR g a0 N A B L wm ws) (x1 : Int32) (x2 : Int32) (x3 : Int32) (hk : (kc (!(inR x1 4 && inR x2 10)) (!inR x3 301) false) = 0) : MetW l g yX3_expected cX3_expected 4 (some .int) ({ frames := 6, cells := 0, slots := 0, locals := 90 } : Room) [.ref a0, .int x1, .int x2, .int x3] (ws) (q_Qi g (fun r w => (kc (!(inR x1 4 && inR x2 10)) (!inR x3 301) false) = 0 ∧ r = expV N A B (c32 x1) x2 x3 ∧ w = ws)) := by
  refine q_met (own := RX3) (by decide +kernel) rfl (Nat.le_of_ble_eq_true rfl) (fun p e s m args below meth c cx hr hnm => ?_)
  obtain ⟨ad, mc, el, ia, ra, th, dr, dl, ro, kl, kn, row, P, f, rfl, rfl, hF⟩ := hR
  have hiv := cF_iv (ad := ad) (mc := mc) (row := row) (wm := wm) hI hF
  have hrl := cF_rl (ad := ad) (mc := mc) (row := row) (wm := wm) hI hF
  have hqu := cF_qu (ad := ad) (mc := mc) (row := row) (wm := wm) hI hF
  obtain ⟨⟨rfl, rfl, rfl⟩, f2, f3, f4, f5, f6, f7, f8, f9, f10, f11, f12, f13⟩ := id hF
  obtain ⟨⟨i1, i2, i3, i4⟩, j2, j3, j4, j5, j6, j7, j8, j9, j10, j11⟩ := id hI
  refine r_lv (lv2 := [(0, .ref (ad 8)), (1, .int x1), (2, .int x2), (3, .int x3)]) (q_pk [0, 1, 2, 3] rfl) ?_
  refine r_iload_n cx dX3_expected_0 rfl rfl ?_
  refine r_iconst (v := nI 4) cx dX3_expected_1 (by decide) ?_
  refine k_X3_57 cx (c_isOutside l g _ x1 (4) (by omega)) dX3_expected_2 ⟨Nat.le_of_ble_eq_true rfl, Nat.le_of_ble_eq_true rfl⟩ ⟨Nat.le_of_ble_eq_true rfl, Nat.le_of_ble_eq_true rfl⟩ rfl rfl (Nat.le_of_ble_eq_true rfl) (fun r w hp => ?_)
  obtain ⟨rfl, rfl⟩ := hp
  refine r_ifneb (tgt := 17) cx dX3_expected_5 (by decide) (fun h_5 => ?_) (fun h_5 => ?_)
  · skip
    exact absurd (show peA (kc (!(inR x1 4 && inR x2 10)) (!inR x3 301) false) [] "java/lang/IndexOutOfBoundsException" [] from ⟨Or.inl ⟨rfl, by first | (simp [kc, h_5]; done) | (simp [kc, h_14]; done)⟩, rfl⟩) (peA_no hk)
  · skip
    refine r_iload_n cx dX3_expected_8 rfl rfl ?_
    refine r_bipush (v := nI 10) cx dX3_expected_9 (by decide) ?_
    refine k_X3_57 cx (c_isOutside l g _ x2 (10) (by omega)) dX3_expected_11 ⟨Nat.le_of_ble_eq_true rfl, Nat.le_of_ble_eq_true rfl⟩ ⟨Nat.le_of_ble_eq_true rfl, Nat.le_of_ble_eq_true rfl⟩ rfl rfl (Nat.le_of_ble_eq_true rfl) (fun r w hp => ?_)
    obtain ⟨rfl, rfl⟩ := hp
    refine r_ifeqb (tgt := 27) cx dX3_expected_14 (by decide) (fun h_14 => ?_) (fun h_14 => ?_)
    · skip
      refine r_iload_n cx dX3_expected_27 rfl rfl ?_
      refine r_sipush (v := nI 301) cx dX3_expected_28 (by decide) ?_
      refine k_X3_57 cx (c_isOutside l g _ x3 (301) (by omega)) dX3_expected_31 ⟨Nat.le_of_ble_eq_true rfl, Nat.le_of_ble_eq_true rfl⟩ ⟨Nat.le_of_ble_eq_true rfl, Nat.le_of_ble_eq_true rfl⟩ rfl rfl (Nat.le_of_ble_eq_true rfl) (fun r w hp => ?_)
      obtain ⟨rfl, rfl⟩ := hp
      refine r_ifeqb (tgt := 47) cx dX3_expected_34 (by decide) (fun h_34 => ?_) (fun h_34 => ?_)
      · skip
        obtain ⟨j, hj, rfl, hcj⟩ := inR_ix (x := x1) (n := 4) (by simpa using h_5) (by omega)
        refine r_aload_n cx dX3_expected_47 rfl rfl ?_
        refine r_aload_n cx dX3_expected_48 rfl rfl ?_
        refine gf_X3_22 cx dX3_expected_49 8 rfl rfl ?_
        refine r_iload_n cx dX3_expected_52 rfl rfl ?_
        first | refine r_ialdN cx 4 0 dX3_expected_53 rfl rfl (by omega) (by omega) ?_ | refine r_iald cx 4 0 dX3_expected_53 rfl rfl (by omega) ?_
        refine r_eqi (y := roI (unF (A 6 j))) ((f2 j hj).trans (j5 j hj).symm) ?_
        refine r_iload_n cx dX3_expected_54 rfl rfl ?_
        refine r_iload_n cx dX3_expected_55 rfl rfl ?_
        refine k_X3_164 cx (c_applyRules l g _ (ad 8) (ad 6) (N 2) ra _ _ _ _ _ _ (unF (A 6 j)) x2 x3 (fun l hl9 => ⟨(unF_some hl9).2.1, (unF_some hl9).2.2.1⟩) hrl) dX3_expected_56 8 rfl ⟨Nat.le_of_ble_eq_true rfl, Nat.le_of_ble_eq_true rfl⟩ ⟨Nat.le_of_ble_eq_true rfl, Nat.le_of_ble_eq_true rfl⟩ rfl rfl (Nat.le_of_ble_eq_true rfl) (fun r w hp => ?_)
        obtain ⟨rfl, rfl⟩ := hp
        exact r_iret cx dX3_expected_59 hr (⟨by simp at h_5 h_14 h_34; simp [kc, h_5, h_14, h_34], by rw [hcj]; rfl, rfl⟩) (Nat.le_of_ble_eq_true rfl) (Nat.le_of_ble_eq_true rfl)
      · skip
        exact absurd (show peA (kc (!(inR x1 4 && inR x2 10)) (!inR x3 301) false) [] "java/lang/IllegalArgumentException" [] from ⟨Or.inr ⟨rfl, by simp at h_5 h_14 h_34; simp [kc, h_5, h_14, h_34]⟩, rfl⟩) (peA_no hk)
    · skip
      exact absurd (show peA (kc (!(inR x1 4 && inR x2 10)) (!inR x3 301) false) [] "java/lang/IndexOutOfBoundsException" [] from ⟨Or.inl ⟨rfl, by first | (simp [kc, h_5]; done) | (simp [kc, h_14]; done)⟩, rfl⟩) (peA_no hk)
set_option maxHeartbeats 4000000 in
set_option maxRecDepth 100000 in
theorem p_formAt (l : Launch) (g : q_G) (N : Nat → Nat) (A : Nat → Nat → Int32) (B : Nat → Nat → Bool) (L : Nat → Nat → Int64) (wm ws : va_W) (a0 : Nat) (hI : inv N A B L) (hR : cR g a0 N A B L wm ws) (x1 : Int32) (x2 : Int32) (hk : (kc (!(inR x1 4 && inR x2 10)) false false) = 0) : MetW l g yX3_formAt cX3_formAt 3 (some .int) ({ frames := 6, cells := 0, slots := 0, locals := 115 } : Room) [.ref a0, .int x1, .int x2] (ws) (q_Qi g (fun r w => (kc (!(inR x1 4 && inR x2 10)) false false) = 0 ∧ r = mst (hrS B) (fiS A) (N 1) x1 x2 ∧ w = ws)) := by
  refine q_met (own := RX3) (by decide +kernel) rfl (Nat.le_of_ble_eq_true rfl) (fun p e s m args below meth c cx hr hnm => ?_)
  obtain ⟨ad, mc, el, ia, ra, th, dr, dl, ro, kl, kn, row, P, f, rfl, rfl, hF⟩ := hR
  have hiv := cF_iv (ad := ad) (mc := mc) (row := row) (wm := wm) hI hF
  have hrl := cF_rl (ad := ad) (mc := mc) (row := row) (wm := wm) hI hF
  have hqu := cF_qu (ad := ad) (mc := mc) (row := row) (wm := wm) hI hF
  obtain ⟨⟨rfl, rfl, rfl⟩, f2, f3, f4, f5, f6, f7, f8, f9, f10, f11, f12, f13⟩ := id hF
  obtain ⟨⟨i1, i2, i3, i4⟩, j2, j3, j4, j5, j6, j7, j8, j9, j10, j11⟩ := id hI
  refine r_lv (lv2 := [(0, .ref (ad 8)), (1, .int x1), (2, .int x2)]) (q_pk [0, 1, 2] rfl) ?_
  refine r_iload_n cx dX3_formAt_0 rfl rfl ?_
  refine r_iconst (v := nI 4) cx dX3_formAt_1 (by decide) ?_
  refine k_X3_57 cx (c_isOutside l g _ x1 (4) (by omega)) dX3_formAt_2 ⟨Nat.le_of_ble_eq_true rfl, Nat.le_of_ble_eq_true rfl⟩ ⟨Nat.le_of_ble_eq_true rfl, Nat.le_of_ble_eq_true rfl⟩ rfl rfl (Nat.le_of_ble_eq_true rfl) (fun r w hp => ?_)
  obtain ⟨rfl, rfl⟩ := hp
  refine r_ifneb (tgt := 17) cx dX3_formAt_5 (by decide) (fun h_5 => ?_) (fun h_5 => ?_)
  · skip
    exact absurd (show pe1 (kc (!(inR x1 4 && inR x2 10)) false false) [] "java/lang/IndexOutOfBoundsException" [] from ⟨⟨rfl, by first | (simp [kc, h_5]; done) | (simp [kc, h_14]; done)⟩, rfl⟩) (pe1_no hk)
  · skip
    refine r_iload_n cx dX3_formAt_8 rfl rfl ?_
    refine r_bipush (v := nI 10) cx dX3_formAt_9 (by decide) ?_
    refine k_X3_57 cx (c_isOutside l g _ x2 (10) (by omega)) dX3_formAt_11 ⟨Nat.le_of_ble_eq_true rfl, Nat.le_of_ble_eq_true rfl⟩ ⟨Nat.le_of_ble_eq_true rfl, Nat.le_of_ble_eq_true rfl⟩ rfl rfl (Nat.le_of_ble_eq_true rfl) (fun r w hp => ?_)
    obtain ⟨rfl, rfl⟩ := hp
    refine r_ifeqb (tgt := 27) cx dX3_formAt_14 (by decide) (fun h_14 => ?_) (fun h_14 => ?_)
    · skip
      refine r_aload_n cx dX3_formAt_27 rfl rfl ?_
      refine r_iload_n cx dX3_formAt_28 rfl rfl ?_
      refine r_iload_n cx dX3_formAt_29 rfl rfl ?_
      refine k_X3_184 cx (c_most l g _ (ad 8) (ad 7) _ (N 1) ia _ (fiS A) x1 x2 hiv) dX3_formAt_30 8 rfl ⟨Nat.le_of_ble_eq_true rfl, Nat.le_of_ble_eq_true rfl⟩ ⟨Nat.le_of_ble_eq_true rfl, Nat.le_of_ble_eq_true rfl⟩ rfl rfl (Nat.le_of_ble_eq_true rfl) (fun r w hp => ?_)
      obtain ⟨rfl, rfl⟩ := hp
      exact r_iret cx dX3_formAt_33 hr (⟨by simp at h_5 h_14; simp [kc, h_5, h_14], mst_th i2, rfl⟩) (Nat.le_of_ble_eq_true rfl) (Nat.le_of_ble_eq_true rfl)
    · skip
      exact absurd (show pe1 (kc (!(inR x1 4 && inR x2 10)) false false) [] "java/lang/IndexOutOfBoundsException" [] from ⟨⟨rfl, by first | (simp [kc, h_5]; done) | (simp [kc, h_14]; done)⟩, rfl⟩) (pe1_no hk)
set_option maxHeartbeats 4000000 in
set_option maxRecDepth 100000 in
theorem p_lines (l : Launch) (g : q_G) (N : Nat → Nat) (A : Nat → Nat → Int32) (B : Nat → Nat → Bool) (L : Nat → Nat → Int64) (wm ws : va_W) (a0 : Nat) (hI : inv N A B L) (hR : cR g a0 N A B L wm ws) (x1 : Int32) (hk : (kc (!inR x1 4) false false) = 0) : MetW l g yX3_lines cX3_lines 2 (some .int) ({ frames := 6, cells := 0, slots := 0, locals := 90 } : Room) [.ref a0, .int x1] (ws) (q_Qi g (fun r w => (kc (!inR x1 4) false false) = 0 ∧ r = drw (hrS B) (fiS A) (N 1) x1 ∧ w = ws)) := by
  refine q_met (own := RX3) (by decide +kernel) rfl (Nat.le_of_ble_eq_true rfl) (fun p e s m args below meth c cx hr hnm => ?_)
  obtain ⟨ad, mc, el, ia, ra, th, dr, dl, ro, kl, kn, row, P, f, rfl, rfl, hF⟩ := hR
  have hiv := cF_iv (ad := ad) (mc := mc) (row := row) (wm := wm) hI hF
  have hrl := cF_rl (ad := ad) (mc := mc) (row := row) (wm := wm) hI hF
  have hqu := cF_qu (ad := ad) (mc := mc) (row := row) (wm := wm) hI hF
  obtain ⟨⟨rfl, rfl, rfl⟩, f2, f3, f4, f5, f6, f7, f8, f9, f10, f11, f12, f13⟩ := id hF
  obtain ⟨⟨i1, i2, i3, i4⟩, j2, j3, j4, j5, j6, j7, j8, j9, j10, j11⟩ := id hI
  refine r_lv (lv2 := [(0, .ref (ad 8)), (1, .int x1)]) (q_pk [0, 1] rfl) ?_
  refine r_iload_n cx dX3_lines_0 rfl rfl ?_
  refine r_iconst (v := nI 4) cx dX3_lines_1 (by decide) ?_
  refine k_X3_57 cx (c_isOutside l g _ x1 (4) (by omega)) dX3_lines_2 ⟨Nat.le_of_ble_eq_true rfl, Nat.le_of_ble_eq_true rfl⟩ ⟨Nat.le_of_ble_eq_true rfl, Nat.le_of_ble_eq_true rfl⟩ rfl rfl (Nat.le_of_ble_eq_true rfl) (fun r w hp => ?_)
  obtain ⟨rfl, rfl⟩ := hp
  refine r_ifeqb (tgt := 18) cx dX3_lines_5 (by decide) (fun h_5 => ?_) (fun h_5 => ?_)
  · skip
    obtain ⟨j, hj, rfl, hcj⟩ := inR_ix (x := x1) (n := 4) (by simpa using h_5) (by omega)
    refine r_aload_n cx dX3_lines_18 rfl rfl ?_
    refine gf_X3_26 cx dX3_lines_19 8 rfl rfl ?_
    refine r_iload_n cx dX3_lines_22 rfl rfl ?_
    first | refine r_ialdN cx 3 0 dX3_lines_23 rfl rfl (by omega) (by omega) ?_ | refine r_iald cx 3 0 dX3_lines_23 rfl rfl (by omega) ?_
    exact r_iret cx dX3_lines_24 hr (⟨by simp [kc, h_5], f3 j hj, rfl⟩) (Nat.le_of_ble_eq_true rfl) (Nat.le_of_ble_eq_true rfl)
  · skip
    exact absurd (show pe1 (kc (!inR x1 4) false false) [] "java/lang/IndexOutOfBoundsException" [] from ⟨⟨rfl, by simp [kc, h_5]⟩, rfl⟩) (pe1_no hk)
set_option maxHeartbeats 4000000 in
set_option maxRecDepth 100000 in
theorem p_linesByForms (l : Launch) (g : q_G) (N : Nat → Nat) (A : Nat → Nat → Int32) (B : Nat → Nat → Bool) (L : Nat → Nat → Int64) (wm ws : va_W) (a0 : Nat) (hI : inv N A B L) (hR : cR g a0 N A B L wm ws) (x1 : Int32) (hk : (kc (!inR x1 4) false false) = 0) : MetW l g yX3_linesByForms cX3_linesByForms 2 (some .int) ({ frames := 6, cells := 0, slots := 0, locals := 140 } : Room) [.ref a0, .int x1] (ws) (q_Qi g (fun r w => (kc (!inR x1 4) false false) = 0 ∧ r = drw (hrS B) (fiS A) (N 1) x1 ∧ w = ws)) := by
  refine q_met (own := RX3) (by decide +kernel) rfl (Nat.le_of_ble_eq_true rfl) (fun p e s m args below meth c cx hr hnm => ?_)
  obtain ⟨ad, mc, el, ia, ra, th, dr, dl, ro, kl, kn, row, P, f, rfl, rfl, hF⟩ := hR
  have hiv := cF_iv (ad := ad) (mc := mc) (row := row) (wm := wm) hI hF
  have hrl := cF_rl (ad := ad) (mc := mc) (row := row) (wm := wm) hI hF
  have hqu := cF_qu (ad := ad) (mc := mc) (row := row) (wm := wm) hI hF
  obtain ⟨⟨rfl, rfl, rfl⟩, f2, f3, f4, f5, f6, f7, f8, f9, f10, f11, f12, f13⟩ := id hF
  obtain ⟨⟨i1, i2, i3, i4⟩, j2, j3, j4, j5, j6, j7, j8, j9, j10, j11⟩ := id hI
  refine r_lv (lv2 := [(0, .ref (ad 8)), (1, .int x1)]) (q_pk [0, 1] rfl) ?_
  refine r_iload_n cx dX3_linesByForms_0 rfl rfl ?_
  refine r_iconst (v := nI 4) cx dX3_linesByForms_1 (by decide) ?_
  refine k_X3_57 cx (c_isOutside l g _ x1 (4) (by omega)) dX3_linesByForms_2 ⟨Nat.le_of_ble_eq_true rfl, Nat.le_of_ble_eq_true rfl⟩ ⟨Nat.le_of_ble_eq_true rfl, Nat.le_of_ble_eq_true rfl⟩ rfl rfl (Nat.le_of_ble_eq_true rfl) (fun r w hp => ?_)
  obtain ⟨rfl, rfl⟩ := hp
  refine r_ifeqb (tgt := 18) cx dX3_linesByForms_5 (by decide) (fun h_5 => ?_) (fun h_5 => ?_)
  · skip
    refine r_aload_n cx dX3_linesByForms_18 rfl rfl ?_
    refine r_iload_n cx dX3_linesByForms_19 rfl rfl ?_
    refine k_X3_98 cx (c_drawLines l g _ (ad 8) (ad 7) _ (N 1) ia _ (fiS A) x1 hiv) dX3_linesByForms_20 8 rfl ⟨Nat.le_of_ble_eq_true rfl, Nat.le_of_ble_eq_true rfl⟩ ⟨Nat.le_of_ble_eq_true rfl, Nat.le_of_ble_eq_true rfl⟩ rfl rfl (Nat.le_of_ble_eq_true rfl) (fun r w hp => ?_)
    obtain ⟨rfl, rfl⟩ := hp
    exact r_iret cx dX3_linesByForms_23 hr (⟨by simp [kc, h_5], drw_th i2, rfl⟩) (Nat.le_of_ble_eq_true rfl) (Nat.le_of_ble_eq_true rfl)
  · skip
    exact absurd (show pe1 (kc (!inR x1 4) false false) [] "java/lang/IndexOutOfBoundsException" [] from ⟨⟨rfl, by simp [kc, h_5]⟩, rfl⟩) (pe1_no hk)
set_option maxHeartbeats 4000000 in
set_option maxRecDepth 100000 in
theorem p_owed (l : Launch) (g : q_G) (N : Nat → Nat) (A : Nat → Nat → Int32) (B : Nat → Nat → Bool) (L : Nat → Nat → Int64) (wm ws : va_W) (a0 : Nat) (hI : inv N A B L) (hR : cR g a0 N A B L wm ws) (x1 : Int32) (hk : (kc (!inR x1 3) false false) = 0) : MetW l g yX3_owed cX3_owed 2 (some .int) ({ frames := 6, cells := 0, slots := 0, locals := 90 } : Room) [.ref a0, .int x1] (ws) (q_Qi g (fun r w => (kc (!inR x1 3) false false) = 0 ∧ r = nI (bcL (L 1 (c32 x1) &&& (lN (thS (B 0) (N 1)) ^^^ (-1)))) ∧ w = ws)) := by
  refine q_met (own := RX3) (by decide +kernel) rfl (Nat.le_of_ble_eq_true rfl) (fun p e s m args below meth c cx hr hnm => ?_)
  obtain ⟨ad, mc, el, ia, ra, th, dr, dl, ro, kl, kn, row, P, f, rfl, rfl, hF⟩ := hR
  have hiv := cF_iv (ad := ad) (mc := mc) (row := row) (wm := wm) hI hF
  have hrl := cF_rl (ad := ad) (mc := mc) (row := row) (wm := wm) hI hF
  have hqu := cF_qu (ad := ad) (mc := mc) (row := row) (wm := wm) hI hF
  obtain ⟨⟨rfl, rfl, rfl⟩, f2, f3, f4, f5, f6, f7, f8, f9, f10, f11, f12, f13⟩ := id hF
  obtain ⟨⟨i1, i2, i3, i4⟩, j2, j3, j4, j5, j6, j7, j8, j9, j10, j11⟩ := id hI
  refine r_lv (lv2 := [(0, .ref (ad 8)), (1, .int x1)]) (q_pk [0, 1] rfl) ?_
  refine r_iload_n cx dX3_owed_0 rfl rfl ?_
  refine r_iconst (v := nI 3) cx dX3_owed_1 (by decide) ?_
  refine k_X3_57 cx (c_isOutside l g _ x1 (3) (by omega)) dX3_owed_2 ⟨Nat.le_of_ble_eq_true rfl, Nat.le_of_ble_eq_true rfl⟩ ⟨Nat.le_of_ble_eq_true rfl, Nat.le_of_ble_eq_true rfl⟩ rfl rfl (Nat.le_of_ble_eq_true rfl) (fun r w hp => ?_)
  obtain ⟨rfl, rfl⟩ := hp
  refine r_ifeqb (tgt := 18) cx dX3_owed_5 (by decide) (fun h_5 => ?_) (fun h_5 => ?_)
  · skip
    obtain ⟨j, hj, rfl, hcj⟩ := inR_ix (x := x1) (n := 3) (by simpa using h_5) (by omega)
    obtain ⟨K, hK, hKe⟩ := j10 j hj
    have hkn : kn j = lN K := (f4 j hj).trans hKe
    refine r_aload_n cx dX3_owed_18 rfl rfl ?_
    refine gf_X3_29 cx dX3_owed_19 8 rfl rfl ?_
    refine r_iload_n cx dX3_owed_22 rfl rfl ?_
    first | refine r_laldN cx 2 1 dX3_owed_23 rfl rfl (by omega) (by omega) ?_ | refine r_lald cx 2 1 dX3_owed_23 rfl rfl (by omega) ?_
    refine r_eql hkn ?_
    refine r_aload_n cx dX3_owed_24 rfl rfl ?_
    refine gf_X3_40 cx dX3_owed_25 8 rfl rfl ?_
    refine r_ldc2 cx dX3_owed_28 tb_315 ?_
    refine r_lxor cx dX3_owed_31 ?_
    refine r_land cx dX3_owed_32 ?_
    refine r_eql (andn _ _) ?_
    refine k_X3_154 cx (c_bitCount l g _ _ (andn_lt hK)) dX3_owed_33 ⟨Nat.le_of_ble_eq_true rfl, Nat.le_of_ble_eq_true rfl⟩ ⟨Nat.le_of_ble_eq_true rfl, Nat.le_of_ble_eq_true rfl⟩ rfl rfl (Nat.le_of_ble_eq_true rfl) (fun r w hp => ?_)
    obtain ⟨rfl, rfl⟩ := hp
    exact r_iret cx dX3_owed_36 hr (⟨by simp [kc, h_5], by rw [hcj, hKe, andn, bcL_lN (andn_lt hK)], rfl⟩) (Nat.le_of_ble_eq_true rfl) (Nat.le_of_ble_eq_true rfl)
  · skip
    exact absurd (show pe1 (kc (!inR x1 3) false false) [] "java/lang/IndexOutOfBoundsException" [] from ⟨⟨rfl, by simp [kc, h_5]⟩, rfl⟩) (pe1_no hk)
set_option maxHeartbeats 4000000 in
set_option maxRecDepth 100000 in
theorem p_quoted (l : Launch) (g : q_G) (N : Nat → Nat) (A : Nat → Nat → Int32) (B : Nat → Nat → Bool) (L : Nat → Nat → Int64) (wm ws : va_W) (a0 : Nat) (hI : inv N A B L) (hR : cR g a0 N A B L wm ws) (x1 : Int32) (hk : (kc (!inR x1 (N 3)) false false) = 0) : MetW l g yX3_quoted cX3_quoted 2 (some .int) ({ frames := 6, cells := 0, slots := 0, locals := 90 } : Room) [.ref a0, .int x1] (ws) (q_Qi g (fun r w => (kc (!inR x1 (N 3)) false false) = 0 ∧ r = (if B 0 (c32 (A 13 (c32 x1))) then -1 else A 5 (c32 (A 13 (c32 x1)))) ∧ w = ws)) := by
  refine q_met (own := RX3) (by decide +kernel) rfl (Nat.le_of_ble_eq_true rfl) (fun p e s m args below meth c cx hr hnm => ?_)
  obtain ⟨ad, mc, el, ia, ra, th, dr, dl, ro, kl, kn, row, P, f, rfl, rfl, hF⟩ := hR
  have hiv := cF_iv (ad := ad) (mc := mc) (row := row) (wm := wm) hI hF
  have hrl := cF_rl (ad := ad) (mc := mc) (row := row) (wm := wm) hI hF
  have hqu := cF_qu (ad := ad) (mc := mc) (row := row) (wm := wm) hI hF
  obtain ⟨⟨rfl, rfl, rfl⟩, f2, f3, f4, f5, f6, f7, f8, f9, f10, f11, f12, f13⟩ := id hF
  obtain ⟨⟨i1, i2, i3, i4⟩, j2, j3, j4, j5, j6, j7, j8, j9, j10, j11⟩ := id hI
  refine r_lv (lv2 := [(0, .ref (ad 8)), (1, .int x1)]) (q_pk [0, 1] rfl) ?_
  refine r_iload_n cx dX3_quoted_0 rfl rfl ?_
  refine r_aload_n cx dX3_quoted_1 rfl rfl ?_
  refine gf_X3_19 cx dX3_quoted_2 8 rfl rfl ?_
  refine k_X3_80 cx (c_lsize l g _ (ad 5) (N 3) (fun k => ia (c32 (A 13 k))) hqu) dX3_quoted_5 5 rfl ⟨Nat.le_of_ble_eq_true rfl, Nat.le_of_ble_eq_true rfl⟩ ⟨Nat.le_of_ble_eq_true rfl, Nat.le_of_ble_eq_true rfl⟩ rfl rfl (Nat.le_of_ble_eq_true rfl) (fun r w hp => ?_)
  obtain ⟨rfl, rfl⟩ := hp
  refine k_X3_57 cx (c_isOutside l g _ x1 (N 3) (by omega)) dX3_quoted_8 ⟨Nat.le_of_ble_eq_true rfl, Nat.le_of_ble_eq_true rfl⟩ ⟨Nat.le_of_ble_eq_true rfl, Nat.le_of_ble_eq_true rfl⟩ rfl rfl (Nat.le_of_ble_eq_true rfl) (fun r w hp => ?_)
  obtain ⟨rfl, rfl⟩ := hp
  refine r_ifeqb (tgt := 24) cx dX3_quoted_11 (by decide) (fun h_11 => ?_) (fun h_11 => ?_)
  · skip
    obtain ⟨j, hj, rfl, hcj⟩ := inR_ix (x := x1) (n := N 3) (by simpa using h_11) (by omega)
    refine r_aload_n cx dX3_quoted_24 rfl rfl ?_
    refine r_aload_n cx dX3_quoted_25 rfl rfl ?_
    refine gf_X3_19 cx dX3_quoted_26 8 rfl rfl ?_
    refine r_iload_n cx dX3_quoted_29 rfl rfl ?_
    refine k_X3_108 cx (c_lget l g _ (ad 5) (N 3) j (fun k => ia (c32 (A 13 k))) hqu hj) dX3_quoted_30 5 rfl ⟨Nat.le_of_ble_eq_true rfl, Nat.le_of_ble_eq_true rfl⟩ ⟨Nat.le_of_ble_eq_true rfl, Nat.le_of_ble_eq_true rfl⟩ rfl rfl (Nat.le_of_ble_eq_true rfl) (fun r w hp => ?_)
    obtain ⟨rfl, rfl⟩ := hp
    have hj2 := (j11 j hj).1
    obtain ⟨qi, hqi⟩ := hiv.2.2.2 _ hj2
    refine r_eqv (y := .ref (ia (c32 (A 13 j)))) rfl ?_
    refine r_cast (ci := 1) cx tb_219 dX3_quoted_33 qi rfl rfl hqi ?_
    refine k_X3_112 cx (c_formIfThere l g _ 8 qi _ _ _ _ _ _ _ _ _ _ _ _ _ _ _ _ _ _ rfl hqi) dX3_quoted_36 8 rfl ⟨Nat.le_of_ble_eq_true rfl, Nat.le_of_ble_eq_true rfl⟩ ⟨Nat.le_of_ble_eq_true rfl, Nat.le_of_ble_eq_true rfl⟩ rfl rfl (Nat.le_of_ble_eq_true rfl) (fun r w hp => ?_)
    obtain ⟨rfl, rfl⟩ := hp
    exact r_iret cx dX3_quoted_39 hr (⟨by simp [kc, h_11], by rw [hr_th i2 hj2, hcj]; cases B 0 (c32 (A 13 j)) <;> rfl, rfl⟩) (Nat.le_of_ble_eq_true rfl) (Nat.le_of_ble_eq_true rfl)
  · skip
    exact absurd (show pe1 (kc (!inR x1 (N 3)) false false) [] "java/lang/IndexOutOfBoundsException" [] from ⟨⟨rfl, by simp [kc, h_11]⟩, rfl⟩) (pe1_no hk)
set_option maxHeartbeats 4000000 in
set_option maxRecDepth 100000 in
theorem p_far (l : Launch) (g : q_G) (N : Nat → Nat) (A : Nat → Nat → Int32) (B : Nat → Nat → Bool) (L : Nat → Nat → Int64) (wm ws : va_W) (a0 : Nat) (hI : inv N A B L) (hR : cR g a0 N A B L wm ws) (x1 : Int32) (hk : (kc (!inR x1 (N 1)) false false) = 0) : MetW l g yX3_far cX3_far 4 (some .int) ({ frames := 6, cells := 0, slots := 0, locals := 90 } : Room) [.ref a0, .int x1] (ws) (q_Qi g (fun r w => (kc (!inR x1 (N 1)) false false) = 0 ∧ r = farV N A B (c32 x1) ∧ cR g a0 N A B L wm w)) := by
  refine q_met (own := RX3) (by decide +kernel) rfl (Nat.le_of_ble_eq_true rfl) (fun p e s m args below meth c cx hr hnm => ?_)
  obtain ⟨ad, mc, el, ia, ra, th, dr, dl, ro, kl, kn, row, P, f, rfl, rfl, hF⟩ := hR
  have hiv := cF_iv (ad := ad) (mc := mc) (row := row) (wm := wm) hI hF
  have hrl := cF_rl (ad := ad) (mc := mc) (row := row) (wm := wm) hI hF
  have hqu := cF_qu (ad := ad) (mc := mc) (row := row) (wm := wm) hI hF
  obtain ⟨⟨rfl, rfl, rfl⟩, f2, f3, f4, f5, f6, f7, f8, f9, f10, f11, f12, f13⟩ := id hF
  obtain ⟨⟨i1, i2, i3, i4⟩, j2, j3, j4, j5, j6, j7, j8, j9, j10, j11⟩ := id hI
  refine r_lv (lv2 := [(0, .ref (ad 8)), (1, .int x1)]) (q_pk [0, 1] rfl) ?_
  refine r_iload_n cx dX3_far_0 rfl rfl ?_
  refine r_aload_n cx dX3_far_1 rfl rfl ?_
  refine gf_X3_10 cx dX3_far_2 8 rfl rfl ?_
  refine k_X3_80 cx (c_lsize l g _ (ad 7) (N 1) ia hiv.2.1) dX3_far_5 7 rfl ⟨Nat.le_of_ble_eq_true rfl, Nat.le_of_ble_eq_true rfl⟩ ⟨Nat.le_of_ble_eq_true rfl, Nat.le_of_ble_eq_true rfl⟩ rfl rfl (Nat.le_of_ble_eq_true rfl) (fun r w hp => ?_)
  obtain ⟨rfl, rfl⟩ := hp
  refine k_X3_57 cx (c_isOutside l g _ x1 (N 1) (by omega)) dX3_far_8 ⟨Nat.le_of_ble_eq_true rfl, Nat.le_of_ble_eq_true rfl⟩ ⟨Nat.le_of_ble_eq_true rfl, Nat.le_of_ble_eq_true rfl⟩ rfl rfl (Nat.le_of_ble_eq_true rfl) (fun r w hp => ?_)
  obtain ⟨rfl, rfl⟩ := hp
  refine r_ifeqb (tgt := 24) cx dX3_far_11 (by decide) (fun h_11 => ?_) (fun h_11 => ?_)
  · skip
    obtain ⟨j, hj, rfl, hcj⟩ := inR_ix (x := x1) (n := N 1) (by simpa using h_11) (by omega)
    obtain ⟨⟨hw4, hwe⟩, la, hla⟩ := j3 j hj
    have hua := unF_some hla
    refine r_aload_n cx dX3_far_24 rfl rfl ?_
    refine gf_X3_10 cx dX3_far_25 8 rfl rfl ?_
    refine r_iload_n cx dX3_far_28 rfl rfl ?_
    refine k_X3_108 cx (c_lget l g _ (ad 7) (N 1) j ia hiv.2.1 hj) dX3_far_29 7 rfl ⟨Nat.le_of_ble_eq_true rfl, Nat.le_of_ble_eq_true rfl⟩ ⟨Nat.le_of_ble_eq_true rfl, Nat.le_of_ble_eq_true rfl⟩ rfl rfl (Nat.le_of_ble_eq_true rfl) (fun r w hp => ?_)
    obtain ⟨rfl, rfl⟩ := hp
    obtain ⟨qi, hqi⟩ := hiv.2.2.2 j hj
    refine r_eqv (y := .ref (ia j)) rfl ?_
    refine r_cast (ci := 1) cx tb_219 dX3_far_32 qi rfl rfl hqi ?_
    refine r_astore_n cx dX3_far_35 rfl (by decide) rfl ?_
    refine r_aload_n cx dX3_far_36 rfl rfl ?_
    refine gf_X3_22 cx dX3_far_37 8 rfl rfl ?_
    refine r_aload_n cx dX3_far_40 rfl rfl ?_
    refine gf_X3_168 cx dX3_far_41 qi hqi rfl ?_
    refine r_eqi (y := nI (c32 (A 4 j))) hwe ?_
    first | refine r_ialdN cx 4 0 dX3_far_44 rfl rfl (by omega) (by omega) ?_ | refine r_iald cx 4 0 dX3_far_44 rfl rfl (by omega) ?_
    refine r_eqi (y := roI (unF (A 6 (c32 (A 4 j))))) ((f2 _ hw4).trans (j5 _ hw4).symm) ?_
    refine r_istore_n cx dX3_far_45 rfl (by decide) rfl ?_
    refine r_aload_n cx dX3_far_46 rfl rfl ?_
    refine r_aload_n cx dX3_far_47 rfl rfl ?_
    refine k_X3_139 cx (c_isThere l g _ 8 qi _ _ _ _ _ _ _ _ _ _ _ _ _ _ _ _ _ _ rfl hqi) dX3_far_48 8 rfl ⟨Nat.le_of_ble_eq_true rfl, Nat.le_of_ble_eq_true rfl⟩ ⟨Nat.le_of_ble_eq_true rfl, Nat.le_of_ble_eq_true rfl⟩ rfl rfl (Nat.le_of_ble_eq_true rfl) (fun r w hp => ?_)
    obtain ⟨rfl, rfl⟩ := hp
    refine r_ifeqb (tgt := 59) cx dX3_far_51 (by decide) (fun h_51 => ?_) (fun h_51 => ?_)
    · skip
      refine r_iconst (v := -1) cx dX3_far_59 (by decide) ?_
      exact r_iret cx dX3_far_60 hr (⟨by simp [kc, h_11], by rw [hcj, farV]; rw [hr_th i2 hj] at h_51; rw [(by simpa using h_51 : B 0 j = true)]; rfl, ⟨ad, mc, el, ia, ra, _, _, _, ro, kl, kn, row, P, f, rfl, rfl, hF⟩⟩) (Nat.le_of_ble_eq_true rfl) (Nat.le_of_ble_eq_true rfl)
    · skip
      refine r_iload_n cx dX3_far_54 rfl rfl ?_
      refine r_iconst (v := -1) cx dX3_far_55 (by decide) ?_
      refine r_icmpne (tgt := 61) cx dX3_far_56 (by decide) (fun h_56 => ?_) (fun h_56 => ?_)
      · skip
        obtain ⟨lb, hlb⟩ := roI_some h_56
        have hub := unF_some hlb
        have hex := expF_ok (gs := goF (rlS A) (B 1) (A 2 j) (A 3 j)) (so := soF A) (be := beF A) (to := toF A) (n := N 2) (fun r hr9 => (hrl.2.2.2.1 r hr9).2.2) hub.2.1 hub.2.2.1 (N 2) (Nat.le_refl _)
        refine r_aload_n cx dX3_far_61 rfl rfl ?_
        refine gf_X3_36 cx dX3_far_62 8 rfl rfl ?_
        refine r_aload_n cx dX3_far_65 rfl rfl ?_
        refine gf_X3_171 cx dX3_far_66 qi hqi rfl ?_
        refine r_eqi (y := nI (num la)) hua.1 ?_
        refine r_aload_n cx dX3_far_69 rfl rfl ?_
        refine r_iload_n cx dX3_far_70 rfl rfl ?_
        refine r_aload_n cx dX3_far_71 rfl rfl ?_
        refine gf_X3_174 cx dX3_far_72 qi hqi rfl ?_
        refine r_aload_n cx dX3_far_75 rfl rfl ?_
        refine gf_X3_177 cx dX3_far_76 qi hqi rfl ?_
        refine k_X3_164 cx (c_applyRules l g _ (ad 8) (ad 6) (N 2) ra _ _ _ _ _ _ (unF (A 6 (c32 (A 4 j)))) (A 2 j) (A 3 j) (fun l hl9 => ⟨(unF_some hl9).2.1, (unF_some hl9).2.2.1⟩) hrl) dX3_far_79 8 rfl ⟨Nat.le_of_ble_eq_true rfl, Nat.le_of_ble_eq_true rfl⟩ ⟨Nat.le_of_ble_eq_true rfl, Nat.le_of_ble_eq_true rfl⟩ rfl rfl (Nat.le_of_ble_eq_true rfl) (fun r w hp => ?_)
        obtain ⟨rfl, rfl⟩ := hp
        rw [hlb]
        refine r_eqi (y := nI (num (expF (goF (rlS A) (B 1) (A 2 j) (A 3 j)) (soF A) (beF A) (toF A) lb (N 2)))) rfl ?_
        refine r_perm (ws2 := (ad 1, .inr (3, [.ref (ad 0)])) :: (ad 0, .inl (q_cI g, 9, .inl row)) :: _) (List.Perm.swap _ _ _) ?_
        refine k_X3_180 cx (c_countSteps l g _ (ad 1) (ad 0) row la _ hua.2.1 hua.2.2.1 hex.1 hex.2 hua.2.2.2) dX3_far_82 0 rfl ⟨Nat.le_of_ble_eq_true rfl, Nat.le_of_ble_eq_true rfl⟩ ⟨Nat.le_of_ble_eq_true rfl, Nat.le_of_ble_eq_true rfl⟩ rfl rfl (Nat.le_of_ble_eq_true rfl) (fun r w hp => ?_)
        obtain ⟨rfl, row2, rfl⟩ := hp
        refine r_perm (ws2 := iF g ad mc el (fun k => N (k + 1)) (lN (thS (B 0) (N 1))) (nI (num (drL (A 0) (N 0)))) (nI (N 0)) ro kl kn row2 ++ (wm ++ va_pl P f)) (List.Perm.swap _ _ _) ?_
        exact r_iret cx dX3_far_85 hr (⟨by simp [kc, h_11], by rw [hr_th i2 hj] at h_51; rw [hcj, farV, (by simpa using h_51 : B 0 j = false), hla, hlb]; rfl, ⟨ad, mc, el, ia, ra, _, _, _, ro, kl, kn, row2, P, f, rfl, rfl, hF⟩⟩) (Nat.le_of_ble_eq_true rfl) (Nat.le_of_ble_eq_true rfl)
      · skip
        refine r_iconst (v := -1) cx dX3_far_59 (by decide) ?_
        exact r_iret cx dX3_far_60 hr (⟨by simp [kc, h_11], by rw [hcj, farV]; rw [roI_none (fun l hl9 => ⟨(unF_some hl9).2.1, (unF_some hl9).2.2.1⟩) h_56, hla]; cases B 0 j <;> rfl, ⟨ad, mc, el, ia, ra, _, _, _, ro, kl, kn, row, P, f, rfl, rfl, hF⟩⟩) (Nat.le_of_ble_eq_true rfl) (Nat.le_of_ble_eq_true rfl)
  · skip
    exact absurd (show pe1 (kc (!inR x1 (N 1)) false false) [] "java/lang/IndexOutOfBoundsException" [] from ⟨⟨rfl, by simp [kc, h_11]⟩, rfl⟩) (pe1_no hk)
set_option maxHeartbeats 4000000 in
set_option maxRecDepth 100000 in
theorem p_copy (l : Launch) (g : q_G) (N : Nat → Nat) (A : Nat → Nat → Int32) (B : Nat → Nat → Bool) (L : Nat → Nat → Int64) (wm ws : va_W) (a0 : Nat) (hI : inv N A B L) (hR : cR g a0 N A B L wm ws) (x1 : Int32) (hk : (kc (!inR x1 3) false false) = 0) : MetW l g yX3_copy cX3_copy 2 (some .int) ({ frames := 6, cells := 0, slots := 0, locals := 90 } : Room) [.ref a0, .int x1] (ws) (q_Qi g (fun r w => (kc (!inR x1 3) false false) = 0 ∧ r = nI (bcL (lN (thS (B 0) (N 1)))) ∧ cR g a0 (N) (A) B (va_up L 1 (vp_updL (L 1) (c32 x1) (lN (thS (B 0) (N 1))))) wm w)) := by
  refine q_met (own := RX3) (by decide +kernel) rfl (Nat.le_of_ble_eq_true rfl) (fun p e s m args below meth c cx hr hnm => ?_)
  obtain ⟨ad, mc, el, ia, ra, th, dr, dl, ro, kl, kn, row, P, f, rfl, rfl, hF⟩ := hR
  have hiv := cF_iv (ad := ad) (mc := mc) (row := row) (wm := wm) hI hF
  have hrl := cF_rl (ad := ad) (mc := mc) (row := row) (wm := wm) hI hF
  have hqu := cF_qu (ad := ad) (mc := mc) (row := row) (wm := wm) hI hF
  obtain ⟨⟨rfl, rfl, rfl⟩, f2, f3, f4, f5, f6, f7, f8, f9, f10, f11, f12, f13⟩ := id hF
  obtain ⟨⟨i1, i2, i3, i4⟩, j2, j3, j4, j5, j6, j7, j8, j9, j10, j11⟩ := id hI
  refine r_lv (lv2 := [(0, .ref (ad 8)), (1, .int x1)]) (q_pk [0, 1] rfl) ?_
  refine r_iload_n cx dX3_copy_0 rfl rfl ?_
  refine r_iconst (v := nI 3) cx dX3_copy_1 (by decide) ?_
  refine k_X3_57 cx (c_isOutside l g _ x1 (3) (by omega)) dX3_copy_2 ⟨Nat.le_of_ble_eq_true rfl, Nat.le_of_ble_eq_true rfl⟩ ⟨Nat.le_of_ble_eq_true rfl, Nat.le_of_ble_eq_true rfl⟩ rfl rfl (Nat.le_of_ble_eq_true rfl) (fun r w hp => ?_)
  obtain ⟨rfl, rfl⟩ := hp
  refine r_ifeqb (tgt := 18) cx dX3_copy_5 (by decide) (fun h_5 => ?_) (fun h_5 => ?_)
  · skip
    obtain ⟨j, hj, rfl, hcj⟩ := inR_ix (x := x1) (n := 3) (by simpa using h_5) (by omega)
    refine r_aload_n cx dX3_copy_18 rfl rfl ?_
    refine gf_X3_29 cx dX3_copy_19 8 rfl rfl ?_
    refine r_iload_n cx dX3_copy_22 rfl rfl ?_
    refine r_aload_n cx dX3_copy_23 rfl rfl ?_
    refine gf_X3_40 cx dX3_copy_24 8 rfl rfl ?_
    first | refine r_lastN cx 2 1 dX3_copy_27 rfl rfl (by omega) (by omega) ?_ | refine r_last cx 2 1 dX3_copy_27 rfl rfl (by omega) ?_
    refine r_aload_n cx dX3_copy_28 rfl rfl ?_
    refine gf_X3_40 cx dX3_copy_29 8 rfl rfl ?_
    refine k_X3_154 cx (c_bitCount l g _ _ (thS_lt i2)) dX3_copy_32 ⟨Nat.le_of_ble_eq_true rfl, Nat.le_of_ble_eq_true rfl⟩ ⟨Nat.le_of_ble_eq_true rfl, Nat.le_of_ble_eq_true rfl⟩ rfl rfl (Nat.le_of_ble_eq_true rfl) (fun r w hp => ?_)
    obtain ⟨rfl, rfl⟩ := hp
    exact r_iret cx dX3_copy_35 hr (⟨by simp [kc, h_5], by rw [bcL_lN (thS_lt i2)], by rw [hcj]; exact ⟨ad, mc, el, ia, ra, _, _, _, ro, kl, vp_updL kn j (lN (thS (B 0) (N 1))), row, P, f, rfl, rfl, ⟨⟨rfl, rfl, rfl⟩, f2, f3, fun w hw => by
    show vp_updL kn j _ w = vp_updL (L 1) j _ w
    by_cases e9 : w = j
    · rw [e9, pk_uLs, pk_uLs]
    · rw [pk_uLn e9, pk_uLn e9]; exact f4 w hw, f5, f6, f7, f8, f9, f10, f11, f12, f13⟩⟩⟩) (Nat.le_of_ble_eq_true rfl) (Nat.le_of_ble_eq_true rfl)
  · skip
    exact absurd (show pe1 (kc (!inR x1 3) false false) [] "java/lang/IndexOutOfBoundsException" [] from ⟨⟨rfl, by simp [kc, h_5]⟩, rfl⟩) (pe1_no hk)
set_option maxHeartbeats 4000000 in
set_option maxRecDepth 100000 in
theorem p_tell (l : Launch) (g : q_G) (N : Nat → Nat) (A : Nat → Nat → Int32) (B : Nat → Nat → Bool) (L : Nat → Nat → Int64) (wm ws : va_W) (a0 : Nat) (hI : inv N A B L) (hR : cR g a0 N A B L wm ws) (x1 : Int32) (hk : (kc (!inR x1 3) false false) = 0) : MetW l g yX3_tell cX3_tell 4 (some .int) ({ frames := 6, cells := 0, slots := 0, locals := 90 } : Room) [.ref a0, .int x1] (ws) (q_Qi g (fun r w => (kc (!inR x1 3) false false) = 0 ∧ r = nI (bcL (L 1 (c32 x1) &&& (lN (thS (B 0) (N 1)) ^^^ (-1)))) ∧ cR g a0 (N) (A) B (va_up L 1 (vp_updL (L 1) (c32 x1) (L 1 (c32 x1) &&& lN (thS (B 0) (N 1))))) wm w)) := by
  refine q_met (own := RX3) (by decide +kernel) rfl (Nat.le_of_ble_eq_true rfl) (fun p e s m args below meth c cx hr hnm => ?_)
  obtain ⟨ad, mc, el, ia, ra, th, dr, dl, ro, kl, kn, row, P, f, rfl, rfl, hF⟩ := hR
  have hiv := cF_iv (ad := ad) (mc := mc) (row := row) (wm := wm) hI hF
  have hrl := cF_rl (ad := ad) (mc := mc) (row := row) (wm := wm) hI hF
  have hqu := cF_qu (ad := ad) (mc := mc) (row := row) (wm := wm) hI hF
  obtain ⟨⟨rfl, rfl, rfl⟩, f2, f3, f4, f5, f6, f7, f8, f9, f10, f11, f12, f13⟩ := id hF
  obtain ⟨⟨i1, i2, i3, i4⟩, j2, j3, j4, j5, j6, j7, j8, j9, j10, j11⟩ := id hI
  refine r_lv (lv2 := [(0, .ref (ad 8)), (1, .int x1)]) (q_pk [0, 1] rfl) ?_
  refine r_iload_n cx dX3_tell_0 rfl rfl ?_
  refine r_iconst (v := nI 3) cx dX3_tell_1 (by decide) ?_
  refine k_X3_57 cx (c_isOutside l g _ x1 (3) (by omega)) dX3_tell_2 ⟨Nat.le_of_ble_eq_true rfl, Nat.le_of_ble_eq_true rfl⟩ ⟨Nat.le_of_ble_eq_true rfl, Nat.le_of_ble_eq_true rfl⟩ rfl rfl (Nat.le_of_ble_eq_true rfl) (fun r w hp => ?_)
  obtain ⟨rfl, rfl⟩ := hp
  refine r_ifeqb (tgt := 18) cx dX3_tell_5 (by decide) (fun h_5 => ?_) (fun h_5 => ?_)
  · skip
    obtain ⟨j, hj, rfl, hcj⟩ := inR_ix (x := x1) (n := 3) (by simpa using h_5) (by omega)
    obtain ⟨K, hK, hKe⟩ := j10 j hj
    have hkn : kn j = lN K := (f4 j hj).trans hKe
    refine r_aload_n cx dX3_tell_18 rfl rfl ?_
    refine gf_X3_29 cx dX3_tell_19 8 rfl rfl ?_
    refine r_iload_n cx dX3_tell_22 rfl rfl ?_
    first | refine r_laldN cx 2 1 dX3_tell_23 rfl rfl (by omega) (by omega) ?_ | refine r_lald cx 2 1 dX3_tell_23 rfl rfl (by omega) ?_
    refine r_eql hkn ?_
    refine r_aload_n cx dX3_tell_24 rfl rfl ?_
    refine gf_X3_40 cx dX3_tell_25 8 rfl rfl ?_
    refine r_ldc2 cx dX3_tell_28 tb_315 ?_
    refine r_lxor cx dX3_tell_31 ?_
    refine r_land cx dX3_tell_32 ?_
    refine r_eql (andn _ _) ?_
    refine r_lstore_n cx dX3_tell_33 rfl (by decide) rfl ?_
    refine r_aload_n cx dX3_tell_34 rfl rfl ?_
    refine gf_X3_29 cx dX3_tell_35 8 rfl rfl ?_
    refine r_iload_n cx dX3_tell_38 rfl rfl ?_
    refine r_dup2 cx dX3_tell_39 rfl rfl ?_
    first | refine r_laldN cx 2 1 dX3_tell_40 rfl rfl (by omega) (by omega) ?_ | refine r_lald cx 2 1 dX3_tell_40 rfl rfl (by omega) ?_
    refine r_aload_n cx dX3_tell_41 rfl rfl ?_
    refine gf_X3_40 cx dX3_tell_42 8 rfl rfl ?_
    refine r_land cx dX3_tell_45 ?_
    first | refine r_lastN cx 2 1 dX3_tell_46 rfl rfl (by omega) (by omega) ?_ | refine r_last cx 2 1 dX3_tell_46 rfl rfl (by omega) ?_
    refine r_lload_n cx dX3_tell_47 rfl rfl ?_
    refine k_X3_154 cx (c_bitCount l g _ _ (andn_lt hK)) dX3_tell_48 ⟨Nat.le_of_ble_eq_true rfl, Nat.le_of_ble_eq_true rfl⟩ ⟨Nat.le_of_ble_eq_true rfl, Nat.le_of_ble_eq_true rfl⟩ rfl rfl (Nat.le_of_ble_eq_true rfl) (fun r w hp => ?_)
    obtain ⟨rfl, rfl⟩ := hp
    exact r_iret cx dX3_tell_51 hr (⟨by simp [kc, h_5], by rw [hcj, hKe, andn, bcL_lN (andn_lt hK)], by rw [hcj]; exact ⟨ad, mc, el, ia, ra, _, _, _, ro, kl, vp_updL kn j (kn j &&& lN (thS (B 0) (N 1))), row, P, f, rfl, rfl, ⟨⟨rfl, rfl, rfl⟩, f2, f3, fun w hw => by
    show vp_updL kn j _ w = vp_updL (L 1) j _ w
    by_cases e9 : w = j
    · rw [e9, pk_uLs, pk_uLs, f4 j hj]
    · rw [pk_uLn e9, pk_uLn e9]; exact f4 w hw, f5, f6, f7, f8, f9, f10, f11, f12, f13⟩⟩⟩) (Nat.le_of_ble_eq_true rfl) (Nat.le_of_ble_eq_true rfl)
  · skip
    exact absurd (show pe1 (kc (!inR x1 3) false false) [] "java/lang/IndexOutOfBoundsException" [] from ⟨⟨rfl, by simp [kc, h_5]⟩, rfl⟩) (pe1_no hk)
set_option maxHeartbeats 4000000 in
set_option maxRecDepth 100000 in
theorem p_rule (l : Launch) (g : q_G) (N : Nat → Nat) (A : Nat → Nat → Int32) (B : Nat → Nat → Bool) (L : Nat → Nat → Int64) (wm ws : va_W) (a0 : Nat) (hI : inv N A B L) (hR : cR g a0 N A B L wm ws) (x1 : Int32) (x2 : Int32) (x3 : Int32) (x4 : Int32) (x5 : Int32) (x6 : Int32) (hk : (kc (!(inR x1 8 && (inR x4 10 && inR x5 10))) (decide (x2 = x1) || !(decide (x2 = -1) || inR x2 8) || !inR x3 10 || decide (x5 < x4) || !inR x6 301) (decide (N 2 = 20))) = 0) : MetW l g yX3_rule cX3_rule 8 (some .int) ({ frames := 7, cells := 4, slots := 250, locals := 200 } : Room) [.ref a0, .int x1, .int x2, .int x3, .int x4, .int x5, .int x6] (ws) (q_Qi g (fun r w => (kc (!(inR x1 8 && (inR x4 10 && inR x5 10))) (decide (x2 = x1) || !(decide (x2 = -1) || inR x2 8) || !inR x3 10 || decide (x5 < x4) || !inR x6 301) (decide (N 2 = 20))) = 0 ∧ r = nI (N 2) ∧ cR g a0 (va_up N 2 (N 2 + 1)) (rlA A (N 2) x1 x2 x3 x4 x5 x6) B (L) wm w)) := by
  refine q_met (own := RX3) (by decide +kernel) rfl (Nat.le_of_ble_eq_true rfl) (fun p e s m args below meth c cx hr hnm => ?_)
  obtain ⟨ad, mc, el, ia, ra, th, dr, dl, ro, kl, kn, row, P, f, rfl, rfl, hF⟩ := hR
  have hiv := cF_iv (ad := ad) (mc := mc) (row := row) (wm := wm) hI hF
  have hrl := cF_rl (ad := ad) (mc := mc) (row := row) (wm := wm) hI hF
  have hqu := cF_qu (ad := ad) (mc := mc) (row := row) (wm := wm) hI hF
  obtain ⟨⟨rfl, rfl, rfl⟩, f2, f3, f4, f5, f6, f7, f8, f9, f10, f11, f12, f13⟩ := id hF
  obtain ⟨⟨i1, i2, i3, i4⟩, j2, j3, j4, j5, j6, j7, j8, j9, j10, j11⟩ := id hI
  refine r_lv (lv2 := [(0, .ref (ad 8)), (1, .int x1), (2, .int x2), (3, .int x3), (4, .int x4), (5, .int x5), (6, .int x6)]) (q_pk [0, 1, 2, 3, 4, 5, 6] rfl) ?_
  refine r_iload_n cx dX3_rule_0 rfl rfl ?_
  refine r_bipush (v := nI 8) cx dX3_rule_1 (by decide) ?_
  refine k_X3_57 cx (c_isOutside l g _ x1 (8) (by omega)) dX3_rule_3 ⟨Nat.le_of_ble_eq_true rfl, Nat.le_of_ble_eq_true rfl⟩ ⟨Nat.le_of_ble_eq_true rfl, Nat.le_of_ble_eq_true rfl⟩ rfl rfl (Nat.le_of_ble_eq_true rfl) (fun r w hp => ?_)
  obtain ⟨rfl, rfl⟩ := hp
  refine r_ifneb (tgt := 29) cx dX3_rule_6 (by decide) (fun h_6 => ?_) (fun h_6 => ?_)
  · skip
    exact absurd (show pe3 (kc (!(inR x1 8 && (inR x4 10 && inR x5 10))) (decide (x2 = x1) || !(decide (x2 = -1) || inR x2 8) || !inR x3 10 || decide (x5 < x4) || !inR x6 301) (decide (N 2 = 20))) [] "java/lang/IndexOutOfBoundsException" [] from ⟨Or.inl ⟨rfl, by first | (simp [kc, h_6]; done) | (simp [kc, h_16]; done) | (simp [kc, h_26]; done)⟩, rfl⟩) (pe3_no hk)
  · skip
    refine r_iload cx dX3_rule_9 rfl ?_
    refine r_bipush (v := nI 10) cx dX3_rule_11 (by decide) ?_
    refine k_X3_57 cx (c_isOutside l g _ x4 (10) (by omega)) dX3_rule_13 ⟨Nat.le_of_ble_eq_true rfl, Nat.le_of_ble_eq_true rfl⟩ ⟨Nat.le_of_ble_eq_true rfl, Nat.le_of_ble_eq_true rfl⟩ rfl rfl (Nat.le_of_ble_eq_true rfl) (fun r w hp => ?_)
    obtain ⟨rfl, rfl⟩ := hp
    refine r_ifneb (tgt := 29) cx dX3_rule_16 (by decide) (fun h_16 => ?_) (fun h_16 => ?_)
    · skip
      exact absurd (show pe3 (kc (!(inR x1 8 && (inR x4 10 && inR x5 10))) (decide (x2 = x1) || !(decide (x2 = -1) || inR x2 8) || !inR x3 10 || decide (x5 < x4) || !inR x6 301) (decide (N 2 = 20))) [] "java/lang/IndexOutOfBoundsException" [] from ⟨Or.inl ⟨rfl, by first | (simp [kc, h_6]; done) | (simp [kc, h_16]; done) | (simp [kc, h_26]; done)⟩, rfl⟩) (pe3_no hk)
    · skip
      refine r_iload cx dX3_rule_19 rfl ?_
      refine r_bipush (v := nI 10) cx dX3_rule_21 (by decide) ?_
      refine k_X3_57 cx (c_isOutside l g _ x5 (10) (by omega)) dX3_rule_23 ⟨Nat.le_of_ble_eq_true rfl, Nat.le_of_ble_eq_true rfl⟩ ⟨Nat.le_of_ble_eq_true rfl, Nat.le_of_ble_eq_true rfl⟩ rfl rfl (Nat.le_of_ble_eq_true rfl) (fun r w hp => ?_)
      obtain ⟨rfl, rfl⟩ := hp
      refine r_ifeqb (tgt := 39) cx dX3_rule_26 (by decide) (fun h_26 => ?_) (fun h_26 => ?_)
      · skip
        refine r_iload_n cx dX3_rule_39 rfl rfl ?_
        refine r_iload_n cx dX3_rule_40 rfl rfl ?_
        refine r_icmpeq (tgt := 65) cx dX3_rule_41 (by decide) (fun h_41 => ?_) (fun h_41 => ?_)
        · skip
          exact absurd (show pe3 (kc (!(inR x1 8 && (inR x4 10 && inR x5 10))) (decide (x2 = x1) || !(decide (x2 = -1) || inR x2 8) || !inR x3 10 || decide (x5 < x4) || !inR x6 301) (decide (N 2 = 20))) [] "java/lang/IllegalArgumentException" [] from ⟨Or.inr (Or.inl ⟨rfl, by simp at h_6 h_16 h_26; simp [kc, h_6, h_16, h_26, h_41]⟩), rfl⟩) (pe3_no hk)
        · skip
          refine r_iload_n cx dX3_rule_44 rfl rfl ?_
          refine r_iconst (v := -1) cx dX3_rule_45 (by decide) ?_
          refine r_icmpeq (tgt := 58) cx dX3_rule_46 (by decide) (fun h_46 => ?_) (fun h_46 => ?_)
          · skip
            refine r_iload_n cx dX3_rule_58 rfl rfl ?_
            refine k_X3_118 cx (c_canStandBehind l g _ x3) dX3_rule_59 ⟨Nat.le_of_ble_eq_true rfl, Nat.le_of_ble_eq_true rfl⟩ ⟨Nat.le_of_ble_eq_true rfl, Nat.le_of_ble_eq_true rfl⟩ rfl rfl (Nat.le_of_ble_eq_true rfl) (fun r w hp => ?_)
            obtain ⟨rfl, rfl⟩ := hp
            refine r_ifneb (tgt := 75) cx dX3_rule_62 (by decide) (fun h_62 => ?_) (fun h_62 => ?_)
            · skip
              refine r_iload cx dX3_rule_75 rfl ?_
              refine r_iload cx dX3_rule_77 rfl ?_
              refine r_icmplt (tgt := 93) cx dX3_rule_79 (by decide) (fun h_79 => ?_) (fun h_79 => ?_)
              · skip
                exact absurd (show pe3 (kc (!(inR x1 8 && (inR x4 10 && inR x5 10))) (decide (x2 = x1) || !(decide (x2 = -1) || inR x2 8) || !inR x3 10 || decide (x5 < x4) || !inR x6 301) (decide (N 2 = 20))) [] "java/lang/IllegalArgumentException" [] from ⟨Or.inr (Or.inl ⟨rfl, by simp at h_6 h_16 h_26; simp [kc, h_6, h_16, h_26, h_79]⟩), rfl⟩) (pe3_no hk)
              · skip
                refine r_iload cx dX3_rule_82 rfl ?_
                refine r_sipush (v := nI 301) cx dX3_rule_84 (by decide) ?_
                refine k_X3_57 cx (c_isOutside l g _ x6 (301) (by omega)) dX3_rule_87 ⟨Nat.le_of_ble_eq_true rfl, Nat.le_of_ble_eq_true rfl⟩ ⟨Nat.le_of_ble_eq_true rfl, Nat.le_of_ble_eq_true rfl⟩ rfl rfl (Nat.le_of_ble_eq_true rfl) (fun r w hp => ?_)
                obtain ⟨rfl, rfl⟩ := hp
                refine r_ifeqb (tgt := 103) cx dX3_rule_90 (by decide) (fun h_90 => ?_) (fun h_90 => ?_)
                · skip
                  refine r_aload_n cx dX3_rule_103 rfl rfl ?_
                  refine gf_X3_16 cx dX3_rule_104 8 rfl rfl ?_
                  refine k_X3_80 cx (c_lsize l g _ (ad 6) (N 2) ra hrl.2.1) dX3_rule_107 6 rfl ⟨Nat.le_of_ble_eq_true rfl, Nat.le_of_ble_eq_true rfl⟩ ⟨Nat.le_of_ble_eq_true rfl, Nat.le_of_ble_eq_true rfl⟩ rfl rfl (Nat.le_of_ble_eq_true rfl) (fun r w hp => ?_)
                  obtain ⟨rfl, rfl⟩ := hp
                  refine r_istore cx dX3_rule_110 (by decide) rfl ?_
                  refine r_iload cx dX3_rule_112 rfl ?_
                  refine r_bipush (v := nI 20) cx dX3_rule_114 (by decide) ?_
                  refine r_icmpltN (tgt := 129) cx (by omega) (by omega) dX3_rule_116 (by decide) (fun h_116 => ?_) (fun h_116 => ?_)
                  · skip
                    refine r_aload_n cx dX3_rule_129 rfl rfl ?_
                    refine gf_X3_16 cx dX3_rule_130 8 rfl rfl ?_
                    refine nw_X3_128 cx dX3_rule_133 (Nat.le_of_ble_eq_true rfl) (Nat.le_of_ble_eq_true rfl) (fun q => ?_)
                    refine r_perm (List.perm_append_singleton _ _) ?_
                    refine r_dup cx dX3_rule_136 rfl ?_
                    refine r_iload_n cx dX3_rule_137 rfl rfl ?_
                    refine r_iload_n cx dX3_rule_138 rfl rfl ?_
                    refine r_iload_n cx dX3_rule_139 rfl rfl ?_
                    refine r_iload cx dX3_rule_140 rfl ?_
                    refine r_iload cx dX3_rule_142 rfl ?_
                    refine r_iload cx dX3_rule_144 rfl ?_
                    refine k_X3_130 cx (c_Rule l g _ q x1 x2 x3 x4 x5 x6) dX3_rule_146 ⟨Nat.le_of_ble_eq_true rfl, Nat.le_of_ble_eq_true rfl⟩ ⟨Nat.le_of_ble_eq_true rfl, Nat.le_of_ble_eq_true rfl⟩ rfl rfl (Nat.le_of_ble_eq_true rfl) (fun w hp => ?_)
                    subst hp
                    refine r_D (fun hD => ?_)
                    have hq := new_fresh hD
                    have hDr := q_D_perm (new_out hq) hD
                    have heD : g.2.2.2.1 ∉ q :: P := fun z => eD_out cx (P_in_A hDr z)
                    refine r_perm ((new_out hq).trans (out1 wm (va_pl (q :: P) _))) ?_
                    refine add_front (ci := 2) cx dX3_rule_149 rfl tn_561 (las_push hq f9) (show N 2 ≤ 40 by omega) (fun i hi => ⟨List.mem_cons_of_mem _ (f6 i hi).1, _, (va_up_ne _ _ (fun z => by have z2 := (f6 i hi).1; rw [z] at z2; exact hq z2)).trans (f6 i hi).2⟩) List.mem_cons_self ⟨_, va_up_self _ _ _⟩ ⟨by decide, by decide, Nat.le_of_ble_eq_true rfl, Nat.le_of_ble_eq_true rfl⟩ (Nat.le_of_ble_eq_true rfl) (fun r mc2 el2 L2 f2' g1 g2 g3 g4 g5 => ?_)
                    refine r_perm (out1 (el := va_up el 1 el2) (mc := va_up mc 1 mc2) (sz := fun k => (va_up N 2 (N 2 + 1)) (k + 1)) wm (va_pl L2 f2')).symm ?_
                    obtain ⟨t1, t2, t3, t4⟩ := ls3_grow heD (las_push hq f9) (las_push (e := oR x1 x2 x3 x4 x5 x6 0 false) hq f8) (las_push hq f10) (fun a b => (f11 b a).symm) f13 g1 g5
                    have tI : ∀ b, b ∈ P → (∃ x, f b = .inr x) → b ∈ L2 ∧ f2' b = f b := fun b hb hf => by
                      have hbq : b ≠ q := fun z => hq (z ▸ hb)
                      obtain ⟨u1, u2⟩ := g1 b (List.mem_cons_of_mem _ hb) (ob_ne heD (las_push (e := oR x1 x2 x3 x4 x5 x6 0 false) hq f9) (List.mem_cons_of_mem _ hb) (hf.elim (fun x hx => ⟨x, (va_up_ne _ _ hbq).trans hx⟩)))
                      exact ⟨u1, u2.trans (va_up_ne _ _ hbq)⟩
                    have tq := g1 q List.mem_cons_self (ob_ne heD (las_push (e := oR x1 x2 x3 x4 x5 x6 0 false) hq f9) List.mem_cons_self ⟨_, va_up_self _ _ _⟩)
                    refine r_pop cx dX3_rule_152 rfl ?_
                    refine r_iload cx dX3_rule_153 rfl ?_
                    exact r_iret cx dX3_rule_155 hr (⟨by rw [decide_eq_false (by omega : ¬ N 2 = 20)]; simp at h_6 h_16 h_26 h_90; rw [h_46] at h_41; simp [kc, h_6, h_16, h_26, h_41, h_46, h_62, h_79, h_90], rfl, ⟨ad, _, _, ia, va_up ra (N 2) q, _, _, _, ro, kl, kn, row, L2, f2', rfl, rfl, ⟨rfl, rfl, rfl⟩, f2, (fun w hw => (f3 w hw).trans (drw_A (fun i _ => ⟨rfl, rfl, rfl⟩))), f4, (fun i hi => ⟨(tI _ (f5 i hi).1 ⟨_, (f5 i hi).2⟩).1, (tI _ (f5 i hi).1 ⟨_, (f5 i hi).2⟩).2.trans (f5 i hi).2⟩), (fun r hr => by
    by_cases e9 : r = N 2
    · subst e9
      rw [va_up_self]
      refine ⟨tq.1, tq.2.trans ((va_up_self _ _ _).trans ?_)⟩
      show _ = oR (upd (A 7) (N 2) x1 (N 2)) (upd (A 8) (N 2) x2 (N 2)) (upd (A 9) (N 2) x3 (N 2)) (upd (A 10) (N 2) x4 (N 2)) (upd (A 11) (N 2) x5 (N 2)) (upd (A 12) (N 2) x6 (N 2)) (L 0 (N 2)) (B 1 (N 2))
      rw [pk_us, pk_us, pk_us, pk_us, pk_us, pk_us, (j7 _ (Nat.le_refl _)).1, (j7 _ (Nat.le_refl _)).2]
    · have hr2 : r < N 2 := by have : r < N 2 + 1 := hr; omega
      rw [va_up_ne _ _ e9]
      refine ⟨(tI _ (f6 r hr2).1 ⟨_, (f6 r hr2).2⟩).1, ((tI _ (f6 r hr2).1 ⟨_, (f6 r hr2).2⟩).2.trans (f6 r hr2).2).trans ?_⟩
      show _ = oR (upd (A 7) (N 2) x1 r) (upd (A 8) (N 2) x2 r) (upd (A 9) (N 2) x3 r) (upd (A 10) (N 2) x4 r) (upd (A 11) (N 2) x5 r) (upd (A 12) (N 2) x6 r) (L 0 r) (B 1 r)
      rw [pk_un e9, pk_un e9, pk_un e9, pk_un e9, pk_un e9, pk_un e9]), (fun r r2 hr hr2 e => by
    have h1 : r < N 2 + 1 := hr
    have h2 : r2 < N 2 + 1 := hr2
    by_cases e1 : r = N 2 <;> by_cases e2 : r2 = N 2
    · omega
    · rw [e1, va_up_self, va_up_ne _ _ e2] at e
      exact absurd (e ▸ (f6 r2 (by omega)).1) hq
    · rw [e2, va_up_self, va_up_ne _ _ e1] at e
      exact absurd (e ▸ (f6 r (by omega)).1) hq
    · rw [va_up_ne _ _ e1, va_up_ne _ _ e2] at e
      exact f7 r r2 (by omega) (by omega) e), t1, g2, t2, (fun a _ => (t3 a).symm), f12, (fun _ b => t4 b)⟩⟩) (Nat.le_of_ble_eq_true rfl) (Nat.le_of_ble_eq_true rfl)
                  · skip
                    exact absurd (show pe3 (kc (!(inR x1 8 && (inR x4 10 && inR x5 10))) (decide (x2 = x1) || !(decide (x2 = -1) || inR x2 8) || !inR x3 10 || decide (x5 < x4) || !inR x6 301) (decide (N 2 = 20))) [] "java/lang/IllegalStateException" [] from ⟨Or.inr (Or.inr ⟨rfl, by rw [decide_eq_true (by omega : N 2 = 20)]; simp at h_6 h_16 h_26 h_90; rw [h_46] at h_41; simp [kc, h_6, h_16, h_26, h_41, h_46, h_62, h_79, h_90]⟩), rfl⟩) (pe3_no hk)
                · skip
                  exact absurd (show pe3 (kc (!(inR x1 8 && (inR x4 10 && inR x5 10))) (decide (x2 = x1) || !(decide (x2 = -1) || inR x2 8) || !inR x3 10 || decide (x5 < x4) || !inR x6 301) (decide (N 2 = 20))) [] "java/lang/IllegalArgumentException" [] from ⟨Or.inr (Or.inl ⟨rfl, by simp at h_6 h_16 h_26; simp at h_90; simp [kc, h_6, h_16, h_26, h_90]⟩), rfl⟩) (pe3_no hk)
            · skip
              exact absurd (show pe3 (kc (!(inR x1 8 && (inR x4 10 && inR x5 10))) (decide (x2 = x1) || !(decide (x2 = -1) || inR x2 8) || !inR x3 10 || decide (x5 < x4) || !inR x6 301) (decide (N 2 = 20))) [] "java/lang/IllegalArgumentException" [] from ⟨Or.inr (Or.inl ⟨rfl, by simp at h_6 h_16 h_26; simp [kc, h_6, h_16, h_26, h_62]⟩), rfl⟩) (pe3_no hk)
          · skip
            refine r_iload_n cx dX3_rule_49 rfl rfl ?_
            refine r_bipush (v := nI 8) cx dX3_rule_50 (by decide) ?_
            refine k_X3_57 cx (c_isOutside l g _ x2 (8) (by omega)) dX3_rule_52 ⟨Nat.le_of_ble_eq_true rfl, Nat.le_of_ble_eq_true rfl⟩ ⟨Nat.le_of_ble_eq_true rfl, Nat.le_of_ble_eq_true rfl⟩ rfl rfl (Nat.le_of_ble_eq_true rfl) (fun r w hp => ?_)
            obtain ⟨rfl, rfl⟩ := hp
            refine r_ifneb (tgt := 65) cx dX3_rule_55 (by decide) (fun h_55 => ?_) (fun h_55 => ?_)
            · skip
              exact absurd (show pe3 (kc (!(inR x1 8 && (inR x4 10 && inR x5 10))) (decide (x2 = x1) || !(decide (x2 = -1) || inR x2 8) || !inR x3 10 || decide (x5 < x4) || !inR x6 301) (decide (N 2 = 20))) [] "java/lang/IllegalArgumentException" [] from ⟨Or.inr (Or.inl ⟨rfl, by simp at h_6 h_16 h_26; simp at h_55; simp [kc, h_6, h_16, h_26, h_41, h_46, h_55]⟩), rfl⟩) (pe3_no hk)
            · skip
              refine r_iload_n cx dX3_rule_58 rfl rfl ?_
              refine k_X3_118 cx (c_canStandBehind l g _ x3) dX3_rule_59 ⟨Nat.le_of_ble_eq_true rfl, Nat.le_of_ble_eq_true rfl⟩ ⟨Nat.le_of_ble_eq_true rfl, Nat.le_of_ble_eq_true rfl⟩ rfl rfl (Nat.le_of_ble_eq_true rfl) (fun r w hp => ?_)
              obtain ⟨rfl, rfl⟩ := hp
              refine r_ifneb (tgt := 75) cx dX3_rule_62 (by decide) (fun h_62 => ?_) (fun h_62 => ?_)
              · skip
                refine r_iload cx dX3_rule_75 rfl ?_
                refine r_iload cx dX3_rule_77 rfl ?_
                refine r_icmplt (tgt := 93) cx dX3_rule_79 (by decide) (fun h_79 => ?_) (fun h_79 => ?_)
                · skip
                  exact absurd (show pe3 (kc (!(inR x1 8 && (inR x4 10 && inR x5 10))) (decide (x2 = x1) || !(decide (x2 = -1) || inR x2 8) || !inR x3 10 || decide (x5 < x4) || !inR x6 301) (decide (N 2 = 20))) [] "java/lang/IllegalArgumentException" [] from ⟨Or.inr (Or.inl ⟨rfl, by simp at h_6 h_16 h_26; simp [kc, h_6, h_16, h_26, h_79]⟩), rfl⟩) (pe3_no hk)
                · skip
                  refine r_iload cx dX3_rule_82 rfl ?_
                  refine r_sipush (v := nI 301) cx dX3_rule_84 (by decide) ?_
                  refine k_X3_57 cx (c_isOutside l g _ x6 (301) (by omega)) dX3_rule_87 ⟨Nat.le_of_ble_eq_true rfl, Nat.le_of_ble_eq_true rfl⟩ ⟨Nat.le_of_ble_eq_true rfl, Nat.le_of_ble_eq_true rfl⟩ rfl rfl (Nat.le_of_ble_eq_true rfl) (fun r w hp => ?_)
                  obtain ⟨rfl, rfl⟩ := hp
                  refine r_ifeqb (tgt := 103) cx dX3_rule_90 (by decide) (fun h_90 => ?_) (fun h_90 => ?_)
                  · skip
                    refine r_aload_n cx dX3_rule_103 rfl rfl ?_
                    refine gf_X3_16 cx dX3_rule_104 8 rfl rfl ?_
                    refine k_X3_80 cx (c_lsize l g _ (ad 6) (N 2) ra hrl.2.1) dX3_rule_107 6 rfl ⟨Nat.le_of_ble_eq_true rfl, Nat.le_of_ble_eq_true rfl⟩ ⟨Nat.le_of_ble_eq_true rfl, Nat.le_of_ble_eq_true rfl⟩ rfl rfl (Nat.le_of_ble_eq_true rfl) (fun r w hp => ?_)
                    obtain ⟨rfl, rfl⟩ := hp
                    refine r_istore cx dX3_rule_110 (by decide) rfl ?_
                    refine r_iload cx dX3_rule_112 rfl ?_
                    refine r_bipush (v := nI 20) cx dX3_rule_114 (by decide) ?_
                    refine r_icmpltN (tgt := 129) cx (by omega) (by omega) dX3_rule_116 (by decide) (fun h_116 => ?_) (fun h_116 => ?_)
                    · skip
                      refine r_aload_n cx dX3_rule_129 rfl rfl ?_
                      refine gf_X3_16 cx dX3_rule_130 8 rfl rfl ?_
                      refine nw_X3_128 cx dX3_rule_133 (Nat.le_of_ble_eq_true rfl) (Nat.le_of_ble_eq_true rfl) (fun q => ?_)
                      refine r_perm (List.perm_append_singleton _ _) ?_
                      refine r_dup cx dX3_rule_136 rfl ?_
                      refine r_iload_n cx dX3_rule_137 rfl rfl ?_
                      refine r_iload_n cx dX3_rule_138 rfl rfl ?_
                      refine r_iload_n cx dX3_rule_139 rfl rfl ?_
                      refine r_iload cx dX3_rule_140 rfl ?_
                      refine r_iload cx dX3_rule_142 rfl ?_
                      refine r_iload cx dX3_rule_144 rfl ?_
                      refine k_X3_130 cx (c_Rule l g _ q x1 x2 x3 x4 x5 x6) dX3_rule_146 ⟨Nat.le_of_ble_eq_true rfl, Nat.le_of_ble_eq_true rfl⟩ ⟨Nat.le_of_ble_eq_true rfl, Nat.le_of_ble_eq_true rfl⟩ rfl rfl (Nat.le_of_ble_eq_true rfl) (fun w hp => ?_)
                      subst hp
                      refine r_D (fun hD => ?_)
                      have hq := new_fresh hD
                      have hDr := q_D_perm (new_out hq) hD
                      have heD : g.2.2.2.1 ∉ q :: P := fun z => eD_out cx (P_in_A hDr z)
                      refine r_perm ((new_out hq).trans (out1 wm (va_pl (q :: P) _))) ?_
                      refine add_front (ci := 2) cx dX3_rule_149 rfl tn_561 (las_push hq f9) (show N 2 ≤ 40 by omega) (fun i hi => ⟨List.mem_cons_of_mem _ (f6 i hi).1, _, (va_up_ne _ _ (fun z => by have z2 := (f6 i hi).1; rw [z] at z2; exact hq z2)).trans (f6 i hi).2⟩) List.mem_cons_self ⟨_, va_up_self _ _ _⟩ ⟨by decide, by decide, Nat.le_of_ble_eq_true rfl, Nat.le_of_ble_eq_true rfl⟩ (Nat.le_of_ble_eq_true rfl) (fun r mc2 el2 L2 f2' g1 g2 g3 g4 g5 => ?_)
                      refine r_perm (out1 (el := va_up el 1 el2) (mc := va_up mc 1 mc2) (sz := fun k => (va_up N 2 (N 2 + 1)) (k + 1)) wm (va_pl L2 f2')).symm ?_
                      obtain ⟨t1, t2, t3, t4⟩ := ls3_grow heD (las_push hq f9) (las_push (e := oR x1 x2 x3 x4 x5 x6 0 false) hq f8) (las_push hq f10) (fun a b => (f11 b a).symm) f13 g1 g5
                      have tI : ∀ b, b ∈ P → (∃ x, f b = .inr x) → b ∈ L2 ∧ f2' b = f b := fun b hb hf => by
                        have hbq : b ≠ q := fun z => hq (z ▸ hb)
                        obtain ⟨u1, u2⟩ := g1 b (List.mem_cons_of_mem _ hb) (ob_ne heD (las_push (e := oR x1 x2 x3 x4 x5 x6 0 false) hq f9) (List.mem_cons_of_mem _ hb) (hf.elim (fun x hx => ⟨x, (va_up_ne _ _ hbq).trans hx⟩)))
                        exact ⟨u1, u2.trans (va_up_ne _ _ hbq)⟩
                      have tq := g1 q List.mem_cons_self (ob_ne heD (las_push (e := oR x1 x2 x3 x4 x5 x6 0 false) hq f9) List.mem_cons_self ⟨_, va_up_self _ _ _⟩)
                      refine r_pop cx dX3_rule_152 rfl ?_
                      refine r_iload cx dX3_rule_153 rfl ?_
                      exact r_iret cx dX3_rule_155 hr (⟨by rw [decide_eq_false (by omega : ¬ N 2 = 20)]; simp at h_6 h_16 h_26 h_90; simp at h_55; simp [kc, h_6, h_16, h_26, h_41, h_46, h_55, h_62, h_79, h_90], rfl, ⟨ad, _, _, ia, va_up ra (N 2) q, _, _, _, ro, kl, kn, row, L2, f2', rfl, rfl, ⟨rfl, rfl, rfl⟩, f2, (fun w hw => (f3 w hw).trans (drw_A (fun i _ => ⟨rfl, rfl, rfl⟩))), f4, (fun i hi => ⟨(tI _ (f5 i hi).1 ⟨_, (f5 i hi).2⟩).1, (tI _ (f5 i hi).1 ⟨_, (f5 i hi).2⟩).2.trans (f5 i hi).2⟩), (fun r hr => by
    by_cases e9 : r = N 2
    · subst e9
      rw [va_up_self]
      refine ⟨tq.1, tq.2.trans ((va_up_self _ _ _).trans ?_)⟩
      show _ = oR (upd (A 7) (N 2) x1 (N 2)) (upd (A 8) (N 2) x2 (N 2)) (upd (A 9) (N 2) x3 (N 2)) (upd (A 10) (N 2) x4 (N 2)) (upd (A 11) (N 2) x5 (N 2)) (upd (A 12) (N 2) x6 (N 2)) (L 0 (N 2)) (B 1 (N 2))
      rw [pk_us, pk_us, pk_us, pk_us, pk_us, pk_us, (j7 _ (Nat.le_refl _)).1, (j7 _ (Nat.le_refl _)).2]
    · have hr2 : r < N 2 := by have : r < N 2 + 1 := hr; omega
      rw [va_up_ne _ _ e9]
      refine ⟨(tI _ (f6 r hr2).1 ⟨_, (f6 r hr2).2⟩).1, ((tI _ (f6 r hr2).1 ⟨_, (f6 r hr2).2⟩).2.trans (f6 r hr2).2).trans ?_⟩
      show _ = oR (upd (A 7) (N 2) x1 r) (upd (A 8) (N 2) x2 r) (upd (A 9) (N 2) x3 r) (upd (A 10) (N 2) x4 r) (upd (A 11) (N 2) x5 r) (upd (A 12) (N 2) x6 r) (L 0 r) (B 1 r)
      rw [pk_un e9, pk_un e9, pk_un e9, pk_un e9, pk_un e9, pk_un e9]), (fun r r2 hr hr2 e => by
    have h1 : r < N 2 + 1 := hr
    have h2 : r2 < N 2 + 1 := hr2
    by_cases e1 : r = N 2 <;> by_cases e2 : r2 = N 2
    · omega
    · rw [e1, va_up_self, va_up_ne _ _ e2] at e
      exact absurd (e ▸ (f6 r2 (by omega)).1) hq
    · rw [e2, va_up_self, va_up_ne _ _ e1] at e
      exact absurd (e ▸ (f6 r (by omega)).1) hq
    · rw [va_up_ne _ _ e1, va_up_ne _ _ e2] at e
      exact f7 r r2 (by omega) (by omega) e), t1, g2, t2, (fun a _ => (t3 a).symm), f12, (fun _ b => t4 b)⟩⟩) (Nat.le_of_ble_eq_true rfl) (Nat.le_of_ble_eq_true rfl)
                    · skip
                      exact absurd (show pe3 (kc (!(inR x1 8 && (inR x4 10 && inR x5 10))) (decide (x2 = x1) || !(decide (x2 = -1) || inR x2 8) || !inR x3 10 || decide (x5 < x4) || !inR x6 301) (decide (N 2 = 20))) [] "java/lang/IllegalStateException" [] from ⟨Or.inr (Or.inr ⟨rfl, by rw [decide_eq_true (by omega : N 2 = 20)]; simp at h_6 h_16 h_26 h_90; simp at h_55; simp [kc, h_6, h_16, h_26, h_41, h_46, h_55, h_62, h_79, h_90]⟩), rfl⟩) (pe3_no hk)
                  · skip
                    exact absurd (show pe3 (kc (!(inR x1 8 && (inR x4 10 && inR x5 10))) (decide (x2 = x1) || !(decide (x2 = -1) || inR x2 8) || !inR x3 10 || decide (x5 < x4) || !inR x6 301) (decide (N 2 = 20))) [] "java/lang/IllegalArgumentException" [] from ⟨Or.inr (Or.inl ⟨rfl, by simp at h_6 h_16 h_26; simp at h_90; simp [kc, h_6, h_16, h_26, h_90]⟩), rfl⟩) (pe3_no hk)
              · skip
                exact absurd (show pe3 (kc (!(inR x1 8 && (inR x4 10 && inR x5 10))) (decide (x2 = x1) || !(decide (x2 = -1) || inR x2 8) || !inR x3 10 || decide (x5 < x4) || !inR x6 301) (decide (N 2 = 20))) [] "java/lang/IllegalArgumentException" [] from ⟨Or.inr (Or.inl ⟨rfl, by simp at h_6 h_16 h_26; simp [kc, h_6, h_16, h_26, h_62]⟩), rfl⟩) (pe3_no hk)
      · skip
        exact absurd (show pe3 (kc (!(inR x1 8 && (inR x4 10 && inR x5 10))) (decide (x2 = x1) || !(decide (x2 = -1) || inR x2 8) || !inR x3 10 || decide (x5 < x4) || !inR x6 301) (decide (N 2 = 20))) [] "java/lang/IndexOutOfBoundsException" [] from ⟨Or.inl ⟨rfl, by first | (simp [kc, h_6]; done) | (simp [kc, h_16]; done) | (simp [kc, h_26]; done)⟩, rfl⟩) (pe3_no hk)
set_option maxHeartbeats 4000000 in
set_option maxRecDepth 100000 in
theorem p_forget (l : Launch) (g : q_G) (N : Nat → Nat) (A : Nat → Nat → Int32) (B : Nat → Nat → Bool) (L : Nat → Nat → Int64) (wm ws : va_W) (a0 : Nat) (hI : inv N A B L) (hR : cR g a0 N A B L wm ws) (x1 : Int32) (hk : (kc (!inR x1 8) false false) = 0) : MetW l g yX3_forget cX3_forget 5 (some .int) ({ frames := 6, cells := 0, slots := 0, locals := 140 } : Room) [.ref a0, .int x1] (ws) (q_Qi g (fun r w => (kc (!inR x1 8) false false) = 0 ∧ r = nI (bcL (lN (fgS (B 0) (A 1) x1 (N 1)))) ∧ cR g a0 N A (va_up (va_up B 0 (goN (N 1) (B 0) (A 1) x1)) 1 (faN (L 0) (B 1) (fgS (B 0) (A 1) x1 (N 1)))) (va_up L 0 (grN (L 0) (fgS (B 0) (A 1) x1 (N 1)))) wm w)) := by
  refine q_met (own := RX3) (by decide +kernel) rfl (Nat.le_of_ble_eq_true rfl) (fun p e s m args below meth c cx hr hnm => ?_)
  obtain ⟨ad, mc, el, ia, ra, th, dr, dl, ro, kl, kn, row, P, f, rfl, rfl, hF⟩ := hR
  have hiv := cF_iv (ad := ad) (mc := mc) (row := row) (wm := wm) hI hF
  have hrl := cF_rl (ad := ad) (mc := mc) (row := row) (wm := wm) hI hF
  have hqu := cF_qu (ad := ad) (mc := mc) (row := row) (wm := wm) hI hF
  obtain ⟨⟨rfl, rfl, rfl⟩, f2, f3, f4, f5, f6, f7, f8, f9, f10, f11, f12, f13⟩ := id hF
  obtain ⟨⟨i1, i2, i3, i4⟩, j2, j3, j4, j5, j6, j7, j8, j9, j10, j11⟩ := id hI
  refine r_lv (lv2 := [(0, .ref (ad 8)), (1, .int x1)]) (q_pk [0, 1] rfl) ?_
  refine r_iload_n cx dX3_forget_0 rfl rfl ?_
  refine r_bipush (v := nI 8) cx dX3_forget_1 (by decide) ?_
  refine k_X3_57 cx (c_isOutside l g _ x1 (8) (by omega)) dX3_forget_3 ⟨Nat.le_of_ble_eq_true rfl, Nat.le_of_ble_eq_true rfl⟩ ⟨Nat.le_of_ble_eq_true rfl, Nat.le_of_ble_eq_true rfl⟩ rfl rfl (Nat.le_of_ble_eq_true rfl) (fun r w hp => ?_)
  obtain ⟨rfl, rfl⟩ := hp
  refine r_ifeqb (tgt := 19) cx dX3_forget_6 (by decide) (fun h_6 => ?_) (fun h_6 => ?_)
  · skip
    refine r_aload_n cx dX3_forget_19 rfl rfl ?_
    refine r_iload_n cx dX3_forget_20 rfl rfl ?_
    refine k_X3_189 cx (c_interviewsOf l g _ (ad 8) (ad 7) _ (N 1) ia _ (fiS A) x1 hiv) dX3_forget_21 8 rfl ⟨Nat.le_of_ble_eq_true rfl, Nat.le_of_ble_eq_true rfl⟩ ⟨Nat.le_of_ble_eq_true rfl, Nat.le_of_ble_eq_true rfl⟩ rfl rfl (Nat.le_of_ble_eq_true rfl) (fun r w hp => ?_)
    obtain ⟨rfl, rfl⟩ := hp
    refine r_eql (y := lN (fgS (B 0) (A 1) x1 (N 1))) (ivo_fg i2 _ (Nat.le_refl _)) ?_
    refine r_lstore_n cx dX3_forget_24 rfl (by decide) rfl ?_
    refine r_aload_n cx dX3_forget_25 rfl rfl ?_
    refine r_dup cx dX3_forget_26 rfl ?_
    refine gf_X3_40 cx dX3_forget_27 8 rfl rfl ?_
    refine r_lload_n cx dX3_forget_30 rfl rfl ?_
    refine r_ldc2 cx dX3_forget_31 tb_315 ?_
    refine r_lxor cx dX3_forget_34 ?_
    refine r_land cx dX3_forget_35 ?_
    refine r_eql (y := (lN (thS (goN (N 1) (B 0) (A 1) x1) (N 1)))) (by rw [andn, thS_fg]) ?_
    refine pf_X3_40 cx dX3_forget_36 8 rfl (Nat.le_of_ble_eq_true rfl) ?_
    refine r_iconst (v := nI 0) cx dX3_forget_39 (by decide) ?_
    refine r_istore cx dX3_forget_40 (by decide) rfl ?_
    refine at_loop (fun (x : Nat × (Nat → va_E)) => x.1 ≤ N 2 ∧ (∀ r, r < x.1 → x.2 (ra r) = (oR (nI (soF A r)) (toI (toF A r)) (nI (beF A r)) (A 10 r) (A 11 r) (A 12 r) (grN (L 0) (fgS (B 0) (A 1) x1 (N 1)) r) (faN (L 0) (B 1) (fgS (B 0) (A 1) x1 (N 1)) r))) ∧ (∀ r, x.1 ≤ r → r < N 2 → x.2 (ra r) = (oR (nI (soF A r)) (toI (toF A r)) (nI (beF A r)) (A 10 r) (A 11 r) (A 12 r) (L 0 r) (B 1 r))) ∧ (∀ b, (∀ r, r < N 2 → b ≠ ra r) → x.2 b = f b)) (fun x => [(0, .ref (ad 8)), (2, .long (lN (fgS (B 0) (A 1) x1 (N 1)))), (4, .int (nI x.1))]) (fun x => iF g ad mc el (fun k => N (k + 1)) (lN (thS (goN (N 1) (B 0) (A 1) x1) (N 1))) (nI (num (drL (A 0) (N 0)))) (nI (N 0)) ro kl kn row ++ (wm ++ va_pl P (x.2))) (fun x => N 2 - x.1) (0, f) ⟨Nat.zero_le _, fun r hr => absurd hr (Nat.not_lt_zero r), fun r _ hr => by
    obtain ⟨-, e1, -, e2, e3, -⟩ := j6 r hr
    rw [← e1, ← e2, ← e3]
    exact (f6 r hr).2, fun _ _ => rfl⟩ (q_pk [2, 1, 0] rfl) rfl (fun x hx ih => ?_)
    obtain ⟨i, fk⟩ := x
    try dsimp only at hx ⊢
    obtain ⟨hx1, hx2, hx3, hx4⟩ := hx
    have hxe : ∀ b x, f b = .inl x → fk b = f b := fun b x hb => hx4 b (fun r hr z => by rw [z, (f6 r hr).2] at hb; cases hb)
    have hls : lsV g (iF g ad mc el (fun k => N (k + 1)) (lN (thS (goN (N 1) (B 0) (A 1) x1) (N 1))) (nI (num (drL (A 0) (N 0)))) (nI (N 0)) ro kl kn row ++ (wm ++ va_pl P (fk))) (ad 6) (N 2) ra := by
      rw [← List.append_assoc]
      refine las_lsV (ql := 6) (mc := mc 1) (las_eqv hxe f9) (by omega) ?_
      rw [List.append_assoc]
      rfl
    refine r_iload cx dX3_forget_42 rfl ?_
    refine r_aload_n cx dX3_forget_44 rfl rfl ?_
    refine gf_X3_16 cx dX3_forget_45 8 rfl rfl ?_
    refine k_X3_80 cx (c_lsize l g _ (ad 6) (N 2) ra hls) dX3_forget_48 6 rfl ⟨Nat.le_of_ble_eq_true rfl, Nat.le_of_ble_eq_true rfl⟩ ⟨Nat.le_of_ble_eq_true rfl, Nat.le_of_ble_eq_true rfl⟩ rfl rfl (Nat.le_of_ble_eq_true rfl) (fun r w hp => ?_)
    obtain ⟨rfl, rfl⟩ := hp
    refine r_icmpgeN (tgt := 76) cx (by omega) (by omega) dX3_forget_51 (by decide) (fun h_51 => ?_) (fun h_51 => ?_)
    · skip
      obtain rfl : i = N 2 := by omega
      have hI5 : ∀ i, i < N 1 → ia i ∈ P ∧ fk (ia i) = oI (lN (2 ^ i)) (A 1 i) (A 2 i) (A 3 i) (A 4 i) (A 5 i) := fun k hk => ⟨(f5 k hk).1, (hx4 _ (fun r hr z => by have u := (f5 k hk).2; rw [z, (f6 r hr).2] at u; cases u)).trans (f5 k hk).2⟩
      have hlI : laS g (el 0) (N 1) ia P fk := las_eqv hxe f8
      refine r_iconst (v := nI 0) cx dX3_forget_76 (by decide) ?_
      refine r_istore cx dX3_forget_77 (by decide) rfl ?_
      refine at_loop (fun (x : Nat × (Nat → Int32)) => x.1 ≤ 4 ∧ (∀ w, w < x.1 → x.2 w = drw (fun i => hasB (lN (thS (goN (N 1) (B 0) (A 1) x1) (N 1))) (lN (2 ^ i))) (fiS A) (N 1) (nI w))) (fun x => [(0, .ref (ad 8)), (2, .long (lN (fgS (B 0) (A 1) x1 (N 1)))), (4, .int (nI x.1))]) (fun x => iF g ad mc el (fun k => N (k + 1)) (lN (thS (goN (N 1) (B 0) (A 1) x1) (N 1))) (nI (num (drL (A 0) (N 0)))) (nI (N 0)) ro x.2 kn row ++ (wm ++ va_pl P (fk))) (fun x => 4 - x.1) (0, kl) ⟨Nat.zero_le _, fun w hw => absurd hw (Nat.not_lt_zero w)⟩ (q_pk [1, 2, 0] rfl) rfl (fun x hx ih => ?_)
      obtain ⟨i, kl2⟩ := x
      try dsimp only at hx ⊢
      obtain ⟨hy1, hy2⟩ := hx
      refine r_iload cx dX3_forget_79 rfl ?_
      refine r_iconst (v := nI 4) cx dX3_forget_81 (by decide) ?_
      refine r_icmpgeN (tgt := 104) cx (by omega) (by omega) dX3_forget_82 (by decide) (fun h_82 => ?_) (fun h_82 => ?_)
      · skip
        obtain rfl : i = 4 := by omega
        refine r_lload_n cx dX3_forget_104 rfl rfl ?_
        refine k_X3_154 cx (c_bitCount l g _ _ (fgS_lt i2)) dX3_forget_105 ⟨Nat.le_of_ble_eq_true rfl, Nat.le_of_ble_eq_true rfl⟩ ⟨Nat.le_of_ble_eq_true rfl, Nat.le_of_ble_eq_true rfl⟩ rfl rfl (Nat.le_of_ble_eq_true rfl) (fun r w hp => ?_)
        obtain ⟨rfl, rfl⟩ := hp
        exact r_iret cx dX3_forget_108 hr (⟨by simp [kc, h_6], by rw [bcL_lN (fgS_lt i2)], ⟨ad, mc, el, ia, ra, _, _, _, ro, kl2, kn, row, P, fk, rfl, rfl, ⟨rfl, rfl, rfl⟩, f2, (fun w hw => by
    rw [hy2 w hw]
    exact drw_th (B := va_up (va_up B 0 (goN (N 1) (B 0) (A 1) x1)) 1 (faN (L 0) (B 1) (fgS (B 0) (A 1) x1 (N 1)))) i2), f4, hI5, (fun r hr => by
    refine ⟨(f6 r hr).1, ?_⟩
    obtain ⟨-, e1, -, e2, e3, -⟩ := j6 r hr
    show _ = oR (A 7 r) (A 8 r) (A 9 r) (A 10 r) (A 11 r) (A 12 r) (grN (L 0) (fgS (B 0) (A 1) x1 (N 1)) r) (faN (L 0) (B 1) (fgS (B 0) (A 1) x1 (N 1)) r)
    rw [hx2 r hr, e1, e2, e3]), f7, hlI, las_eqv hxe f9, las_eqv hxe f10, f11, f12, f13⟩⟩) (Nat.le_of_ble_eq_true rfl) (Nat.le_of_ble_eq_true rfl)
      · skip
        refine r_aload_n cx dX3_forget_85 rfl rfl ?_
        refine gf_X3_26 cx dX3_forget_86 8 rfl rfl ?_
        refine r_iload cx dX3_forget_89 rfl ?_
        refine r_aload_n cx dX3_forget_91 rfl rfl ?_
        refine r_iload cx dX3_forget_92 rfl ?_
        refine k_X3_98 cx (c_drawLines l g _ (ad 8) (ad 7) (lN (thS (goN (N 1) (B 0) (A 1) x1) (N 1))) (N 1) ia _ (fiS A) (nI i) (iv_of i2 rfl hlI hI5)) dX3_forget_94 8 rfl ⟨Nat.le_of_ble_eq_true rfl, Nat.le_of_ble_eq_true rfl⟩ ⟨Nat.le_of_ble_eq_true rfl, Nat.le_of_ble_eq_true rfl⟩ rfl rfl (Nat.le_of_ble_eq_true rfl) (fun r w hp => ?_)
        obtain ⟨rfl, rfl⟩ := hp
        first | refine r_iastN cx 3 0 dX3_forget_97 rfl rfl (by omega) (by omega) ?_ | refine r_iast cx 3 0 dX3_forget_97 rfl rfl (by omega) ?_
        refine r_iincN (j := 1) cx dX3_forget_98 rfl rfl (by decide) rfl ?_
        refine r_goto (tgt := 79) cx dX3_forget_101 (by decide) ?_
        exact r_lv (q_pk [1, 2, 0] rfl) (ih (i + 1, upd kl2 i (drw (fun i => hasB (lN (thS (goN (N 1) (B 0) (A 1) x1) (N 1))) (lN (2 ^ i))) (fiS A) (N 1) (nI i))) ⟨by omega, fun w hw => by
    show upd kl2 i _ w = _
    by_cases e9 : w = i
    · rw [e9, pk_us]
    · rw [pk_un e9]
      exact hy2 w (by omega)⟩ (by show 4 - (i + 1) < 4 - i; omega))
    · skip
      refine r_aload_n cx dX3_forget_54 rfl rfl ?_
      refine gf_X3_16 cx dX3_forget_55 8 rfl rfl ?_
      refine r_iload cx dX3_forget_58 rfl ?_
      refine k_X3_108 cx (c_lget l g _ (ad 6) (N 2) i ra hls h_51) dX3_forget_60 6 rfl ⟨Nat.le_of_ble_eq_true rfl, Nat.le_of_ble_eq_true rfl⟩ ⟨Nat.le_of_ble_eq_true rfl, Nat.le_of_ble_eq_true rfl⟩ rfl rfl (Nat.le_of_ble_eq_true rfl) (fun r w hp => ?_)
      obtain ⟨rfl, rfl⟩ := hp
      refine r_eqv (y := .ref (ra i)) rfl ?_
      obtain ⟨qr, hqr⟩ := pl_getZ (Z := iF g ad mc el (fun k => N (k + 1)) (lN (thS (goN (N 1) (B 0) (A 1) x1) (N 1))) (nI (num (drL (A 0) (N 0)))) (nI (N 0)) ro kl kn row) (wm := wm) (f6 i h_51).1 (hx3 i (Nat.le_refl _) h_51)
      refine r_cast (ci := 2) cx tb_263 dX3_forget_63 qr rfl rfl hqr ?_
      refine r_lload_n cx dX3_forget_66 rfl rfl ?_
      refine r_D (fun hD => ?_)
      have hnd := P_nodup hD
      refine r_perm (out_ob (f6 i h_51).1) ?_
      rw [hx3 i (Nat.le_refl _) h_51]
      refine k_X3_195 cx (c_restNoMoreOn l g _ (ra i) (nI (soF A i)) (toI (toF A i)) (nI (beF A i)) (A 10 i) (A 11 i) (A 12 i) (L 0 i) (B 1 i) (lN (fgS (B 0) (A 1) x1 (N 1)))) dX3_forget_67 0 rfl ⟨Nat.le_of_ble_eq_true rfl, Nat.le_of_ble_eq_true rfl⟩ ⟨Nat.le_of_ble_eq_true rfl, Nat.le_of_ble_eq_true rfl⟩ rfl rfl (Nat.le_of_ble_eq_true rfl) (fun w hp => ?_)
      subst hp
      rw [grN_eq (j9 i), faN_eq (j9 i) (j8 i)]
      refine r_perm (in_ob hnd (f6 i h_51).1) ?_
      refine r_iincN (j := 1) cx dX3_forget_70 rfl rfl (by decide) rfl ?_
      refine r_goto (tgt := 42) cx dX3_forget_73 (by decide) ?_
      exact r_lv (q_pk [1, 2, 0] rfl) (ih (i + 1, va_up fk (ra i) (oR (nI (soF A i)) (toI (toF A i)) (nI (beF A i)) (A 10 i) (A 11 i) (A 12 i) (grN (L 0) (fgS (B 0) (A 1) x1 (N 1)) i) (faN (L 0) (B 1) (fgS (B 0) (A 1) x1 (N 1)) i))) ⟨by omega, fun r hr => by
    show va_up fk (ra i) _ (ra r) = _
    by_cases e9 : r = i
    · subst e9; exact va_up_self _ _ _
    · rw [va_up_ne _ _ (fun z => e9 (f7 r i (by omega) h_51 z))]
      exact hx2 r (by omega), fun r h1 hr => by
    show va_up fk (ra i) _ (ra r) = _
    rw [va_up_ne _ _ (fun z => by have := f7 r i hr h_51 z; omega)]
    exact hx3 r (by omega) hr, fun b hb => by
    show va_up fk (ra i) _ b = _
    rw [va_up_ne _ _ (hb i h_51)]
    exact hx4 b hb⟩ (by show N 2 - (i + 1) < N 2 - i; omega))
  · skip
    exact absurd (show pe1 (kc (!inR x1 8) false false) [] "java/lang/IndexOutOfBoundsException" [] from ⟨⟨rfl, by simp [kc, h_6]⟩, rfl⟩) (pe1_no hk)
