set_option maxHeartbeats 4000000 in
set_option maxRecDepth 100000 in
theorem c_takeDraft2 (l : Launch) (g : q_G) (ws : va_W) (q0 a0 : Nat) (r0 r1 r2 r3 r4 r5 r6 : Value) (th : Int64) (dr dl : Int32) (h0 : ws[q0]? = some (a0, .inr (4, [r0, r1, r2, r3, r4, r5, r6, .long th, .int dr, .int dl]))) : MetW l g yX3_takeDraft cX3_takeDraft 2 (some .int) ({ frames := 0, cells := 0, slots := 0, locals := 0 } : Room) [.ref a0] (ws) (q_Qi g (fun r w => r = dr ∧ w = ws.set q0 (a0, .inr (4, [r0, r1, r2, r3, r4, r5, r6, .long th, .int 0, .int 0])))) := by
  refine q_met (own := RX3) (by decide +kernel) rfl (Nat.le_of_ble_eq_true rfl) (fun p e s m args below meth c cx hr hnm => ?_)
  refine r_lv (lv2 := [(0, .ref a0)]) (q_pk [0] rfl) ?_
  refine r_aload_n cx dX3_takeDraft_0 rfl rfl ?_
  refine gf_X3_44 cx dX3_takeDraft_1 q0 h0 rfl ?_
  refine r_istore_n cx dX3_takeDraft_4 rfl (by decide) rfl ?_
  refine r_aload_n cx dX3_takeDraft_5 rfl rfl ?_
  refine r_iconst (v := 0) cx dX3_takeDraft_6 (by decide) ?_
  refine pf_X3_44 cx dX3_takeDraft_7 q0 h0 (Nat.le_of_ble_eq_true rfl) ?_
  refine r_aload_n cx dX3_takeDraft_10 rfl rfl ?_
  refine r_iconst (v := 0) cx dX3_takeDraft_11 (by decide) ?_
  refine pf_X3_48 cx dX3_takeDraft_12 q0 (q_set_get h0) (Nat.le_of_ble_eq_true rfl) ?_
  refine r_iload_n cx dX3_takeDraft_15 rfl rfl ?_
  exact r_iret cx dX3_takeDraft_16 hr (⟨rfl, by rw [List.set_set]; rfl⟩) (Nat.le_of_ble_eq_true rfl) (Nat.le_of_ble_eq_true rfl)
set_option maxHeartbeats 4000000 in
set_option maxRecDepth 100000 in
theorem c_far (l : Launch) (hl : l.stackTraces = false) (g : q_G) (N : Nat → Nat) (A : Nat → Nat → Int32) (B : Nat → Nat → Bool) (L : Nat → Nat → Int64) (wm ws : va_W) (a0 : Nat) (hI : inv N A B L) (hR : cR g a0 N A B L wm ws) (x1 : Int32) : MetX l g yX3_far cX3_far 4 (some .int) ({ frames := 6, cells := 4, slots := 250, locals := 90 } : Room) [.ref a0, .int x1] (ws) (q_Qi g (fun r w => (kc (!inR x1 (N 1)) false false) = 0 ∧ r = farV N A B (c32 x1) ∧ cR g a0 N A B L wm w)) (pe1 (kc (!inR x1 (N 1)) false false) ws) := by
  refine q_metX (own := RX3) (by decide +kernel) rfl (Nat.le_of_ble_eq_true rfl) (fun p e s m args below meth c cx hr htab => ?_)
  obtain ⟨ad, mc, el, ia, ra, th, dr, dl, ro, kl, kn, row, P, f, rfl, rfl, hF⟩ := hR
  have hiv := cF_iv (ad := ad) (mc := mc) (row := row) (wm := wm) hI hF
  have hrl := cF_rl (ad := ad) (mc := mc) (row := row) (wm := wm) hI hF
  have hqu := cF_qu (ad := ad) (mc := mc) (row := row) (wm := wm) hI hF
  obtain ⟨⟨rfl, rfl, rfl⟩, f2, f3, f4, f5, f6, f7, f8, f9, f10, f11, f12, f13⟩ := id hF
  obtain ⟨⟨i1, i2, i3, i4⟩, j2, j3, j4, j5, j6, j7, j8, j9, j10, j11⟩ := id hI
  refine r_lv (lv2 := [(0, .ref (ad 8)), (1, .int x1)]) (q_pk [0, 1] rfl) ?_
  refine r_iload_n cx dX3_far_0 rfl rfl ?_
  refine r_aload_n cx dX3_far_1 rfl rfl ?_
  refine gf_X3_10 cx dX3_far_2 8 rfl rfl ?_
  refine k_X3_80 cx (c_lsize l g _ (ad 7) (N 1) ia hiv.2.1) dX3_far_5 7 rfl ⟨Nat.le_of_ble_eq_true rfl, Nat.le_of_ble_eq_true rfl⟩ ⟨Nat.le_of_ble_eq_true rfl, Nat.le_of_ble_eq_true rfl⟩ rfl rfl (Nat.le_of_ble_eq_true rfl) (fun r w hp => ?_)
  obtain ⟨rfl, rfl⟩ := hp
  refine k_X3_57 cx (c_isOutside l g _ x1 (N 1) (by omega)) dX3_far_8 ⟨Nat.le_of_ble_eq_true rfl, Nat.le_of_ble_eq_true rfl⟩ ⟨Nat.le_of_ble_eq_true rfl, Nat.le_of_ble_eq_true rfl⟩ rfl rfl (Nat.le_of_ble_eq_true rfl) (fun r w hp => ?_)
  obtain ⟨rfl, rfl⟩ := hp
  refine r_ifeqb (tgt := 24) cx dX3_far_11 (by decide) (fun h_11 => ?_) (fun h_11 => ?_)
  · skip
    obtain ⟨j, hj, rfl, hcj⟩ := inR_ix (x := x1) (n := N 1) (by simpa using h_11) (by omega)
    obtain ⟨⟨hw4, hwe⟩, la, hla⟩ := j3 j hj
    have hua := unF_some hla
    refine r_aload_n cx dX3_far_24 rfl rfl ?_
    refine gf_X3_10 cx dX3_far_25 8 rfl rfl ?_
    refine r_iload_n cx dX3_far_28 rfl rfl ?_
    refine k_X3_108 cx (c_lget l g _ (ad 7) (N 1) j ia hiv.2.1 hj) dX3_far_29 7 rfl ⟨Nat.le_of_ble_eq_true rfl, Nat.le_of_ble_eq_true rfl⟩ ⟨Nat.le_of_ble_eq_true rfl, Nat.le_of_ble_eq_true rfl⟩ rfl rfl (Nat.le_of_ble_eq_true rfl) (fun r w hp => ?_)
    obtain ⟨rfl, rfl⟩ := hp
    obtain ⟨qi, hqi⟩ := hiv.2.2.2 j hj
    refine r_eqv (y := .ref (ia j)) rfl ?_
    refine r_cast (ci := 1) cx tb_219 dX3_far_32 qi rfl rfl hqi ?_
    refine r_astore_n cx dX3_far_35 rfl (by decide) rfl ?_
    refine r_aload_n cx dX3_far_36 rfl rfl ?_
    refine gf_X3_22 cx dX3_far_37 8 rfl rfl ?_
    refine r_aload_n cx dX3_far_40 rfl rfl ?_
    refine gf_X3_168 cx dX3_far_41 qi hqi rfl ?_
    refine r_eqi (y := nI (c32 (A 4 j))) hwe ?_
    first | refine r_ialdN cx 4 0 dX3_far_44 rfl rfl (by omega) (by omega) ?_ | refine r_iald cx 4 0 dX3_far_44 rfl rfl (by omega) ?_
    refine r_eqi (y := roI (unF (A 6 (c32 (A 4 j))))) ((f2 _ hw4).trans (j5 _ hw4).symm) ?_
    refine r_istore_n cx dX3_far_45 rfl (by decide) rfl ?_
    refine r_aload_n cx dX3_far_46 rfl rfl ?_
    refine r_aload_n cx dX3_far_47 rfl rfl ?_
    refine k_X3_139 cx (c_isThere l g _ 8 qi _ _ _ _ _ _ _ _ _ _ _ _ _ _ _ _ _ _ rfl hqi) dX3_far_48 8 rfl ⟨Nat.le_of_ble_eq_true rfl, Nat.le_of_ble_eq_true rfl⟩ ⟨Nat.le_of_ble_eq_true rfl, Nat.le_of_ble_eq_true rfl⟩ rfl rfl (Nat.le_of_ble_eq_true rfl) (fun r w hp => ?_)
    obtain ⟨rfl, rfl⟩ := hp
    refine r_ifeqb (tgt := 59) cx dX3_far_51 (by decide) (fun h_51 => ?_) (fun h_51 => ?_)
    · skip
      refine r_iconst (v := -1) cx dX3_far_59 (by decide) ?_
      exact x_iret cx dX3_far_60 hr (⟨by simp [kc, h_11], by rw [hcj, farV]; rw [hr_th i2 hj] at h_51; rw [(by simpa using h_51 : B 0 j = true)]; rfl, ⟨ad, mc, el, ia, ra, _, _, _, ro, kl, kn, row, P, f, rfl, rfl, hF⟩⟩) (Nat.le_of_ble_eq_true rfl) (Nat.le_of_ble_eq_true rfl)
    · skip
      refine r_iload_n cx dX3_far_54 rfl rfl ?_
      refine r_iconst (v := -1) cx dX3_far_55 (by decide) ?_
      refine r_icmpne (tgt := 61) cx dX3_far_56 (by decide) (fun h_56 => ?_) (fun h_56 => ?_)
      · skip
        obtain ⟨lb, hlb⟩ := roI_some h_56
        have hub := unF_some hlb
        have hex := expF_ok (gs := goF (rlS A) (B 1) (A 2 j) (A 3 j)) (so := soF A) (be := beF A) (to := toF A) (n := N 2) (fun r hr9 => (hrl.2.2.2.1 r hr9).2.2) hub.2.1 hub.2.2.1 (N 2) (Nat.le_refl _)
        refine r_aload_n cx dX3_far_61 rfl rfl ?_
        refine gf_X3_36 cx dX3_far_62 8 rfl rfl ?_
        refine r_aload_n cx dX3_far_65 rfl rfl ?_
        refine gf_X3_171 cx dX3_far_66 qi hqi rfl ?_
        refine r_eqi (y := nI (num la)) hua.1 ?_
        refine r_aload_n cx dX3_far_69 rfl rfl ?_
        refine r_iload_n cx dX3_far_70 rfl rfl ?_
        refine r_aload_n cx dX3_far_71 rfl rfl ?_
        refine gf_X3_174 cx dX3_far_72 qi hqi rfl ?_
        refine r_aload_n cx dX3_far_75 rfl rfl ?_
        refine gf_X3_177 cx dX3_far_76 qi hqi rfl ?_
        refine k_X3_164 cx (c_applyRules l g _ (ad 8) (ad 6) (N 2) ra _ _ _ _ _ _ (unF (A 6 (c32 (A 4 j)))) (A 2 j) (A 3 j) (fun l hl9 => ⟨(unF_some hl9).2.1, (unF_some hl9).2.2.1⟩) hrl) dX3_far_79 8 rfl ⟨Nat.le_of_ble_eq_true rfl, Nat.le_of_ble_eq_true rfl⟩ ⟨Nat.le_of_ble_eq_true rfl, Nat.le_of_ble_eq_true rfl⟩ rfl rfl (Nat.le_of_ble_eq_true rfl) (fun r w hp => ?_)
        obtain ⟨rfl, rfl⟩ := hp
        rw [hlb]
        refine r_eqi (y := nI (num (expF (goF (rlS A) (B 1) (A 2 j) (A 3 j)) (soF A) (beF A) (toF A) lb (N 2)))) rfl ?_
        refine r_perm (ws2 := (ad 1, .inr (3, [.ref (ad 0)])) :: (ad 0, .inl (q_cI g, 9, .inl row)) :: _) (List.Perm.swap _ _ _) ?_
        refine k_X3_180 cx (c_countSteps l g _ (ad 1) (ad 0) row la _ hua.2.1 hua.2.2.1 hex.1 hex.2 hua.2.2.2) dX3_far_82 0 rfl ⟨Nat.le_of_ble_eq_true rfl, Nat.le_of_ble_eq_true rfl⟩ ⟨Nat.le_of_ble_eq_true rfl, Nat.le_of_ble_eq_true rfl⟩ rfl rfl (Nat.le_of_ble_eq_true rfl) (fun r w hp => ?_)
        obtain ⟨rfl, row2, rfl⟩ := hp
        refine r_perm (ws2 := iF g ad mc el (fun k => N (k + 1)) (lN (thS (B 0) (N 1))) (nI (num (drL (A 0) (N 0)))) (nI (N 0)) ro kl kn row2 ++ (wm ++ va_pl P f)) (List.Perm.swap _ _ _) ?_
        exact x_iret cx dX3_far_85 hr (⟨by simp [kc, h_11], by rw [hr_th i2 hj] at h_51; rw [hcj, farV, (by simpa using h_51 : B 0 j = false), hla, hlb]; rfl, ⟨ad, mc, el, ia, ra, _, _, _, ro, kl, kn, row2, P, f, rfl, rfl, hF⟩⟩) (Nat.le_of_ble_eq_true rfl) (Nat.le_of_ble_eq_true rfl)
      · skip
        refine r_iconst (v := -1) cx dX3_far_59 (by decide) ?_
        exact x_iret cx dX3_far_60 hr (⟨by simp [kc, h_11], by rw [hcj, farV]; rw [roI_none (fun l hl9 => ⟨(unF_some hl9).2.1, (unF_some hl9).2.2.1⟩) h_56, hla]; cases B 0 j <;> rfl, ⟨ad, mc, el, ia, ra, _, _, _, ro, kl, kn, row, P, f, rfl, rfl, hF⟩⟩) (Nat.le_of_ble_eq_true rfl) (Nat.le_of_ble_eq_true rfl)
  · skip
    exact th_IO cx "no such interview" 106 hl htab dX3_far_14 dX3_far_17 dX3_far_18 dX3_far_20 dX3_far_23 (by decide) ⟨Nat.le_of_ble_eq_true rfl, Nat.le_of_ble_eq_true rfl, Nat.le_of_ble_eq_true rfl, Nat.le_of_ble_eq_true rfl⟩ ⟨Nat.le_of_ble_eq_true rfl, Nat.le_of_ble_eq_true rfl⟩ (⟨⟨rfl, by simp [kc, h_11]⟩, rfl⟩)
set_option maxHeartbeats 4000000 in
set_option maxRecDepth 100000 in
theorem c_sound (l : Launch) (hl : l.stackTraces = false) (g : q_G) (N : Nat → Nat) (A : Nat → Nat → Int32) (B : Nat → Nat → Bool) (L : Nat → Nat → Int64) (wm ws : va_W) (a0 : Nat) (hI : inv N A B L) (hR : cR g a0 N A B L wm ws) (x1 : Int32) : MetX l g yX3_sound cX3_sound 2 (some .int) ({ frames := 6, cells := 4, slots := 250, locals := 90 } : Room) [.ref a0, .int x1] (ws) (q_Qi g (fun r w => (kc (!inR x1 8) (decide (N 0 = 8)) false) = 0 ∧ r = nI (N 0 + 1) ∧ cR g a0 (va_up N 0 (N 0 + 1)) (va_up A 0 (upd (A 0) (N 0) x1)) B (L) wm w)) (peS (kc (!inR x1 8) (decide (N 0 = 8)) false) ws) := by
  refine q_metX (own := RX3) (by decide +kernel) rfl (Nat.le_of_ble_eq_true rfl) (fun p e s m args below meth c cx hr htab => ?_)
  obtain ⟨ad, mc, el, ia, ra, th, dr, dl, ro, kl, kn, row, P, f, rfl, rfl, hF⟩ := hR
  have hiv := cF_iv (ad := ad) (mc := mc) (row := row) (wm := wm) hI hF
  have hrl := cF_rl (ad := ad) (mc := mc) (row := row) (wm := wm) hI hF
  have hqu := cF_qu (ad := ad) (mc := mc) (row := row) (wm := wm) hI hF
  obtain ⟨⟨rfl, rfl, rfl⟩, f2, f3, f4, f5, f6, f7, f8, f9, f10, f11, f12, f13⟩ := id hF
  obtain ⟨⟨i1, i2, i3, i4⟩, j2, j3, j4, j5, j6, j7, j8, j9, j10, j11⟩ := id hI
  refine r_lv (lv2 := [(0, .ref (ad 8)), (1, .int x1)]) (q_pk [0, 1] rfl) ?_
  refine r_iload_n cx dX3_sound_0 rfl rfl ?_
  refine r_bipush (v := nI 8) cx dX3_sound_1 (by decide) ?_
  refine k_X3_57 cx (c_isOutside l g _ x1 (8) (by omega)) dX3_sound_3 ⟨Nat.le_of_ble_eq_true rfl, Nat.le_of_ble_eq_true rfl⟩ ⟨Nat.le_of_ble_eq_true rfl, Nat.le_of_ble_eq_true rfl⟩ rfl rfl (Nat.le_of_ble_eq_true rfl) (fun r w hp => ?_)
  obtain ⟨rfl, rfl⟩ := hp
  refine r_ifeqb (tgt := 19) cx dX3_sound_6 (by decide) (fun h_6 => ?_) (fun h_6 => ?_)
  · skip
    refine r_aload_n cx dX3_sound_19 rfl rfl ?_
    refine gf_X3_48 cx dX3_sound_20 8 rfl rfl ?_
    refine r_bipush (v := nI 8) cx dX3_sound_23 (by decide) ?_
    refine r_icmpltN (tgt := 38) cx (by omega) (by omega) dX3_sound_25 (by decide) (fun h_25 => ?_) (fun h_25 => ?_)
    · skip
      obtain ⟨j, hj, rfl, hcj⟩ := inR_ix (x := x1) (n := 8) (by simpa using h_6) (by omega)
      have hbn : num (drL (A 0) (N 0)) < 43046721 := num_bd (drL_snd (fun k hk => (j2 k hk).1)) (by rw [drL_len]; exact i1)
      refine r_aload_n cx dX3_sound_38 rfl rfl ?_
      refine r_aload_n cx dX3_sound_39 rfl rfl ?_
      refine gf_X3_44 cx dX3_sound_40 8 rfl rfl ?_
      refine r_bipush (v := nI 9) cx dX3_sound_43 (by decide) ?_
      first | refine r_imulN cx dX3_sound_45 ?_ | refine r_imul cx dX3_sound_45 ?_
      refine r_iload_n cx dX3_sound_46 rfl rfl ?_
      first | refine r_iaddN cx dX3_sound_47 ?_ | refine r_iadd cx dX3_sound_47 ?_
      refine r_iconst (v := nI 1) cx dX3_sound_48 (by decide) ?_
      first | refine r_iaddN cx dX3_sound_49 ?_ | refine r_iadd cx dX3_sound_49 ?_
      refine pf_X3_44 cx dX3_sound_50 8 rfl (Nat.le_of_ble_eq_true rfl) ?_
      refine r_aload_n cx dX3_sound_53 rfl rfl ?_
      refine r_dup cx dX3_sound_54 rfl ?_
      refine gf_X3_48 cx dX3_sound_55 8 rfl rfl ?_
      refine r_iconst (v := nI 1) cx dX3_sound_58 (by decide) ?_
      first | refine r_iaddN cx dX3_sound_59 ?_ | refine r_iadd cx dX3_sound_59 ?_
      refine pf_X3_48 cx dX3_sound_60 8 rfl (Nat.le_of_ble_eq_true rfl) ?_
      refine r_aload_n cx dX3_sound_63 rfl rfl ?_
      refine gf_X3_48 cx dX3_sound_64 8 rfl rfl ?_
      exact x_iret cx dX3_sound_67 hr (⟨by rw [decide_eq_false (by omega : ¬ N 0 = 8)]; simp at h_6; simp [kc, h_6], rfl, ⟨ad, mc, el, ia, ra, _, _, _, ro, kl, kn, row, P, f, rfl, rfl, ⟨⟨rfl, (congrArg nI (by rw [show (va_up N 0 (N 0 + 1)) 0 = N 0 + 1 from rfl, drL_succ, num_snoc, show (va_up A 0 (upd (A 0) (N 0) (nI j))) 0 = upd (A 0) (N 0) (nI j) from rfl, pk_us, hcj, drL_cong (d2 := A 0) (fun i hi => pk_un (by omega))]; omega)), rfl⟩, f2, (fun w hw => (f3 w hw).trans (drw_A (fun i _ => ⟨rfl, rfl, rfl⟩))), f4, f5, f6, f7, f8, f9, f10, f11, f12, f13⟩⟩⟩) (Nat.le_of_ble_eq_true rfl) (Nat.le_of_ble_eq_true rfl)
    · skip
      exact th_IS cx "the draft has 8 sounds" 70 hl htab dX3_sound_28 dX3_sound_31 dX3_sound_32 dX3_sound_34 dX3_sound_37 (by decide) ⟨Nat.le_of_ble_eq_true rfl, Nat.le_of_ble_eq_true rfl, Nat.le_of_ble_eq_true rfl, Nat.le_of_ble_eq_true rfl⟩ ⟨Nat.le_of_ble_eq_true rfl, Nat.le_of_ble_eq_true rfl⟩ (⟨Or.inr ⟨rfl, by rw [decide_eq_true (by omega : N 0 = 8)]; simp at h_6; simp [kc, h_6]⟩, rfl⟩)
  · skip
    exact th_IO cx "no such sound" 63 hl htab dX3_sound_9 dX3_sound_12 dX3_sound_13 dX3_sound_15 dX3_sound_18 (by decide) ⟨Nat.le_of_ble_eq_true rfl, Nat.le_of_ble_eq_true rfl, Nat.le_of_ble_eq_true rfl, Nat.le_of_ble_eq_true rfl⟩ ⟨Nat.le_of_ble_eq_true rfl, Nat.le_of_ble_eq_true rfl⟩ (⟨Or.inl ⟨rfl, by simp [kc, h_6]⟩, rfl⟩)
set_option maxHeartbeats 4000000 in
set_option maxRecDepth 100000 in
theorem c_setRoot (l : Launch) (hl : l.stackTraces = false) (g : q_G) (N : Nat → Nat) (A : Nat → Nat → Int32) (B : Nat → Nat → Bool) (L : Nat → Nat → Int64) (wm ws : va_W) (a0 : Nat) (hI : inv N A B L) (hR : cR g a0 N A B L wm ws) (x1 : Int32) : MetX l g yX3_setRoot cX3_setRoot 3 (some .int) ({ frames := 6, cells := 4, slots := 250, locals := 90 } : Room) [.ref a0, .int x1] (ws) (q_Qi g (fun r w => (kc (!inR x1 4) (decide (N 0 = 0)) false) = 0 ∧ r = A 6 (c32 x1) ∧ cR g a0 (va_up N 0 0) (va_up A 6 (upd (A 6) (c32 x1) (nI (num (drL (A 0) (N 0)))))) B (L) wm w)) (peS (kc (!inR x1 4) (decide (N 0 = 0)) false) ws) := by
  refine q_metX (own := RX3) (by decide +kernel) rfl (Nat.le_of_ble_eq_true rfl) (fun p e s m args below meth c cx hr htab => ?_)
  obtain ⟨ad, mc, el, ia, ra, th, dr, dl, ro, kl, kn, row, P, f, rfl, rfl, hF⟩ := hR
  have hiv := cF_iv (ad := ad) (mc := mc) (row := row) (wm := wm) hI hF
  have hrl := cF_rl (ad := ad) (mc := mc) (row := row) (wm := wm) hI hF
  have hqu := cF_qu (ad := ad) (mc := mc) (row := row) (wm := wm) hI hF
  obtain ⟨⟨rfl, rfl, rfl⟩, f2, f3, f4, f5, f6, f7, f8, f9, f10, f11, f12, f13⟩ := id hF
  obtain ⟨⟨i1, i2, i3, i4⟩, j2, j3, j4, j5, j6, j7, j8, j9, j10, j11⟩ := id hI
  refine r_lv (lv2 := [(0, .ref (ad 8)), (1, .int x1)]) (q_pk [0, 1] rfl) ?_
  refine r_iload_n cx dX3_setRoot_0 rfl rfl ?_
  refine r_iconst (v := nI 4) cx dX3_setRoot_1 (by decide) ?_
  refine k_X3_57 cx (c_isOutside l g _ x1 (4) (by omega)) dX3_setRoot_2 ⟨Nat.le_of_ble_eq_true rfl, Nat.le_of_ble_eq_true rfl⟩ ⟨Nat.le_of_ble_eq_true rfl, Nat.le_of_ble_eq_true rfl⟩ rfl rfl (Nat.le_of_ble_eq_true rfl) (fun r w hp => ?_)
  obtain ⟨rfl, rfl⟩ := hp
  refine r_ifeqb (tgt := 18) cx dX3_setRoot_5 (by decide) (fun h_5 => ?_) (fun h_5 => ?_)
  · skip
    refine r_aload_n cx dX3_setRoot_18 rfl rfl ?_
    refine gf_X3_48 cx dX3_setRoot_19 8 rfl rfl ?_
    refine r_ifneN (tgt := 35) cx (by omega) dX3_setRoot_22 (by decide) (fun h_22 => ?_) (fun h_22 => ?_)
    · skip
      obtain ⟨j, hj, rfl, hcj⟩ := inR_ix (x := x1) (n := 4) (by simpa using h_5) (by omega)
      refine r_aload_n cx dX3_setRoot_35 rfl rfl ?_
      refine gf_X3_22 cx dX3_setRoot_36 8 rfl rfl ?_
      refine r_iload_n cx dX3_setRoot_39 rfl rfl ?_
      first | refine r_ialdN cx 4 0 dX3_setRoot_40 rfl rfl (by omega) (by omega) ?_ | refine r_iald cx 4 0 dX3_setRoot_40 rfl rfl (by omega) ?_
      refine r_istore_n cx dX3_setRoot_41 rfl (by decide) rfl ?_
      refine r_aload_n cx dX3_setRoot_42 rfl rfl ?_
      refine gf_X3_22 cx dX3_setRoot_43 8 rfl rfl ?_
      refine r_iload_n cx dX3_setRoot_46 rfl rfl ?_
      refine r_aload_n cx dX3_setRoot_47 rfl rfl ?_
      refine k_X3_88 cx (c_takeDraft2 l g _ 8 (ad 8) _ _ _ _ _ _ _ _ _ _ rfl) dX3_setRoot_48 8 rfl ⟨Nat.le_of_ble_eq_true rfl, Nat.le_of_ble_eq_true rfl⟩ ⟨Nat.le_of_ble_eq_true rfl, Nat.le_of_ble_eq_true rfl⟩ rfl rfl (Nat.le_of_ble_eq_true rfl) (fun r w hp => ?_)
      obtain ⟨rfl, rfl⟩ := hp
      first | refine r_iastN cx 4 0 dX3_setRoot_51 rfl rfl (by omega) (by omega) ?_ | refine r_iast cx 4 0 dX3_setRoot_51 rfl rfl (by omega) ?_
      refine r_iload_n cx dX3_setRoot_52 rfl rfl ?_
      exact x_iret cx dX3_setRoot_53 hr (⟨by rw [decide_eq_false h_22]; simp at h_5; simp [kc, h_5], by rw [hcj]; exact f2 j hj, by rw [hcj]; exact ⟨ad, mc, el, ia, ra, _, _, _, upd ro j (nI (num (drL (A 0) (N 0)))), kl, kn, row, P, f, rfl, rfl, ⟨⟨rfl, rfl, rfl⟩, fun w hw => by
    show upd ro j _ w = upd (A 6) j _ w
    by_cases e9 : w = j
    · rw [e9, pk_us, pk_us]
    · rw [pk_un e9, pk_un e9]; exact f2 w hw, (fun w hw => (f3 w hw).trans (drw_A (fun i _ => ⟨rfl, rfl, rfl⟩))), f4, f5, f6, f7, f8, f9, f10, f11, f12, f13⟩⟩⟩) (Nat.le_of_ble_eq_true rfl) (Nat.le_of_ble_eq_true rfl)
    · skip
      exact th_IS cx "the draft is empty" 104 hl htab dX3_setRoot_25 dX3_setRoot_28 dX3_setRoot_29 dX3_setRoot_31 dX3_setRoot_34 (by decide) ⟨Nat.le_of_ble_eq_true rfl, Nat.le_of_ble_eq_true rfl, Nat.le_of_ble_eq_true rfl, Nat.le_of_ble_eq_true rfl⟩ ⟨Nat.le_of_ble_eq_true rfl, Nat.le_of_ble_eq_true rfl⟩ (⟨Or.inr ⟨rfl, by rw [decide_eq_true h_22]; simp at h_5; simp [kc, h_5]⟩, rfl⟩)
  · skip
    exact th_IO cx "no such word" 102 hl htab dX3_setRoot_8 dX3_setRoot_11 dX3_setRoot_12 dX3_setRoot_14 dX3_setRoot_17 (by decide) ⟨Nat.le_of_ble_eq_true rfl, Nat.le_of_ble_eq_true rfl, Nat.le_of_ble_eq_true rfl, Nat.le_of_ble_eq_true rfl⟩ ⟨Nat.le_of_ble_eq_true rfl, Nat.le_of_ble_eq_true rfl⟩ (⟨Or.inl ⟨rfl, by simp [kc, h_5]⟩, rfl⟩)
set_option maxHeartbeats 4000000 in
set_option maxRecDepth 100000 in
theorem c_copy (l : Launch) (hl : l.stackTraces = false) (g : q_G) (N : Nat → Nat) (A : Nat → Nat → Int32) (B : Nat → Nat → Bool) (L : Nat → Nat → Int64) (wm ws : va_W) (a0 : Nat) (hI : inv N A B L) (hR : cR g a0 N A B L wm ws) (x1 : Int32) : MetX l g yX3_copy cX3_copy 2 (some .int) ({ frames := 6, cells := 4, slots := 250, locals := 90 } : Room) [.ref a0, .int x1] (ws) (q_Qi g (fun r w => (kc (!inR x1 3) false false) = 0 ∧ r = nI (bcL (lN (thS (B 0) (N 1)))) ∧ cR g a0 (N) (A) B (va_up L 1 (vp_updL (L 1) (c32 x1) (lN (thS (B 0) (N 1))))) wm w)) (pe1 (kc (!inR x1 3) false false) ws) := by
  refine q_metX (own := RX3) (by decide +kernel) rfl (Nat.le_of_ble_eq_true rfl) (fun p e s m args below meth c cx hr htab => ?_)
  obtain ⟨ad, mc, el, ia, ra, th, dr, dl, ro, kl, kn, row, P, f, rfl, rfl, hF⟩ := hR
  have hiv := cF_iv (ad := ad) (mc := mc) (row := row) (wm := wm) hI hF
  have hrl := cF_rl (ad := ad) (mc := mc) (row := row) (wm := wm) hI hF
  have hqu := cF_qu (ad := ad) (mc := mc) (row := row) (wm := wm) hI hF
  obtain ⟨⟨rfl, rfl, rfl⟩, f2, f3, f4, f5, f6, f7, f8, f9, f10, f11, f12, f13⟩ := id hF
  obtain ⟨⟨i1, i2, i3, i4⟩, j2, j3, j4, j5, j6, j7, j8, j9, j10, j11⟩ := id hI
  refine r_lv (lv2 := [(0, .ref (ad 8)), (1, .int x1)]) (q_pk [0, 1] rfl) ?_
  refine r_iload_n cx dX3_copy_0 rfl rfl ?_
  refine r_iconst (v := nI 3) cx dX3_copy_1 (by decide) ?_
  refine k_X3_57 cx (c_isOutside l g _ x1 (3) (by omega)) dX3_copy_2 ⟨Nat.le_of_ble_eq_true rfl, Nat.le_of_ble_eq_true rfl⟩ ⟨Nat.le_of_ble_eq_true rfl, Nat.le_of_ble_eq_true rfl⟩ rfl rfl (Nat.le_of_ble_eq_true rfl) (fun r w hp => ?_)
  obtain ⟨rfl, rfl⟩ := hp
  refine r_ifeqb (tgt := 18) cx dX3_copy_5 (by decide) (fun h_5 => ?_) (fun h_5 => ?_)
  · skip
    obtain ⟨j, hj, rfl, hcj⟩ := inR_ix (x := x1) (n := 3) (by simpa using h_5) (by omega)
    refine r_aload_n cx dX3_copy_18 rfl rfl ?_
    refine gf_X3_29 cx dX3_copy_19 8 rfl rfl ?_
    refine r_iload_n cx dX3_copy_22 rfl rfl ?_
    refine r_aload_n cx dX3_copy_23 rfl rfl ?_
    refine gf_X3_40 cx dX3_copy_24 8 rfl rfl ?_
    first | refine r_lastN cx 2 1 dX3_copy_27 rfl rfl (by omega) (by omega) ?_ | refine r_last cx 2 1 dX3_copy_27 rfl rfl (by omega) ?_
    refine r_aload_n cx dX3_copy_28 rfl rfl ?_
    refine gf_X3_40 cx dX3_copy_29 8 rfl rfl ?_
    refine k_X3_154 cx (c_bitCount l g _ _ (thS_lt i2)) dX3_copy_32 ⟨Nat.le_of_ble_eq_true rfl, Nat.le_of_ble_eq_true rfl⟩ ⟨Nat.le_of_ble_eq_true rfl, Nat.le_of_ble_eq_true rfl⟩ rfl rfl (Nat.le_of_ble_eq_true rfl) (fun r w hp => ?_)
    obtain ⟨rfl, rfl⟩ := hp
    exact x_iret cx dX3_copy_35 hr (⟨by simp [kc, h_5], by rw [bcL_lN (thS_lt i2)], by rw [hcj]; exact ⟨ad, mc, el, ia, ra, _, _, _, ro, kl, vp_updL kn j (lN (thS (B 0) (N 1))), row, P, f, rfl, rfl, ⟨⟨rfl, rfl, rfl⟩, f2, f3, fun w hw => by
    show vp_updL kn j _ w = vp_updL (L 1) j _ w
    by_cases e9 : w = j
    · rw [e9, pk_uLs, pk_uLs]
    · rw [pk_uLn e9, pk_uLn e9]; exact f4 w hw, f5, f6, f7, f8, f9, f10, f11, f12, f13⟩⟩⟩) (Nat.le_of_ble_eq_true rfl) (Nat.le_of_ble_eq_true rfl)
  · skip
    exact th_IO cx "no such school" 199 hl htab dX3_copy_8 dX3_copy_11 dX3_copy_12 dX3_copy_14 dX3_copy_17 (by decide) ⟨Nat.le_of_ble_eq_true rfl, Nat.le_of_ble_eq_true rfl, Nat.le_of_ble_eq_true rfl, Nat.le_of_ble_eq_true rfl⟩ ⟨Nat.le_of_ble_eq_true rfl, Nat.le_of_ble_eq_true rfl⟩ (⟨⟨rfl, by simp [kc, h_5]⟩, rfl⟩)
set_option maxHeartbeats 4000000 in
set_option maxRecDepth 100000 in
theorem c_tell (l : Launch) (hl : l.stackTraces = false) (g : q_G) (N : Nat → Nat) (A : Nat → Nat → Int32) (B : Nat → Nat → Bool) (L : Nat → Nat → Int64) (wm ws : va_W) (a0 : Nat) (hI : inv N A B L) (hR : cR g a0 N A B L wm ws) (x1 : Int32) : MetX l g yX3_tell cX3_tell 4 (some .int) ({ frames := 6, cells := 4, slots := 250, locals := 90 } : Room) [.ref a0, .int x1] (ws) (q_Qi g (fun r w => (kc (!inR x1 3) false false) = 0 ∧ r = nI (bcL (L 1 (c32 x1) &&& (lN (thS (B 0) (N 1)) ^^^ (-1)))) ∧ cR g a0 (N) (A) B (va_up L 1 (vp_updL (L 1) (c32 x1) (L 1 (c32 x1) &&& lN (thS (B 0) (N 1))))) wm w)) (pe1 (kc (!inR x1 3) false false) ws) := by
  refine q_metX (own := RX3) (by decide +kernel) rfl (Nat.le_of_ble_eq_true rfl) (fun p e s m args below meth c cx hr htab => ?_)
  obtain ⟨ad, mc, el, ia, ra, th, dr, dl, ro, kl, kn, row, P, f, rfl, rfl, hF⟩ := hR
  have hiv := cF_iv (ad := ad) (mc := mc) (row := row) (wm := wm) hI hF
  have hrl := cF_rl (ad := ad) (mc := mc) (row := row) (wm := wm) hI hF
  have hqu := cF_qu (ad := ad) (mc := mc) (row := row) (wm := wm) hI hF
  obtain ⟨⟨rfl, rfl, rfl⟩, f2, f3, f4, f5, f6, f7, f8, f9, f10, f11, f12, f13⟩ := id hF
  obtain ⟨⟨i1, i2, i3, i4⟩, j2, j3, j4, j5, j6, j7, j8, j9, j10, j11⟩ := id hI
  refine r_lv (lv2 := [(0, .ref (ad 8)), (1, .int x1)]) (q_pk [0, 1] rfl) ?_
  refine r_iload_n cx dX3_tell_0 rfl rfl ?_
  refine r_iconst (v := nI 3) cx dX3_tell_1 (by decide) ?_
  refine k_X3_57 cx (c_isOutside l g _ x1 (3) (by omega)) dX3_tell_2 ⟨Nat.le_of_ble_eq_true rfl, Nat.le_of_ble_eq_true rfl⟩ ⟨Nat.le_of_ble_eq_true rfl, Nat.le_of_ble_eq_true rfl⟩ rfl rfl (Nat.le_of_ble_eq_true rfl) (fun r w hp => ?_)
  obtain ⟨rfl, rfl⟩ := hp
  refine r_ifeqb (tgt := 18) cx dX3_tell_5 (by decide) (fun h_5 => ?_) (fun h_5 => ?_)
  · skip
    obtain ⟨j, hj, rfl, hcj⟩ := inR_ix (x := x1) (n := 3) (by simpa using h_5) (by omega)
    obtain ⟨K, hK, hKe⟩ := j10 j hj
    have hkn : kn j = lN K := (f4 j hj).trans hKe
    refine r_aload_n cx dX3_tell_18 rfl rfl ?_
    refine gf_X3_29 cx dX3_tell_19 8 rfl rfl ?_
    refine r_iload_n cx dX3_tell_22 rfl rfl ?_
    first | refine r_laldN cx 2 1 dX3_tell_23 rfl rfl (by omega) (by omega) ?_ | refine r_lald cx 2 1 dX3_tell_23 rfl rfl (by omega) ?_
    refine r_eql hkn ?_
    refine r_aload_n cx dX3_tell_24 rfl rfl ?_
    refine gf_X3_40 cx dX3_tell_25 8 rfl rfl ?_
    refine r_ldc2 cx dX3_tell_28 tb_315 ?_
    refine r_lxor cx dX3_tell_31 ?_
    refine r_land cx dX3_tell_32 ?_
    refine r_eql (andn _ _) ?_
    refine r_lstore_n cx dX3_tell_33 rfl (by decide) rfl ?_
    refine r_aload_n cx dX3_tell_34 rfl rfl ?_
    refine gf_X3_29 cx dX3_tell_35 8 rfl rfl ?_
    refine r_iload_n cx dX3_tell_38 rfl rfl ?_
    refine r_dup2 cx dX3_tell_39 rfl rfl ?_
    first | refine r_laldN cx 2 1 dX3_tell_40 rfl rfl (by omega) (by omega) ?_ | refine r_lald cx 2 1 dX3_tell_40 rfl rfl (by omega) ?_
    refine r_aload_n cx dX3_tell_41 rfl rfl ?_
    refine gf_X3_40 cx dX3_tell_42 8 rfl rfl ?_
    refine r_land cx dX3_tell_45 ?_
    first | refine r_lastN cx 2 1 dX3_tell_46 rfl rfl (by omega) (by omega) ?_ | refine r_last cx 2 1 dX3_tell_46 rfl rfl (by omega) ?_
    refine r_lload_n cx dX3_tell_47 rfl rfl ?_
    refine k_X3_154 cx (c_bitCount l g _ _ (andn_lt hK)) dX3_tell_48 ⟨Nat.le_of_ble_eq_true rfl, Nat.le_of_ble_eq_true rfl⟩ ⟨Nat.le_of_ble_eq_true rfl, Nat.le_of_ble_eq_true rfl⟩ rfl rfl (Nat.le_of_ble_eq_true rfl) (fun r w hp => ?_)
    obtain ⟨rfl, rfl⟩ := hp
    exact x_iret cx dX3_tell_51 hr (⟨by simp [kc, h_5], by rw [hcj, hKe, andn, bcL_lN (andn_lt hK)], by rw [hcj]; exact ⟨ad, mc, el, ia, ra, _, _, _, ro, kl, vp_updL kn j (kn j &&& lN (thS (B 0) (N 1))), row, P, f, rfl, rfl, ⟨⟨rfl, rfl, rfl⟩, f2, f3, fun w hw => by
    show vp_updL kn j _ w = vp_updL (L 1) j _ w
    by_cases e9 : w = j
    · rw [e9, pk_uLs, pk_uLs, f4 j hj]
    · rw [pk_uLn e9, pk_uLn e9]; exact f4 w hw, f5, f6, f7, f8, f9, f10, f11, f12, f13⟩⟩⟩) (Nat.le_of_ble_eq_true rfl) (Nat.le_of_ble_eq_true rfl)
  · skip
    exact th_IO cx "no such school" 199 hl htab dX3_tell_8 dX3_tell_11 dX3_tell_12 dX3_tell_14 dX3_tell_17 (by decide) ⟨Nat.le_of_ble_eq_true rfl, Nat.le_of_ble_eq_true rfl, Nat.le_of_ble_eq_true rfl, Nat.le_of_ble_eq_true rfl⟩ ⟨Nat.le_of_ble_eq_true rfl, Nat.le_of_ble_eq_true rfl⟩ (⟨⟨rfl, by simp [kc, h_5]⟩, rfl⟩)
