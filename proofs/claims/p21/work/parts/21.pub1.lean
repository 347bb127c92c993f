def kc (a b d : Bool) : Nat := if a then 1 else if b then 2 else if d then 3 else 0
def pe1 (k : Nat) (ws : va_W) : String → va_W → Prop := fun E w => (E = "java/lang/IndexOutOfBoundsException" ∧ k = 1) ∧ w = ws
def peS (k : Nat) (ws : va_W) : String → va_W → Prop := fun E w => ((E = "java/lang/IndexOutOfBoundsException" ∧ k = 1) ∨ (E = "java/lang/IllegalStateException" ∧ k = 2)) ∧ w = ws
def peA (k : Nat) (ws : va_W) : String → va_W → Prop := fun E w => ((E = "java/lang/IndexOutOfBoundsException" ∧ k = 1) ∨ (E = "java/lang/IllegalArgumentException" ∧ k = 2)) ∧ w = ws
def pe3 (k : Nat) (ws : va_W) : String → va_W → Prop := fun E w => ((E = "java/lang/IndexOutOfBoundsException" ∧ k = 1) ∨ (E = "java/lang/IllegalArgumentException" ∧ k = 2) ∨ (E = "java/lang/IllegalStateException" ∧ k = 3)) ∧ w = ws
theorem drw_A {hr : Nat → Bool} {A A2 : Nat → Nat → Int32} {n : Nat} {w : Int32} (h : ∀ i, i < n → A 2 i = A2 2 i ∧ A 4 i = A2 4 i ∧ A 5 i = A2 5 i) : drw hr (fiS A) n w = drw hr (fiS A2) n w := drw_cong (fun p i hi => by
  obtain ⟨h1, h2, h3⟩ := h i hi
  exact ⟨by show (hr i && (decide (A 4 i = w) && decide (A 2 i = p))) = (hr i && (decide (A2 4 i = w) && decide (A2 2 i = p))); rw [h1, h2], fun _ => h3⟩)
/-- the values that calls answer -/
noncomputable def expV (N : Nat → Nat) (A : Nat → Nat → Int32) (B : Nat → Nat → Bool) (w : Nat) (p y : Int32) : Int32 := roI ((unF (A 6 w)).map (fun l => expF (goF (rlS A) (B 1) p y) (soF A) (beF A) (toF A) l (N 2)))
noncomputable def farV (N : Nat → Nat) (A : Nat → Nat → Int32) (B : Nat → Nat → Bool) (i : Nat) : Int32 :=
  if B 0 i then -1 else match unF (A 5 i), unF (A 6 (c32 (A 4 i))) with
    | some a, some b => nI (lev a (expF (goF (rlS A) (B 1) (A 2 i) (A 3 i)) (soF A) (beF A) (toF A) b (N 2)))
    | _, _ => -1
theorem inR_c32 {x : Int32} {n : Nat} (h : inR x n = true) (hn : n ≤ 2147483648) : c32 x < n ∧ x = nI (c32 x) := by
  obtain ⟨j, hj, rfl⟩ := inR_of h hn
  rw [c32_nI (by omega)]
  exact ⟨hj, rfl⟩
theorem inR_ix {x : Int32} {n : Nat} (h : inR x n = true) (hn : n ≤ 2147483648) : ∃ j : Nat, j < n ∧ x = nI j ∧ c32 x = j := by
  obtain ⟨j, hj, rfl⟩ := inR_of h hn
  exact ⟨j, hj, rfl, c32_nI (by omega)⟩
set_option maxHeartbeats 4000000 in
set_option maxRecDepth 100000 in
theorem c_form (l : Launch) (hl : l.stackTraces = false) (g : q_G) (N : Nat → Nat) (A : Nat → Nat → Int32) (B : Nat → Nat → Bool) (L : Nat → Nat → Int64) (wm ws : va_W) (a0 : Nat) (hI : inv N A B L) (hR : cR g a0 N A B L wm ws) (x1 : Int32) : MetX l g yX3_form cX3_form 2 (some .int) ({ frames := 6, cells := 4, slots := 250, locals := 90 } : Room) [.ref a0, .int x1] (ws) (q_Qi g (fun r w => (kc (!inR x1 (N 1)) false false) = 0 ∧ r = (if B 0 (c32 x1) then -1 else A 5 (c32 x1)) ∧ w = ws)) (pe1 (kc (!inR x1 (N 1)) false false) ws) := by
  refine q_metX (own := RX3) (by decide +kernel) rfl (Nat.le_of_ble_eq_true rfl) (fun p e s m args below meth c cx hr htab => ?_)
  obtain ⟨ad, mc, el, ia, ra, th, dr, dl, ro, kl, kn, row, P, f, rfl, rfl, hF⟩ := hR
  have hiv := cF_iv (ad := ad) (mc := mc) (row := row) (wm := wm) hI hF
  have hrl := cF_rl (ad := ad) (mc := mc) (row := row) (wm := wm) hI hF
  have hqu := cF_qu (ad := ad) (mc := mc) (row := row) (wm := wm) hI hF
  obtain ⟨⟨rfl, rfl, rfl⟩, f2, f3, f4, f5, f6, f7, f8, f9, f10, f11, f12, f13⟩ := id hF
  obtain ⟨⟨i1, i2, i3, i4⟩, j2, j3, j4, j5, j6, j7, j8, j9, j10, j11⟩ := id hI
  refine r_lv (lv2 := [(0, .ref (ad 8)), (1, .int x1)]) (q_pk [0, 1] rfl) ?_
  refine r_iload_n cx dX3_form_0 rfl rfl ?_
  refine r_aload_n cx dX3_form_1 rfl rfl ?_
  refine gf_X3_10 cx dX3_form_2 8 rfl rfl ?_
  refine k_X3_80 cx (c_lsize l g _ (ad 7) (N 1) ia hiv.2.1) dX3_form_5 7 rfl ⟨Nat.le_of_ble_eq_true rfl, Nat.le_of_ble_eq_true rfl⟩ ⟨Nat.le_of_ble_eq_true rfl, Nat.le_of_ble_eq_true rfl⟩ rfl rfl (Nat.le_of_ble_eq_true rfl) (fun r w hp => ?_)
  obtain ⟨rfl, rfl⟩ := hp
  refine k_X3_57 cx (c_isOutside l g _ x1 (N 1) (by omega)) dX3_form_8 ⟨Nat.le_of_ble_eq_true rfl, Nat.le_of_ble_eq_true rfl⟩ ⟨Nat.le_of_ble_eq_true rfl, Nat.le_of_ble_eq_true rfl⟩ rfl rfl (Nat.le_of_ble_eq_true rfl) (fun r w hp => ?_)
  obtain ⟨rfl, rfl⟩ := hp
  refine r_ifeqb (tgt := 24) cx dX3_form_11 (by decide) (fun h_11 => ?_) (fun h_11 => ?_)
  · skip
    obtain ⟨j, hj, rfl, hcj⟩ := inR_ix (x := x1) (n := N 1) (by simpa using h_11) (by omega)
    refine r_aload_n cx dX3_form_24 rfl rfl ?_
    refine r_aload_n cx dX3_form_25 rfl rfl ?_
    refine gf_X3_10 cx dX3_form_26 8 rfl rfl ?_
    refine r_iload_n cx dX3_form_29 rfl rfl ?_
    refine k_X3_108 cx (c_lget l g _ (ad 7) (N 1) j ia hiv.2.1 hj) dX3_form_30 7 rfl ⟨Nat.le_of_ble_eq_true rfl, Nat.le_of_ble_eq_true rfl⟩ ⟨Nat.le_of_ble_eq_true rfl, Nat.le_of_ble_eq_true rfl⟩ rfl rfl (Nat.le_of_ble_eq_true rfl) (fun r w hp => ?_)
    obtain ⟨rfl, rfl⟩ := hp
    obtain ⟨qi, hqi⟩ := hiv.2.2.2 j hj
    refine r_eqv (y := .ref (ia j)) rfl ?_
    refine r_cast (ci := 1) cx tb_219 dX3_form_33 qi rfl rfl hqi ?_
    refine k_X3_112 cx (c_formIfThere l g _ 8 qi _ _ _ _ _ _ _ _ _ _ _ _ _ _ _ _ _ _ rfl hqi) dX3_form_36 8 rfl ⟨Nat.le_of_ble_eq_true rfl, Nat.le_of_ble_eq_true rfl⟩ ⟨Nat.le_of_ble_eq_true rfl, Nat.le_of_ble_eq_true rfl⟩ rfl rfl (Nat.le_of_ble_eq_true rfl) (fun r w hp => ?_)
    obtain ⟨rfl, rfl⟩ := hp
    exact x_iret cx dX3_form_39 hr (⟨by simp [kc, h_11], by rw [hr_th i2 hj, hcj]; cases B 0 j <;> rfl, rfl⟩) (Nat.le_of_ble_eq_true rfl) (Nat.le_of_ble_eq_true rfl)
  · skip
    exact th_IO cx "no such interview" 106 hl htab dX3_form_14 dX3_form_17 dX3_form_18 dX3_form_20 dX3_form_23 (by decide) ⟨Nat.le_of_ble_eq_true rfl, Nat.le_of_ble_eq_true rfl, Nat.le_of_ble_eq_true rfl, Nat.le_of_ble_eq_true rfl⟩ ⟨Nat.le_of_ble_eq_true rfl, Nat.le_of_ble_eq_true rfl⟩ (⟨⟨rfl, by simp [kc, h_11]⟩, rfl⟩)
set_option maxHeartbeats 4000000 in
set_option maxRecDepth 100000 in
theorem c_stands (l : Launch) (hl : l.stackTraces = false) (g : q_G) (N : Nat → Nat) (A : Nat → Nat → Int32) (B : Nat → Nat → Bool) (L : Nat → Nat → Int64) (wm ws : va_W) (a0 : Nat) (hI : inv N A B L) (hR : cR g a0 N A B L wm ws) (x1 : Int32) : MetX l g yX3_stands cX3_stands 2 (some .boolean) ({ frames := 6, cells := 4, slots := 250, locals := 90 } : Room) [.ref a0, .int x1] (ws) (q_Qi g (fun r w => (kc (!inR x1 (N 2)) false false) = 0 ∧ r = bI (!B 1 (c32 x1)) ∧ w = ws)) (pe1 (kc (!inR x1 (N 2)) false false) ws) := by
  refine q_metX (own := RX3) (by decide +kernel) rfl (Nat.le_of_ble_eq_true rfl) (fun p e s m args below meth c cx hr htab => ?_)
  obtain ⟨ad, mc, el, ia, ra, th, dr, dl, ro, kl, kn, row, P, f, rfl, rfl, hF⟩ := hR
  have hiv := cF_iv (ad := ad) (mc := mc) (row := row) (wm := wm) hI hF
  have hrl := cF_rl (ad := ad) (mc := mc) (row := row) (wm := wm) hI hF
  have hqu := cF_qu (ad := ad) (mc := mc) (row := row) (wm := wm) hI hF
  obtain ⟨⟨rfl, rfl, rfl⟩, f2, f3, f4, f5, f6, f7, f8, f9, f10, f11, f12, f13⟩ := id hF
  obtain ⟨⟨i1, i2, i3, i4⟩, j2, j3, j4, j5, j6, j7, j8, j9, j10, j11⟩ := id hI
  refine r_lv (lv2 := [(0, .ref (ad 8)), (1, .int x1)]) (q_pk [0, 1] rfl) ?_
  refine r_iload_n cx dX3_stands_0 rfl rfl ?_
  refine r_aload_n cx dX3_stands_1 rfl rfl ?_
  refine gf_X3_16 cx dX3_stands_2 8 rfl rfl ?_
  refine k_X3_80 cx (c_lsize l g _ (ad 6) (N 2) ra hrl.2.1) dX3_stands_5 6 rfl ⟨Nat.le_of_ble_eq_true rfl, Nat.le_of_ble_eq_true rfl⟩ ⟨Nat.le_of_ble_eq_true rfl, Nat.le_of_ble_eq_true rfl⟩ rfl rfl (Nat.le_of_ble_eq_true rfl) (fun r w hp => ?_)
  obtain ⟨rfl, rfl⟩ := hp
  refine k_X3_57 cx (c_isOutside l g _ x1 (N 2) (by omega)) dX3_stands_8 ⟨Nat.le_of_ble_eq_true rfl, Nat.le_of_ble_eq_true rfl⟩ ⟨Nat.le_of_ble_eq_true rfl, Nat.le_of_ble_eq_true rfl⟩ rfl rfl (Nat.le_of_ble_eq_true rfl) (fun r w hp => ?_)
  obtain ⟨rfl, rfl⟩ := hp
  refine r_ifeqb (tgt := 24) cx dX3_stands_11 (by decide) (fun h_11 => ?_) (fun h_11 => ?_)
  · skip
    obtain ⟨j, hj, rfl, hcj⟩ := inR_ix (x := x1) (n := N 2) (by simpa using h_11) (by omega)
    refine r_aload_n cx dX3_stands_24 rfl rfl ?_
    refine gf_X3_16 cx dX3_stands_25 8 rfl rfl ?_
    refine r_iload_n cx dX3_stands_28 rfl rfl ?_
    refine k_X3_108 cx (c_lget l g _ (ad 6) (N 2) j ra hrl.2.1 hj) dX3_stands_29 6 rfl ⟨Nat.le_of_ble_eq_true rfl, Nat.le_of_ble_eq_true rfl⟩ ⟨Nat.le_of_ble_eq_true rfl, Nat.le_of_ble_eq_true rfl⟩ rfl rfl (Nat.le_of_ble_eq_true rfl) (fun r w hp => ?_)
    obtain ⟨rfl, rfl⟩ := hp
    obtain ⟨qr, hqr⟩ := hrl.2.2.2.2 j hj
    refine r_eqv (y := .ref (ra j)) rfl ?_
    refine r_cast (ci := 2) cx tb_263 dX3_stands_32 qr rfl rfl hqr ?_
    refine gf_X3_135 cx dX3_stands_35 qr hqr rfl ?_
    refine r_ifneb (tgt := 45) cx dX3_stands_38 (by decide) (fun h_38 => ?_) (fun h_38 => ?_)
    · skip
      refine r_iconst (v := nI 0) cx dX3_stands_45 (by decide) ?_
      exact x_zret cx dX3_stands_46 hr rfl (⟨by simp [kc, h_11], by rw [hcj, h_38]; rfl, rfl⟩) (Nat.le_of_ble_eq_true rfl) (Nat.le_of_ble_eq_true rfl)
    · skip
      refine r_iconst (v := nI 1) cx dX3_stands_41 (by decide) ?_
      refine r_goto (tgt := 46) cx dX3_stands_42 (by decide) ?_
      exact x_zret cx dX3_stands_46 hr rfl (⟨by simp [kc, h_11], by rw [hcj, h_38]; rfl, rfl⟩) (Nat.le_of_ble_eq_true rfl) (Nat.le_of_ble_eq_true rfl)
  · skip
    exact th_IO cx "no such rule" 160 hl htab dX3_stands_14 dX3_stands_17 dX3_stands_18 dX3_stands_20 dX3_stands_23 (by decide) ⟨Nat.le_of_ble_eq_true rfl, Nat.le_of_ble_eq_true rfl, Nat.le_of_ble_eq_true rfl, Nat.le_of_ble_eq_true rfl⟩ ⟨Nat.le_of_ble_eq_true rfl, Nat.le_of_ble_eq_true rfl⟩ (⟨⟨rfl, by simp [kc, h_11]⟩, rfl⟩)
set_option maxHeartbeats 4000000 in
set_option maxRecDepth 100000 in
theorem c_expected (l : Launch) (hl : l.stackTraces = false) (g : q_G) (N : Nat → Nat) (A : Nat → Nat → Int32) (B : Nat → Nat → Bool) (L : Nat → Nat → Int64) (wm ws : va_W) (a0 : Nat) (hI : inv N A B L) (hR : cR g a0 N A B L wm ws) (x1 : Int32) (x2 : Int32) (x3 : Int32) : MetX l g yX3_expected cX3_expected 4 (some .int) ({ frames := 6, cells := 4, slots := 250, locals := 90 } : Room) [.ref a0, .int x1, .int x2, .int x3] (ws) (q_Qi g (fun r w => (kc (!(inR x1 4 && inR x2 10)) (!inR x3 301) false) = 0 ∧ r = expV N A B (c32 x1) x2 x3 ∧ w = ws)) (peA (kc (!(inR x1 4 && inR x2 10)) (!inR x3 301) false) ws) := by
  refine q_metX (own := RX3) (by decide +kernel) rfl (Nat.le_of_ble_eq_true rfl) (fun p e s m args below meth c cx hr htab => ?_)
  obtain ⟨ad, mc, el, ia, ra, th, dr, dl, ro, kl, kn, row, P, f, rfl, rfl, hF⟩ := hR
  have hiv := cF_iv (ad := ad) (mc := mc) (row := row) (wm := wm) hI hF
  have hrl := cF_rl (ad := ad) (mc := mc) (row := row) (wm := wm) hI hF
  have hqu := cF_qu (ad := ad) (mc := mc) (row := row) (wm := wm) hI hF
  obtain ⟨⟨rfl, rfl, rfl⟩, f2, f3, f4, f5, f6, f7, f8, f9, f10, f11, f12, f13⟩ := id hF
  obtain ⟨⟨i1, i2, i3, i4⟩, j2, j3, j4, j5, j6, j7, j8, j9, j10, j11⟩ := id hI
  refine r_lv (lv2 := [(0, .ref (ad 8)), (1, .int x1), (2, .int x2), (3, .int x3)]) (q_pk [0, 1, 2, 3] rfl) ?_
  refine r_iload_n cx dX3_expected_0 rfl rfl ?_
  refine r_iconst (v := nI 4) cx dX3_expected_1 (by decide) ?_
  refine k_X3_57 cx (c_isOutside l g _ x1 (4) (by omega)) dX3_expected_2 ⟨Nat.le_of_ble_eq_true rfl, Nat.le_of_ble_eq_true rfl⟩ ⟨Nat.le_of_ble_eq_true rfl, Nat.le_of_ble_eq_true rfl⟩ rfl rfl (Nat.le_of_ble_eq_true rfl) (fun r w hp => ?_)
  obtain ⟨rfl, rfl⟩ := hp
  refine r_ifneb (tgt := 17) cx dX3_expected_5 (by decide) (fun h_5 => ?_) (fun h_5 => ?_)
  · skip
    exact th_IO cx "no such word or place" 162 hl htab dX3_expected_17 dX3_expected_20 dX3_expected_21 dX3_expected_23 dX3_expected_26 (by decide) ⟨Nat.le_of_ble_eq_true rfl, Nat.le_of_ble_eq_true rfl, Nat.le_of_ble_eq_true rfl, Nat.le_of_ble_eq_true rfl⟩ ⟨Nat.le_of_ble_eq_true rfl, Nat.le_of_ble_eq_true rfl⟩ (⟨Or.inl ⟨rfl, by first | (simp [kc, h_5]; done) | (simp [kc, h_14]; done)⟩, rfl⟩)
  · skip
    refine r_iload_n cx dX3_expected_8 rfl rfl ?_
    refine r_bipush (v := nI 10) cx dX3_expected_9 (by decide) ?_
    refine k_X3_57 cx (c_isOutside l g _ x2 (10) (by omega)) dX3_expected_11 ⟨Nat.le_of_ble_eq_true rfl, Nat.le_of_ble_eq_true rfl⟩ ⟨Nat.le_of_ble_eq_true rfl, Nat.le_of_ble_eq_true rfl⟩ rfl rfl (Nat.le_of_ble_eq_true rfl) (fun r w hp => ?_)
    obtain ⟨rfl, rfl⟩ := hp
    refine r_ifeqb (tgt := 27) cx dX3_expected_14 (by decide) (fun h_14 => ?_) (fun h_14 => ?_)
    · skip
      refine r_iload_n cx dX3_expected_27 rfl rfl ?_
      refine r_sipush (v := nI 301) cx dX3_expected_28 (by decide) ?_
      refine k_X3_57 cx (c_isOutside l g _ x3 (301) (by omega)) dX3_expected_31 ⟨Nat.le_of_ble_eq_true rfl, Nat.le_of_ble_eq_true rfl⟩ ⟨Nat.le_of_ble_eq_true rfl, Nat.le_of_ble_eq_true rfl⟩ rfl rfl (Nat.le_of_ble_eq_true rfl) (fun r w hp => ?_)
      obtain ⟨rfl, rfl⟩ := hp
      refine r_ifeqb (tgt := 47) cx dX3_expected_34 (by decide) (fun h_34 => ?_) (fun h_34 => ?_)
      · skip
        obtain ⟨j, hj, rfl, hcj⟩ := inR_ix (x := x1) (n := 4) (by simpa using h_5) (by omega)
        refine r_aload_n cx dX3_expected_47 rfl rfl ?_
        refine r_aload_n cx dX3_expected_48 rfl rfl ?_
        refine gf_X3_22 cx dX3_expected_49 8 rfl rfl ?_
        refine r_iload_n cx dX3_expected_52 rfl rfl ?_
        first | refine r_ialdN cx 4 0 dX3_expected_53 rfl rfl (by omega) (by omega) ?_ | refine r_iald cx 4 0 dX3_expected_53 rfl rfl (by omega) ?_
        refine r_eqi (y := roI (unF (A 6 j))) ((f2 j hj).trans (j5 j hj).symm) ?_
        refine r_iload_n cx dX3_expected_54 rfl rfl ?_
        refine r_iload_n cx dX3_expected_55 rfl rfl ?_
        refine k_X3_164 cx (c_applyRules l g _ (ad 8) (ad 6) (N 2) ra _ _ _ _ _ _ (unF (A 6 j)) x2 x3 (fun l hl9 => ⟨(unF_some hl9).2.1, (unF_some hl9).2.2.1⟩) hrl) dX3_expected_56 8 rfl ⟨Nat.le_of_ble_eq_true rfl, Nat.le_of_ble_eq_true rfl⟩ ⟨Nat.le_of_ble_eq_true rfl, Nat.le_of_ble_eq_true rfl⟩ rfl rfl (Nat.le_of_ble_eq_true rfl) (fun r w hp => ?_)
        obtain ⟨rfl, rfl⟩ := hp
        exact x_iret cx dX3_expected_59 hr (⟨by simp at h_5 h_14 h_34; simp [kc, h_5, h_14, h_34], by rw [hcj]; rfl, rfl⟩) (Nat.le_of_ble_eq_true rfl) (Nat.le_of_ble_eq_true rfl)
      · skip
        exact th_IA cx "no such year" 77 hl htab dX3_expected_37 dX3_expected_40 dX3_expected_41 dX3_expected_43 dX3_expected_46 (by decide) ⟨Nat.le_of_ble_eq_true rfl, Nat.le_of_ble_eq_true rfl, Nat.le_of_ble_eq_true rfl, Nat.le_of_ble_eq_true rfl⟩ ⟨Nat.le_of_ble_eq_true rfl, Nat.le_of_ble_eq_true rfl⟩ (⟨Or.inr ⟨rfl, by simp at h_5 h_14 h_34; simp [kc, h_5, h_14, h_34]⟩, rfl⟩)
    · skip
      exact th_IO cx "no such word or place" 162 hl htab dX3_expected_17 dX3_expected_20 dX3_expected_21 dX3_expected_23 dX3_expected_26 (by decide) ⟨Nat.le_of_ble_eq_true rfl, Nat.le_of_ble_eq_true rfl, Nat.le_of_ble_eq_true rfl, Nat.le_of_ble_eq_true rfl⟩ ⟨Nat.le_of_ble_eq_true rfl, Nat.le_of_ble_eq_true rfl⟩ (⟨Or.inl ⟨rfl, by first | (simp [kc, h_5]; done) | (simp [kc, h_14]; done)⟩, rfl⟩)
set_option maxHeartbeats 4000000 in
set_option maxRecDepth 100000 in
theorem c_formAt (l : Launch) (hl : l.stackTraces = false) (g : q_G) (N : Nat → Nat) (A : Nat → Nat → Int32) (B : Nat → Nat → Bool) (L : Nat → Nat → Int64) (wm ws : va_W) (a0 : Nat) (hI : inv N A B L) (hR : cR g a0 N A B L wm ws) (x1 : Int32) (x2 : Int32) : MetX l g yX3_formAt cX3_formAt 3 (some .int) ({ frames := 6, cells := 4, slots := 250, locals := 115 } : Room) [.ref a0, .int x1, .int x2] (ws) (q_Qi g (fun r w => (kc (!(inR x1 4 && inR x2 10)) false false) = 0 ∧ r = mst (hrS B) (fiS A) (N 1) x1 x2 ∧ w = ws)) (pe1 (kc (!(inR x1 4 && inR x2 10)) false false) ws) := by
  refine q_metX (own := RX3) (by decide +kernel) rfl (Nat.le_of_ble_eq_true rfl) (fun p e s m args below meth c cx hr htab => ?_)
  obtain ⟨ad, mc, el, ia, ra, th, dr, dl, ro, kl, kn, row, P, f, rfl, rfl, hF⟩ := hR
  have hiv := cF_iv (ad := ad) (mc := mc) (row := row) (wm := wm) hI hF
  have hrl := cF_rl (ad := ad) (mc := mc) (row := row) (wm := wm) hI hF
  have hqu := cF_qu (ad := ad) (mc := mc) (row := row) (wm := wm) hI hF
  obtain ⟨⟨rfl, rfl, rfl⟩, f2, f3, f4, f5, f6, f7, f8, f9, f10, f11, f12, f13⟩ := id hF
  obtain ⟨⟨i1, i2, i3, i4⟩, j2, j3, j4, j5, j6, j7, j8, j9, j10, j11⟩ := id hI
  refine r_lv (lv2 := [(0, .ref (ad 8)), (1, .int x1), (2, .int x2)]) (q_pk [0, 1, 2] rfl) ?_
  refine r_iload_n cx dX3_formAt_0 rfl rfl ?_
  refine r_iconst (v := nI 4) cx dX3_formAt_1 (by decide) ?_
  refine k_X3_57 cx (c_isOutside l g _ x1 (4) (by omega)) dX3_formAt_2 ⟨Nat.le_of_ble_eq_true rfl, Nat.le_of_ble_eq_true rfl⟩ ⟨Nat.le_of_ble_eq_true rfl, Nat.le_of_ble_eq_true rfl⟩ rfl rfl (Nat.le_of_ble_eq_true rfl) (fun r w hp => ?_)
  obtain ⟨rfl, rfl⟩ := hp
  refine r_ifneb (tgt := 17) cx dX3_formAt_5 (by decide) (fun h_5 => ?_) (fun h_5 => ?_)
  · skip
    exact th_IO cx "no such word or place" 162 hl htab dX3_formAt_17 dX3_formAt_20 dX3_formAt_21 dX3_formAt_23 dX3_formAt_26 (by decide) ⟨Nat.le_of_ble_eq_true rfl, Nat.le_of_ble_eq_true rfl, Nat.le_of_ble_eq_true rfl, Nat.le_of_ble_eq_true rfl⟩ ⟨Nat.le_of_ble_eq_true rfl, Nat.le_of_ble_eq_true rfl⟩ (⟨⟨rfl, by first | (simp [kc, h_5]; done) | (simp [kc, h_14]; done)⟩, rfl⟩)
  · skip
    refine r_iload_n cx dX3_formAt_8 rfl rfl ?_
    refine r_bipush (v := nI 10) cx dX3_formAt_9 (by decide) ?_
    refine k_X3_57 cx (c_isOutside l g _ x2 (10) (by omega)) dX3_formAt_11 ⟨Nat.le_of_ble_eq_true rfl, Nat.le_of_ble_eq_true rfl⟩ ⟨Nat.le_of_ble_eq_true rfl, Nat.le_of_ble_eq_true rfl⟩ rfl rfl (Nat.le_of_ble_eq_true rfl) (fun r w hp => ?_)
    obtain ⟨rfl, rfl⟩ := hp
    refine r_ifeqb (tgt := 27) cx dX3_formAt_14 (by decide) (fun h_14 => ?_) (fun h_14 => ?_)
    · skip
      refine r_aload_n cx dX3_formAt_27 rfl rfl ?_
      refine r_iload_n cx dX3_formAt_28 rfl rfl ?_
      refine r_iload_n cx dX3_formAt_29 rfl rfl ?_
      refine k_X3_184 cx (c_most l g _ (ad 8) (ad 7) _ (N 1) ia _ (fiS A) x1 x2 hiv) dX3_formAt_30 8 rfl ⟨Nat.le_of_ble_eq_true rfl, Nat.le_of_ble_eq_true rfl⟩ ⟨Nat.le_of_ble_eq_true rfl, Nat.le_of_ble_eq_true rfl⟩ rfl rfl (Nat.le_of_ble_eq_true rfl) (fun r w hp => ?_)
      obtain ⟨rfl, rfl⟩ := hp
      exact x_iret cx dX3_formAt_33 hr (⟨by simp at h_5 h_14; simp [kc, h_5, h_14], mst_th i2, rfl⟩) (Nat.le_of_ble_eq_true rfl) (Nat.le_of_ble_eq_true rfl)
    · skip
      exact th_IO cx "no such word or place" 162 hl htab dX3_formAt_17 dX3_formAt_20 dX3_formAt_21 dX3_formAt_23 dX3_formAt_26 (by decide) ⟨Nat.le_of_ble_eq_true rfl, Nat.le_of_ble_eq_true rfl, Nat.le_of_ble_eq_true rfl, Nat.le_of_ble_eq_true rfl⟩ ⟨Nat.le_of_ble_eq_true rfl, Nat.le_of_ble_eq_true rfl⟩ (⟨⟨rfl, by first | (simp [kc, h_5]; done) | (simp [kc, h_14]; done)⟩, rfl⟩)
set_option maxHeartbeats 4000000 in
set_option maxRecDepth 100000 in
theorem c_lines (l : Launch) (hl : l.stackTraces = false) (g : q_G) (N : Nat → Nat) (A : Nat → Nat → Int32) (B : Nat → Nat → Bool) (L : Nat → Nat → Int64) (wm ws : va_W) (a0 : Nat) (hI : inv N A B L) (hR : cR g a0 N A B L wm ws) (x1 : Int32) : MetX l g yX3_lines cX3_lines 2 (some .int) ({ frames := 6, cells := 4, slots := 250, locals := 90 } : Room) [.ref a0, .int x1] (ws) (q_Qi g (fun r w => (kc (!inR x1 4) false false) = 0 ∧ r = drw (hrS B) (fiS A) (N 1) x1 ∧ w = ws)) (pe1 (kc (!inR x1 4) false false) ws) := by
  refine q_metX (own := RX3) (by decide +kernel) rfl (Nat.le_of_ble_eq_true rfl) (fun p e s m args below meth c cx hr htab => ?_)
  obtain ⟨ad, mc, el, ia, ra, th, dr, dl, ro, kl, kn, row, P, f, rfl, rfl, hF⟩ := hR
  have hiv := cF_iv (ad := ad) (mc := mc) (row := row) (wm := wm) hI hF
  have hrl := cF_rl (ad := ad) (mc := mc) (row := row) (wm := wm) hI hF
  have hqu := cF_qu (ad := ad) (mc := mc) (row := row) (wm := wm) hI hF
  obtain ⟨⟨rfl, rfl, rfl⟩, f2, f3, f4, f5, f6, f7, f8, f9, f10, f11, f12, f13⟩ := id hF
  obtain ⟨⟨i1, i2, i3, i4⟩, j2, j3, j4, j5, j6, j7, j8, j9, j10, j11⟩ := id hI
  refine r_lv (lv2 := [(0, .ref (ad 8)), (1, .int x1)]) (q_pk [0, 1] rfl) ?_
  refine r_iload_n cx dX3_lines_0 rfl rfl ?_
  refine r_iconst (v := nI 4) cx dX3_lines_1 (by decide) ?_
  refine k_X3_57 cx (c_isOutside l g _ x1 (4) (by omega)) dX3_lines_2 ⟨Nat.le_of_ble_eq_true rfl, Nat.le_of_ble_eq_true rfl⟩ ⟨Nat.le_of_ble_eq_true rfl, Nat.le_of_ble_eq_true rfl⟩ rfl rfl (Nat.le_of_ble_eq_true rfl) (fun r w hp => ?_)
  obtain ⟨rfl, rfl⟩ := hp
  refine r_ifeqb (tgt := 18) cx dX3_lines_5 (by decide) (fun h_5 => ?_) (fun h_5 => ?_)
  · skip
    obtain ⟨j, hj, rfl, hcj⟩ := inR_ix (x := x1) (n := 4) (by simpa using h_5) (by omega)
    refine r_aload_n cx dX3_lines_18 rfl rfl ?_
    refine gf_X3_26 cx dX3_lines_19 8 rfl rfl ?_
    refine r_iload_n cx dX3_lines_22 rfl rfl ?_
    first | refine r_ialdN cx 3 0 dX3_lines_23 rfl rfl (by omega) (by omega) ?_ | refine r_iald cx 3 0 dX3_lines_23 rfl rfl (by omega) ?_
    exact x_iret cx dX3_lines_24 hr (⟨by simp [kc, h_5], f3 j hj, rfl⟩) (Nat.le_of_ble_eq_true rfl) (Nat.le_of_ble_eq_true rfl)
  · skip
    exact th_IO cx "no such word" 102 hl htab dX3_lines_8 dX3_lines_11 dX3_lines_12 dX3_lines_14 dX3_lines_17 (by decide) ⟨Nat.le_of_ble_eq_true rfl, Nat.le_of_ble_eq_true rfl, Nat.le_of_ble_eq_true rfl, Nat.le_of_ble_eq_true rfl⟩ ⟨Nat.le_of_ble_eq_true rfl, Nat.le_of_ble_eq_true rfl⟩ (⟨⟨rfl, by simp [kc, h_5]⟩, rfl⟩)
set_option maxHeartbeats 4000000 in
set_option maxRecDepth 100000 in
theorem c_linesByForms (l : Launch) (hl : l.stackTraces = false) (g : q_G) (N : Nat → Nat) (A : Nat → Nat → Int32) (B : Nat → Nat → Bool) (L : Nat → Nat → Int64) (wm ws : va_W) (a0 : Nat) (hI : inv N A B L) (hR : cR g a0 N A B L wm ws) (x1 : Int32) : MetX l g yX3_linesByForms cX3_linesByForms 2 (some .int) ({ frames := 6, cells := 4, slots := 250, locals := 140 } : Room) [.ref a0, .int x1] (ws) (q_Qi g (fun r w => (kc (!inR x1 4) false false) = 0 ∧ r = drw (hrS B) (fiS A) (N 1) x1 ∧ w = ws)) (pe1 (kc (!inR x1 4) false false) ws) := by
  refine q_metX (own := RX3) (by decide +kernel) rfl (Nat.le_of_ble_eq_true rfl) (fun p e s m args below meth c cx hr htab => ?_)
  obtain ⟨ad, mc, el, ia, ra, th, dr, dl, ro, kl, kn, row, P, f, rfl, rfl, hF⟩ := hR
  have hiv := cF_iv (ad := ad) (mc := mc) (row := row) (wm := wm) hI hF
  have hrl := cF_rl (ad := ad) (mc := mc) (row := row) (wm := wm) hI hF
  have hqu := cF_qu (ad := ad) (mc := mc) (row := row) (wm := wm) hI hF
  obtain ⟨⟨rfl, rfl, rfl⟩, f2, f3, f4, f5, f6, f7, f8, f9, f10, f11, f12, f13⟩ := id hF
  obtain ⟨⟨i1, i2, i3, i4⟩, j2, j3, j4, j5, j6, j7, j8, j9, j10, j11⟩ := id hI
  refine r_lv (lv2 := [(0, .ref (ad 8)), (1, .int x1)]) (q_pk [0, 1] rfl) ?_
  refine r_iload_n cx dX3_linesByForms_0 rfl rfl ?_
  refine r_iconst (v := nI 4) cx dX3_linesByForms_1 (by decide) ?_
  refine k_X3_57 cx (c_isOutside l g _ x1 (4) (by omega)) dX3_linesByForms_2 ⟨Nat.le_of_ble_eq_true rfl, Nat.le_of_ble_eq_true rfl⟩ ⟨Nat.le_of_ble_eq_true rfl, Nat.le_of_ble_eq_true rfl⟩ rfl rfl (Nat.le_of_ble_eq_true rfl) (fun r w hp => ?_)
  obtain ⟨rfl, rfl⟩ := hp
  refine r_ifeqb (tgt := 18) cx dX3_linesByForms_5 (by decide) (fun h_5 => ?_) (fun h_5 => ?_)
  · skip
    refine r_aload_n cx dX3_linesByForms_18 rfl rfl ?_
    refine r_iload_n cx dX3_linesByForms_19 rfl rfl ?_
    refine k_X3_98 cx (c_drawLines l g _ (ad 8) (ad 7) _ (N 1) ia _ (fiS A) x1 hiv) dX3_linesByForms_20 8 rfl ⟨Nat.le_of_ble_eq_true rfl, Nat.le_of_ble_eq_true rfl⟩ ⟨Nat.le_of_ble_eq_true rfl, Nat.le_of_ble_eq_true rfl⟩ rfl rfl (Nat.le_of_ble_eq_true rfl) (fun r w hp => ?_)
    obtain ⟨rfl, rfl⟩ := hp
    exact x_iret cx dX3_linesByForms_23 hr (⟨by simp [kc, h_5], drw_th i2, rfl⟩) (Nat.le_of_ble_eq_true rfl) (Nat.le_of_ble_eq_true rfl)
  · skip
    exact th_IO cx "no such word" 102 hl htab dX3_linesByForms_8 dX3_linesByForms_11 dX3_linesByForms_12 dX3_linesByForms_14 dX3_linesByForms_17 (by decide) ⟨Nat.le_of_ble_eq_true rfl, Nat.le_of_ble_eq_true rfl, Nat.le_of_ble_eq_true rfl, Nat.le_of_ble_eq_true rfl⟩ ⟨Nat.le_of_ble_eq_true rfl, Nat.le_of_ble_eq_true rfl⟩ (⟨⟨rfl, by simp [kc, h_5]⟩, rfl⟩)
set_option maxHeartbeats 4000000 in
set_option maxRecDepth 100000 in
theorem c_owed (l : Launch) (hl : l.stackTraces = false) (g : q_G) (N : Nat → Nat) (A : Nat → Nat → Int32) (B : Nat → Nat → Bool) (L : Nat → Nat → Int64) (wm ws : va_W) (a0 : Nat) (hI : inv N A B L) (hR : cR g a0 N A B L wm ws) (x1 : Int32) : MetX l g yX3_owed cX3_owed 2 (some .int) ({ frames := 6, cells := 4, slots := 250, locals := 90 } : Room) [.ref a0, .int x1] (ws) (q_Qi g (fun r w => (kc (!inR x1 3) false false) = 0 ∧ r = nI (bcL (L 1 (c32 x1) &&& (lN (thS (B 0) (N 1)) ^^^ (-1)))) ∧ w = ws)) (pe1 (kc (!inR x1 3) false false) ws) := by
  refine q_metX (own := RX3) (by decide +kernel) rfl (Nat.le_of_ble_eq_true rfl) (fun p e s m args below meth c cx hr htab => ?_)
  obtain ⟨ad, mc, el, ia, ra, th, dr, dl, ro, kl, kn, row, P, f, rfl, rfl, hF⟩ := hR
  have hiv := cF_iv (ad := ad) (mc := mc) (row := row) (wm := wm) hI hF
  have hrl := cF_rl (ad := ad) (mc := mc) (row := row) (wm := wm) hI hF
  have hqu := cF_qu (ad := ad) (mc := mc) (row := row) (wm := wm) hI hF
  obtain ⟨⟨rfl, rfl, rfl⟩, f2, f3, f4, f5, f6, f7, f8, f9, f10, f11, f12, f13⟩ := id hF
  obtain ⟨⟨i1, i2, i3, i4⟩, j2, j3, j4, j5, j6, j7, j8, j9, j10, j11⟩ := id hI
  refine r_lv (lv2 := [(0, .ref (ad 8)), (1, .int x1)]) (q_pk [0, 1] rfl) ?_
  refine r_iload_n cx dX3_owed_0 rfl rfl ?_
  refine r_iconst (v := nI 3) cx dX3_owed_1 (by decide) ?_
  refine k_X3_57 cx (c_isOutside l g _ x1 (3) (by omega)) dX3_owed_2 ⟨Nat.le_of_ble_eq_true rfl, Nat.le_of_ble_eq_true rfl⟩ ⟨Nat.le_of_ble_eq_true rfl, Nat.le_of_ble_eq_true rfl⟩ rfl rfl (Nat.le_of_ble_eq_true rfl) (fun r w hp => ?_)
  obtain ⟨rfl, rfl⟩ := hp
  refine r_ifeqb (tgt := 18) cx dX3_owed_5 (by decide) (fun h_5 => ?_) (fun h_5 => ?_)
  · skip
    obtain ⟨j, hj, rfl, hcj⟩ := inR_ix (x := x1) (n := 3) (by simpa using h_5) (by omega)
    obtain ⟨K, hK, hKe⟩ := j10 j hj
    have hkn : kn j = lN K := (f4 j hj).trans hKe
    refine r_aload_n cx dX3_owed_18 rfl rfl ?_
    refine gf_X3_29 cx dX3_owed_19 8 rfl rfl ?_
    refine r_iload_n cx dX3_owed_22 rfl rfl ?_
    first | refine r_laldN cx 2 1 dX3_owed_23 rfl rfl (by omega) (by omega) ?_ | refine r_lald cx 2 1 dX3_owed_23 rfl rfl (by omega) ?_
    refine r_eql hkn ?_
    refine r_aload_n cx dX3_owed_24 rfl rfl ?_
    refine gf_X3_40 cx dX3_owed_25 8 rfl rfl ?_
    refine r_ldc2 cx dX3_owed_28 tb_315 ?_
    refine r_lxor cx dX3_owed_31 ?_
    refine r_land cx dX3_owed_32 ?_
    refine r_eql (andn _ _) ?_
    refine k_X3_154 cx (c_bitCount l g _ _ (andn_lt hK)) dX3_owed_33 ⟨Nat.le_of_ble_eq_true rfl, Nat.le_of_ble_eq_true rfl⟩ ⟨Nat.le_of_ble_eq_true rfl, Nat.le_of_ble_eq_true rfl⟩ rfl rfl (Nat.le_of_ble_eq_true rfl) (fun r w hp => ?_)
    obtain ⟨rfl, rfl⟩ := hp
    exact x_iret cx dX3_owed_36 hr (⟨by simp [kc, h_5], by rw [hcj, hKe, andn, bcL_lN (andn_lt hK)], rfl⟩) (Nat.le_of_ble_eq_true rfl) (Nat.le_of_ble_eq_true rfl)
  · skip
    exact th_IO cx "no such school" 199 hl htab dX3_owed_8 dX3_owed_11 dX3_owed_12 dX3_owed_14 dX3_owed_17 (by decide) ⟨Nat.le_of_ble_eq_true rfl, Nat.le_of_ble_eq_true rfl, Nat.le_of_ble_eq_true rfl, Nat.le_of_ble_eq_true rfl⟩ ⟨Nat.le_of_ble_eq_true rfl, Nat.le_of_ble_eq_true rfl⟩ (⟨⟨rfl, by simp [kc, h_5]⟩, rfl⟩)
set_option maxHeartbeats 4000000 in
set_option maxRecDepth 100000 in
theorem c_quoted (l : Launch) (hl : l.stackTraces = false) (g : q_G) (N : Nat → Nat) (A : Nat → Nat → Int32) (B : Nat → Nat → Bool) (L : Nat → Nat → Int64) (wm ws : va_W) (a0 : Nat) (hI : inv N A B L) (hR : cR g a0 N A B L wm ws) (x1 : Int32) : MetX l g yX3_quoted cX3_quoted 2 (some .int) ({ frames := 6, cells := 4, slots := 250, locals := 90 } : Room) [.ref a0, .int x1] (ws) (q_Qi g (fun r w => (kc (!inR x1 (N 3)) false false) = 0 ∧ r = (if B 0 (c32 (A 13 (c32 x1))) then -1 else A 5 (c32 (A 13 (c32 x1)))) ∧ w = ws)) (pe1 (kc (!inR x1 (N 3)) false false) ws) := by
  refine q_metX (own := RX3) (by decide +kernel) rfl (Nat.le_of_ble_eq_true rfl) (fun p e s m args below meth c cx hr htab => ?_)
  obtain ⟨ad, mc, el, ia, ra, th, dr, dl, ro, kl, kn, row, P, f, rfl, rfl, hF⟩ := hR
  have hiv := cF_iv (ad := ad) (mc := mc) (row := row) (wm := wm) hI hF
  have hrl := cF_rl (ad := ad) (mc := mc) (row := row) (wm := wm) hI hF
  have hqu := cF_qu (ad := ad) (mc := mc) (row := row) (wm := wm) hI hF
  obtain ⟨⟨rfl, rfl, rfl⟩, f2, f3, f4, f5, f6, f7, f8, f9, f10, f11, f12, f13⟩ := id hF
  obtain ⟨⟨i1, i2, i3, i4⟩, j2, j3, j4, j5, j6, j7, j8, j9, j10, j11⟩ := id hI
  refine r_lv (lv2 := [(0, .ref (ad 8)), (1, .int x1)]) (q_pk [0, 1] rfl) ?_
  refine r_iload_n cx dX3_quoted_0 rfl rfl ?_
  refine r_aload_n cx dX3_quoted_1 rfl rfl ?_
  refine gf_X3_19 cx dX3_quoted_2 8 rfl rfl ?_
  refine k_X3_80 cx (c_lsize l g _ (ad 5) (N 3) (fun k => ia (c32 (A 13 k))) hqu) dX3_quoted_5 5 rfl ⟨Nat.le_of_ble_eq_true rfl, Nat.le_of_ble_eq_true rfl⟩ ⟨Nat.le_of_ble_eq_true rfl, Nat.le_of_ble_eq_true rfl⟩ rfl rfl (Nat.le_of_ble_eq_true rfl) (fun r w hp => ?_)
  obtain ⟨rfl, rfl⟩ := hp
  refine k_X3_57 cx (c_isOutside l g _ x1 (N 3) (by omega)) dX3_quoted_8 ⟨Nat.le_of_ble_eq_true rfl, Nat.le_of_ble_eq_true rfl⟩ ⟨Nat.le_of_ble_eq_true rfl, Nat.le_of_ble_eq_true rfl⟩ rfl rfl (Nat.le_of_ble_eq_true rfl) (fun r w hp => ?_)
  obtain ⟨rfl, rfl⟩ := hp
  refine r_ifeqb (tgt := 24) cx dX3_quoted_11 (by decide) (fun h_11 => ?_) (fun h_11 => ?_)
  · skip
    obtain ⟨j, hj, rfl, hcj⟩ := inR_ix (x := x1) (n := N 3) (by simpa using h_11) (by omega)
    refine r_aload_n cx dX3_quoted_24 rfl rfl ?_
    refine r_aload_n cx dX3_quoted_25 rfl rfl ?_
    refine gf_X3_19 cx dX3_quoted_26 8 rfl rfl ?_
    refine r_iload_n cx dX3_quoted_29 rfl rfl ?_
    refine k_X3_108 cx (c_lget l g _ (ad 5) (N 3) j (fun k => ia (c32 (A 13 k))) hqu hj) dX3_quoted_30 5 rfl ⟨Nat.le_of_ble_eq_true rfl, Nat.le_of_ble_eq_true rfl⟩ ⟨Nat.le_of_ble_eq_true rfl, Nat.le_of_ble_eq_true rfl⟩ rfl rfl (Nat.le_of_ble_eq_true rfl) (fun r w hp => ?_)
    obtain ⟨rfl, rfl⟩ := hp
    have hj2 := (j11 j hj).1
    obtain ⟨qi, hqi⟩ := hiv.2.2.2 _ hj2
    refine r_eqv (y := .ref (ia (c32 (A 13 j)))) rfl ?_
    refine r_cast (ci := 1) cx tb_219 dX3_quoted_33 qi rfl rfl hqi ?_
    refine k_X3_112 cx (c_formIfThere l g _ 8 qi _ _ _ _ _ _ _ _ _ _ _ _ _ _ _ _ _ _ rfl hqi) dX3_quoted_36 8 rfl ⟨Nat.le_of_ble_eq_true rfl, Nat.le_of_ble_eq_true rfl⟩ ⟨Nat.le_of_ble_eq_true rfl, Nat.le_of_ble_eq_true rfl⟩ rfl rfl (Nat.le_of_ble_eq_true rfl) (fun r w hp => ?_)
    obtain ⟨rfl, rfl⟩ := hp
    exact x_iret cx dX3_quoted_39 hr (⟨by simp [kc, h_11], by rw [hr_th i2 hj2, hcj]; cases B 0 (c32 (A 13 j)) <;> rfl, rfl⟩) (Nat.le_of_ble_eq_true rfl) (Nat.le_of_ble_eq_true rfl)
  · skip
    exact th_IO cx "no such quote" 203 hl htab dX3_quoted_14 dX3_quoted_17 dX3_quoted_18 dX3_quoted_20 dX3_quoted_23 (by decide) ⟨Nat.le_of_ble_eq_true rfl, Nat.le_of_ble_eq_true rfl, Nat.le_of_ble_eq_true rfl, Nat.le_of_ble_eq_true rfl⟩ ⟨Nat.le_of_ble_eq_true rfl, Nat.le_of_ble_eq_true rfl⟩ (⟨⟨rfl, by simp [kc, h_11]⟩, rfl⟩)
