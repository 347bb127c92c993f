set_option maxHeartbeats 4000000 in
set_option maxRecDepth 100000 in
theorem c_LformAt (l : Launch) (g : q_G) (N : Nat → Nat) (A : Nat → Nat → Int32) (B : Nat → Nat → Bool) (L : Nat → Nat → Int64) (ws : va_W) (a0 : Nat) (ld : Nat → Nat) (Z : Nat → Nat → Int32) (hw : cR g a0 N A B L (lF g ld Z) ws) (hZ : lR N A B L Z) (x1 x2 : Int32) : MetW l g yL_formAt cL_formAt 10 (some .int) ({ frames := 1, cells := 0, slots := 0, locals := 24 } : Room) [.int x1, .int x2, .ref (ld 1), .ref (ld 2), .ref (ld 0)] (ws) (q_Qi g (fun r w => r = mst (hrS B) (fiS A) (N 1) x1 x2 ∧ w = ws)) := by
  refine q_met (own := RL) (by decide +kernel) rfl (Nat.le_of_ble_eq_true rfl) (fun p e s m args below meth c cx hr hnm => ?_)
  obtain ⟨hI, ⟨b1, b2, b3⟩, ⟨z0, z1, z2, z3, z4, z5, z6⟩, zK, zR, zV, zU, zE, zC⟩ := id hZ
  obtain ⟨⟨i1, i2, i3, i4⟩, j2, j3, j4, j5, j6, j7, j8, j9, j10, j11⟩ := id hI
  refine r_lv (lv2 := [(0, .int x1), (1, .int x2), (2, .ref (ld 1)), (3, .ref (ld 2)), (4, .ref (ld 0))]) (q_pk [0, 1, 2, 3, 4] rfl) ?_
  refine r_iconst (v := -1) cx dL_formAt_0 (by decide) ?_
  refine r_istore cx dL_formAt_1 (by decide) rfl ?_
  refine r_iconst (v := nI 0) cx dL_formAt_3 (by decide) ?_
  refine r_istore cx dL_formAt_4 (by decide) rfl ?_
  refine r_aload cx dL_formAt_6 rfl ?_
  refine r_iconst (v := nI 2) cx dL_formAt_8 (by decide) ?_
  refine ll_0 cx dL_formAt_9 hw (by omega) ?_
  refine r_eqi z2 ?_
  refine r_iconst (v := nI 1) cx dL_formAt_10 (by decide) ?_
  first | refine r_isubN cx dL_formAt_11 (by omega) ?_ | refine r_isub cx dL_formAt_11 ?_
  refine r_eqi km_sub ?_
  refine r_istore cx dL_formAt_12 (by decide) rfl ?_
  refine at_loop (fun (x : Nat) => x ≤ N 1) (fun x => [(0, .int x1), (1, .int x2), (2, .ref (ld 1)), (3, .ref (ld 2)), (4, .ref (ld 0)), (5, .int (mdF (hrS B) (fiS A) (N 1) x1 x2 (x)).1), (6, .int (nI (mdF (hrS B) (fiS A) (N 1) x1 x2 (x)).2)), (7, .int (km (N 1 - x)))]) (fun x => ws) (fun x => N 1 - x) 0 (Nat.zero_le _) (q_pk [3, 4, 5, 6, 7, 2, 1, 0] rfl) rfl (fun j hx ih => ?_)
  try dsimp only at hx ⊢
  have hml := mdF_le (hr := hrS B) (fi := fiS A) (n := N 1) (w := x1) (p := x2) j
  refine r_iload cx dL_formAt_14 rfl ?_
  refine r_iflt (tgt := 137) cx dL_formAt_16 (by decide) (fun h_16 => ?_) (fun h_16 => ?_)
  · skip
    obtain rfl : j = N 1 := by
      have z9 := (km_lt (by omega)).mp h_16
      omega
    refine r_iload cx dL_formAt_137 rfl ?_
    exact r_iret cx dL_formAt_139 hr (⟨md_mst, rfl⟩) (Nat.le_of_ble_eq_true rfl) (Nat.le_of_ble_eq_true rfl)
  · skip
    obtain ⟨k, hk, e, e1⟩ : ∃ k, k < N 1 ∧ N 1 - j = k + 1 ∧ N 1 - 1 - j = k := ⟨N 1 - 1 - j, by
      have z9 : ¬ N 1 - j = 0 := fun z => h_16 ((km_lt (by omega)).mpr z)
      omega, by
      have z9 : ¬ N 1 - j = 0 := fun z => h_16 ((km_lt (by omega)).mpr z)
      omega, rfl⟩
    have hm : mdF (hrS B) (fiS A) (N 1) x1 x2 (j + 1) = if mtc (hrS B) (fiS A) x1 x2 k && decide ((mdF (hrS B) (fiS A) (N 1) x1 x2 (j)).2 ≤ cntF (hrS B) (fiS A) x1 x2 (A 5 k) (N 1)) then (A 5 k, cntF (hrS B) (fiS A) x1 x2 (A 5 k) (N 1)) else mdF (hrS B) (fiS A) (N 1) x1 x2 (j) := by rw [mdF, e1]
    rw [e, show km (k + 1) = nI k from rfl]
    refine r_iconst (v := nI 0) cx dL_formAt_19 (by decide) ?_
    refine r_istore cx dL_formAt_20 (by decide) rfl ?_
    refine r_iconst (v := nI 0) cx dL_formAt_22 (by decide) ?_
    refine r_istore cx dL_formAt_23 (by decide) rfl ?_
    refine at_loop (fun (x : Nat) => x ≤ N 1) (fun x => [(0, .int x1), (1, .int x2), (2, .ref (ld 1)), (3, .ref (ld 2)), (4, .ref (ld 0)), (5, .int (mdF (hrS B) (fiS A) (N 1) x1 x2 (j)).1), (6, .int (nI (mdF (hrS B) (fiS A) (N 1) x1 x2 (j)).2)), (7, .int (nI k)), (8, .int (nI (cntF (hrS B) (fiS A) x1 x2 (A 5 k) (x)))), (9, .int (nI x))]) (fun x => ws) (fun x => N 1 - x) 0 (Nat.zero_le _) (q_pk [2, 3, 4, 5, 6, 7, 8, 9, 1, 0] rfl) rfl (fun i hx1 ih_1 => ?_)
    try dsimp only at hx1 ⊢
    refine r_iload cx dL_formAt_25 rfl ?_
    refine r_aload cx dL_formAt_27 rfl ?_
    refine r_iconst (v := nI 2) cx dL_formAt_29 (by decide) ?_
    refine ll_0 cx dL_formAt_30 hw (by omega) ?_
    refine r_eqi z2 ?_
    refine r_icmpgeN (tgt := 74) cx (by omega) (by omega) dL_formAt_31 (by decide) (fun h_31 => ?_) (fun h_31 => ?_)
    · skip
      obtain rfl : i = N 1 := by omega
      have hcl := cntF_le (hrS B) (fiS A) x1 x2 (A 5 k) (N 1)
      refine at_val (tgt := 99) (fun z => z = bI (mtc (hrS B) (fiS A) x1 x2 k && decide ((mdF (hrS B) (fiS A) (N 1) x1 x2 (j)).2 ≤ cntF (hrS B) (fiS A) x1 x2 (A 5 k) (N 1)))) (fun z hz => ?_) (fun J_99 => ?_)
      · subst hz
        refine r_istore cx dL_formAt_99 (by decide) rfl ?_
        refine at_val (tgt := 115) (fun z => z = (mdF (hrS B) (fiS A) (N 1) x1 x2 (j + 1)).1) (fun z hz => ?_) (fun J_115 => ?_)
        · subst hz
          refine r_istore cx dL_formAt_115 (by decide) rfl ?_
          refine at_val (tgt := 129) (fun z => z = nI (mdF (hrS B) (fiS A) (N 1) x1 x2 (j + 1)).2) (fun z hz => ?_) (fun J_129 => ?_)
          · subst hz
            refine r_istore cx dL_formAt_129 (by decide) rfl ?_
            refine r_iinc cx dL_formAt_131 rfl rfl (by decide) rfl ?_
            refine r_goto (tgt := 14) cx dL_formAt_134 (by decide) ?_
            have z9 := ih (j + 1) (by omega) (by omega)
            try dsimp only at z9
            rw [show N 1 - (j + 1) = k by omega, ← km_dec] at z9
            exact r_lv (q_pk [4, 5, 6, 7, 8, 2, 1, 0] rfl) (z9)
          · skip
            refine r_iload cx dL_formAt_117 rfl ?_
            refine r_ifeqb (tgt := 127) cx dL_formAt_119 (by decide) (fun h_119 => ?_) (fun h_119 => ?_)
            · skip
              refine r_iload cx dL_formAt_127 rfl ?_
              exact J_129 _ (by rw [hm, h_119]; rfl)
            · skip
              refine r_iload cx dL_formAt_122 rfl ?_
              refine r_goto (tgt := 129) cx dL_formAt_124 (by decide) ?_
              exact J_129 _ (by rw [hm, h_119]; rfl)
        · skip
          refine r_iload cx dL_formAt_101 rfl ?_
          refine r_ifeqb (tgt := 113) cx dL_formAt_103 (by decide) (fun h_103 => ?_) (fun h_103 => ?_)
          · skip
            refine r_iload cx dL_formAt_113 rfl ?_
            exact J_115 _ (by rw [hm, h_103]; rfl)
          · skip
            refine r_aload_n cx dL_formAt_106 rfl rfl ?_
            refine r_iload cx dL_formAt_107 rfl ?_
            refine ll_2 cx dL_formAt_109 hw (by omega) ?_
            refine r_eqi (zV k hk).2.2.2.2 ?_
            refine r_goto (tgt := 115) cx dL_formAt_110 (by decide) ?_
            exact J_115 _ (by rw [hm, h_103]; rfl)
      · skip
        refine r_iload cx dL_formAt_74 rfl ?_
        refine r_iload_n cx dL_formAt_76 rfl rfl ?_
        refine r_iload_n cx dL_formAt_77 rfl rfl ?_
        refine r_aload_n cx dL_formAt_78 rfl rfl ?_
        refine r_aload cx dL_formAt_79 rfl ?_
        refine k_L_42 cx (c_Lthere l g N A B L ws a0 ld Z hw hZ k hk x1 x2) dL_formAt_81 ⟨Nat.le_of_ble_eq_true rfl, Nat.le_of_ble_eq_true rfl⟩ ⟨Nat.le_of_ble_eq_true rfl, Nat.le_of_ble_eq_true rfl⟩ rfl rfl (Nat.le_of_ble_eq_true rfl) (fun r w hp => ?_)
        obtain ⟨rfl, rfl⟩ := hp
        refine r_ifeqb (tgt := 98) cx dL_formAt_84 (by decide) (fun h_84 => ?_) (fun h_84 => ?_)
        · skip
          refine r_iconst (v := nI 0) cx dL_formAt_98 (by decide) ?_
          exact J_99 _ (by rw [h_84]; rfl)
        · skip
          refine r_iload cx dL_formAt_87 rfl ?_
          refine r_iload cx dL_formAt_89 rfl ?_
          refine r_icmpltN (tgt := 98) cx (by omega) (by omega) dL_formAt_91 (by decide) (fun h_91 => ?_) (fun h_91 => ?_)
          · skip
            refine r_iconst (v := nI 0) cx dL_formAt_98 (by decide) ?_
            exact J_99 _ (by rw [decide_eq_false (by omega), Bool.and_false]; rfl)
          · skip
            refine r_iconst (v := nI 1) cx dL_formAt_94 (by decide) ?_
            refine r_goto (tgt := 99) cx dL_formAt_95 (by decide) ?_
            exact J_99 _ (by rw [h_84, decide_eq_true (by omega)]; rfl)
    · skip
      refine r_iload cx dL_formAt_34 rfl ?_
      refine at_val (tgt := 65) (fun z => z = nI (c01 (mtc (hrS B) (fiS A) x1 x2 i && decide (fiS A 4 i = A 5 k)))) (fun z hz => ?_) (fun J_65 => ?_)
      · subst hz
        first | refine r_iaddN cx dL_formAt_65 ?_ | refine r_iadd cx dL_formAt_65 ?_
        refine r_istore cx dL_formAt_66 (by decide) rfl ?_
        refine r_iincN (j := 1) cx dL_formAt_68 rfl rfl (by decide) rfl ?_
        refine r_goto (tgt := 25) cx dL_formAt_71 (by decide) ?_
        have z9 := ih_1 (i + 1) (by omega) (by omega)
        try dsimp only at z9
        rw [cntF_s] at z9
        exact r_lv (q_pk [2, 3, 4, 5, 6, 7, 8, 9, 1, 0] rfl) (z9)
      · skip
        refine r_iload cx dL_formAt_36 rfl ?_
        refine r_iload_n cx dL_formAt_38 rfl rfl ?_
        refine r_iload_n cx dL_formAt_39 rfl rfl ?_
        refine r_aload_n cx dL_formAt_40 rfl rfl ?_
        refine r_aload cx dL_formAt_41 rfl ?_
        refine k_L_42 cx (c_Lthere l g N A B L ws a0 ld Z hw hZ i h_31 x1 x2) dL_formAt_43 ⟨Nat.le_of_ble_eq_true rfl, Nat.le_of_ble_eq_true rfl⟩ ⟨Nat.le_of_ble_eq_true rfl, Nat.le_of_ble_eq_true rfl⟩ rfl rfl (Nat.le_of_ble_eq_true rfl) (fun r w hp => ?_)
        obtain ⟨rfl, rfl⟩ := hp
        refine r_ifeqb (tgt := 64) cx dL_formAt_46 (by decide) (fun h_46 => ?_) (fun h_46 => ?_)
        · skip
          refine r_iconst (v := nI 0) cx dL_formAt_64 (by decide) ?_
          exact J_65 _ (by rw [h_46]; rfl)
        · skip
          refine r_aload_n cx dL_formAt_49 rfl rfl ?_
          refine r_iload cx dL_formAt_50 rfl ?_
          refine ll_2 cx dL_formAt_52 hw (by omega) ?_
          refine r_eqi (zV i h_31).2.2.2.2 ?_
          refine r_aload_n cx dL_formAt_53 rfl rfl ?_
          refine r_iload cx dL_formAt_54 rfl ?_
          refine ll_2 cx dL_formAt_56 hw (by omega) ?_
          refine r_eqi (zV k hk).2.2.2.2 ?_
          refine r_icmpne (tgt := 64) cx dL_formAt_57 (by decide) (fun h_57 => ?_) (fun h_57 => ?_)
          · skip
            refine r_iconst (v := nI 0) cx dL_formAt_64 (by decide) ?_
            exact J_65 _ (by rw [decide_eq_false (show ¬ fiS A 4 i = A 5 k from h_57), Bool.and_false]; rfl)
          · skip
            refine r_iconst (v := nI 1) cx dL_formAt_60 (by decide) ?_
            refine r_goto (tgt := 65) cx dL_formAt_61 (by decide) ?_
            exact J_65 _ (by rw [h_46, decide_eq_true (show fiS A 4 i = A 5 k from h_57)]; rfl)
set_option maxHeartbeats 4000000 in
set_option maxRecDepth 100000 in
theorem c_Lsteps (l : Launch) (g : q_G) (N : Nat → Nat) (A : Nat → Nat → Int32) (B : Nat → Nat → Bool) (L : Nat → Nat → Int64) (ws : va_W) (a0 : Nat) (ld : Nat → Nat) (Z : Nat → Nat → Int32) (hw : cR g a0 N A B L (lF g ld Z) ws) (a b : List Nat) (ha : snd a) (hal : a.length ≤ 8) (hb : snd b) (hbl : b.length ≤ 8) : MetW l g yL_steps cL_steps 13 (some .int) ({ frames := 1, cells := 0, slots := 0, locals := 23 } : Room) [.int (nI (num a)), .int (nI (num b)), .ref (ld 6), .ref (ld 7), .ref (ld 8)] (ws) (q_Qi g (fun r w => r = nI (lev b a) ∧ ∃ f6 f7 f8 : Nat → Int32, cR g a0 N A B L (lF g ld (va_up (va_up (va_up Z 6 f6) 7 f7) 8 f8)) w)) := by
  refine q_met (own := RL) (by decide +kernel) rfl (Nat.le_of_ble_eq_true rfl) (fun p e s m args below meth c cx hr hnm => ?_)
  refine r_lv (lv2 := [(0, .int (nI (num a))), (1, .int (nI (num b))), (2, .ref (ld 6)), (3, .ref (ld 7)), (4, .ref (ld 8))]) (q_pk [0, 1, 2, 3, 4] rfl) ?_
  refine r_iload_n cx dL_steps_0 rfl rfl ?_
  refine r_aload_n cx dL_steps_1 rfl rfl ?_
  refine k_L_38 cx (c_Lsounds_t l g N A B L ws a0 ld Z hw a ha hal) dL_steps_2 ⟨Nat.le_of_ble_eq_true rfl, Nat.le_of_ble_eq_true rfl⟩ ⟨Nat.le_of_ble_eq_true rfl, Nat.le_of_ble_eq_true rfl⟩ rfl rfl (Nat.le_of_ble_eq_true rfl) (fun r w hp => ?_)
  obtain ⟨rfl, f6, hr6, hw⟩ := hp
  refine r_istore cx dL_steps_5 (by decide) rfl ?_
  refine r_iload_n cx dL_steps_7 rfl rfl ?_
  refine r_aload_n cx dL_steps_8 rfl rfl ?_
  refine k_L_38 cx (c_Lsounds_u l g N A B L w a0 ld _ hw b hb hbl) dL_steps_9 ⟨Nat.le_of_ble_eq_true rfl, Nat.le_of_ble_eq_true rfl⟩ ⟨Nat.le_of_ble_eq_true rfl, Nat.le_of_ble_eq_true rfl⟩ rfl rfl (Nat.le_of_ble_eq_true rfl) (fun r w hp => ?_)
  obtain ⟨rfl, f7, hr7, hw⟩ := hp
  have hla : a.reverse.length = a.length := List.length_reverse
  have hlb : b.reverse.length = b.length := List.length_reverse
  have hga : ∀ i, i < a.length → a.reverse.getD i 0 < 8 := fun i hi => gD8 (fun x hx => ha x (List.mem_reverse.mp hx)) (by omega)
  have hgb : ∀ i, i < b.length → b.reverse.getD i 0 < 8 := fun i hi => gD8 (fun x hx => hb x (List.mem_reverse.mp hx)) (by omega)
  have hDl : ∀ i j, Dv a.reverse b.reverse i j ≤ a.length + b.length := fun i j => by
    have h9 := Dv_le a.reverse b.reverse i j
    omega
  refine r_istore cx dL_steps_12 (by decide) rfl ?_
  refine r_iconst (v := nI 0) cx dL_steps_14 (by decide) ?_
  refine r_istore cx dL_steps_15 (by decide) rfl ?_
  refine at_loop (fun (x : Nat × ((Nat → Int32) × va_W)) => x.1 ≤ a.length + 1 ∧ (0 < x.1 → ∀ j, j ≤ b.length → x.2.1 j = nI (Dv a.reverse b.reverse (x.1 - 1) (j))) ∧ cR g a0 N A B L (lF g ld (va_up (va_up (va_up Z 6 f6) 7 f7) 8 x.2.1)) x.2.2) (fun x => [(2, .ref (ld 6)), (3, .ref (ld 7)), (4, .ref (ld 8)), (5, .int (nI a.length)), (6, .int (nI b.length)), (7, .int (nI x.1))]) (fun x => x.2.2) (fun x => a.length + 1 - x.1) (0, (Z 8, w)) ⟨Nat.zero_le _, fun h9 => absurd h9 (Nat.lt_irrefl 0), hw⟩ (q_pk [5, 6, 7, 2, 1, 0] rfl) rfl (fun x hx ih => ?_)
  obtain ⟨i, ⟨d, w⟩⟩ := x
  try dsimp only at hx ⊢
  clear hw
  obtain ⟨hx, hd, hw⟩ := hx
  refine r_iload cx dL_steps_17 rfl ?_
  refine r_iload cx dL_steps_19 rfl ?_
  refine r_icmpgtN (tgt := 196) cx (by omega) (by omega) dL_steps_21 (by decide) (fun h_21 => ?_) (fun h_21 => ?_)
  · skip
    obtain rfl : i = a.length + 1 := by omega
    refine r_aload cx dL_steps_196 rfl ?_
    refine r_iload cx dL_steps_198 rfl ?_
    refine ll_8 cx dL_steps_200 hw (by omega) ?_
    have h9 := Dv_end a.reverse b.reverse
    rw [hla, hlb, lev_rev] at h9
    refine r_eqi (y := nI (lev b a)) ((hd (by omega) b.length (Nat.le_refl _)).trans (by rw [Nat.add_sub_cancel, h9])) ?_
    exact r_iret cx dL_steps_201 hr (⟨rfl, f6, f7, d, hw⟩) (Nat.le_of_ble_eq_true rfl) (Nat.le_of_ble_eq_true rfl)
  · skip
    refine r_iconst (v := nI 0) cx dL_steps_24 (by decide) ?_
    refine r_istore cx dL_steps_25 (by decide) rfl ?_
    refine r_iconst (v := nI 0) cx dL_steps_27 (by decide) ?_
    refine r_istore cx dL_steps_28 (by decide) rfl ?_
    refine at_loop (fun (x : Nat × (Int32 × ((Nat → Int32) × va_W))) => x.1 ≤ b.length + 1 ∧ (∀ j, j < x.1 → x.2.2.1 j = nI (Dv a.reverse b.reverse (i) (j))) ∧ (0 < i → ∀ j, x.1 ≤ j → j ≤ b.length → x.2.2.1 j = nI (Dv a.reverse b.reverse (i - 1) (j))) ∧ (0 < i → 0 < x.1 → x.2.1 = nI (Dv a.reverse b.reverse (i - 1) (x.1 - 1))) ∧ cR g a0 N A B L (lF g ld (va_up (va_up (va_up Z 6 f6) 7 f7) 8 x.2.2.1)) x.2.2.2) (fun x => [(2, .ref (ld 6)), (3, .ref (ld 7)), (4, .ref (ld 8)), (5, .int (nI a.length)), (6, .int (nI b.length)), (7, .int (nI i)), (8, .int x.2.1), (9, .int (nI x.1))]) (fun x => x.2.2.2) (fun x => b.length + 1 - x.1) (0, (nI 0, (d, w))) ⟨Nat.zero_le _, fun j h9 => absurd h9 (Nat.not_lt_zero j), fun h9 j _ h8 => hd h9 j h8, fun _ h9 => absurd h9 (Nat.lt_irrefl 0), hw⟩ (q_pk [2, 3, 4, 5, 6, 7, 1, 0] rfl) rfl (fun x hx1 ih_1 => ?_)
    obtain ⟨k, ⟨co, ⟨d1, w1⟩⟩⟩ := x
    try dsimp only at hx1 ⊢
    clear hw
    obtain ⟨hx1, h1, h2, h3, hw⟩ := hx1
    refine r_iload cx dL_steps_30 rfl ?_
    refine r_iload cx dL_steps_32 rfl ?_
    refine r_icmpgtN (tgt := 190) cx (by omega) (by omega) dL_steps_34 (by decide) (fun h_34 => ?_) (fun h_34 => ?_)
    · skip
      obtain rfl : k = b.length + 1 := by omega
      refine r_iincN (j := 1) cx dL_steps_190 rfl rfl (by decide) rfl ?_
      refine r_goto (tgt := 17) cx dL_steps_193 (by decide) ?_
      exact r_lv (q_pk [1, 2, 3, 4, 5, 0] rfl) (ih (i + 1, (d1, w1)) ⟨by omega, fun _ j hj => h1 j (by omega), hw⟩ (by show a.length + 1 - (i + 1) < a.length + 1 - i; omega))
    · skip
      refine r_aload cx dL_steps_37 rfl ?_
      refine r_iload cx dL_steps_39 rfl ?_
      refine ll_8 cx dL_steps_41 hw (by omega) ?_
      refine r_istore cx dL_steps_42 (by decide) rfl ?_
      refine r_iload cx dL_steps_44 rfl ?_
      refine r_ifleN (tgt := 73) cx (by omega) dL_steps_46 (by decide) (fun h_46 => ?_) (fun h_46 => ?_)
      · skip
        refine r_iconst (v := nI 1) cx dL_steps_73 (by decide) ?_
        refine r_istore cx dL_steps_74 (by decide) rfl ?_
        refine r_iload cx dL_steps_76 rfl ?_
        refine r_ifneN (tgt := 86) cx (by omega) dL_steps_78 (by decide) (fun h_78 => ?_) (fun h_78 => ?_)
        · exact absurd h_46 h_78
        · skip
          refine r_iload cx dL_steps_81 rfl ?_
          refine r_goto (tgt := 101) cx dL_steps_83 (by decide) ?_
          refine r_istore cx dL_steps_101 (by decide) rfl ?_
          refine r_iload cx dL_steps_103 rfl ?_
          refine r_ifleN (tgt := 129) cx (by omega) dL_steps_105 (by decide) (fun h_105 => ?_) (fun h_105 => ?_)
          · skip
            refine r_iload cx dL_steps_129 rfl ?_
            refine r_istore cx dL_steps_131 (by decide) rfl ?_
            refine r_iload cx dL_steps_133 rfl ?_
            refine r_ifleN (tgt := 169) cx (by omega) dL_steps_135 (by decide) (fun h_135 => ?_) (fun h_135 => ?_)
            · skip
              refine r_iload cx dL_steps_169 rfl ?_
              refine r_istore cx dL_steps_171 (by decide) rfl ?_
              refine r_aload cx dL_steps_173 rfl ?_
              refine r_iload cx dL_steps_175 rfl ?_
              refine r_iload cx dL_steps_177 rfl ?_
              refine r_eqi (y := nI (Dv a.reverse b.reverse (i) (k))) (congrArg nI (by rw [h_46]; exact (Dv_0 (by omega)).symm)) ?_
              refine ls_8 cx dL_steps_179 hw (by omega) (fun w hw => ?_)
              refine r_iload cx dL_steps_180 rfl ?_
              refine r_istore cx dL_steps_182 (by decide) rfl ?_
              refine r_iincN (j := 1) cx dL_steps_184 rfl rfl (by decide) rfl ?_
              refine r_goto (tgt := 30) cx dL_steps_187 (by decide) ?_
              exact r_lv (q_pk [5, 6, 7, 8, 9, 10, 1, 0] rfl) (ih_1 (k + 1, (d1 k, (upd d1 k (nI (Dv a.reverse b.reverse (i) (k))), w))) ⟨by omega, fun j hj => by
    have hj : j < k + 1 := hj
    show upd d1 k _ j = _
    by_cases e9 : j = k
    · rw [e9, pk_us]
    · rw [pk_un e9]
      exact h1 j (by omega), fun hi j hj hj2 => by
    have hj : k + 1 ≤ j := hj
    show upd d1 k _ j = _
    rw [pk_un (by omega)]
    exact h2 hi j (by omega) hj2, fun hi _ => absurd hi (by rw [h_46]; exact Nat.lt_irrefl 0), hw⟩ (by show b.length + 1 - (k + 1) < b.length + 1 - k; omega))
            · exact absurd h_135 (by omega)
          · exact absurd h_105 (by omega)
      · skip
        refine r_iload cx dL_steps_49 rfl ?_
        refine r_ifleN (tgt := 73) cx (by omega) dL_steps_51 (by decide) (fun h_51 => ?_) (fun h_51 => ?_)
        · skip
          obtain rfl := h_51
          refine r_iconst (v := nI 1) cx dL_steps_73 (by decide) ?_
          refine r_istore cx dL_steps_74 (by decide) rfl ?_
          refine r_iload cx dL_steps_76 rfl ?_
          refine r_ifneN (tgt := 86) cx (by omega) dL_steps_78 (by decide) (fun h_78 => ?_) (fun h_78 => ?_)
          · skip
            refine r_iload cx dL_steps_86 rfl ?_
            refine r_ifneN (tgt := 96) cx (by omega) dL_steps_88 (by decide) (fun h_88 => ?_) (fun h_88 => ?_)
            · exact absurd rfl h_88
            · skip
              refine r_iload cx dL_steps_91 rfl ?_
              refine r_goto (tgt := 101) cx dL_steps_93 (by decide) ?_
              refine r_istore cx dL_steps_101 (by decide) rfl ?_
              refine r_iload cx dL_steps_103 rfl ?_
              refine r_ifleN (tgt := 129) cx (by omega) dL_steps_105 (by decide) (fun h_105 => ?_) (fun h_105 => ?_)
              · exact absurd h_105 (by omega)
              · skip
                refine r_iload cx dL_steps_108 rfl ?_
                refine r_ifleN (tgt := 129) cx (by omega) dL_steps_110 (by decide) (fun h_110 => ?_) (fun h_110 => ?_)
                · skip
                  refine r_iload cx dL_steps_129 rfl ?_
                  refine r_istore cx dL_steps_131 (by decide) rfl ?_
                  refine r_iload cx dL_steps_133 rfl ?_
                  refine r_ifleN (tgt := 169) cx (by omega) dL_steps_135 (by decide) (fun h_135 => ?_) (fun h_135 => ?_)
                  · exact absurd h_135 (by omega)
                  · skip
                    refine r_iload cx dL_steps_138 rfl ?_
                    refine r_ifleN (tgt := 169) cx (by omega) dL_steps_140 (by decide) (fun h_140 => ?_) (fun h_140 => ?_)
                    · skip
                      refine r_iload cx dL_steps_169 rfl ?_
                      refine r_istore cx dL_steps_171 (by decide) rfl ?_
                      refine r_aload cx dL_steps_173 rfl ?_
                      refine r_iload cx dL_steps_175 rfl ?_
                      refine r_iload cx dL_steps_177 rfl ?_
                      refine r_eqi (y := nI (Dv a.reverse b.reverse (i) (0))) (congrArg nI (Dv_i (by omega)).symm) ?_
                      refine ls_8 cx dL_steps_179 hw (by omega) (fun w hw => ?_)
                      refine r_iload cx dL_steps_180 rfl ?_
                      refine r_istore cx dL_steps_182 (by decide) rfl ?_
                      refine r_iincN (j := 1) cx dL_steps_184 rfl rfl (by decide) rfl ?_
                      refine r_goto (tgt := 30) cx dL_steps_187 (by decide) ?_
                      exact r_lv (q_pk [5, 6, 7, 8, 9, 10, 1, 0] rfl) (ih_1 (0 + 1, (d1 0, (upd d1 0 (nI (Dv a.reverse b.reverse (i) (0))), w))) ⟨by omega, fun j hj => by
    have hj : j < 0 + 1 := hj
    show upd d1 0 _ j = _
    by_cases e9 : j = 0
    · rw [e9, pk_us]
    · rw [pk_un e9]
      exact h1 j (by omega), fun hi j hj hj2 => by
    have hj : 0 + 1 ≤ j := hj
    show upd d1 0 _ j = _
    rw [pk_un (by omega)]
    exact h2 hi j (by omega) hj2, fun hi _ => h2 hi 0 (Nat.le_refl 0) (Nat.zero_le _), hw⟩ (by show b.length + 1 - (0 + 1) < b.length + 1 - 0; omega))
                    · exact absurd h_140 (by omega)
                · exact absurd h_110 (by omega)
          · exact absurd h_78 (by omega)
        · skip
          obtain ⟨i, rfl⟩ : ∃ i2, i = i2 + 1 := ⟨i - 1, by omega⟩
          obtain ⟨k, rfl⟩ : ∃ k2, k = k2 + 1 := ⟨k - 1, by omega⟩
          obtain rfl := h3 (by omega) (by omega)
          have hU := h2 (by omega) (k + 1) (Nat.le_refl _) (by omega)
          have hLf := h1 k (by omega)
          simp only [Nat.add_sub_cancel] at hU
          refine r_lv (lv2 := [(10, .int (nI (Dv a.reverse b.reverse (i) (k + 1)))), (2, .ref (ld 6)), (3, .ref (ld 7)), (4, .ref (ld 8)), (5, .int (nI a.length)), (6, .int (nI b.length)), (7, .int (nI (i + 1))), (8, .int (nI (Dv a.reverse b.reverse (i) (k)))), (9, .int (nI (k + 1)))]) (by rw [← hU]; exact q_pk [0, 1, 2, 3, 4, 5, 6, 7, 8] rfl) ?_
          have g1 := hDl i k
          have g2 := hDl i (k + 1)
          have g3 := hDl (i + 1) k
          have g4 := hga i (by omega)
          have g5 := hgb k (by omega)
          refine r_aload_n cx dL_steps_54 rfl rfl ?_
          refine r_iload cx dL_steps_55 rfl ?_
          refine r_iconst (v := nI 1) cx dL_steps_57 (by decide) ?_
          first | refine r_isubN cx dL_steps_58 (by omega) ?_ | refine r_isub cx dL_steps_58 ?_
          refine ll_6 cx dL_steps_59 hw (by omega) ?_
          refine r_eqi (y := nI (a.reverse.getD i 0)) (hr6 i (by omega)) ?_
          refine r_aload_n cx dL_steps_60 rfl rfl ?_
          refine r_iload cx dL_steps_61 rfl ?_
          refine r_iconst (v := nI 1) cx dL_steps_63 (by decide) ?_
          first | refine r_isubN cx dL_steps_64 (by omega) ?_ | refine r_isub cx dL_steps_64 ?_
          refine ll_7 cx dL_steps_65 hw (by omega) ?_
          refine r_eqi (y := nI (b.reverse.getD k 0)) (hr7 k (by omega)) ?_
          refine r_icmpneN (tgt := 73) cx (by omega) (by omega) dL_steps_66 (by decide) (fun h_66 => ?_) (fun h_66 => ?_)
          · skip
            refine r_iconst (v := nI 1) cx dL_steps_73 (by decide) ?_
            refine r_istore cx dL_steps_74 (by decide) rfl ?_
            refine r_iload cx dL_steps_76 rfl ?_
            refine r_ifneN (tgt := 86) cx (by omega) dL_steps_78 (by decide) (fun h_78 => ?_) (fun h_78 => ?_)
            · skip
              refine r_iload cx dL_steps_86 rfl ?_
              refine r_ifneN (tgt := 96) cx (by omega) dL_steps_88 (by decide) (fun h_88 => ?_) (fun h_88 => ?_)
              · skip
                refine r_iload cx dL_steps_96 rfl ?_
                refine r_iload cx dL_steps_98 rfl ?_
                first | refine r_iaddN cx dL_steps_100 ?_ | refine r_iadd cx dL_steps_100 ?_
                refine r_istore cx dL_steps_101 (by decide) rfl ?_
                refine r_iload cx dL_steps_103 rfl ?_
                refine r_ifleN (tgt := 129) cx (by omega) dL_steps_105 (by decide) (fun h_105 => ?_) (fun h_105 => ?_)
                · exact absurd h_105 (by omega)
                · skip
                  refine r_iload cx dL_steps_108 rfl ?_
                  refine r_ifleN (tgt := 129) cx (by omega) dL_steps_110 (by decide) (fun h_110 => ?_) (fun h_110 => ?_)
                  · exact absurd h_110 (by omega)
                  · skip
                    refine r_iload cx dL_steps_113 rfl ?_
                    refine r_iconst (v := nI 1) cx dL_steps_115 (by decide) ?_
                    first | refine r_iaddN cx dL_steps_116 ?_ | refine r_iadd cx dL_steps_116 ?_
                    refine r_iload cx dL_steps_117 rfl ?_
                    refine r_icmpgeN (tgt := 129) cx (by omega) (by omega) dL_steps_119 (by decide) (fun h_119 => ?_) (fun h_119 => ?_)
                    · skip
                      refine r_iload cx dL_steps_129 rfl ?_
                      refine r_istore cx dL_steps_131 (by decide) rfl ?_
                      refine r_iload cx dL_steps_133 rfl ?_
                      refine r_ifleN (tgt := 169) cx (by omega) dL_steps_135 (by decide) (fun h_135 => ?_) (fun h_135 => ?_)
                      · exact absurd h_135 (by omega)
                      · skip
                        refine r_iload cx dL_steps_138 rfl ?_
                        refine r_ifleN (tgt := 169) cx (by omega) dL_steps_140 (by decide) (fun h_140 => ?_) (fun h_140 => ?_)
                        · exact absurd h_140 (by omega)
                        · skip
                          refine r_aload cx dL_steps_143 rfl ?_
                          refine r_iload cx dL_steps_145 rfl ?_
                          refine r_iconst (v := nI 1) cx dL_steps_147 (by decide) ?_
                          first | refine r_isubN cx dL_steps_148 (by omega) ?_ | refine r_isub cx dL_steps_148 ?_
                          refine ll_8 cx dL_steps_149 hw (by omega) ?_
                          refine r_eqi (y := nI (Dv a.reverse b.reverse (i + 1) (k))) hLf ?_
                          refine r_iconst (v := nI 1) cx dL_steps_150 (by decide) ?_
                          first | refine r_iaddN cx dL_steps_151 ?_ | refine r_iadd cx dL_steps_151 ?_
                          refine r_iload cx dL_steps_152 rfl ?_
                          refine r_icmpgeN (tgt := 169) cx (by omega) (by omega) dL_steps_154 (by decide) (fun h_154 => ?_) (fun h_154 => ?_)
                          · skip
                            refine r_iload cx dL_steps_169 rfl ?_
                            refine r_istore cx dL_steps_171 (by decide) rfl ?_
                            refine r_aload cx dL_steps_173 rfl ?_
                            refine r_iload cx dL_steps_175 rfl ?_
                            refine r_iload cx dL_steps_177 rfl ?_
                            refine r_eqi (y := nI (Dv a.reverse b.reverse (i + 1) (k + 1))) (congrArg nI (by
                              rw [Dv_s (by omega) (by omega)]
                              rw [if_neg h_66]
                              omega)) ?_
                            refine ls_8 cx dL_steps_179 hw (by omega) (fun w hw => ?_)
                            refine r_iload cx dL_steps_180 rfl ?_
                            refine r_istore cx dL_steps_182 (by decide) rfl ?_
                            refine r_iincN (j := 1) cx dL_steps_184 rfl rfl (by decide) rfl ?_
                            refine r_goto (tgt := 30) cx dL_steps_187 (by decide) ?_
                            exact r_lv (q_pk [5, 6, 7, 8, 9, 10, 1, 0] rfl) (ih_1 ((k + 1) + 1, (nI (Dv a.reverse b.reverse (i) (k + 1)), (upd d1 (k + 1) (nI (Dv a.reverse b.reverse ((i + 1)) ((k + 1)))), w))) ⟨by omega, fun j hj => by
    have hj : j < (k + 1) + 1 := hj
    show upd d1 (k + 1) _ j = _
    by_cases e9 : j = (k + 1)
    · rw [e9, pk_us]
    · rw [pk_un e9]
      exact h1 j (by omega), fun hi j hj hj2 => by
    have hj : (k + 1) + 1 ≤ j := hj
    show upd d1 (k + 1) _ j = _
    rw [pk_un (by omega)]
    exact h2 hi j (by omega) hj2, fun _ _ => rfl, hw⟩ (by show b.length + 1 - ((k + 1) + 1) < b.length + 1 - (k + 1); omega))
                          · skip
                            refine r_aload cx dL_steps_157 rfl ?_
                            refine r_iload cx dL_steps_159 rfl ?_
                            refine r_iconst (v := nI 1) cx dL_steps_161 (by decide) ?_
                            first | refine r_isubN cx dL_steps_162 (by omega) ?_ | refine r_isub cx dL_steps_162 ?_
                            refine ll_8 cx dL_steps_163 hw (by omega) ?_
                            refine r_eqi (y := nI (Dv a.reverse b.reverse (i + 1) (k))) hLf ?_
                            refine r_iconst (v := nI 1) cx dL_steps_164 (by decide) ?_
                            first | refine r_iaddN cx dL_steps_165 ?_ | refine r_iadd cx dL_steps_165 ?_
                            refine r_goto (tgt := 171) cx dL_steps_166 (by decide) ?_
                            refine r_istore cx dL_steps_171 (by decide) rfl ?_
                            refine r_aload cx dL_steps_173 rfl ?_
                            refine r_iload cx dL_steps_175 rfl ?_
                            refine r_iload cx dL_steps_177 rfl ?_
                            refine r_eqi (y := nI (Dv a.reverse b.reverse (i + 1) (k + 1))) (congrArg nI (by
                              rw [Dv_s (by omega) (by omega)]
                              rw [if_neg h_66]
                              omega)) ?_
                            refine ls_8 cx dL_steps_179 hw (by omega) (fun w hw => ?_)
                            refine r_iload cx dL_steps_180 rfl ?_
                            refine r_istore cx dL_steps_182 (by decide) rfl ?_
                            refine r_iincN (j := 1) cx dL_steps_184 rfl rfl (by decide) rfl ?_
                            refine r_goto (tgt := 30) cx dL_steps_187 (by decide) ?_
                            exact r_lv (q_pk [5, 6, 7, 8, 9, 10, 1, 0] rfl) (ih_1 ((k + 1) + 1, (nI (Dv a.reverse b.reverse (i) (k + 1)), (upd d1 (k + 1) (nI (Dv a.reverse b.reverse ((i + 1)) ((k + 1)))), w))) ⟨by omega, fun j hj => by
    have hj : j < (k + 1) + 1 := hj
    show upd d1 (k + 1) _ j = _
    by_cases e9 : j = (k + 1)
    · rw [e9, pk_us]
    · rw [pk_un e9]
      exact h1 j (by omega), fun hi j hj hj2 => by
    have hj : (k + 1) + 1 ≤ j := hj
    show upd d1 (k + 1) _ j = _
    rw [pk_un (by omega)]
    exact h2 hi j (by omega) hj2, fun _ _ => rfl, hw⟩ (by show b.length + 1 - ((k + 1) + 1) < b.length + 1 - (k + 1); omega))
                    · skip
                      refine r_iload cx dL_steps_122 rfl ?_
                      refine r_iconst (v := nI 1) cx dL_steps_124 (by decide) ?_
                      first | refine r_iaddN cx dL_steps_125 ?_ | refine r_iadd cx dL_steps_125 ?_
                      refine r_goto (tgt := 131) cx dL_steps_126 (by decide) ?_
                      refine r_istore cx dL_steps_131 (by decide) rfl ?_
                      refine r_iload cx dL_steps_133 rfl ?_
                      refine r_ifleN (tgt := 169) cx (by omega) dL_steps_135 (by decide) (fun h_135 => ?_) (fun h_135 => ?_)
                      · exact absurd h_135 (by omega)
                      · skip
                        refine r_iload cx dL_steps_138 rfl ?_
                        refine r_ifleN (tgt := 169) cx (by omega) dL_steps_140 (by decide) (fun h_140 => ?_) (fun h_140 => ?_)
                        · exact absurd h_140 (by omega)
                        · skip
                          refine r_aload cx dL_steps_143 rfl ?_
                          refine r_iload cx dL_steps_145 rfl ?_
                          refine r_iconst (v := nI 1) cx dL_steps_147 (by decide) ?_
                          first | refine r_isubN cx dL_steps_148 (by omega) ?_ | refine r_isub cx dL_steps_148 ?_
                          refine ll_8 cx dL_steps_149 hw (by omega) ?_
                          refine r_eqi (y := nI (Dv a.reverse b.reverse (i + 1) (k))) hLf ?_
                          refine r_iconst (v := nI 1) cx dL_steps_150 (by decide) ?_
                          first | refine r_iaddN cx dL_steps_151 ?_ | refine r_iadd cx dL_steps_151 ?_
                          refine r_iload cx dL_steps_152 rfl ?_
                          refine r_icmpgeN (tgt := 169) cx (by omega) (by omega) dL_steps_154 (by decide) (fun h_154 => ?_) (fun h_154 => ?_)
                          · skip
                            refine r_iload cx dL_steps_169 rfl ?_
                            refine r_istore cx dL_steps_171 (by decide) rfl ?_
                            refine r_aload cx dL_steps_173 rfl ?_
                            refine r_iload cx dL_steps_175 rfl ?_
                            refine r_iload cx dL_steps_177 rfl ?_
                            refine r_eqi (y := nI (Dv a.reverse b.reverse (i + 1) (k + 1))) (congrArg nI (by
                              rw [Dv_s (by omega) (by omega)]
                              rw [if_neg h_66]
                              omega)) ?_
                            refine ls_8 cx dL_steps_179 hw (by omega) (fun w hw => ?_)
                            refine r_iload cx dL_steps_180 rfl ?_
                            refine r_istore cx dL_steps_182 (by decide) rfl ?_
                            refine r_iincN (j := 1) cx dL_steps_184 rfl rfl (by decide) rfl ?_
                            refine r_goto (tgt := 30) cx dL_steps_187 (by decide) ?_
                            exact r_lv (q_pk [5, 6, 7, 8, 9, 10, 1, 0] rfl) (ih_1 ((k + 1) + 1, (nI (Dv a.reverse b.reverse (i) (k + 1)), (upd d1 (k + 1) (nI (Dv a.reverse b.reverse ((i + 1)) ((k + 1)))), w))) ⟨by omega, fun j hj => by
    have hj : j < (k + 1) + 1 := hj
    show upd d1 (k + 1) _ j = _
    by_cases e9 : j = (k + 1)
    · rw [e9, pk_us]
    · rw [pk_un e9]
      exact h1 j (by omega), fun hi j hj hj2 => by
    have hj : (k + 1) + 1 ≤ j := hj
    show upd d1 (k + 1) _ j = _
    rw [pk_un (by omega)]
    exact h2 hi j (by omega) hj2, fun _ _ => rfl, hw⟩ (by show b.length + 1 - ((k + 1) + 1) < b.length + 1 - (k + 1); omega))
                          · skip
                            refine r_aload cx dL_steps_157 rfl ?_
                            refine r_iload cx dL_steps_159 rfl ?_
                            refine r_iconst (v := nI 1) cx dL_steps_161 (by decide) ?_
                            first | refine r_isubN cx dL_steps_162 (by omega) ?_ | refine r_isub cx dL_steps_162 ?_
                            refine ll_8 cx dL_steps_163 hw (by omega) ?_
                            refine r_eqi (y := nI (Dv a.reverse b.reverse (i + 1) (k))) hLf ?_
                            refine r_iconst (v := nI 1) cx dL_steps_164 (by decide) ?_
                            first | refine r_iaddN cx dL_steps_165 ?_ | refine r_iadd cx dL_steps_165 ?_
                            refine r_goto (tgt := 171) cx dL_steps_166 (by decide) ?_
                            refine r_istore cx dL_steps_171 (by decide) rfl ?_
                            refine r_aload cx dL_steps_173 rfl ?_
                            refine r_iload cx dL_steps_175 rfl ?_
                            refine r_iload cx dL_steps_177 rfl ?_
                            refine r_eqi (y := nI (Dv a.reverse b.reverse (i + 1) (k + 1))) (congrArg nI (by
                              rw [Dv_s (by omega) (by omega)]
                              rw [if_neg h_66]
                              omega)) ?_
                            refine ls_8 cx dL_steps_179 hw (by omega) (fun w hw => ?_)
                            refine r_iload cx dL_steps_180 rfl ?_
                            refine r_istore cx dL_steps_182 (by decide) rfl ?_
                            refine r_iincN (j := 1) cx dL_steps_184 rfl rfl (by decide) rfl ?_
                            refine r_goto (tgt := 30) cx dL_steps_187 (by decide) ?_
                            exact r_lv (q_pk [5, 6, 7, 8, 9, 10, 1, 0] rfl) (ih_1 ((k + 1) + 1, (nI (Dv a.reverse b.reverse (i) (k + 1)), (upd d1 (k + 1) (nI (Dv a.reverse b.reverse ((i + 1)) ((k + 1)))), w))) ⟨by omega, fun j hj => by
    have hj : j < (k + 1) + 1 := hj
    show upd d1 (k + 1) _ j = _
    by_cases e9 : j = (k + 1)
    · rw [e9, pk_us]
    · rw [pk_un e9]
      exact h1 j (by omega), fun hi j hj hj2 => by
    have hj : (k + 1) + 1 ≤ j := hj
    show upd d1 (k + 1) _ j = _
    rw [pk_un (by omega)]
    exact h2 hi j (by omega) hj2, fun _ _ => rfl, hw⟩ (by show b.length + 1 - ((k + 1) + 1) < b.length + 1 - (k + 1); omega))
              · exact absurd h_88 (by omega)
            · exact absurd h_78 (by omega)
          · skip
            refine r_iconst (v := nI 0) cx dL_steps_69 (by decide) ?_
            refine r_goto (tgt := 74) cx dL_steps_70 (by decide) ?_
            refine r_istore cx dL_steps_74 (by decide) rfl ?_
            refine r_iload cx dL_steps_76 rfl ?_
            refine r_ifneN (tgt := 86) cx (by omega) dL_steps_78 (by decide) (fun h_78 => ?_) (fun h_78 => ?_)
            · skip
              refine r_iload cx dL_steps_86 rfl ?_
              refine r_ifneN (tgt := 96) cx (by omega) dL_steps_88 (by decide) (fun h_88 => ?_) (fun h_88 => ?_)
              · skip
                refine r_iload cx dL_steps_96 rfl ?_
                refine r_iload cx dL_steps_98 rfl ?_
                first | refine r_iaddN cx dL_steps_100 ?_ | refine r_iadd cx dL_steps_100 ?_
                refine r_istore cx dL_steps_101 (by decide) rfl ?_
                refine r_iload cx dL_steps_103 rfl ?_
                refine r_ifleN (tgt := 129) cx (by omega) dL_steps_105 (by decide) (fun h_105 => ?_) (fun h_105 => ?_)
                · exact absurd h_105 (by omega)
                · skip
                  refine r_iload cx dL_steps_108 rfl ?_
                  refine r_ifleN (tgt := 129) cx (by omega) dL_steps_110 (by decide) (fun h_110 => ?_) (fun h_110 => ?_)
                  · exact absurd h_110 (by omega)
                  · skip
                    refine r_iload cx dL_steps_113 rfl ?_
                    refine r_iconst (v := nI 1) cx dL_steps_115 (by decide) ?_
                    first | refine r_iaddN cx dL_steps_116 ?_ | refine r_iadd cx dL_steps_116 ?_
                    refine r_iload cx dL_steps_117 rfl ?_
                    refine r_icmpgeN (tgt := 129) cx (by omega) (by omega) dL_steps_119 (by decide) (fun h_119 => ?_) (fun h_119 => ?_)
                    · skip
                      refine r_iload cx dL_steps_129 rfl ?_
                      refine r_istore cx dL_steps_131 (by decide) rfl ?_
                      refine r_iload cx dL_steps_133 rfl ?_
                      refine r_ifleN (tgt := 169) cx (by omega) dL_steps_135 (by decide) (fun h_135 => ?_) (fun h_135 => ?_)
                      · exact absurd h_135 (by omega)
                      · skip
                        refine r_iload cx dL_steps_138 rfl ?_
                        refine r_ifleN (tgt := 169) cx (by omega) dL_steps_140 (by decide) (fun h_140 => ?_) (fun h_140 => ?_)
                        · exact absurd h_140 (by omega)
                        · skip
                          refine r_aload cx dL_steps_143 rfl ?_
                          refine r_iload cx dL_steps_145 rfl ?_
                          refine r_iconst (v := nI 1) cx dL_steps_147 (by decide) ?_
                          first | refine r_isubN cx dL_steps_148 (by omega) ?_ | refine r_isub cx dL_steps_148 ?_
                          refine ll_8 cx dL_steps_149 hw (by omega) ?_
                          refine r_eqi (y := nI (Dv a.reverse b.reverse (i + 1) (k))) hLf ?_
                          refine r_iconst (v := nI 1) cx dL_steps_150 (by decide) ?_
                          first | refine r_iaddN cx dL_steps_151 ?_ | refine r_iadd cx dL_steps_151 ?_
                          refine r_iload cx dL_steps_152 rfl ?_
                          refine r_icmpgeN (tgt := 169) cx (by omega) (by omega) dL_steps_154 (by decide) (fun h_154 => ?_) (fun h_154 => ?_)
                          · skip
                            refine r_iload cx dL_steps_169 rfl ?_
                            refine r_istore cx dL_steps_171 (by decide) rfl ?_
                            refine r_aload cx dL_steps_173 rfl ?_
                            refine r_iload cx dL_steps_175 rfl ?_
                            refine r_iload cx dL_steps_177 rfl ?_
                            refine r_eqi (y := nI (Dv a.reverse b.reverse (i + 1) (k + 1))) (congrArg nI (by
                              rw [Dv_s (by omega) (by omega)]
                              rw [if_pos h_66]
                              omega)) ?_
                            refine ls_8 cx dL_steps_179 hw (by omega) (fun w hw => ?_)
                            refine r_iload cx dL_steps_180 rfl ?_
                            refine r_istore cx dL_steps_182 (by decide) rfl ?_
                            refine r_iincN (j := 1) cx dL_steps_184 rfl rfl (by decide) rfl ?_
                            refine r_goto (tgt := 30) cx dL_steps_187 (by decide) ?_
                            exact r_lv (q_pk [5, 6, 7, 8, 9, 10, 1, 0] rfl) (ih_1 ((k + 1) + 1, (nI (Dv a.reverse b.reverse (i) (k + 1)), (upd d1 (k + 1) (nI (Dv a.reverse b.reverse ((i + 1)) ((k + 1)))), w))) ⟨by omega, fun j hj => by
    have hj : j < (k + 1) + 1 := hj
    show upd d1 (k + 1) _ j = _
    by_cases e9 : j = (k + 1)
    · rw [e9, pk_us]
    · rw [pk_un e9]
      exact h1 j (by omega), fun hi j hj hj2 => by
    have hj : (k + 1) + 1 ≤ j := hj
    show upd d1 (k + 1) _ j = _
    rw [pk_un (by omega)]
    exact h2 hi j (by omega) hj2, fun _ _ => rfl, hw⟩ (by show b.length + 1 - ((k + 1) + 1) < b.length + 1 - (k + 1); omega))
                          · skip
                            refine r_aload cx dL_steps_157 rfl ?_
                            refine r_iload cx dL_steps_159 rfl ?_
                            refine r_iconst (v := nI 1) cx dL_steps_161 (by decide) ?_
                            first | refine r_isubN cx dL_steps_162 (by omega) ?_ | refine r_isub cx dL_steps_162 ?_
                            refine ll_8 cx dL_steps_163 hw (by omega) ?_
                            refine r_eqi (y := nI (Dv a.reverse b.reverse (i + 1) (k))) hLf ?_
                            refine r_iconst (v := nI 1) cx dL_steps_164 (by decide) ?_
                            first | refine r_iaddN cx dL_steps_165 ?_ | refine r_iadd cx dL_steps_165 ?_
                            refine r_goto (tgt := 171) cx dL_steps_166 (by decide) ?_
                            refine r_istore cx dL_steps_171 (by decide) rfl ?_
                            refine r_aload cx dL_steps_173 rfl ?_
                            refine r_iload cx dL_steps_175 rfl ?_
                            refine r_iload cx dL_steps_177 rfl ?_
                            refine r_eqi (y := nI (Dv a.reverse b.reverse (i + 1) (k + 1))) (congrArg nI (by
                              rw [Dv_s (by omega) (by omega)]
                              rw [if_pos h_66]
                              omega)) ?_
                            refine ls_8 cx dL_steps_179 hw (by omega) (fun w hw => ?_)
                            refine r_iload cx dL_steps_180 rfl ?_
                            refine r_istore cx dL_steps_182 (by decide) rfl ?_
                            refine r_iincN (j := 1) cx dL_steps_184 rfl rfl (by decide) rfl ?_
                            refine r_goto (tgt := 30) cx dL_steps_187 (by decide) ?_
                            exact r_lv (q_pk [5, 6, 7, 8, 9, 10, 1, 0] rfl) (ih_1 ((k + 1) + 1, (nI (Dv a.reverse b.reverse (i) (k + 1)), (upd d1 (k + 1) (nI (Dv a.reverse b.reverse ((i + 1)) ((k + 1)))), w))) ⟨by omega, fun j hj => by
    have hj : j < (k + 1) + 1 := hj
    show upd d1 (k + 1) _ j = _
    by_cases e9 : j = (k + 1)
    · rw [e9, pk_us]
    · rw [pk_un e9]
      exact h1 j (by omega), fun hi j hj hj2 => by
    have hj : (k + 1) + 1 ≤ j := hj
    show upd d1 (k + 1) _ j = _
    rw [pk_un (by omega)]
    exact h2 hi j (by omega) hj2, fun _ _ => rfl, hw⟩ (by show b.length + 1 - ((k + 1) + 1) < b.length + 1 - (k + 1); omega))
                    · skip
                      refine r_iload cx dL_steps_122 rfl ?_
                      refine r_iconst (v := nI 1) cx dL_steps_124 (by decide) ?_
                      first | refine r_iaddN cx dL_steps_125 ?_ | refine r_iadd cx dL_steps_125 ?_
                      refine r_goto (tgt := 131) cx dL_steps_126 (by decide) ?_
                      refine r_istore cx dL_steps_131 (by decide) rfl ?_
                      refine r_iload cx dL_steps_133 rfl ?_
                      refine r_ifleN (tgt := 169) cx (by omega) dL_steps_135 (by decide) (fun h_135 => ?_) (fun h_135 => ?_)
                      · exact absurd h_135 (by omega)
                      · skip
                        refine r_iload cx dL_steps_138 rfl ?_
                        refine r_ifleN (tgt := 169) cx (by omega) dL_steps_140 (by decide) (fun h_140 => ?_) (fun h_140 => ?_)
                        · exact absurd h_140 (by omega)
                        · skip
                          refine r_aload cx dL_steps_143 rfl ?_
                          refine r_iload cx dL_steps_145 rfl ?_
                          refine r_iconst (v := nI 1) cx dL_steps_147 (by decide) ?_
                          first | refine r_isubN cx dL_steps_148 (by omega) ?_ | refine r_isub cx dL_steps_148 ?_
                          refine ll_8 cx dL_steps_149 hw (by omega) ?_
                          refine r_eqi (y := nI (Dv a.reverse b.reverse (i + 1) (k))) hLf ?_
                          refine r_iconst (v := nI 1) cx dL_steps_150 (by decide) ?_
                          first | refine r_iaddN cx dL_steps_151 ?_ | refine r_iadd cx dL_steps_151 ?_
                          refine r_iload cx dL_steps_152 rfl ?_
                          refine r_icmpgeN (tgt := 169) cx (by omega) (by omega) dL_steps_154 (by decide) (fun h_154 => ?_) (fun h_154 => ?_)
                          · skip
                            refine r_iload cx dL_steps_169 rfl ?_
                            refine r_istore cx dL_steps_171 (by decide) rfl ?_
                            refine r_aload cx dL_steps_173 rfl ?_
                            refine r_iload cx dL_steps_175 rfl ?_
                            refine r_iload cx dL_steps_177 rfl ?_
                            refine r_eqi (y := nI (Dv a.reverse b.reverse (i + 1) (k + 1))) (congrArg nI (by
                              rw [Dv_s (by omega) (by omega)]
                              rw [if_pos h_66]
                              omega)) ?_
                            refine ls_8 cx dL_steps_179 hw (by omega) (fun w hw => ?_)
                            refine r_iload cx dL_steps_180 rfl ?_
                            refine r_istore cx dL_steps_182 (by decide) rfl ?_
                            refine r_iincN (j := 1) cx dL_steps_184 rfl rfl (by decide) rfl ?_
                            refine r_goto (tgt := 30) cx dL_steps_187 (by decide) ?_
                            exact r_lv (q_pk [5, 6, 7, 8, 9, 10, 1, 0] rfl) (ih_1 ((k + 1) + 1, (nI (Dv a.reverse b.reverse (i) (k + 1)), (upd d1 (k + 1) (nI (Dv a.reverse b.reverse ((i + 1)) ((k + 1)))), w))) ⟨by omega, fun j hj => by
    have hj : j < (k + 1) + 1 := hj
    show upd d1 (k + 1) _ j = _
    by_cases e9 : j = (k + 1)
    · rw [e9, pk_us]
    · rw [pk_un e9]
      exact h1 j (by omega), fun hi j hj hj2 => by
    have hj : (k + 1) + 1 ≤ j := hj
    show upd d1 (k + 1) _ j = _
    rw [pk_un (by omega)]
    exact h2 hi j (by omega) hj2, fun _ _ => rfl, hw⟩ (by show b.length + 1 - ((k + 1) + 1) < b.length + 1 - (k + 1); omega))
                          · skip
                            refine r_aload cx dL_steps_157 rfl ?_
                            refine r_iload cx dL_steps_159 rfl ?_
                            refine r_iconst (v := nI 1) cx dL_steps_161 (by decide) ?_
                            first | refine r_isubN cx dL_steps_162 (by omega) ?_ | refine r_isub cx dL_steps_162 ?_
                            refine ll_8 cx dL_steps_163 hw (by omega) ?_
                            refine r_eqi (y := nI (Dv a.reverse b.reverse (i + 1) (k))) hLf ?_
                            refine r_iconst (v := nI 1) cx dL_steps_164 (by decide) ?_
                            first | refine r_iaddN cx dL_steps_165 ?_ | refine r_iadd cx dL_steps_165 ?_
                            refine r_goto (tgt := 171) cx dL_steps_166 (by decide) ?_
                            refine r_istore cx dL_steps_171 (by decide) rfl ?_
                            refine r_aload cx dL_steps_173 rfl ?_
                            refine r_iload cx dL_steps_175 rfl ?_
                            refine r_iload cx dL_steps_177 rfl ?_
                            refine r_eqi (y := nI (Dv a.reverse b.reverse (i + 1) (k + 1))) (congrArg nI (by
                              rw [Dv_s (by omega) (by omega)]
                              rw [if_pos h_66]
                              omega)) ?_
                            refine ls_8 cx dL_steps_179 hw (by omega) (fun w hw => ?_)
                            refine r_iload cx dL_steps_180 rfl ?_
                            refine r_istore cx dL_steps_182 (by decide) rfl ?_
                            refine r_iincN (j := 1) cx dL_steps_184 rfl rfl (by decide) rfl ?_
                            refine r_goto (tgt := 30) cx dL_steps_187 (by decide) ?_
                            exact r_lv (q_pk [5, 6, 7, 8, 9, 10, 1, 0] rfl) (ih_1 ((k + 1) + 1, (nI (Dv a.reverse b.reverse (i) (k + 1)), (upd d1 (k + 1) (nI (Dv a.reverse b.reverse ((i + 1)) ((k + 1)))), w))) ⟨by omega, fun j hj => by
    have hj : j < (k + 1) + 1 := hj
    show upd d1 (k + 1) _ j = _
    by_cases e9 : j = (k + 1)
    · rw [e9, pk_us]
    · rw [pk_un e9]
      exact h1 j (by omega), fun hi j hj hj2 => by
    have hj : (k + 1) + 1 ≤ j := hj
    show upd d1 (k + 1) _ j = _
    rw [pk_un (by omega)]
    exact h2 hi j (by omega) hj2, fun _ _ => rfl, hw⟩ (by show b.length + 1 - ((k + 1) + 1) < b.length + 1 - (k + 1); omega))
              · exact absurd h_88 (by omega)
            · exact absurd h_78 (by omega)
