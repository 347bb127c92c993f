theorem kcf {a : Bool} (h : a = true) : kc (!a) false false = 0 := by rw [h]; rfl
theorem inT {j n : Nat} (hj : j < n) (hn : n ≤ 2147483648) : inR (nI j) n = true := by rw [inR_nI (by omega)]; exact decide_eq_true hj
theorem inT2 {j n i m : Nat} (hj : j < n) (hn : n ≤ 2147483648) (hi : i < m) (hm : m ≤ 2147483648) : (inR (nI j) n && inR (nI i) m) = true := by rw [inT hj hn, inT hi hm]; rfl
theorem lt_m1 {x : Int32} (h : x = -1 ∨ ∃ k : Nat, k < 43046721 ∧ x = nI k) : x < 0 ↔ x = -1 := by
  rcases h with rfl | ⟨k, hk, rfl⟩
  · exact ⟨fun _ => rfl, fun _ => by decide⟩
  · exact ⟨fun z => absurd z (nI_pos (by omega)), fun z => absurd z (nI_nm1 (by omega))⟩
theorem b1_f {b : Bool} (h : ¬ bI b = nI 1) : b = false := by
  cases b with
  | false => rfl
  | true => exact absurd rfl h
theorem b1_t {b : Bool} (h : bI b = nI 1) : b = true := by
  cases b with
  | true => rfl
  | false => exact absurd h (by decide)
theorem lR_up {N : Nat → Nat} {A : Nat → Nat → Int32} {B : Nat → Nat → Bool} {L : Nat → Nat → Int64} {Z : Nat → Nat → Int32} {f6 f7 f8 : Nat → Int32} (h : lR N A B L Z) : lR N A B L (va_up (va_up (va_up Z 6 f6) 7 f7) 8 f8) := h
set_option maxHeartbeats 4000000 in
set_option maxRecDepth 100000 in
theorem c_LisMap (l : Launch) (g : q_G) (N : Nat → Nat) (A : Nat → Nat → Int32) (B : Nat → Nat → Bool) (L : Nat → Nat → Int64) (ws : va_W) (a0 : Nat) (ld : Nat → Nat) (Z : Nat → Nat → Int32) (hw : cR g a0 N A B L (lF g ld Z) ws) (hZ : lR N A B L Z) (w0 : Nat) (hw0 : w0 < 4) : MetW l g yL_isMap cL_isMap 10 (some .boolean) ({ frames := 7, cells := 0, slots := 0, locals := 161 } : Room) [.ref a0, .int (nI w0), .ref (ld 1), .ref (ld 2), .ref (ld 0)] (ws) (q_Qi g (fun r w => r = nI 1 ∧ w = ws)) := by
  refine q_met (own := RL) (by decide +kernel) rfl (Nat.le_of_ble_eq_true rfl) (fun p e s m args below meth c cx hr hnm => ?_)
  obtain ⟨hI, ⟨b1, b2, b3⟩, ⟨z0, z1, z2, z3, z4, z5, z6⟩, zK, zR, zV, zU, zE, zC⟩ := id hZ
  obtain ⟨⟨i1, i2, i3, i4⟩, j2, j3, j4, j5, j6, j7, j8, j9, j10, j11⟩ := id hI
  refine r_lv (lv2 := [(0, .ref a0), (1, .int (nI w0)), (2, .ref (ld 1)), (3, .ref (ld 2)), (4, .ref (ld 0))]) (q_pk [0, 1, 2, 3, 4] rfl) ?_
  refine r_iconst (v := nI 0) cx dL_isMap_0 (by decide) ?_
  refine r_eqi (y := drwF (fun q => mst (hrS B) (fiS A) (N 1) (nI w0) (nI q)) (min 0 9)) rfl ?_
  refine r_istore cx dL_isMap_1 (by decide) rfl ?_
  refine r_iconst (v := nI 1) cx dL_isMap_3 (by decide) ?_
  refine r_istore cx dL_isMap_4 (by decide) rfl ?_
  refine r_iconst (v := nI 0) cx dL_isMap_6 (by decide) ?_
  refine r_istore cx dL_isMap_7 (by decide) rfl ?_
  refine at_loop (fun (x : Nat) => x ≤ 10) (fun x => [(0, .ref a0), (1, .int (nI w0)), (2, .ref (ld 1)), (3, .ref (ld 2)), (4, .ref (ld 0)), (5, .int (drwF (fun q => mst (hrS B) (fiS A) (N 1) (nI w0) (nI q)) (min x 9))), (6, .int (nI 1)), (7, .int (nI x))]) (fun x => ws) (fun x => 10 - x) 0 (Nat.zero_le _) (q_pk [3, 4, 5, 6, 7, 2, 1, 0] rfl) rfl (fun k hx ih => ?_)
  try dsimp only at hx ⊢
  refine r_iload cx dL_isMap_9 rfl ?_
  refine r_bipush (v := nI 10) cx dL_isMap_11 (by decide) ?_
  refine r_icmpgeN (tgt := 113) cx (by omega) (by omega) dL_isMap_13 (by decide) (fun h_13 => ?_) (fun h_13 => ?_)
  · skip
    obtain rfl : k = 10 := by omega
    rw [show min 10 9 = 9 from by decide]
    refine r_iload cx dL_isMap_113 rfl ?_
    refine r_ifeqN (tgt := 142) cx (by omega) dL_isMap_115 (by decide) (fun h_115 => ?_) (fun h_115 => ?_)
    · exact absurd h_115 (by decide)
    · skip
      refine r_aload_n cx dL_isMap_118 rfl rfl ?_
      refine r_iload_n cx dL_isMap_119 rfl rfl ?_
      refine kW_L_52 cx (p_lines l g N A B L _ _ a0 hI hw (nI w0) (kcf (inT hw0 (by decide)))) dL_isMap_120 hw  ⟨Nat.le_of_ble_eq_true rfl, Nat.le_of_ble_eq_true rfl⟩ ⟨Nat.le_of_ble_eq_true rfl, Nat.le_of_ble_eq_true rfl⟩ rfl rfl (Nat.le_of_ble_eq_true rfl) (fun r w hp => ?_)
      obtain ⟨-, rfl, rfl⟩ := hp
      refine r_iload cx dL_isMap_123 rfl ?_
      refine r_icmpne (tgt := 142) cx dL_isMap_125 (by decide) (fun h_125 => ?_) (fun h_125 => ?_)
      · exact absurd rfl h_125
      · skip
        refine r_aload_n cx dL_isMap_128 rfl rfl ?_
        refine r_iload_n cx dL_isMap_129 rfl rfl ?_
        refine kW_L_55 cx (p_linesByForms l g N A B L _ _ a0 hI hw (nI w0) (kcf (inT hw0 (by decide)))) dL_isMap_130 hw  ⟨Nat.le_of_ble_eq_true rfl, Nat.le_of_ble_eq_true rfl⟩ ⟨Nat.le_of_ble_eq_true rfl, Nat.le_of_ble_eq_true rfl⟩ rfl rfl (Nat.le_of_ble_eq_true rfl) (fun r w hp => ?_)
        obtain ⟨-, rfl, rfl⟩ := hp
        refine r_iload cx dL_isMap_133 rfl ?_
        refine r_icmpne (tgt := 142) cx dL_isMap_135 (by decide) (fun h_135 => ?_) (fun h_135 => ?_)
        · exact absurd rfl h_135
        · skip
          refine r_iconst (v := nI 1) cx dL_isMap_138 (by decide) ?_
          refine r_goto (tgt := 143) cx dL_isMap_139 (by decide) ?_
          exact r_zret cx dL_isMap_143 hr rfl (⟨rfl, rfl⟩) (Nat.le_of_ble_eq_true rfl) (Nat.le_of_ble_eq_true rfl)
  · skip
    refine r_iload cx dL_isMap_16 rfl ?_
    refine r_ifeqN (tgt := 113) cx (by omega) dL_isMap_18 (by decide) (fun h_18 => ?_) (fun h_18 => ?_)
    · exact absurd h_18 (by decide)
    · skip
      have hv1 := mst_val hI (nI w0) (nI k)
      have htv : (if k = 9 then (-1 : Int32) else mst (hrS B) (fiS A) (N 1) (nI w0) (nI (k + 1))) = -1 ∨ ∃ q : Nat, q < 43046721 ∧ (if k = 9 then (-1 : Int32) else mst (hrS B) (fiS A) (N 1) (nI w0) (nI (k + 1))) = nI q := by
        split
        · exact Or.inl rfl
        · exact mst_val hI _ _
      refine r_iload_n cx dL_isMap_21 rfl rfl ?_
      refine r_iload cx dL_isMap_22 rfl ?_
      refine r_aload_n cx dL_isMap_24 rfl rfl ?_
      refine r_aload_n cx dL_isMap_25 rfl rfl ?_
      refine r_aload cx dL_isMap_26 rfl ?_
      refine k_L_46 cx (c_LformAt l g N A B L _ a0 ld Z hw hZ (nI w0) (nI k)) dL_isMap_28 ⟨Nat.le_of_ble_eq_true rfl, Nat.le_of_ble_eq_true rfl⟩ ⟨Nat.le_of_ble_eq_true rfl, Nat.le_of_ble_eq_true rfl⟩ rfl rfl (Nat.le_of_ble_eq_true rfl) (fun r w hp => ?_)
      obtain ⟨rfl, rfl⟩ := hp
      refine r_istore cx dL_isMap_31 (by decide) rfl ?_
      refine at_val (tgt := 56) (fun z => z = (if k = 9 then (-1 : Int32) else mst (hrS B) (fiS A) (N 1) (nI w0) (nI (k + 1)))) (fun z hz => ?_) (fun J_56 => ?_)
      · subst hz
        refine r_istore cx dL_isMap_56 (by decide) rfl ?_
        refine r_iload cx dL_isMap_58 rfl ?_
        refine at_val (tgt := 85) (fun z => z = nI (lnb (mst (hrS B) (fiS A) (N 1) (nI w0) (nI k)) (if k = 9 then (-1 : Int32) else mst (hrS B) (fiS A) (N 1) (nI w0) (nI (k + 1))) k)) (fun z hz => ?_) (fun J_85 => ?_)
        · subst hz
          refine r_ior cx dL_isMap_85 ?_
          refine r_istore cx dL_isMap_86 (by decide) rfl ?_
          refine r_aload_n cx dL_isMap_88 rfl rfl ?_
          refine r_iload_n cx dL_isMap_89 rfl rfl ?_
          refine r_iload cx dL_isMap_90 rfl ?_
          refine kW_L_50 cx (p_formAt l g N A B L _ _ a0 hI hw (nI w0) (nI k) (kcf (inT2 hw0 (by decide) h_13 (by decide)))) dL_isMap_92 hw  ⟨Nat.le_of_ble_eq_true rfl, Nat.le_of_ble_eq_true rfl⟩ ⟨Nat.le_of_ble_eq_true rfl, Nat.le_of_ble_eq_true rfl⟩ rfl rfl (Nat.le_of_ble_eq_true rfl) (fun r w hp => ?_)
          obtain ⟨-, rfl, rfl⟩ := hp
          refine r_iload cx dL_isMap_95 rfl ?_
          refine r_icmpne (tgt := 104) cx dL_isMap_97 (by decide) (fun h_97 => ?_) (fun h_97 => ?_)
          · exact absurd rfl h_97
          · skip
            refine r_iconst (v := nI 1) cx dL_isMap_100 (by decide) ?_
            refine r_goto (tgt := 105) cx dL_isMap_101 (by decide) ?_
            refine r_istore cx dL_isMap_105 (by decide) rfl ?_
            refine r_iincN (j := 1) cx dL_isMap_107 rfl rfl (by decide) rfl ?_
            refine r_goto (tgt := 9) cx dL_isMap_110 (by decide) ?_
            have e9 : drwF (fun q => mst (hrS B) (fiS A) (N 1) (nI w0) (nI q)) (min (k + 1) 9) = drwF (fun q => mst (hrS B) (fiS A) (N 1) (nI w0) (nI q)) (min k 9) ||| nI (lnb (mst (hrS B) (fiS A) (N 1) (nI w0) (nI k)) (if k = 9 then (-1 : Int32) else mst (hrS B) (fiS A) (N 1) (nI w0) (nI (k + 1))) k) := by
              by_cases h9 : k = 9
              · subst h9
                rw [if_pos rfl, lnb, if_neg (fun z => z.2.1 rfl), or_0]
                rfl
              · rw [if_neg h9, show min (k + 1) 9 = k + 1 by omega, show min k 9 = k by omega]
                exact drw_step _ (by omega)
            have z9 := ih (k + 1) (by omega) (by omega)
            try dsimp only at z9
            rw [e9] at z9
            exact r_lv (q_pk [5, 6, 7, 8, 9, 2, 1, 0] rfl) (z9)
        · skip
          refine r_iload cx dL_isMap_60 rfl ?_
          refine r_iflt (tgt := 84) cx dL_isMap_62 (by decide) (fun h_62 => ?_) (fun h_62 => ?_)
          · skip
            refine r_iconst (v := nI 0) cx dL_isMap_84 (by decide) ?_
            exact J_85 _ (by rw [lnb, if_neg (fun z => z.1 ((lt_m1 hv1).mp h_62))])
          · skip
            refine r_iload cx dL_isMap_65 rfl ?_
            refine r_iflt (tgt := 84) cx dL_isMap_67 (by decide) (fun h_67 => ?_) (fun h_67 => ?_)
            · skip
              refine r_iconst (v := nI 0) cx dL_isMap_84 (by decide) ?_
              exact J_85 _ (by rw [lnb, if_neg (fun z => z.2.1 ((lt_m1 htv).mp h_67))])
            · skip
              refine r_iload cx dL_isMap_70 rfl ?_
              refine r_iload cx dL_isMap_72 rfl ?_
              refine r_icmpeq (tgt := 84) cx dL_isMap_74 (by decide) (fun h_74 => ?_) (fun h_74 => ?_)
              · skip
                refine r_iconst (v := nI 0) cx dL_isMap_84 (by decide) ?_
                exact J_85 _ (by rw [lnb, if_neg (fun z => z.2.2 h_74)])
              · skip
                refine r_iconst (v := nI 1) cx dL_isMap_77 (by decide) ?_
                refine r_iload cx dL_isMap_78 rfl ?_
                refine r_ishl cx dL_isMap_80 ?_
                refine r_eqi (shl1 (by omega)) ?_
                refine r_goto (tgt := 85) cx dL_isMap_81 (by decide) ?_
                exact J_85 _ (by rw [lnb, if_pos ⟨fun z => h_62 ((lt_m1 hv1).mpr z), fun z => h_67 ((lt_m1 htv).mpr z), h_74⟩])
      · skip
        refine r_iload cx dL_isMap_33 rfl ?_
        refine r_bipush (v := nI 9) cx dL_isMap_35 (by decide) ?_
        refine r_icmpneN (tgt := 44) cx (by omega) (by omega) dL_isMap_37 (by decide) (fun h_37 => ?_) (fun h_37 => ?_)
        · skip
          refine r_iload_n cx dL_isMap_44 rfl rfl ?_
          refine r_iload cx dL_isMap_45 rfl ?_
          refine r_iconst (v := nI 1) cx dL_isMap_47 (by decide) ?_
          first | refine r_iaddN cx dL_isMap_48 ?_ | refine r_iadd cx dL_isMap_48 ?_
          refine r_aload_n cx dL_isMap_49 rfl rfl ?_
          refine r_aload_n cx dL_isMap_50 rfl rfl ?_
          refine r_aload cx dL_isMap_51 rfl ?_
          refine k_L_46 cx (c_LformAt l g N A B L _ a0 ld Z hw hZ (nI w0) (nI (k + 1))) dL_isMap_53 ⟨Nat.le_of_ble_eq_true rfl, Nat.le_of_ble_eq_true rfl⟩ ⟨Nat.le_of_ble_eq_true rfl, Nat.le_of_ble_eq_true rfl⟩ rfl rfl (Nat.le_of_ble_eq_true rfl) (fun r w hp => ?_)
          obtain ⟨rfl, rfl⟩ := hp
          exact J_56 _ (by rw [if_neg h_37])
        · skip
          refine r_iconst (v := -1) cx dL_isMap_40 (by decide) ?_
          refine r_goto (tgt := 56) cx dL_isMap_41 (by decide) ?_
          exact J_56 _ (by rw [if_pos h_37])
set_option maxHeartbeats 4000000 in
set_option maxRecDepth 100000 in
theorem c_LisSo (l : Launch) (g : q_G) (N : Nat → Nat) (A : Nat → Nat → Int32) (B : Nat → Nat → Bool) (L : Nat → Nat → Int64) (ws : va_W) (a0 : Nat) (ld : Nat → Nat) (Z : Nat → Nat → Int32) (hw : cR g a0 N A B L (lF g ld Z) ws) (hZ : lR N A B L Z) (zz : Int32) : MetW l g yL_isSo cL_isSo 14 (some .boolean) ({ frames := 8, cells := 0, slots := 0, locals := 190 } : Room) [.ref a0, .int zz, .ref (ld 1), .ref (ld 2), .ref (ld 3), .ref (ld 5), .ref (ld 6), .ref (ld 7), .ref (ld 8), .ref (ld 0)] (ws) (q_Qi g (fun r w => r = nI 1 ∧ ∃ Z2, lR N A B L Z2 ∧ cR g a0 N A B L (lF g ld Z2) w)) := by
  refine q_met (own := RL) (by decide +kernel) rfl (Nat.le_of_ble_eq_true rfl) (fun p e s m args below meth c cx hr hnm => ?_)
  obtain ⟨hI, ⟨b1, b2, b3⟩, ⟨z0, z1, z2, z3, z4, z5, z6⟩, zK, zR, zV, zU, zE, zC⟩ := id hZ
  obtain ⟨⟨i1, i2, i3, i4⟩, j2, j3, j4, j5, j6, j7, j8, j9, j10, j11⟩ := id hI
  refine r_lv (lv2 := [(0, .ref a0), (1, .int zz), (2, .ref (ld 1)), (3, .ref (ld 2)), (4, .ref (ld 3)), (5, .ref (ld 5)), (6, .ref (ld 6)), (7, .ref (ld 7)), (8, .ref (ld 8)), (9, .ref (ld 0))]) (q_pk [0, 1, 2, 3, 4, 5, 6, 7, 8, 9] rfl) ?_
  refine r_aload_n cx dL_isSo_0 rfl rfl ?_
  refine r_iload_n cx dL_isSo_1 rfl rfl ?_
  refine r_iconst (v := nI 4) cx dL_isSo_2 (by decide) ?_
  refine k_L_58 cx (c_Low l g _ zz 4 (by decide) (by decide)) dL_isSo_3 ⟨Nat.le_of_ble_eq_true rfl, Nat.le_of_ble_eq_true rfl⟩ ⟨Nat.le_of_ble_eq_true rfl, Nat.le_of_ble_eq_true rfl⟩ rfl rfl (Nat.le_of_ble_eq_true rfl) (fun r w hp => ?_)
  obtain ⟨⟨w0, hw0, rfl⟩, rfl⟩ := hp
  refine r_aload_n cx dL_isSo_6 rfl rfl ?_
  refine r_aload_n cx dL_isSo_7 rfl rfl ?_
  refine r_aload cx dL_isSo_8 rfl ?_
  refine k_L_61 cx (c_LisMap l g N A B L _ a0 ld Z hw hZ w0 hw0) dL_isSo_10 ⟨Nat.le_of_ble_eq_true rfl, Nat.le_of_ble_eq_true rfl⟩ ⟨Nat.le_of_ble_eq_true rfl, Nat.le_of_ble_eq_true rfl⟩ rfl rfl (Nat.le_of_ble_eq_true rfl) (fun r w hp => ?_)
  obtain ⟨rfl, rfl⟩ := hp
  refine r_istore cx dL_isSo_13 (by decide) rfl ?_
  refine r_iconst (v := nI 0) cx dL_isSo_15 (by decide) ?_
  refine r_istore cx dL_isSo_16 (by decide) rfl ?_
  refine at_loop (fun (x : Nat × ((Nat → Nat → Int32) × va_W)) => x.1 ≤ N 1 ∧ lR N A B L x.2.1 ∧ cR g a0 N A B L (lF g ld x.2.1) x.2.2) (fun x => [(0, .ref a0), (1, .int zz), (2, .ref (ld 1)), (3, .ref (ld 2)), (4, .ref (ld 3)), (5, .ref (ld 5)), (6, .ref (ld 6)), (7, .ref (ld 7)), (8, .ref (ld 8)), (9, .ref (ld 0)), (10, .int (nI 1)), (11, .int (nI x.1))]) (fun x => x.2.2) (fun x => N 1 - x.1) (0, (Z, _)) ⟨Nat.zero_le _, hZ, hw⟩ (q_pk [2, 3, 4, 5, 6, 7, 8, 9, 10, 11, 1, 0] rfl) rfl (fun x hx ih => ?_)
  obtain ⟨k, ⟨Z1, w1⟩⟩ := x
  try dsimp only at hx ⊢
  clear hw hZ
  obtain ⟨hx, hZ, hw⟩ := hx
  obtain ⟨hI, ⟨b1, b2, b3⟩, ⟨z0, z1, z2, z3, z4, z5, z6⟩, zK, zR, zV, zU, zE, zC⟩ := id hZ
  obtain ⟨⟨i1, i2, i3, i4⟩, j2, j3, j4, j5, j6, j7, j8, j9, j10, j11⟩ := id hI
  refine r_iload cx dL_isSo_18 rfl ?_
  refine r_aload cx dL_isSo_20 rfl ?_
  refine r_iconst (v := nI 2) cx dL_isSo_22 (by decide) ?_
  refine ll_0 cx dL_isSo_23 hw (by omega) ?_
  refine r_eqi z2 ?_
  refine r_icmpgeN (tgt := 170) cx (by omega) (by omega) dL_isSo_24 (by decide) (fun h_24 => ?_) (fun h_24 => ?_)
  · skip
    refine r_iconst (v := nI 0) cx dL_isSo_170 (by decide) ?_
    refine r_istore cx dL_isSo_171 (by decide) rfl ?_
    refine at_loop (fun (x : Nat) => x ≤ N 2) (fun x => [(0, .ref a0), (1, .int zz), (2, .ref (ld 1)), (3, .ref (ld 2)), (4, .ref (ld 3)), (5, .ref (ld 5)), (6, .ref (ld 6)), (7, .ref (ld 7)), (8, .ref (ld 8)), (9, .ref (ld 0)), (10, .int (nI 1)), (11, .int (nI x))]) (fun x => _) (fun x => N 2 - x) 0 (Nat.zero_le _) (q_pk [1, 2, 3, 4, 5, 6, 7, 8, 9, 10, 11, 0] rfl) rfl (fun k hx ih => ?_)
    try dsimp only at hx ⊢
    refine r_iload cx dL_isSo_173 rfl ?_
    refine r_aload cx dL_isSo_175 rfl ?_
    refine r_iconst (v := nI 3) cx dL_isSo_177 (by decide) ?_
    refine ll_0 cx dL_isSo_178 hw (by omega) ?_
    refine r_eqi z3 ?_
    refine r_icmpgeN (tgt := 227) cx (by omega) (by omega) dL_isSo_179 (by decide) (fun h_179 => ?_) (fun h_179 => ?_)
    · skip
      refine r_iconst (v := nI 0) cx dL_isSo_227 (by decide) ?_
      refine r_istore cx dL_isSo_228 (by decide) rfl ?_
      refine at_loop (fun (x : Nat) => x ≤ N 3) (fun x => [(0, .ref a0), (1, .int zz), (2, .ref (ld 1)), (3, .ref (ld 2)), (4, .ref (ld 3)), (5, .ref (ld 5)), (6, .ref (ld 6)), (7, .ref (ld 7)), (8, .ref (ld 8)), (9, .ref (ld 0)), (10, .int (nI 1)), (11, .int (nI x))]) (fun x => _) (fun x => N 3 - x) 0 (Nat.zero_le _) (q_pk [1, 2, 3, 4, 5, 6, 7, 8, 9, 10, 11, 0] rfl) rfl (fun k hx ih => ?_)
      try dsimp only at hx ⊢
      refine r_iload cx dL_isSo_230 rfl ?_
      refine r_aload cx dL_isSo_232 rfl ?_
      refine r_iconst (v := nI 4) cx dL_isSo_234 (by decide) ?_
      refine ll_0 cx dL_isSo_235 hw (by omega) ?_
      refine r_eqi z4 ?_
      refine r_icmpgeN (tgt := 293) cx (by omega) (by omega) dL_isSo_236 (by decide) (fun h_236 => ?_) (fun h_236 => ?_)
      · skip
        refine r_iconst (v := nI 0) cx dL_isSo_293 (by decide) ?_
        refine r_istore cx dL_isSo_294 (by decide) rfl ?_
        refine at_loop (fun (x : Nat) => x ≤ 3) (fun x => [(0, .ref a0), (1, .int zz), (2, .ref (ld 1)), (3, .ref (ld 2)), (4, .ref (ld 3)), (5, .ref (ld 5)), (6, .ref (ld 6)), (7, .ref (ld 7)), (8, .ref (ld 8)), (9, .ref (ld 0)), (10, .int (nI 1)), (11, .int (nI x))]) (fun x => _) (fun x => 3 - x) 0 (Nat.zero_le _) (q_pk [1, 2, 3, 4, 5, 6, 7, 8, 9, 10, 11, 0] rfl) rfl (fun k hx ih => ?_)
        try dsimp only at hx ⊢
        refine r_iload cx dL_isSo_296 rfl ?_
        refine r_iconst (v := nI 3) cx dL_isSo_298 (by decide) ?_
        refine r_icmpgeN (tgt := 345) cx (by omega) (by omega) dL_isSo_299 (by decide) (fun h_299 => ?_) (fun h_299 => ?_)
        · skip
          refine r_iload_n cx dL_isSo_345 rfl rfl ?_
          refine r_iconst (v := nI 2) cx dL_isSo_346 (by decide) ?_
          refine r_ishr cx dL_isSo_347 ?_
          refine r_bipush (v := nI 10) cx dL_isSo_348 (by decide) ?_
          refine k_L_58 cx (c_Low l g _ _ 10 (by decide) (by decide)) dL_isSo_350 ⟨Nat.le_of_ble_eq_true rfl, Nat.le_of_ble_eq_true rfl⟩ ⟨Nat.le_of_ble_eq_true rfl, Nat.le_of_ble_eq_true rfl⟩ rfl rfl (Nat.le_of_ble_eq_true rfl) (fun r w hp => ?_)
          obtain ⟨⟨pl, hpl, rfl⟩, rfl⟩ := hp
          refine r_istore cx dL_isSo_353 (by decide) rfl ?_
          refine r_iload_n cx dL_isSo_355 rfl rfl ?_
          refine r_iconst (v := nI 5) cx dL_isSo_356 (by decide) ?_
          refine r_ishr cx dL_isSo_357 ?_
          refine r_sipush (v := nI 301) cx dL_isSo_358 (by decide) ?_
          refine k_L_58 cx (c_Low l g _ _ 301 (by decide) (by decide)) dL_isSo_361 ⟨Nat.le_of_ble_eq_true rfl, Nat.le_of_ble_eq_true rfl⟩ ⟨Nat.le_of_ble_eq_true rfl, Nat.le_of_ble_eq_true rfl⟩ rfl rfl (Nat.le_of_ble_eq_true rfl) (fun r w hp => ?_)
          obtain ⟨⟨yr, hyr, rfl⟩, rfl⟩ := hp
          refine r_istore cx dL_isSo_364 (by decide) rfl ?_
          refine r_iconst (v := nI 0) cx dL_isSo_366 (by decide) ?_
          refine r_istore cx dL_isSo_367 (by decide) rfl ?_
          refine at_loop (fun (x : Nat) => x ≤ 4) (fun x => [(0, .ref a0), (4, .ref (ld 3)), (9, .ref (ld 0)), (10, .int (nI 1)), (11, .int (nI pl)), (12, .int (nI yr)), (13, .int (nI x))]) (fun x => _) (fun x => 4 - x) 0 (Nat.zero_le _) (q_pk [3, 7, 12, 13, 2, 1, 0] rfl) rfl (fun k hx ih => ?_)
          try dsimp only at hx ⊢
          refine r_iload cx dL_isSo_369 rfl ?_
          refine r_iconst (v := nI 4) cx dL_isSo_371 (by decide) ?_
          refine r_icmpgeN (tgt := 419) cx (by omega) (by omega) dL_isSo_372 (by decide) (fun h_372 => ?_) (fun h_372 => ?_)
          · skip
            refine r_iload cx dL_isSo_419 rfl ?_
            exact r_zret cx dL_isSo_421 hr rfl (⟨rfl, Z1, hZ, hw⟩) (Nat.le_of_ble_eq_true rfl) (Nat.le_of_ble_eq_true rfl)
          · skip
            refine r_iload cx dL_isSo_375 rfl ?_
            refine r_ifeqN (tgt := 419) cx (by omega) dL_isSo_377 (by decide) (fun h_377 => ?_) (fun h_377 => ?_)
            · exact absurd h_377 (by decide)
            · skip
              refine r_aload_n cx dL_isSo_380 rfl rfl ?_
              refine r_iload cx dL_isSo_381 rfl ?_
              refine r_iload cx dL_isSo_383 rfl ?_
              refine r_iload cx dL_isSo_385 rfl ?_
              refine kW_L_91 cx (p_expected l g N A B L _ _ a0 hI hw (nI k) (nI pl) (nI yr) (by rw [inT2 h_372 (by decide) hpl (by decide), inT hyr (by decide)]; rfl)) dL_isSo_387 hw  ⟨Nat.le_of_ble_eq_true rfl, Nat.le_of_ble_eq_true rfl⟩ ⟨Nat.le_of_ble_eq_true rfl, Nat.le_of_ble_eq_true rfl⟩ rfl rfl (Nat.le_of_ble_eq_true rfl) (fun r w hp => ?_)
              obtain ⟨-, rfl, rfl⟩ := hp
              refine r_eqi (y := expV N A B k (nI pl) (nI yr)) (by rw [c32_nI (by omega)]) ?_
              refine r_iload cx dL_isSo_390 rfl ?_
              refine r_iload cx dL_isSo_392 rfl ?_
              refine r_iload cx dL_isSo_394 rfl ?_
              refine r_aload cx dL_isSo_396 rfl ?_
              refine r_aload cx dL_isSo_398 rfl ?_
              refine k_L_71 cx (c_Lexpected l g N A B L _ a0 ld Z1 hw hZ k h_372 (nI pl) (nI yr)) dL_isSo_400 ⟨Nat.le_of_ble_eq_true rfl, Nat.le_of_ble_eq_true rfl⟩ ⟨Nat.le_of_ble_eq_true rfl, Nat.le_of_ble_eq_true rfl⟩ rfl rfl (Nat.le_of_ble_eq_true rfl) (fun r w hp => ?_)
              obtain ⟨rfl, rfl⟩ := hp
              refine r_icmpne (tgt := 410) cx dL_isSo_403 (by decide) (fun h_403 => ?_) (fun h_403 => ?_)
              · exact absurd rfl h_403
              · skip
                refine r_iconst (v := nI 1) cx dL_isSo_406 (by decide) ?_
                refine r_goto (tgt := 411) cx dL_isSo_407 (by decide) ?_
                refine r_istore cx dL_isSo_411 (by decide) rfl ?_
                refine r_iincN (j := 1) cx dL_isSo_413 rfl rfl (by decide) rfl ?_
                refine r_goto (tgt := 369) cx dL_isSo_416 (by decide) ?_
                exact r_lv (q_pk [2, 3, 4, 1, 5, 6, 0] rfl) (ih (k + 1) (by omega) (by omega))
        · skip
          obtain ⟨K, hK, hKe, hKz⟩ := zK k h_299
          refine r_iload cx dL_isSo_302 rfl ?_
          refine r_ifeqN (tgt := 345) cx (by omega) dL_isSo_304 (by decide) (fun h_304 => ?_) (fun h_304 => ?_)
          · exact absurd h_304 (by decide)
          · skip
            refine r_aload_n cx dL_isSo_307 rfl rfl ?_
            refine r_iload cx dL_isSo_308 rfl ?_
            refine kW_L_85 cx (p_owed l g N A B L _ _ a0 hI hw (nI k) (kcf (inT h_299 (by omega)))) dL_isSo_310 hw  ⟨Nat.le_of_ble_eq_true rfl, Nat.le_of_ble_eq_true rfl⟩ ⟨Nat.le_of_ble_eq_true rfl, Nat.le_of_ble_eq_true rfl⟩ rfl rfl (Nat.le_of_ble_eq_true rfl) (fun r w hp => ?_)
            obtain ⟨-, rfl, rfl⟩ := hp
            refine r_eqi (y := nI (bc (K &&& thS (ngo (B 0)) (N 1)))) (by rw [c32_nI (by omega), hKe, andn, bcL_lN (andn_lt (Nat.lt_trans (bw_lt b1 hK) (by decide))), ow_eq hK]) ?_
            refine r_aload cx dL_isSo_313 rfl ?_
            refine r_bipush (v := nI 7) cx dL_isSo_315 (by decide) ?_
            refine r_iload cx dL_isSo_317 rfl ?_
            first | refine r_iaddN cx dL_isSo_319 ?_ | refine r_iadd cx dL_isSo_319 ?_
            refine ll_0 cx dL_isSo_320 hw (by omega) ?_
            refine r_eqi hKz ?_
            refine r_aload cx dL_isSo_321 rfl ?_
            refine r_iconst (v := nI 5) cx dL_isSo_323 (by decide) ?_
            refine ll_0 cx dL_isSo_324 hw (by omega) ?_
            refine r_eqi z5 ?_
            refine r_iand cx dL_isSo_325 ?_
            refine r_eqi (fa_and _ _) ?_
            refine k_L_88 cx (c_Bits l g _ (K &&& thS (ngo (B 0)) (N 1)) (bw_lt b1 (bw_and hK))) dL_isSo_326 ⟨Nat.le_of_ble_eq_true rfl, Nat.le_of_ble_eq_true rfl⟩ ⟨Nat.le_of_ble_eq_true rfl, Nat.le_of_ble_eq_true rfl⟩ rfl rfl (Nat.le_of_ble_eq_true rfl) (fun r w hp => ?_)
            obtain ⟨rfl, rfl⟩ := hp
            refine r_icmpne (tgt := 336) cx dL_isSo_329 (by decide) (fun h_329 => ?_) (fun h_329 => ?_)
            · exact absurd rfl h_329
            · skip
              refine r_iconst (v := nI 1) cx dL_isSo_332 (by decide) ?_
              refine r_goto (tgt := 337) cx dL_isSo_333 (by decide) ?_
              refine r_istore cx dL_isSo_337 (by decide) rfl ?_
              refine r_iincN (j := 1) cx dL_isSo_339 rfl rfl (by decide) rfl ?_
              refine r_goto (tgt := 296) cx dL_isSo_342 (by decide) ?_
              exact r_lv (q_pk [2, 3, 4, 5, 6, 7, 8, 9, 10, 11, 1, 0] rfl) (ih (k + 1) (by omega) (by omega))
      · skip
        obtain ⟨hc1, hce⟩ := j11 k h_236
        refine r_iload cx dL_isSo_239 rfl ?_
        refine r_ifeqN (tgt := 293) cx (by omega) dL_isSo_241 (by decide) (fun h_241 => ?_) (fun h_241 => ?_)
        · exact absurd h_241 (by decide)
        · skip
          refine r_aload_n cx dL_isSo_244 rfl rfl ?_
          refine r_iload cx dL_isSo_245 rfl ?_
          refine kW_L_82 cx (p_quoted l g N A B L _ _ a0 hI hw (nI k) (kcf (inT h_236 (by omega)))) dL_isSo_247 hw  ⟨Nat.le_of_ble_eq_true rfl, Nat.le_of_ble_eq_true rfl⟩ ⟨Nat.le_of_ble_eq_true rfl, Nat.le_of_ble_eq_true rfl⟩ rfl rfl (Nat.le_of_ble_eq_true rfl) (fun r w hp => ?_)
          obtain ⟨-, rfl, rfl⟩ := hp
          refine r_eqi (y := if B 0 (c32 (A 13 k)) then (-1 : Int32) else A 5 (c32 (A 13 k))) (by rw [c32_nI (by omega)]) ?_
          refine at_val (tgt := 277) (fun z => z = if B 0 (c32 (A 13 k)) then (-1 : Int32) else A 5 (c32 (A 13 k))) (fun z hz => ?_) (fun J_277 => ?_)
          · subst hz
            refine r_icmpne (tgt := 284) cx dL_isSo_277 (by decide) (fun h_277 => ?_) (fun h_277 => ?_)
            · exact absurd rfl h_277
            · skip
              refine r_iconst (v := nI 1) cx dL_isSo_280 (by decide) ?_
              refine r_goto (tgt := 285) cx dL_isSo_281 (by decide) ?_
              refine r_istore cx dL_isSo_285 (by decide) rfl ?_
              refine r_iincN (j := 1) cx dL_isSo_287 rfl rfl (by decide) rfl ?_
              refine r_goto (tgt := 230) cx dL_isSo_290 (by decide) ?_
              exact r_lv (q_pk [2, 3, 4, 5, 6, 7, 8, 9, 10, 11, 1, 0] rfl) (ih (k + 1) (by omega) (by omega))
          · skip
            refine r_aload cx dL_isSo_250 rfl ?_
            refine r_iconst (v := nI 5) cx dL_isSo_252 (by decide) ?_
            refine ll_0 cx dL_isSo_253 hw (by omega) ?_
            refine r_eqi z5 ?_
            refine r_aload cx dL_isSo_254 rfl ?_
            refine r_iload cx dL_isSo_256 rfl ?_
            refine ll_5 cx dL_isSo_258 hw (by omega) ?_
            refine r_eqi ((zC k h_236).trans hce) ?_
            refine r_ishr cx dL_isSo_259 ?_
            refine r_iconst (v := nI 1) cx dL_isSo_260 (by decide) ?_
            refine r_iand cx dL_isSo_261 ?_
            refine r_eqi (goz b1 hc1) ?_
            refine r_iconst (v := nI 1) cx dL_isSo_262 (by decide) ?_
            refine r_icmpne (tgt := 270) cx dL_isSo_263 (by decide) (fun h_263 => ?_) (fun h_263 => ?_)
            · skip
              refine r_aload_n cx dL_isSo_270 rfl rfl ?_
              refine r_aload cx dL_isSo_271 rfl ?_
              refine r_iload cx dL_isSo_273 rfl ?_
              refine ll_5 cx dL_isSo_275 hw (by omega) ?_
              refine r_eqi ((zC k h_236).trans hce) ?_
              refine ll_2 cx dL_isSo_276 hw (by omega) ?_
              exact J_277 _ (by rw [b1_f h_263]; exact (zV _ hc1).2.2.2.2)
            · skip
              refine r_iconst (v := -1) cx dL_isSo_266 (by decide) ?_
              refine r_goto (tgt := 277) cx dL_isSo_267 (by decide) ?_
              exact J_277 _ (by rw [b1_t h_263]; rfl)
    · skip
      refine r_iload cx dL_isSo_182 rfl ?_
      refine r_ifeqN (tgt := 227) cx (by omega) dL_isSo_184 (by decide) (fun h_184 => ?_) (fun h_184 => ?_)
      · exact absurd h_184 (by decide)
      · skip
        refine r_aload_n cx dL_isSo_187 rfl rfl ?_
        refine r_iload cx dL_isSo_188 rfl ?_
        refine kW_L_78 cx (p_stands l g N A B L _ _ a0 hI hw (nI k) (kcf (inT h_179 (by omega)))) dL_isSo_190 hw  ⟨Nat.le_of_ble_eq_true rfl, Nat.le_of_ble_eq_true rfl⟩ ⟨Nat.le_of_ble_eq_true rfl, Nat.le_of_ble_eq_true rfl⟩ rfl rfl (Nat.le_of_ble_eq_true rfl) (fun r w hp => ?_)
        obtain ⟨-, rfl, rfl⟩ := hp
        refine r_eqi (y := bI (!B 1 k)) (by rw [c32_nI (by omega)]) ?_
        refine at_val (tgt := 211) (fun z => z = bI (!B 1 k)) (fun z hz => ?_) (fun J_211 => ?_)
        · subst hz
          refine r_icmpne (tgt := 218) cx dL_isSo_211 (by decide) (fun h_211 => ?_) (fun h_211 => ?_)
          · exact absurd rfl h_211
          · skip
            refine r_iconst (v := nI 1) cx dL_isSo_214 (by decide) ?_
            refine r_goto (tgt := 219) cx dL_isSo_215 (by decide) ?_
            refine r_istore cx dL_isSo_219 (by decide) rfl ?_
            refine r_iincN (j := 1) cx dL_isSo_221 rfl rfl (by decide) rfl ?_
            refine r_goto (tgt := 173) cx dL_isSo_224 (by decide) ?_
            exact r_lv (q_pk [2, 3, 4, 5, 6, 7, 8, 9, 10, 11, 1, 0] rfl) (ih (k + 1) (by omega) (by omega))
        · skip
          refine r_aload cx dL_isSo_193 rfl ?_
          refine r_bipush (v := nI 6) cx dL_isSo_195 (by decide) ?_
          refine ll_0 cx dL_isSo_197 hw (by omega) ?_
          refine r_eqi z6 ?_
          refine r_iload cx dL_isSo_198 rfl ?_
          refine r_ishr cx dL_isSo_200 ?_
          refine r_iconst (v := nI 1) cx dL_isSo_201 (by decide) ?_
          refine r_iand cx dL_isSo_202 ?_
          refine r_eqi (goz (by omega) h_179) ?_
          refine r_ifneb (tgt := 210) cx dL_isSo_203 (by decide) (fun h_203 => ?_) (fun h_203 => ?_)
          · skip
            refine r_iconst (v := nI 0) cx dL_isSo_210 (by decide) ?_
            exact J_211 _ (by rw [h_203]; rfl)
          · skip
            refine r_iconst (v := nI 1) cx dL_isSo_206 (by decide) ?_
            refine r_goto (tgt := 211) cx dL_isSo_207 (by decide) ?_
            exact J_211 _ (by rw [h_203]; rfl)
  · skip
    obtain ⟨⟨hw4, hwe⟩, la, hla⟩ := j3 k h_24
    have hua := unF_some hla
    refine r_iload cx dL_isSo_27 rfl ?_
    refine r_ifeqN (tgt := 170) cx (by omega) dL_isSo_29 (by decide) (fun h_29 => ?_) (fun h_29 => ?_)
    · exact absurd h_29 (by decide)
    · skip
      refine at_val (tgt := 50) (fun z => z = bI (B 0 k)) (fun z hz => ?_) (fun J_50 => ?_)
      · subst hz
        refine r_istore cx dL_isSo_50 (by decide) rfl ?_
        refine r_aload cx dL_isSo_52 rfl ?_
        refine r_bipush (v := nI 10) cx dL_isSo_54 (by decide) ?_
        refine r_aload_n cx dL_isSo_56 rfl rfl ?_
        refine r_iconst (v := nI 4) cx dL_isSo_57 (by decide) ?_
        refine r_iload cx dL_isSo_58 rfl ?_
        first | refine r_imulN cx dL_isSo_60 ?_ | refine r_imul cx dL_isSo_60 ?_
        refine r_iconst (v := nI 3) cx dL_isSo_61 (by decide) ?_
        first | refine r_iaddN cx dL_isSo_62 ?_ | refine r_iadd cx dL_isSo_62 ?_
        refine ll_1 cx dL_isSo_63 hw (by omega) ?_
        refine r_eqi ((zV k h_24).2.2.2.1.trans hwe) ?_
        first | refine r_iaddN cx dL_isSo_64 ?_ | refine r_iadd cx dL_isSo_64 ?_
        refine ll_0 cx dL_isSo_65 hw (by omega) ?_
        refine r_eqi (zR _ hw4) ?_
        refine r_istore cx dL_isSo_66 (by decide) rfl ?_
        refine r_aload_n cx dL_isSo_68 rfl rfl ?_
        refine r_iload cx dL_isSo_69 rfl ?_
        refine kW_L_65 cx (p_form l g N A B L _ _ a0 hI hw (nI k) (kcf (inT h_24 (by omega)))) dL_isSo_71 hw  ⟨Nat.le_of_ble_eq_true rfl, Nat.le_of_ble_eq_true rfl⟩ ⟨Nat.le_of_ble_eq_true rfl, Nat.le_of_ble_eq_true rfl⟩ rfl rfl (Nat.le_of_ble_eq_true rfl) (fun r w hp => ?_)
        obtain ⟨-, rfl, rfl⟩ := hp
        refine r_eqi (y := if B 0 k then (-1 : Int32) else A 5 k) (by rw [c32_nI (by omega)]) ?_
        refine at_val (tgt := 87) (fun z => z = if B 0 k then (-1 : Int32) else A 5 k) (fun z hz => ?_) (fun J_87 => ?_)
        · subst hz
          refine r_icmpne (tgt := 161) cx dL_isSo_87 (by decide) (fun h_87 => ?_) (fun h_87 => ?_)
          · exact absurd rfl h_87
          · skip
            refine r_aload_n cx dL_isSo_90 rfl rfl ?_
            refine r_iload cx dL_isSo_91 rfl ?_
            refine kW_L_68 cx (p_far l g N A B L _ _ a0 hI hw (nI k) (kcf (inT h_24 (by omega)))) dL_isSo_93 hw  ⟨Nat.le_of_ble_eq_true rfl, Nat.le_of_ble_eq_true rfl⟩ ⟨Nat.le_of_ble_eq_true rfl, Nat.le_of_ble_eq_true rfl⟩ rfl rfl (Nat.le_of_ble_eq_true rfl) (fun r w hp => ?_)
            obtain ⟨-, rfl, hw⟩ := hp
            refine r_eqi (y := farV N A B k) (by rw [c32_nI (by omega)]) ?_
            refine r_iload cx dL_isSo_96 rfl ?_
            refine r_ifneb (tgt := 106) cx dL_isSo_98 (by decide) (fun h_98 => ?_) (fun h_98 => ?_)
            · skip
              refine r_iconst (v := -1) cx dL_isSo_106 (by decide) ?_
              refine r_goto (tgt := 154) cx dL_isSo_107 (by decide) ?_
              refine r_eqi (y := farV N A B k) (by rw [farV, h_98]; rfl) ?_
              refine r_icmpne (tgt := 161) cx dL_isSo_154 (by decide) (fun h_154 => ?_) (fun h_154 => ?_)
              · exact absurd rfl h_154
              · skip
                refine r_iconst (v := nI 1) cx dL_isSo_157 (by decide) ?_
                refine r_goto (tgt := 162) cx dL_isSo_158 (by decide) ?_
                refine r_istore cx dL_isSo_162 (by decide) rfl ?_
                refine r_iincN (j := 1) cx dL_isSo_164 rfl rfl (by decide) rfl ?_
                refine r_goto (tgt := 18) cx dL_isSo_167 (by decide) ?_
                exact r_lv (q_pk [4, 5, 6, 7, 8, 9, 10, 11, 12, 13, 1, 0] rfl) (ih (k + 1, (Z1, _)) ⟨by omega, hZ, hw⟩ (by show N 1 - (k + 1) < N 1 - k; omega))
            · skip
              refine r_iload cx dL_isSo_101 rfl ?_
              refine r_ifge (tgt := 110) cx dL_isSo_103 (by decide) (fun h_103 => ?_) (fun h_103 => ?_)
              · skip
                obtain ⟨lb, hlb⟩ : ∃ l, unF (A 6 (c32 (A 4 k))) = some l := by
                  cases hq : unF (A 6 (c32 (A 4 k))) with
                  | none =>
                    have h9 := j5 (c32 (A 4 k)) hw4
                    rw [hq] at h9
                    rw [← h9] at h_103
                    exact absurd h_103 (by decide)
                  | some l => exact ⟨l, rfl⟩
                have hub := unF_some hlb
                have hex := expF_ok (gs := goF (rlS A) (B 1) (A 2 k) (A 3 k)) (so := soF A) (be := beF A) (to := toF A) (n := N 2) (fun r hr9 => (j6 r hr9).2.2.2.2.2) hub.2.1 hub.2.2.1 (N 2) (Nat.le_refl _)
                refine r_aload_n cx dL_isSo_110 rfl rfl ?_
                refine r_iconst (v := nI 4) cx dL_isSo_111 (by decide) ?_
                refine r_iload cx dL_isSo_112 rfl ?_
                first | refine r_imulN cx dL_isSo_114 ?_ | refine r_imul cx dL_isSo_114 ?_
                refine r_iconst (v := nI 3) cx dL_isSo_115 (by decide) ?_
                first | refine r_iaddN cx dL_isSo_116 ?_ | refine r_iadd cx dL_isSo_116 ?_
                refine ll_1 cx dL_isSo_117 hw (by omega) ?_
                refine r_eqi ((zV k h_24).2.2.2.1.trans hwe) ?_
                refine r_aload_n cx dL_isSo_118 rfl rfl ?_
                refine r_iconst (v := nI 4) cx dL_isSo_119 (by decide) ?_
                refine r_iload cx dL_isSo_120 rfl ?_
                first | refine r_imulN cx dL_isSo_122 ?_ | refine r_imul cx dL_isSo_122 ?_
                refine r_iconst (v := nI 1) cx dL_isSo_123 (by decide) ?_
                first | refine r_iaddN cx dL_isSo_124 ?_ | refine r_iadd cx dL_isSo_124 ?_
                refine ll_1 cx dL_isSo_125 hw (by omega) ?_
                refine r_eqi (zV k h_24).2.1 ?_
                refine r_aload_n cx dL_isSo_126 rfl rfl ?_
                refine r_iconst (v := nI 4) cx dL_isSo_127 (by decide) ?_
                refine r_iload cx dL_isSo_128 rfl ?_
                first | refine r_imulN cx dL_isSo_130 ?_ | refine r_imul cx dL_isSo_130 ?_
                refine r_iconst (v := nI 2) cx dL_isSo_131 (by decide) ?_
                first | refine r_iaddN cx dL_isSo_132 ?_ | refine r_iadd cx dL_isSo_132 ?_
                refine ll_1 cx dL_isSo_133 hw (by omega) ?_
                refine r_eqi (zV k h_24).2.2.1 ?_
                refine r_aload cx dL_isSo_134 rfl ?_
                refine r_aload cx dL_isSo_136 rfl ?_
                refine k_L_71 cx (c_Lexpected l g N A B L _ a0 ld Z1 hw hZ (c32 (A 4 k)) hw4 (A 2 k) (A 3 k)) dL_isSo_138 ⟨Nat.le_of_ble_eq_true rfl, Nat.le_of_ble_eq_true rfl⟩ ⟨Nat.le_of_ble_eq_true rfl, Nat.le_of_ble_eq_true rfl⟩ rfl rfl (Nat.le_of_ble_eq_true rfl) (fun r w hp => ?_)
                obtain ⟨rfl, rfl⟩ := hp
                refine r_eqi (y := nI (num (expF (goF (rlS A) (B 1) (A 2 k) (A 3 k)) (soF A) (beF A) (toF A) lb (N 2)))) (by rw [expV, hlb]; rfl) ?_
                refine r_aload_n cx dL_isSo_141 rfl rfl ?_
                refine r_iload cx dL_isSo_142 rfl ?_
                refine ll_2 cx dL_isSo_144 hw (by omega) ?_
                refine r_eqi ((zV k h_24).2.2.2.2.trans hua.1) ?_
                refine r_aload cx dL_isSo_145 rfl ?_
                refine r_aload cx dL_isSo_147 rfl ?_
                refine r_aload cx dL_isSo_149 rfl ?_
                refine k_L_75 cx (c_Lsteps l g N A B L _ a0 ld Z1 hw (expF (goF (rlS A) (B 1) (A 2 k) (A 3 k)) (soF A) (beF A) (toF A) lb (N 2)) la hex.1 hex.2 hua.2.1 hua.2.2.1) dL_isSo_151 ⟨Nat.le_of_ble_eq_true rfl, Nat.le_of_ble_eq_true rfl⟩ ⟨Nat.le_of_ble_eq_true rfl, Nat.le_of_ble_eq_true rfl⟩ rfl rfl (Nat.le_of_ble_eq_true rfl) (fun r w hp => ?_)
                obtain ⟨rfl, f6, f7, f8, hw⟩ := hp
                refine r_eqi (y := farV N A B k) (by rw [farV, h_98, hla, hlb]; rfl) ?_
                refine r_icmpne (tgt := 161) cx dL_isSo_154 (by decide) (fun h_154 => ?_) (fun h_154 => ?_)
                · exact absurd rfl h_154
                · skip
                  refine r_iconst (v := nI 1) cx dL_isSo_157 (by decide) ?_
                  refine r_goto (tgt := 162) cx dL_isSo_158 (by decide) ?_
                  refine r_istore cx dL_isSo_162 (by decide) rfl ?_
                  refine r_iincN (j := 1) cx dL_isSo_164 rfl rfl (by decide) rfl ?_
                  refine r_goto (tgt := 18) cx dL_isSo_167 (by decide) ?_
                  exact r_lv (q_pk [4, 5, 6, 7, 8, 9, 10, 11, 12, 13, 1, 0] rfl) (ih (k + 1, (va_up (va_up (va_up Z1 6 f6) 7 f7) 8 f8, _)) ⟨by omega, lR_up hZ, hw⟩ (by show N 1 - (k + 1) < N 1 - k; omega))
              · skip
                have hlb : unF (A 6 (c32 (A 4 k))) = none := by
                  cases hq : unF (A 6 (c32 (A 4 k))) with
                  | none => rfl
                  | some l =>
                    have h9 := (unF_some hq).1
                    have h8 := num_ok (unF_some hq).2
                    rw [h9] at h_103
                    exact absurd (nI_pos' (by omega)) h_103
                refine r_iconst (v := -1) cx dL_isSo_106 (by decide) ?_
                refine r_goto (tgt := 154) cx dL_isSo_107 (by decide) ?_
                refine r_eqi (y := farV N A B k) (by rw [farV, h_98, hla, hlb]; rfl) ?_
                refine r_icmpne (tgt := 161) cx dL_isSo_154 (by decide) (fun h_154 => ?_) (fun h_154 => ?_)
                · exact absurd rfl h_154
                · skip
                  refine r_iconst (v := nI 1) cx dL_isSo_157 (by decide) ?_
                  refine r_goto (tgt := 162) cx dL_isSo_158 (by decide) ?_
                  refine r_istore cx dL_isSo_162 (by decide) rfl ?_
                  refine r_iincN (j := 1) cx dL_isSo_164 rfl rfl (by decide) rfl ?_
                  refine r_goto (tgt := 18) cx dL_isSo_167 (by decide) ?_
                  exact r_lv (q_pk [4, 5, 6, 7, 8, 9, 10, 11, 12, 13, 1, 0] rfl) (ih (k + 1, (Z1, _)) ⟨by omega, hZ, hw⟩ (by show N 1 - (k + 1) < N 1 - k; omega))
        · skip
          refine r_iload cx dL_isSo_74 rfl ?_
          refine r_ifeqb (tgt := 83) cx dL_isSo_76 (by decide) (fun h_76 => ?_) (fun h_76 => ?_)
          · skip
            refine r_aload_n cx dL_isSo_83 rfl rfl ?_
            refine r_iload cx dL_isSo_84 rfl ?_
            refine ll_2 cx dL_isSo_86 hw (by omega) ?_
            exact J_87 _ (by rw [h_76]; exact (zV k h_24).2.2.2.2)
          · skip
            refine r_iconst (v := -1) cx dL_isSo_79 (by decide) ?_
            refine r_goto (tgt := 87) cx dL_isSo_80 (by decide) ?_
            exact J_87 _ (by rw [h_76]; rfl)
      · skip
        refine r_aload cx dL_isSo_32 rfl ?_
        refine r_iconst (v := nI 5) cx dL_isSo_34 (by decide) ?_
        refine ll_0 cx dL_isSo_35 hw (by omega) ?_
        refine r_eqi z5 ?_
        refine r_iload cx dL_isSo_36 rfl ?_
        refine r_ishr cx dL_isSo_38 ?_
        refine r_iconst (v := nI 1) cx dL_isSo_39 (by decide) ?_
        refine r_iand cx dL_isSo_40 ?_
        refine r_eqi (goz b1 h_24) ?_
        refine r_iconst (v := nI 1) cx dL_isSo_41 (by decide) ?_
        refine r_icmpne (tgt := 49) cx dL_isSo_42 (by decide) (fun h_42 => ?_) (fun h_42 => ?_)
        · skip
          refine r_iconst (v := nI 0) cx dL_isSo_49 (by decide) ?_
          exact J_50 _ (by rw [b1_f h_42]; rfl)
        · skip
          refine r_iconst (v := nI 1) cx dL_isSo_45 (by decide) ?_
          refine r_goto (tgt := 50) cx dL_isSo_46 (by decide) ?_
          exact J_50 _ (h_42.symm)
