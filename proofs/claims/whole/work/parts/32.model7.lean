set_option maxHeartbeats 4000000 in
set_option maxRecDepth 100000 in
theorem c_mDist (l : Launch) (g : q_G) (md : Nat → Nat) (wr : va_W) (t : Int32) (N : Nat → Nat) (A : Nat → Nat → Int32) (B : Nat → Nat → Bool) (L : Nat → Nat → Int64) (S : Nat → Nat → Int32) (a b : List Nat) (ha : okL a) (hb : okL b) : MetW l g yX4_distance cX4_distance 10 (some .int) ({ frames := 1, cells := 0, slots := 0, locals := 24 } : Room) [.ref (md 22), .int (nI (num a)), .int (nI (num b))] (mF g md t N A B L S ++ wr) (q_Qi g (fun r w => r = nI (lev b a) ∧ ∃ S2, w = mF g md t N A B L S2 ++ wr)) := by
  refine q_met (own := RX4) (by decide +kernel) rfl (Nat.le_of_ble_eq_true rfl) (fun p e s m args below meth c cx hr hnm => ?_)
  have la := ha.2.1
  have lb := hb.2.1
  refine r_lv (lv2 := [(0, .ref (md 22)), (1, .int (nI (num a))), (2, .int (nI (num b)))]) (q_pk [0, 1, 2] rfl) ?_
  refine r_iload_n cx dX4_distance_0 rfl rfl ?_
  refine r_aload_n cx dX4_distance_1 rfl rfl ?_
  refine gf_X4_66 cx dX4_distance_2 22 rfl rfl ?_
  refine k_X4_127 cx (c_mLays l g _ 3 (md 18) (S 0) a ha rfl) dX4_distance_5 ⟨Nat.le_of_ble_eq_true rfl, Nat.le_of_ble_eq_true rfl⟩ ⟨Nat.le_of_ble_eq_true rfl, Nat.le_of_ble_eq_true rfl⟩ rfl rfl (Nat.le_of_ble_eq_true rfl) (fun r w hp => ?_)
  obtain ⟨rfl, f2, hf2, rfl⟩ := hp
  refine r_ws (ws2 := mF g md t N A B L (va_up S 0 f2) ++ wr) rfl ?_
  refine r_istore_n cx dX4_distance_8 rfl (by decide) rfl ?_
  refine r_iload_n cx dX4_distance_9 rfl rfl ?_
  refine r_aload_n cx dX4_distance_10 rfl rfl ?_
  refine gf_X4_72 cx dX4_distance_11 22 rfl rfl ?_
  refine k_X4_127 cx (c_mLays l g _ 1 (md 20) (S 2) b hb rfl) dX4_distance_14 ⟨Nat.le_of_ble_eq_true rfl, Nat.le_of_ble_eq_true rfl⟩ ⟨Nat.le_of_ble_eq_true rfl, Nat.le_of_ble_eq_true rfl⟩ rfl rfl (Nat.le_of_ble_eq_true rfl) (fun r w hp => ?_)
  obtain ⟨rfl, f3, hf3, rfl⟩ := hp
  refine r_ws (ws2 := mF g md t N A B L (va_up (va_up S 0 f2) 2 f3) ++ wr) rfl ?_
  refine r_istore cx dX4_distance_17 (by decide) rfl ?_
  refine r_iconst (v := nI 0) cx dX4_distance_19 (by decide) ?_
  refine r_istore cx dX4_distance_20 (by decide) rfl ?_
  refine at_loop (fun (x : Nat × (Nat → Nat → Int32)) => x.1 ≤ b.length + 1 ∧ (∀ k, k < x.1 → x.2 3 k = nI k) ∧ rowIs (x.2 0) a ∧ rowIs (x.2 2) b) (fun x => [(0, .ref (md 22)), (3, .int (nI a.length)), (4, .int (nI b.length)), (5, .int (nI x.1))]) (fun x => mF g md t N A B L x.2 ++ wr) (fun x => b.length + 1 - x.1) (0, va_up (va_up S 0 f2) 2 f3) ⟨Nat.zero_le _, fun k hk => absurd hk (Nat.not_lt_zero k), hf2, hf3⟩ (q_pk [3, 2, 1, 0] rfl) rfl (fun x hx ih => ?_)
  obtain ⟨j, S1⟩ := x
  try dsimp only at hx ⊢
  obtain ⟨hx1, hx2, hx3, hx4⟩ := hx
  refine r_iload cx dX4_distance_22 rfl ?_
  refine r_iload cx dX4_distance_24 rfl ?_
  refine r_icmpgtN (tgt := 44) cx (by omega) (by omega) dX4_distance_26 (by decide) (fun h_26 => ?_) (fun h_26 => ?_)
  · skip
    obtain rfl : j = b.length + 1 := by omega
    refine r_iconst (v := nI 1) cx dX4_distance_44 (by decide) ?_
    refine r_istore cx dX4_distance_45 (by decide) rfl ?_
    refine at_loop (fun (x : Nat × (Nat → Nat → Int32)) => x.1 ≤ a.length ∧ (∀ k, k ≤ b.length → x.2 3 k = nI (Dv a b x.1 k)) ∧ rowIs (x.2 0) a ∧ rowIs (x.2 2) b) (fun x => [(0, .ref (md 22)), (3, .int (nI a.length)), (4, .int (nI b.length)), (5, .int (nI (x.1 + 1)))]) (fun x => mF g md t N A B L x.2 ++ wr) (fun x => a.length - x.1) (0, S1) ⟨Nat.zero_le _, fun k hk => by rw [Dv_0 hk]; exact hx2 k (by omega), hx3, hx4⟩ (q_pk [1, 2, 3, 0] rfl) rfl (fun x hx ih => ?_)
    obtain ⟨i, S2⟩ := x
    try dsimp only at hx ⊢
    obtain ⟨hy1, hy2, hy3, hy4⟩ := hx
    refine r_iload cx dX4_distance_47 rfl ?_
    refine r_iload_n cx dX4_distance_49 rfl rfl ?_
    refine r_icmpgtN (tgt := 196) cx (by omega) (by omega) dX4_distance_50 (by decide) (fun h_50 => ?_) (fun h_50 => ?_)
    · skip
      obtain rfl : i = a.length := by omega
      refine r_aload_n cx dX4_distance_196 rfl rfl ?_
      refine gf_X4_75 cx dX4_distance_197 22 rfl rfl ?_
      refine r_iload cx dX4_distance_200 rfl ?_
      first | refine r_ialdN cx 0 0 dX4_distance_202 rfl rfl (by omega) (by omega) ?_ | refine r_iald cx 0 0 dX4_distance_202 rfl rfl (by omega) ?_
      refine r_eqi (y := nI (lev b a)) ((hy2 b.length (Nat.le_refl _)).trans (congrArg nI (Dv_end a b))) ?_
      exact r_iret cx dX4_distance_203 hr (⟨rfl, S2, rfl⟩) (Nat.le_of_ble_eq_true rfl) (Nat.le_of_ble_eq_true rfl)
    · skip
      have ihA := ih
      refine r_aload_n cx dX4_distance_53 rfl rfl ?_
      refine gf_X4_75 cx dX4_distance_54 22 rfl rfl ?_
      refine r_iconst (v := nI 0) cx dX4_distance_57 (by decide) ?_
      first | refine r_ialdN cx 0 0 dX4_distance_58 rfl rfl (by omega) (by omega) ?_ | refine r_iald cx 0 0 dX4_distance_58 rfl rfl (by omega) ?_
      refine r_eqi (y := nI (Dv a b i 0)) (hy2 0 (Nat.zero_le _)) ?_
      refine r_istore cx dX4_distance_59 (by decide) rfl ?_
      refine r_aload_n cx dX4_distance_61 rfl rfl ?_
      refine gf_X4_75 cx dX4_distance_62 22 rfl rfl ?_
      refine r_iconst (v := nI 0) cx dX4_distance_65 (by decide) ?_
      refine r_iload cx dX4_distance_66 rfl ?_
      first | refine r_iastN cx 0 0 dX4_distance_68 rfl rfl (by omega) (by omega) ?_ | refine r_iast cx 0 0 dX4_distance_68 rfl rfl (by omega) ?_
      refine r_iconst (v := nI 1) cx dX4_distance_69 (by decide) ?_
      refine r_istore cx dX4_distance_70 (by decide) rfl ?_
      refine at_loop (fun (x : Nat × (Nat → Nat → Int32)) => x.1 ≤ b.length ∧ (∀ k, k ≤ x.1 → x.2 3 k = nI (Dv a b (i + 1) k)) ∧ (∀ k, x.1 < k → k ≤ b.length → x.2 3 k = nI (Dv a b i k)) ∧ rowIs (x.2 0) a ∧ rowIs (x.2 2) b) (fun x => [(0, .ref (md 22)), (3, .int (nI a.length)), (4, .int (nI b.length)), (5, .int (nI (i + 1))), (6, .int (nI (Dv a b i x.1))), (7, .int (nI (x.1 + 1)))]) (fun x => mF g md t N A B L x.2 ++ wr) (fun x => b.length - x.1) (0, va_up S2 3 (upd (S2 3) 0 (nI (i + 1)))) ⟨Nat.zero_le _, fun k hk => by
    obtain rfl : k = 0 := by omega
    rw [Dv_i (by omega)]
    rfl, fun k h1 h2 => by
    show upd (S2 3) 0 (nI (i + 1)) k = _
    rw [pk_un (by omega)]
    exact hy2 k h2, hy3, hy4⟩ (q_pk [2, 3, 4, 5, 1, 0] rfl) rfl (fun x hx ih => ?_)
      obtain ⟨j, S3⟩ := x
      try dsimp only at hx ⊢
      obtain ⟨hz1, hz2, hz3, hz4, hz5⟩ := hx
      have k1 := Dv_le a b i j
      have k2 := Dv_le a b i (j + 1)
      have k3 := Dv_le a b (i + 1) j
      refine r_iload cx dX4_distance_72 rfl ?_
      refine r_iload cx dX4_distance_74 rfl ?_
      refine r_icmpgtN (tgt := 190) cx (by omega) (by omega) dX4_distance_76 (by decide) (fun h_76 => ?_) (fun h_76 => ?_)
      · skip
        obtain rfl : j = b.length := by omega
        refine r_iincN (j := 1) cx dX4_distance_190 rfl rfl (by decide) rfl ?_
        refine r_goto (tgt := 47) cx dX4_distance_193 (by decide) ?_
        exact r_lv (q_pk [1, 2, 3, 0] rfl) (ihA (i + 1, S3) ⟨by omega, hz2, hz4, hz5⟩ (by show _ - (i + 1) < _ - i; omega))
      · skip
        have hs := Dv_s (a := a) (b := b) (i := i) (j := j) (by omega) (by omega)
        have g1 := gD8 ha.1 (i := i) (by omega)
        have g2 := gD8 hb.1 (i := j) (by omega)
        refine at_join (tgt := 121) (fun (z : Unit) => True) (fun z => [(0, .ref (md 22)), (3, .int (nI a.length)), (4, .int (nI b.length)), (5, .int (nI (i + 1))), (6, .int (nI (Dv a b i j))), (7, .int (nI (j + 1)))]) (fun z => [.int (nI (min (Dv a b i (j + 1)) (Dv a b (i + 1) j) + 1))]) (fun z => mF g md t N A B L S3 ++ wr) ?_ (fun J_121 => ?_)
        · intro z hz
          try dsimp only at hz ⊢
          refine r_istore cx dX4_distance_121 (by decide) rfl ?_
          refine r_iload cx dX4_distance_123 rfl ?_
          refine r_aload_n cx dX4_distance_125 rfl rfl ?_
          refine gf_X4_66 cx dX4_distance_126 22 rfl rfl ?_
          refine r_iload cx dX4_distance_129 rfl ?_
          refine r_iconst (v := nI 1) cx dX4_distance_131 (by decide) ?_
          first | refine r_isubN cx dX4_distance_132 (by omega) ?_ | refine r_isub cx dX4_distance_132 ?_
          first | refine r_ialdN cx 3 0 dX4_distance_133 rfl rfl (by omega) (by omega) ?_ | refine r_iald cx 3 0 dX4_distance_133 rfl rfl (by omega) ?_
          rw [Nat.add_sub_cancel]
          refine r_eqi (y := nI (a.getD i 0)) (hz4 i (by omega)) ?_
          refine r_aload_n cx dX4_distance_134 rfl rfl ?_
          refine gf_X4_72 cx dX4_distance_135 22 rfl rfl ?_
          refine r_iload cx dX4_distance_138 rfl ?_
          refine r_iconst (v := nI 1) cx dX4_distance_140 (by decide) ?_
          first | refine r_isubN cx dX4_distance_141 (by omega) ?_ | refine r_isub cx dX4_distance_141 ?_
          first | refine r_ialdN cx 1 0 dX4_distance_142 rfl rfl (by omega) (by omega) ?_ | refine r_iald cx 1 0 dX4_distance_142 rfl rfl (by omega) ?_
          rw [Nat.add_sub_cancel]
          refine r_eqi (y := nI (b.getD j 0)) (hz5 j (by omega)) ?_
          refine r_icmpneN (tgt := 150) cx (by omega) (by omega) dX4_distance_143 (by decide) (fun h_143 => ?_) (fun h_143 => ?_)
          · skip
            refine r_iconst (v := nI 1) cx dX4_distance_150 (by decide) ?_
            first | refine r_iaddN cx dX4_distance_151 ?_ | refine r_iadd cx dX4_distance_151 ?_
            refine r_istore cx dX4_distance_152 (by decide) rfl ?_
            refine r_aload_n cx dX4_distance_154 rfl rfl ?_
            refine gf_X4_75 cx dX4_distance_155 22 rfl rfl ?_
            refine r_iload cx dX4_distance_158 rfl ?_
            first | refine r_ialdN cx 0 0 dX4_distance_160 rfl rfl (by omega) (by omega) ?_ | refine r_iald cx 0 0 dX4_distance_160 rfl rfl (by omega) ?_
            refine r_eqi (y := nI (Dv a b i (j + 1))) (hz3 (j + 1) (by omega) (by omega)) ?_
            refine r_istore cx dX4_distance_161 (by decide) rfl ?_
            refine r_aload_n cx dX4_distance_163 rfl rfl ?_
            refine gf_X4_75 cx dX4_distance_164 22 rfl rfl ?_
            refine r_iload cx dX4_distance_167 rfl ?_
            refine r_iload cx dX4_distance_169 rfl ?_
            refine r_iload cx dX4_distance_171 rfl ?_
            refine r_icmpgeN (tgt := 181) cx (by omega) (by omega) dX4_distance_173 (by decide) (fun h_173 => ?_) (fun h_173 => ?_)
            · skip
              refine r_iload cx dX4_distance_181 rfl ?_
              refine r_eqi (y := nI (Dv a b (i + 1) (j + 1))) (congrArg nI (by rw [hs, if_neg h_143]; omega)) ?_
              first | refine r_iastN cx 0 0 dX4_distance_183 rfl rfl (by omega) (by omega) ?_ | refine r_iast cx 0 0 dX4_distance_183 rfl rfl (by omega) ?_
              refine r_iincN (j := 1) cx dX4_distance_184 rfl rfl (by decide) rfl ?_
              refine r_goto (tgt := 72) cx dX4_distance_187 (by decide) ?_
              exact r_lv (q_pk [4, 5, 6, 7, 1, 0] rfl) (ih (j + 1, va_up S3 3 (upd (S3 3) (j + 1) (nI (Dv a b (i + 1) (j + 1))))) ⟨by omega, fun k hk => by
    show upd (S3 3) (j + 1) _ k = _
    by_cases h9 : k = j + 1
    · rw [h9, pk_us]
    · rw [pk_un h9]
      exact hz2 k (by omega), fun k h1 h2 => by
    show upd (S3 3) (j + 1) _ k = _
    rw [pk_un (by omega)]
    exact hz3 k (by omega) h2, hz4, hz5⟩ (by show _ - (j + 1) < _ - j; omega))
            · skip
              refine r_iload cx dX4_distance_176 rfl ?_
              refine r_goto (tgt := 183) cx dX4_distance_178 (by decide) ?_
              refine r_eqi (y := nI (Dv a b (i + 1) (j + 1))) (congrArg nI (by rw [hs, if_neg h_143]; omega)) ?_
              first | refine r_iastN cx 0 0 dX4_distance_183 rfl rfl (by omega) (by omega) ?_ | refine r_iast cx 0 0 dX4_distance_183 rfl rfl (by omega) ?_
              refine r_iincN (j := 1) cx dX4_distance_184 rfl rfl (by decide) rfl ?_
              refine r_goto (tgt := 72) cx dX4_distance_187 (by decide) ?_
              exact r_lv (q_pk [4, 5, 6, 7, 1, 0] rfl) (ih (j + 1, va_up S3 3 (upd (S3 3) (j + 1) (nI (Dv a b (i + 1) (j + 1))))) ⟨by omega, fun k hk => by
    show upd (S3 3) (j + 1) _ k = _
    by_cases h9 : k = j + 1
    · rw [h9, pk_us]
    · rw [pk_un h9]
      exact hz2 k (by omega), fun k h1 h2 => by
    show upd (S3 3) (j + 1) _ k = _
    rw [pk_un (by omega)]
    exact hz3 k (by omega) h2, hz4, hz5⟩ (by show _ - (j + 1) < _ - j; omega))
          · skip
            refine r_iconst (v := nI 0) cx dX4_distance_146 (by decide) ?_
            refine r_goto (tgt := 151) cx dX4_distance_147 (by decide) ?_
            first | refine r_iaddN cx dX4_distance_151 ?_ | refine r_iadd cx dX4_distance_151 ?_
            refine r_istore cx dX4_distance_152 (by decide) rfl ?_
            refine r_aload_n cx dX4_distance_154 rfl rfl ?_
            refine gf_X4_75 cx dX4_distance_155 22 rfl rfl ?_
            refine r_iload cx dX4_distance_158 rfl ?_
            first | refine r_ialdN cx 0 0 dX4_distance_160 rfl rfl (by omega) (by omega) ?_ | refine r_iald cx 0 0 dX4_distance_160 rfl rfl (by omega) ?_
            refine r_eqi (y := nI (Dv a b i (j + 1))) (hz3 (j + 1) (by omega) (by omega)) ?_
            refine r_istore cx dX4_distance_161 (by decide) rfl ?_
            refine r_aload_n cx dX4_distance_163 rfl rfl ?_
            refine gf_X4_75 cx dX4_distance_164 22 rfl rfl ?_
            refine r_iload cx dX4_distance_167 rfl ?_
            refine r_iload cx dX4_distance_169 rfl ?_
            refine r_iload cx dX4_distance_171 rfl ?_
            refine r_icmpgeN (tgt := 181) cx (by omega) (by omega) dX4_distance_173 (by decide) (fun h_173 => ?_) (fun h_173 => ?_)
            · skip
              refine r_iload cx dX4_distance_181 rfl ?_
              refine r_eqi (y := nI (Dv a b (i + 1) (j + 1))) (congrArg nI (by rw [hs, if_pos h_143]; omega)) ?_
              first | refine r_iastN cx 0 0 dX4_distance_183 rfl rfl (by omega) (by omega) ?_ | refine r_iast cx 0 0 dX4_distance_183 rfl rfl (by omega) ?_
              refine r_iincN (j := 1) cx dX4_distance_184 rfl rfl (by decide) rfl ?_
              refine r_goto (tgt := 72) cx dX4_distance_187 (by decide) ?_
              exact r_lv (q_pk [4, 5, 6, 7, 1, 0] rfl) (ih (j + 1, va_up S3 3 (upd (S3 3) (j + 1) (nI (Dv a b (i + 1) (j + 1))))) ⟨by omega, fun k hk => by
    show upd (S3 3) (j + 1) _ k = _
    by_cases h9 : k = j + 1
    · rw [h9, pk_us]
    · rw [pk_un h9]
      exact hz2 k (by omega), fun k h1 h2 => by
    show upd (S3 3) (j + 1) _ k = _
    rw [pk_un (by omega)]
    exact hz3 k (by omega) h2, hz4, hz5⟩ (by show _ - (j + 1) < _ - j; omega))
            · skip
              refine r_iload cx dX4_distance_176 rfl ?_
              refine r_goto (tgt := 183) cx dX4_distance_178 (by decide) ?_
              refine r_eqi (y := nI (Dv a b (i + 1) (j + 1))) (congrArg nI (by rw [hs, if_pos h_143]; omega)) ?_
              first | refine r_iastN cx 0 0 dX4_distance_183 rfl rfl (by omega) (by omega) ?_ | refine r_iast cx 0 0 dX4_distance_183 rfl rfl (by omega) ?_
              refine r_iincN (j := 1) cx dX4_distance_184 rfl rfl (by decide) rfl ?_
              refine r_goto (tgt := 72) cx dX4_distance_187 (by decide) ?_
              exact r_lv (q_pk [4, 5, 6, 7, 1, 0] rfl) (ih (j + 1, va_up S3 3 (upd (S3 3) (j + 1) (nI (Dv a b (i + 1) (j + 1))))) ⟨by omega, fun k hk => by
    show upd (S3 3) (j + 1) _ k = _
    by_cases h9 : k = j + 1
    · rw [h9, pk_us]
    · rw [pk_un h9]
      exact hz2 k (by omega), fun k h1 h2 => by
    show upd (S3 3) (j + 1) _ k = _
    rw [pk_un (by omega)]
    exact hz3 k (by omega) h2, hz4, hz5⟩ (by show _ - (j + 1) < _ - j; omega))
        · skip
          refine r_aload_n cx dX4_distance_79 rfl rfl ?_
          refine gf_X4_75 cx dX4_distance_80 22 rfl rfl ?_
          refine r_iload cx dX4_distance_83 rfl ?_
          first | refine r_ialdN cx 0 0 dX4_distance_85 rfl rfl (by omega) (by omega) ?_ | refine r_iald cx 0 0 dX4_distance_85 rfl rfl (by omega) ?_
          refine r_eqi (y := nI (Dv a b i (j + 1))) (hz3 (j + 1) (by omega) (by omega)) ?_
          refine r_aload_n cx dX4_distance_86 rfl rfl ?_
          refine gf_X4_75 cx dX4_distance_87 22 rfl rfl ?_
          refine r_iload cx dX4_distance_90 rfl ?_
          refine r_iconst (v := nI 1) cx dX4_distance_92 (by decide) ?_
          first | refine r_isubN cx dX4_distance_93 (by omega) ?_ | refine r_isub cx dX4_distance_93 ?_
          first | refine r_ialdN cx 0 0 dX4_distance_94 rfl rfl (by omega) (by omega) ?_ | refine r_iald cx 0 0 dX4_distance_94 rfl rfl (by omega) ?_
          rw [Nat.add_sub_cancel]
          refine r_eqi (y := nI (Dv a b (i + 1) j)) (hz2 j (Nat.le_refl _)) ?_
          refine r_icmpgeN (tgt := 110) cx (by omega) (by omega) dX4_distance_95 (by decide) (fun h_95 => ?_) (fun h_95 => ?_)
          · skip
            refine r_aload_n cx dX4_distance_110 rfl rfl ?_
            refine gf_X4_75 cx dX4_distance_111 22 rfl rfl ?_
            refine r_iload cx dX4_distance_114 rfl ?_
            refine r_iconst (v := nI 1) cx dX4_distance_116 (by decide) ?_
            first | refine r_isubN cx dX4_distance_117 (by omega) ?_ | refine r_isub cx dX4_distance_117 ?_
            first | refine r_ialdN cx 0 0 dX4_distance_118 rfl rfl (by omega) (by omega) ?_ | refine r_iald cx 0 0 dX4_distance_118 rfl rfl (by omega) ?_
            rw [Nat.add_sub_cancel]
            refine r_eqi (y := nI (Dv a b (i + 1) j)) (hz2 j (Nat.le_refl _)) ?_
            refine r_iconst (v := nI 1) cx dX4_distance_119 (by decide) ?_
            first | refine r_iaddN cx dX4_distance_120 ?_ | refine r_iadd cx dX4_distance_120 ?_
            refine r_eqi (y := nI (min (Dv a b i (j + 1)) (Dv a b (i + 1) j) + 1)) (congrArg nI (by omega)) ?_
            exact r_lv (q_pk [0, 1, 2, 3, 4, 5] rfl) (J_121 () trivial)
          · skip
            refine r_aload_n cx dX4_distance_98 rfl rfl ?_
            refine gf_X4_75 cx dX4_distance_99 22 rfl rfl ?_
            refine r_iload cx dX4_distance_102 rfl ?_
            first | refine r_ialdN cx 0 0 dX4_distance_104 rfl rfl (by omega) (by omega) ?_ | refine r_iald cx 0 0 dX4_distance_104 rfl rfl (by omega) ?_
            refine r_eqi (y := nI (Dv a b i (j + 1))) (hz3 (j + 1) (by omega) (by omega)) ?_
            refine r_iconst (v := nI 1) cx dX4_distance_105 (by decide) ?_
            first | refine r_iaddN cx dX4_distance_106 ?_ | refine r_iadd cx dX4_distance_106 ?_
            refine r_goto (tgt := 121) cx dX4_distance_107 (by decide) ?_
            refine r_eqi (y := nI (min (Dv a b i (j + 1)) (Dv a b (i + 1) j) + 1)) (congrArg nI (by omega)) ?_
            exact r_lv (q_pk [0, 1, 2, 3, 4, 5] rfl) (J_121 () trivial)
  · skip
    refine r_aload_n cx dX4_distance_29 rfl rfl ?_
    refine gf_X4_75 cx dX4_distance_30 22 rfl rfl ?_
    refine r_iload cx dX4_distance_33 rfl ?_
    refine r_iload cx dX4_distance_35 rfl ?_
    first | refine r_iastN cx 0 0 dX4_distance_37 rfl rfl (by omega) (by omega) ?_ | refine r_iast cx 0 0 dX4_distance_37 rfl rfl (by omega) ?_
    refine r_iincN (j := 1) cx dX4_distance_38 rfl rfl (by decide) rfl ?_
    refine r_goto (tgt := 22) cx dX4_distance_41 (by decide) ?_
    exact r_lv (q_pk [1, 2, 3, 0] rfl) (ih (j + 1, va_up S1 3 (upd (S1 3) j (nI j))) ⟨by omega, fun k hk => by
    show upd (S1 3) j (nI j) k = nI k
    by_cases h9 : k = j
    · rw [h9, pk_us]
    · rw [pk_un h9]
      exact hx2 k (by omega), hx3, hx4⟩ (by show _ - (j + 1) < _ - j; omega))
set_option maxHeartbeats 4000000 in
set_option maxRecDepth 100000 in
theorem c_mFar (l : Launch) (g : q_G) (md : Nat → Nat) (wr : va_W) (t : Int32) (N : Nat → Nat) (A : Nat → Nat → Int32) (B : Nat → Nat → Bool) (L : Nat → Nat → Int64) (S : Nat → Nat → Int32) (hI : inv N A B L) (x1 : Int32) : MetW l g yX4_far cX4_far 2 (some .int) ({ frames := 2, cells := 0, slots := 0, locals := 53 } : Room) [.ref (md 22), .int x1] (mF g md t N A B L S ++ wr) (q_Qi g (fun r w => mP g md wr (kc (!inR x1 (N 1)) false false) (farV N A B (c32 x1)) N A B L N A B L r w)) := by
  refine q_met (own := RX4) (by decide +kernel) rfl (Nat.le_of_ble_eq_true rfl) (fun p e s m args below meth c cx hr hnm => ?_)
  obtain ⟨⟨i1, i2, i3, i4⟩, j2, j3, j4, j5, j6, j7, j8, j9, j10, j11⟩ := id hI
  refine r_lv (lv2 := [(0, .ref (md 22)), (1, .int x1)]) (q_pk [0, 1] rfl) ?_
  refine r_aload_n cx dX4_far_0 rfl rfl ?_
  refine r_iconst (v := nI 0) cx dX4_far_1 (by decide) ?_
  refine pf_X4_78 cx dX4_far_2 22 rfl (Nat.le_of_ble_eq_true rfl) ?_
  refine r_ws (ws2 := mF g md (nI 0) N A B L S ++ wr) rfl ?_
  refine r_aload_n cx dX4_far_5 rfl rfl ?_
  refine r_iload_n cx dX4_far_6 rfl rfl ?_
  refine k_X4_117 cx (c_mIi l g md wr _ N A B L S x1 i2) dX4_far_7 22 rfl ⟨Nat.le_of_ble_eq_true rfl, Nat.le_of_ble_eq_true rfl⟩ ⟨Nat.le_of_ble_eq_true rfl, Nat.le_of_ble_eq_true rfl⟩ rfl rfl (Nat.le_of_ble_eq_true rfl) (fun r w hp => ?_)
  obtain ⟨rfl, rfl⟩ := hp
  refine r_ifneb (tgt := 19) cx dX4_far_10 (by decide) (fun h_10 => ?_) (fun h_10 => ?_)
  · skip
    obtain ⟨j, hj, rfl, hcj⟩ := inR_ix (x := x1) (n := N 1) (by simpa using h_10) (by omega)
    obtain ⟨⟨hw4, hwe⟩, la, hla⟩ := j3 j hj
    have hua := unF_some hla
    obtain ⟨wv, hwv⟩ : ∃ q, q = c32 (A 4 j) := ⟨_, rfl⟩
    rw [← hwv] at hw4 hwe
    refine r_aload_n cx dX4_far_19 rfl rfl ?_
    refine gf_X4_28 cx dX4_far_20 22 rfl rfl ?_
    refine r_iload_n cx dX4_far_23 rfl rfl ?_
    first | refine r_zaldN cx 15 2 dX4_far_24 rfl rfl (by omega) (by omega) ?_ | refine r_zald cx 15 2 dX4_far_24 rfl rfl (by omega) ?_
    refine r_ifneb (tgt := 43) cx dX4_far_25 (by decide) (fun h_25 => ?_) (fun h_25 => ?_)
    · skip
      refine r_iconst (v := -1) cx dX4_far_43 (by decide) ?_
      exact r_iret cx dX4_far_44 hr (mP_t (by simp [kc, h_10]) (by rw [hcj, farV, if_pos h_25]) S rfl) (Nat.le_of_ble_eq_true rfl) (Nat.le_of_ble_eq_true rfl)
    · skip
      refine r_aload_n cx dX4_far_28 rfl rfl ?_
      refine gf_X4_32 cx dX4_far_29 22 rfl rfl ?_
      refine r_aload_n cx dX4_far_32 rfl rfl ?_
      refine gf_X4_22 cx dX4_far_33 22 rfl rfl ?_
      refine r_iload_n cx dX4_far_36 rfl rfl ?_
      first | refine r_ialdN cx 17 0 dX4_far_37 rfl rfl (by omega) (by omega) ?_ | refine r_iald cx 17 0 dX4_far_37 rfl rfl (by omega) ?_
      refine r_eqi hwe ?_
      first | refine r_ialdN cx 14 0 dX4_far_38 rfl rfl (by omega) (by omega) ?_ | refine r_iald cx 14 0 dX4_far_38 rfl rfl (by omega) ?_
      refine r_eqi (y := roI (unF (A 6 wv))) (j5 wv hw4).symm ?_
      refine r_iconst (v := -1) cx dX4_far_39 (by decide) ?_
      refine r_icmpne (tgt := 45) cx dX4_far_40 (by decide) (fun h_40 => ?_) (fun h_40 => ?_)
      · skip
        obtain ⟨lb, hlb⟩ := roI_some h_40
        obtain ⟨hB, hokb⟩ := unF_some hlb
        have hoke0 := expF_ok (gs := goF (rlS A) (B 1) (A 2 j) (A 3 j)) (so := soF A) (be := beF A) (to := toF A) (n := N 2) (fun r hr9 => (j6 r hr9).2.2.2.2.2) hokb.1 hokb.2.1 (N 2) (Nat.le_refl _)
        have hoke : okL (expF (goF (rlS A) (B 1) (A 2 j) (A 3 j)) (soF A) (beF A) (toF A) lb (N 2)) := ⟨hoke0.1, hoke0.2, expF_ne hokb.2.2 _⟩
        refine r_aload_n cx dX4_far_45 rfl rfl ?_
        refine r_aload_n cx dX4_far_46 rfl rfl ?_
        refine r_aload_n cx dX4_far_47 rfl rfl ?_
        refine gf_X4_22 cx dX4_far_48 22 rfl rfl ?_
        refine r_iload_n cx dX4_far_51 rfl rfl ?_
        first | refine r_ialdN cx 17 0 dX4_far_52 rfl rfl (by omega) (by omega) ?_ | refine r_iald cx 17 0 dX4_far_52 rfl rfl (by omega) ?_
        refine r_eqi hwe ?_
        refine r_aload_n cx dX4_far_53 rfl rfl ?_
        refine gf_X4_16 cx dX4_far_54 22 rfl rfl ?_
        refine r_iload_n cx dX4_far_57 rfl rfl ?_
        first | refine r_ialdN cx 19 0 dX4_far_58 rfl rfl (by omega) (by omega) ?_ | refine r_iald cx 19 0 dX4_far_58 rfl rfl (by omega) ?_
        refine r_aload_n cx dX4_far_59 rfl rfl ?_
        refine gf_X4_19 cx dX4_far_60 22 rfl rfl ?_
        refine r_iload_n cx dX4_far_63 rfl rfl ?_
        first | refine r_ialdN cx 18 0 dX4_far_64 rfl rfl (by omega) (by omega) ?_ | refine r_iald cx 18 0 dX4_far_64 rfl rfl (by omega) ?_
        refine k_X4_135 cx (c_mExpects l g md wr _ N A B L S wv (A 2 j) (A 3 j) hw4 hI) dX4_far_65 22 rfl ⟨Nat.le_of_ble_eq_true rfl, Nat.le_of_ble_eq_true rfl⟩ ⟨Nat.le_of_ble_eq_true rfl, Nat.le_of_ble_eq_true rfl⟩ rfl rfl (Nat.le_of_ble_eq_true rfl) (fun r w hp => ?_)
        obtain ⟨rfl, S2, rfl⟩ := hp
        refine r_eqi (y := nI (num (expF (goF (rlS A) (B 1) (A 2 j) (A 3 j)) (soF A) (beF A) (toF A) lb (N 2)))) (by rw [expV, hlb]; rfl) ?_
        refine r_aload_n cx dX4_far_68 rfl rfl ?_
        refine gf_X4_25 cx dX4_far_69 22 rfl rfl ?_
        refine r_iload_n cx dX4_far_72 rfl rfl ?_
        first | refine r_ialdN cx 16 0 dX4_far_73 rfl rfl (by omega) (by omega) ?_ | refine r_iald cx 16 0 dX4_far_73 rfl rfl (by omega) ?_
        refine r_eqi (y := nI (num la)) hua.1 ?_
        refine k_X4_139 cx (c_mDist l g md wr _ N A B L S2 (expF (goF (rlS A) (B 1) (A 2 j) (A 3 j)) (soF A) (beF A) (toF A) lb (N 2)) la hoke hua.2) dX4_far_74 22 rfl ⟨Nat.le_of_ble_eq_true rfl, Nat.le_of_ble_eq_true rfl⟩ ⟨Nat.le_of_ble_eq_true rfl, Nat.le_of_ble_eq_true rfl⟩ rfl rfl (Nat.le_of_ble_eq_true rfl) (fun r w hp => ?_)
        obtain ⟨rfl, S3, rfl⟩ := hp
        exact r_iret cx dX4_far_77 hr (mP_t (by simp [kc, h_10]) (by rw [hcj, farV, h_25, if_neg (by decide), ← hwv, hla, hlb]; try rfl) S3 rfl) (Nat.le_of_ble_eq_true rfl) (Nat.le_of_ble_eq_true rfl)
      · skip
        refine r_iconst (v := -1) cx dX4_far_43 (by decide) ?_
        exact r_iret cx dX4_far_44 hr (mP_t (by simp [kc, h_10]) (by rw [hcj, farV, h_25, if_neg (by decide), ← hwv, hla, roI_none (fun l hl9 => ⟨(unF_some hl9).2.1, (unF_some hl9).2.2.1⟩) h_40]; try rfl) S rfl) (Nat.le_of_ble_eq_true rfl) (Nat.le_of_ble_eq_true rfl)
  · skip
    refine r_aload_n cx dX4_far_13 rfl rfl ?_
    refine r_iconst (v := nI 1) cx dX4_far_14 (by decide) ?_
    refine k_X4_103 cx (c_mFails l g md wr _ N A B L S (nI 1)) dX4_far_15 22 rfl ⟨Nat.le_of_ble_eq_true rfl, Nat.le_of_ble_eq_true rfl⟩ ⟨Nat.le_of_ble_eq_true rfl, Nat.le_of_ble_eq_true rfl⟩ rfl rfl (Nat.le_of_ble_eq_true rfl) (fun r w hp => ?_)
    obtain ⟨rfl, rfl⟩ := hp
    exact r_iret cx dX4_far_18 hr (mP_f 1 (by simp [kc, h_10]) (by decide) S rfl) (Nat.le_of_ble_eq_true rfl) (Nat.le_of_ble_eq_true rfl)
