theorem lwI_mk {g : q_G} {a0 : Nat} {ld : Nat → Nat} {N : Nat → Nat} {A : Nat → Nat → Int32} {B : Nat → Nat → Bool} {L : Nat → Nat → Int64} {Z : Nat → Nat → Int32} {w : va_W} (hw : cR g a0 N A B L (lF g ld Z) w) (hZ : lR N A B L Z) : lwI g a0 ld w := ⟨N, A, B, L, Z, hZ, hw⟩
theorem in3 {a b d : Nat} (ha : a < 8) (hb : b < 10) (hd : d < 4) : (inR (nI a) 8 && inR (nI b) 10 && inR (nI d) 4) = true := by rw [inT ha (by decide), inT hb (by decide), inT hd (by decide)]; rfl
set_option maxHeartbeats 4000000 in
set_option maxRecDepth 100000 in
theorem c_Ldrafts (l : Launch) (g : q_G) (hl : l.stackTraces = false) (ws : va_W) (a0 : Nat) (ld : Nat → Nat) (h : lwI g a0 ld ws) (act : Nat) (hact : act < 1000) (zz : Int32) : MetW l g yL_drafts cL_drafts 11 (some .boolean) ({ frames := 9, cells := 4, slots := 250, locals := 253 } : Room) [.ref a0, .int (nI act), .int zz, .ref (ld 1), .ref (ld 2), .ref (ld 0)] (ws) (q_Qi g (fun r w => r = nI 1 ∧ lwI g a0 ld w)) := by
  refine q_met (own := RL) (by decide +kernel) rfl (Nat.le_of_ble_eq_true rfl) (fun p e s m args below meth c cx hr hnm => ?_)
  obtain ⟨N, A, B, L, Z, hZ, hw⟩ := h
  obtain ⟨hI, ⟨b1, b2, b3⟩, ⟨z0, z1, z2, z3, z4, z5, z6⟩, zK, zR, zV, zU, zE, zC⟩ := id hZ
  obtain ⟨⟨i1, i2, i3, i4⟩, j2, j3, j4, j5, j6, j7, j8, j9, j10, j11⟩ := id hI
  refine r_lv (lv2 := [(0, .ref a0), (1, .int (nI act)), (2, .int zz), (3, .ref (ld 1)), (4, .ref (ld 2)), (5, .ref (ld 0))]) (q_pk [0, 1, 2, 3, 4, 5] rfl) ?_
  refine at_join (tgt := 18) (fun (z : Unit) => True) (fun z => [(0, .ref a0), (1, .int (nI act)), (2, .int zz), (3, .ref (ld 1)), (4, .ref (ld 2)), (5, .ref (ld 0))]) (fun z => []) (fun z => ws) ?_ (fun J_18 => ?_)
  · intro z hz
    try dsimp only at hz ⊢
    refine r_iload_n cx dL_drafts_18 rfl rfl ?_
    refine at_val (tgt := 36) (fun z => ∃ n, 0 < n ∧ n ≤ 8 ∧ z = nI n) (fun z hz => ?_) (fun J_36 => ?_)
    · obtain ⟨n9, hn0, hn9, rfl⟩ := hz
      refine k_L_58 cx (c_Low l g _ _ n9 hn0 (by omega)) dL_drafts_36 ⟨Nat.le_of_ble_eq_true rfl, Nat.le_of_ble_eq_true rfl⟩ ⟨Nat.le_of_ble_eq_true rfl, Nat.le_of_ble_eq_true rfl⟩ rfl rfl (Nat.le_of_ble_eq_true rfl) (fun r w hp => ?_)
      obtain ⟨⟨sn, hsn, rfl⟩, rfl⟩ := hp
      refine r_istore cx dL_drafts_39 (by decide) rfl ?_
      refine r_aload cx dL_drafts_41 rfl ?_
      refine r_iconst (v := nI 0) cx dL_drafts_43 (by decide) ?_
      refine ll_0 cx dL_drafts_44 hw (by omega) ?_
      refine r_eqi z0 ?_
      refine r_bipush (v := nI 8) cx dL_drafts_45 (by decide) ?_
      refine r_icmpgeN (tgt := 54) cx (by omega) (by omega) dL_drafts_47 (by decide) (fun h_47 => ?_) (fun h_47 => ?_)
      · skip
        refine r_iconst (v := nI 0) cx dL_drafts_54 (by decide) ?_
        refine r_istore cx dL_drafts_55 (by decide) rfl ?_
        refine r_aload cx dL_drafts_57 rfl ?_
        refine r_iconst (v := nI 1) cx dL_drafts_59 (by decide) ?_
        refine r_iload cx dL_drafts_60 rfl ?_
        refine r_ifeqN (tgt := 80) cx (by omega) dL_drafts_62 (by decide) (fun h_62 => ?_) (fun h_62 => ?_)
        · skip
          refine r_aload cx dL_drafts_80 rfl ?_
          refine r_iconst (v := nI 1) cx dL_drafts_82 (by decide) ?_
          refine ll_0 cx dL_drafts_83 hw (by omega) ?_
          refine ls_0 cx dL_drafts_84 hw (by omega) (fun w hw => ?_)
          refine r_aload cx dL_drafts_85 rfl ?_
          refine r_iconst (v := nI 0) cx dL_drafts_87 (by decide) ?_
          refine r_dup2 cx dL_drafts_88 rfl rfl ?_
          refine ll_0 cx dL_drafts_89 hw (by omega) ?_
          refine r_eqi (y := nI (N 0)) z0 ?_
          refine r_iload cx dL_drafts_90 rfl ?_
          refine r_ifeqN (tgt := 99) cx (by omega) dL_drafts_92 (by decide) (fun h_92 => ?_) (fun h_92 => ?_)
          · skip
            refine r_iconst (v := nI 0) cx dL_drafts_99 (by decide) ?_
            first | refine r_iaddN cx dL_drafts_100 ?_ | refine r_iadd cx dL_drafts_100 ?_
            refine ls_0 cx dL_drafts_101 hw (by omega) (fun w hw => ?_)
            refine r_aload_n cx dL_drafts_102 rfl rfl ?_
            refine r_iconst (v := nI 0) cx dL_drafts_103 (by decide) ?_
            refine r_iload cx dL_drafts_104 rfl ?_
            refine r_iconst (v := nI 0) cx dL_drafts_106 (by decide) ?_
            refine r_iconst (v := nI 0) cx dL_drafts_107 (by decide) ?_
            refine r_iconst (v := nI 0) cx dL_drafts_108 (by decide) ?_
            refine k_L_94 cx (c_Csound l g hl N A B L _ _ a0 hI hw (nI sn) (nI 0) (nI 0) (nI 0) (kc2 (inT (n := 8) (show sn < 8 by omega) (by decide)))) dL_drafts_109 ⟨Nat.le_of_ble_eq_true rfl, Nat.le_of_ble_eq_true rfl⟩ ⟨Nat.le_of_ble_eq_true rfl, Nat.le_of_ble_eq_true rfl⟩ rfl rfl (Nat.le_of_ble_eq_true rfl) (fun r w hp => ?_)
            rcases hp with ⟨hk, -⟩ | ⟨hk, rfl, hw⟩
            · exact absurd hk (kc2n (inT (n := 8) (show sn < 8 by omega) (by decide)) (decide_eq_true (by omega)))
            refine r_iload cx dL_drafts_112 rfl ?_
            refine r_ifeqN (tgt := 124) cx (by omega) dL_drafts_114 (by decide) (fun h_114 => ?_) (fun h_114 => ?_)
            · skip
              refine r_bipush (v := -3) cx dL_drafts_124 (by decide) ?_
              refine r_icmpne (tgt := 133) cx dL_drafts_126 (by decide) (fun h_126 => ?_) (fun h_126 => ?_)
              · exact absurd rfl h_126
              · skip
                refine r_iconst (v := nI 1) cx dL_drafts_129 (by decide) ?_
                refine r_goto (tgt := 134) cx dL_drafts_130 (by decide) ?_
                exact r_zret cx dL_drafts_134 hr rfl (⟨rfl, lwI_mk hw (lR_same hZ (by
    show upd (upd (Z 0) 1 (Z 0 1)) 0 (nI (N 0 + 0)) = Z 0
    rw [upd_eq (f := Z 0) (i := 1) rfl, upd_eq (show nI (N 0 + 0) = Z 0 0 from z0.symm)]) rfl rfl rfl rfl (fun _ _ => rfl))⟩) (Nat.le_of_ble_eq_true rfl) (Nat.le_of_ble_eq_true rfl)
            · exact absurd rfl h_114
          · exact absurd rfl h_92
        · exact absurd rfl h_62
      · skip
        refine r_iconst (v := nI 1) cx dL_drafts_50 (by decide) ?_
        refine r_goto (tgt := 55) cx dL_drafts_51 (by decide) ?_
        refine r_istore cx dL_drafts_55 (by decide) rfl ?_
        refine r_aload cx dL_drafts_57 rfl ?_
        refine r_iconst (v := nI 1) cx dL_drafts_59 (by decide) ?_
        refine r_iload cx dL_drafts_60 rfl ?_
        refine r_ifeqN (tgt := 80) cx (by omega) dL_drafts_62 (by decide) (fun h_62 => ?_) (fun h_62 => ?_)
        · exact absurd h_62 (by decide)
        · skip
          refine r_bipush (v := nI 9) cx dL_drafts_65 (by decide) ?_
          refine r_aload cx dL_drafts_67 rfl ?_
          refine r_iconst (v := nI 1) cx dL_drafts_69 (by decide) ?_
          refine ll_0 cx dL_drafts_70 hw (by omega) ?_
          refine r_eqi z1 ?_
          first | refine r_imulN cx dL_drafts_71 ?_ | refine r_imul cx dL_drafts_71 ?_
          refine r_iload cx dL_drafts_72 rfl ?_
          first | refine r_iaddN cx dL_drafts_74 ?_ | refine r_iadd cx dL_drafts_74 ?_
          refine r_iconst (v := nI 1) cx dL_drafts_75 (by decide) ?_
          first | refine r_iaddN cx dL_drafts_76 ?_ | refine r_iadd cx dL_drafts_76 ?_
          refine r_goto (tgt := 84) cx dL_drafts_77 (by decide) ?_
          refine ls_0 cx dL_drafts_84 hw (by omega) (fun w hw => ?_)
          refine r_aload cx dL_drafts_85 rfl ?_
          refine r_iconst (v := nI 0) cx dL_drafts_87 (by decide) ?_
          refine r_dup2 cx dL_drafts_88 rfl rfl ?_
          refine ll_0 cx dL_drafts_89 hw (by omega) ?_
          refine r_eqi (y := nI (N 0)) z0 ?_
          refine r_iload cx dL_drafts_90 rfl ?_
          refine r_ifeqN (tgt := 99) cx (by omega) dL_drafts_92 (by decide) (fun h_92 => ?_) (fun h_92 => ?_)
          · exact absurd h_92 (by decide)
          · skip
            refine r_iconst (v := nI 1) cx dL_drafts_95 (by decide) ?_
            refine r_goto (tgt := 100) cx dL_drafts_96 (by decide) ?_
            first | refine r_iaddN cx dL_drafts_100 ?_ | refine r_iadd cx dL_drafts_100 ?_
            refine ls_0 cx dL_drafts_101 hw (by omega) (fun w hw => ?_)
            refine r_aload_n cx dL_drafts_102 rfl rfl ?_
            refine r_iconst (v := nI 0) cx dL_drafts_103 (by decide) ?_
            refine r_iload cx dL_drafts_104 rfl ?_
            refine r_iconst (v := nI 0) cx dL_drafts_106 (by decide) ?_
            refine r_iconst (v := nI 0) cx dL_drafts_107 (by decide) ?_
            refine r_iconst (v := nI 0) cx dL_drafts_108 (by decide) ?_
            refine k_L_94 cx (c_Csound l g hl N A B L _ _ a0 hI hw (nI sn) (nI 0) (nI 0) (nI 0) (kc2 (inT (n := 8) (show sn < 8 by omega) (by decide)))) dL_drafts_109 ⟨Nat.le_of_ble_eq_true rfl, Nat.le_of_ble_eq_true rfl⟩ ⟨Nat.le_of_ble_eq_true rfl, Nat.le_of_ble_eq_true rfl⟩ rfl rfl (Nat.le_of_ble_eq_true rfl) (fun r w hp => ?_)
            rcases hp with ⟨hk, rfl, hw⟩ | ⟨hk, -⟩
            rotate_left
            · exact absurd (kc2z (inT (n := 8) (show sn < 8 by omega) (by decide)) (decide_eq_false (by omega))) hk
            refine r_iload cx dL_drafts_112 rfl ?_
            refine r_ifeqN (tgt := 124) cx (by omega) dL_drafts_114 (by decide) (fun h_114 => ?_) (fun h_114 => ?_)
            · exact absurd h_114 (by decide)
            · skip
              refine r_aload cx dL_drafts_117 rfl ?_
              refine r_iconst (v := nI 0) cx dL_drafts_119 (by decide) ?_
              refine ll_0 cx dL_drafts_120 hw (by omega) ?_
              refine r_eqi (y := nI (N 0 + 1)) rfl ?_
              refine r_goto (tgt := 126) cx dL_drafts_121 (by decide) ?_
              refine r_icmpne (tgt := 133) cx dL_drafts_126 (by decide) (fun h_126 => ?_) (fun h_126 => ?_)
              · exact absurd rfl h_126
              · skip
                refine r_iconst (v := nI 1) cx dL_drafts_129 (by decide) ?_
                refine r_goto (tgt := 134) cx dL_drafts_130 (by decide) ?_
                exact r_zret cx dL_drafts_134 hr rfl (⟨rfl, lwI_mk hw (lR_sound hZ (by omega) hk rfl rfl rfl rfl rfl rfl)⟩) (Nat.le_of_ble_eq_true rfl) (Nat.le_of_ble_eq_true rfl)
    · skip
      refine r_iload_n cx dL_drafts_19 rfl rfl ?_
      refine r_bipush (v := nI 13) cx dL_drafts_20 (by decide) ?_
      refine r_ishr cx dL_drafts_22 ?_
      refine r_iconst (v := nI 3) cx dL_drafts_23 (by decide) ?_
      refine k_L_58 cx (c_Low l g _ _ 3 (by decide) (by decide)) dL_drafts_24 ⟨Nat.le_of_ble_eq_true rfl, Nat.le_of_ble_eq_true rfl⟩ ⟨Nat.le_of_ble_eq_true rfl, Nat.le_of_ble_eq_true rfl⟩ rfl rfl (Nat.le_of_ble_eq_true rfl) (fun r w hp => ?_)
      obtain ⟨⟨j9, hj9, rfl⟩, rfl⟩ := hp
      refine r_ifneN (tgt := 35) cx (by omega) dL_drafts_27 (by decide) (fun h_27 => ?_) (fun h_27 => ?_)
      · skip
        refine r_iconst (v := nI 3) cx dL_drafts_35 (by decide) ?_
        exact J_36 _ (⟨3, by decide, by decide, rfl⟩)
      · skip
        refine r_bipush (v := nI 8) cx dL_drafts_30 (by decide) ?_
        refine r_goto (tgt := 36) cx dL_drafts_32 (by decide) ?_
        exact J_36 _ (⟨8, by decide, by decide, rfl⟩)
  · skip
    refine r_iload_n cx dL_drafts_0 rfl rfl ?_
    refine r_iconst (v := nI 4) cx dL_drafts_1 (by decide) ?_
    refine r_icmpltN (tgt := 18) cx (by omega) (by omega) dL_drafts_2 (by decide) (fun h_2 => ?_) (fun h_2 => ?_)
    · skip
      exact r_lv (q_pk [0, 1, 2, 3, 4, 5] rfl) (J_18 () trivial)
    · skip
      refine at_join (tgt := 135) (fun (z : Unit) => True) (fun z => [(0, .ref a0), (1, .int (nI act)), (2, .int zz), (3, .ref (ld 1)), (4, .ref (ld 2)), (5, .ref (ld 0))]) (fun z => []) (fun z => ws) ?_ (fun J_135 => ?_)
      · intro z hz
        try dsimp only at hz ⊢
        refine r_iload_n cx dL_drafts_135 rfl rfl ?_
        refine r_bipush (v := nI 6) cx dL_drafts_136 (by decide) ?_
        refine r_icmpneN (tgt := 231) cx (by omega) (by omega) dL_drafts_138 (by decide) (fun h_138 => ?_) (fun h_138 => ?_)
        · skip
          refine r_aload cx dL_drafts_231 rfl ?_
          refine r_iconst (v := nI 2) cx dL_drafts_233 (by decide) ?_
          refine ll_0 cx dL_drafts_234 hw (by omega) ?_
          refine r_eqi z2 ?_
          refine r_bipush (v := nI 16) cx dL_drafts_235 (by decide) ?_
          refine r_icmpneN (tgt := 242) cx (by omega) (by omega) dL_drafts_237 (by decide) (fun h_237 => ?_) (fun h_237 => ?_)
          · skip
            refine r_iload_n cx dL_drafts_242 rfl rfl ?_
            refine at_val (tgt := 260) (fun z => ∃ n, 0 < n ∧ n ≤ 8 ∧ z = nI n) (fun z hz => ?_) (fun J_260 => ?_)
            · obtain ⟨n9, hn0, hn9, rfl⟩ := hz
              refine k_L_58 cx (c_Low l g _ _ n9 hn0 (by omega)) dL_drafts_260 ⟨Nat.le_of_ble_eq_true rfl, Nat.le_of_ble_eq_true rfl⟩ ⟨Nat.le_of_ble_eq_true rfl, Nat.le_of_ble_eq_true rfl⟩ rfl rfl (Nat.le_of_ble_eq_true rfl) (fun r w hp => ?_)
              obtain ⟨⟨inf, hinf, rfl⟩, rfl⟩ := hp
              refine r_istore cx dL_drafts_263 (by decide) rfl ?_
              refine r_iload_n cx dL_drafts_265 rfl rfl ?_
              refine r_iconst (v := nI 3) cx dL_drafts_266 (by decide) ?_
              refine r_ishr cx dL_drafts_267 ?_
              refine at_val (tgt := 285) (fun z => ∃ n, 0 < n ∧ n ≤ 10 ∧ z = nI n) (fun z hz => ?_) (fun J_285 => ?_)
              · obtain ⟨n9, hn0, hn9, rfl⟩ := hz
                refine k_L_58 cx (c_Low l g _ _ n9 hn0 (by omega)) dL_drafts_285 ⟨Nat.le_of_ble_eq_true rfl, Nat.le_of_ble_eq_true rfl⟩ ⟨Nat.le_of_ble_eq_true rfl, Nat.le_of_ble_eq_true rfl⟩ rfl rfl (Nat.le_of_ble_eq_true rfl) (fun r w hp => ?_)
                obtain ⟨⟨pl, hpl, rfl⟩, rfl⟩ := hp
                refine r_istore cx dL_drafts_288 (by decide) rfl ?_
                refine r_iload_n cx dL_drafts_290 rfl rfl ?_
                refine r_iconst (v := nI 5) cx dL_drafts_291 (by decide) ?_
                refine r_ishr cx dL_drafts_292 ?_
                refine r_sipush (v := nI 301) cx dL_drafts_293 (by decide) ?_
                refine k_L_58 cx (c_Low l g _ _ 301 (by decide) (by decide)) dL_drafts_296 ⟨Nat.le_of_ble_eq_true rfl, Nat.le_of_ble_eq_true rfl⟩ ⟨Nat.le_of_ble_eq_true rfl, Nat.le_of_ble_eq_true rfl⟩ rfl rfl (Nat.le_of_ble_eq_true rfl) (fun r w hp => ?_)
                obtain ⟨⟨yr, hyr, rfl⟩, rfl⟩ := hp
                refine r_istore cx dL_drafts_299 (by decide) rfl ?_
                refine r_iload_n cx dL_drafts_301 rfl rfl ?_
                refine r_bipush (v := nI 8) cx dL_drafts_302 (by decide) ?_
                refine r_ishr cx dL_drafts_304 ?_
                refine at_val (tgt := 321) (fun z => ∃ n, 0 < n ∧ n ≤ 4 ∧ z = nI n) (fun z hz => ?_) (fun J_321 => ?_)
                · obtain ⟨n9, hn0, hn9, rfl⟩ := hz
                  refine k_L_58 cx (c_Low l g _ _ n9 hn0 (by omega)) dL_drafts_321 ⟨Nat.le_of_ble_eq_true rfl, Nat.le_of_ble_eq_true rfl⟩ ⟨Nat.le_of_ble_eq_true rfl, Nat.le_of_ble_eq_true rfl⟩ rfl rfl (Nat.le_of_ble_eq_true rfl) (fun r w hp => ?_)
                  obtain ⟨⟨wd, hwd, rfl⟩, rfl⟩ := hp
                  refine r_istore cx dL_drafts_324 (by decide) rfl ?_
                  refine r_aload cx dL_drafts_326 rfl ?_
                  refine r_iconst (v := nI 0) cx dL_drafts_328 (by decide) ?_
                  refine ll_0 cx dL_drafts_329 hw (by omega) ?_
                  refine r_eqi z0 ?_
                  refine r_ifleN (tgt := 337) cx (by omega) dL_drafts_330 (by decide) (fun h_330 => ?_) (fun h_330 => ?_)
                  · skip
                    refine r_iconst (v := nI 0) cx dL_drafts_337 (by decide) ?_
                    refine r_istore cx dL_drafts_338 (by decide) rfl ?_
                    refine r_iload cx dL_drafts_340 rfl ?_
                    refine r_ifeqN (tgt := 420) cx (by omega) dL_drafts_342 (by decide) (fun h_342 => ?_) (fun h_342 => ?_)
                    · skip
                      refine r_aload_n cx dL_drafts_420 rfl rfl ?_
                      refine r_iconst (v := nI 1) cx dL_drafts_421 (by decide) ?_
                      refine r_iload cx dL_drafts_422 rfl ?_
                      refine r_iload cx dL_drafts_424 rfl ?_
                      refine r_iload cx dL_drafts_426 rfl ?_
                      refine r_iload cx dL_drafts_428 rfl ?_
                      refine k_L_94 cx (c_Cinterview l g hl N A B L _ _ a0 hI hw (nI inf) (nI pl) (nI yr) (nI wd) (kc3 (in3 (show inf < 8 by omega) (show pl < 10 by omega) (show wd < 4 by omega)) (inT (n := 301) hyr (by decide))).1 (kc3 (in3 (show inf < 8 by omega) (show pl < 10 by omega) (show wd < 4 by omega)) (inT (n := 301) hyr (by decide))).2) dL_drafts_430 ⟨Nat.le_of_ble_eq_true rfl, Nat.le_of_ble_eq_true rfl⟩ ⟨Nat.le_of_ble_eq_true rfl, Nat.le_of_ble_eq_true rfl⟩ rfl rfl (Nat.le_of_ble_eq_true rfl) (fun r w hp => ?_)
                      rcases hp with ⟨hk, -⟩ | ⟨hk, rfl, hw⟩
                      · exact absurd hk (kc3n (in3 (show inf < 8 by omega) (show pl < 10 by omega) (show wd < 4 by omega)) (inT (n := 301) hyr (by decide)) (by rw [decide_eq_true h_330]; rfl))
                      refine r_iload cx dL_drafts_433 rfl ?_
                      refine r_ifeqN (tgt := 447) cx (by omega) dL_drafts_435 (by decide) (fun h_435 => ?_) (fun h_435 => ?_)
                      · skip
                        refine r_bipush (v := -3) cx dL_drafts_447 (by decide) ?_
                        refine r_icmpne (tgt := 456) cx dL_drafts_449 (by decide) (fun h_449 => ?_) (fun h_449 => ?_)
                        · exact absurd rfl h_449
                        · skip
                          refine r_iconst (v := nI 1) cx dL_drafts_452 (by decide) ?_
                          refine r_goto (tgt := 457) cx dL_drafts_453 (by decide) ?_
                          exact r_zret cx dL_drafts_457 hr rfl (⟨rfl, N, A, B, L, Z, hZ, hw⟩) (Nat.le_of_ble_eq_true rfl) (Nat.le_of_ble_eq_true rfl)
                      · exact absurd rfl h_435
                    · exact absurd rfl h_342
                  · skip
                    refine r_iconst (v := nI 1) cx dL_drafts_333 (by decide) ?_
                    refine r_goto (tgt := 338) cx dL_drafts_334 (by decide) ?_
                    refine r_istore cx dL_drafts_338 (by decide) rfl ?_
                    refine r_iload cx dL_drafts_340 rfl ?_
                    refine r_ifeqN (tgt := 420) cx (by omega) dL_drafts_342 (by decide) (fun h_342 => ?_) (fun h_342 => ?_)
                    · exact absurd h_342 (by decide)
                    · skip
                      refine r_aload_n cx dL_drafts_345 rfl rfl ?_
                      refine r_iconst (v := nI 4) cx dL_drafts_346 (by decide) ?_
                      refine r_aload cx dL_drafts_347 rfl ?_
                      refine r_iconst (v := nI 2) cx dL_drafts_349 (by decide) ?_
                      refine ll_0 cx dL_drafts_350 hw (by omega) ?_
                      refine r_eqi z2 ?_
                      first | refine r_imulN cx dL_drafts_351 ?_ | refine r_imul cx dL_drafts_351 ?_
                      refine r_iload cx dL_drafts_352 rfl ?_
                      refine ls_1 cx dL_drafts_354 hw (by omega) (fun w hw => ?_)
                      refine r_aload_n cx dL_drafts_355 rfl rfl ?_
                      refine r_iconst (v := nI 4) cx dL_drafts_356 (by decide) ?_
                      refine r_aload cx dL_drafts_357 rfl ?_
                      refine r_iconst (v := nI 2) cx dL_drafts_359 (by decide) ?_
                      refine ll_0 cx dL_drafts_360 hw (by omega) ?_
                      refine r_eqi z2 ?_
                      first | refine r_imulN cx dL_drafts_361 ?_ | refine r_imul cx dL_drafts_361 ?_
                      refine r_iconst (v := nI 1) cx dL_drafts_362 (by decide) ?_
                      first | refine r_iaddN cx dL_drafts_363 ?_ | refine r_iadd cx dL_drafts_363 ?_
                      refine r_iload cx dL_drafts_364 rfl ?_
                      refine ls_1 cx dL_drafts_366 hw (by omega) (fun w hw => ?_)
                      refine r_aload_n cx dL_drafts_367 rfl rfl ?_
                      refine r_iconst (v := nI 4) cx dL_drafts_368 (by decide) ?_
                      refine r_aload cx dL_drafts_369 rfl ?_
                      refine r_iconst (v := nI 2) cx dL_drafts_371 (by decide) ?_
                      refine ll_0 cx dL_drafts_372 hw (by omega) ?_
                      refine r_eqi z2 ?_
                      first | refine r_imulN cx dL_drafts_373 ?_ | refine r_imul cx dL_drafts_373 ?_
                      refine r_iconst (v := nI 2) cx dL_drafts_374 (by decide) ?_
                      first | refine r_iaddN cx dL_drafts_375 ?_ | refine r_iadd cx dL_drafts_375 ?_
                      refine r_iload cx dL_drafts_376 rfl ?_
                      refine ls_1 cx dL_drafts_378 hw (by omega) (fun w hw => ?_)
                      refine r_aload_n cx dL_drafts_379 rfl rfl ?_
                      refine r_iconst (v := nI 4) cx dL_drafts_380 (by decide) ?_
                      refine r_aload cx dL_drafts_381 rfl ?_
                      refine r_iconst (v := nI 2) cx dL_drafts_383 (by decide) ?_
                      refine ll_0 cx dL_drafts_384 hw (by omega) ?_
                      refine r_eqi z2 ?_
                      first | refine r_imulN cx dL_drafts_385 ?_ | refine r_imul cx dL_drafts_385 ?_
                      refine r_iconst (v := nI 3) cx dL_drafts_386 (by decide) ?_
                      first | refine r_iaddN cx dL_drafts_387 ?_ | refine r_iadd cx dL_drafts_387 ?_
                      refine r_iload cx dL_drafts_388 rfl ?_
                      refine ls_1 cx dL_drafts_390 hw (by omega) (fun w hw => ?_)
                      refine r_aload cx dL_drafts_391 rfl ?_
                      refine r_aload cx dL_drafts_393 rfl ?_
                      refine r_iconst (v := nI 2) cx dL_drafts_395 (by decide) ?_
                      refine ll_0 cx dL_drafts_396 hw (by omega) ?_
                      refine r_eqi z2 ?_
                      refine r_aload cx dL_drafts_397 rfl ?_
                      refine r_iconst (v := nI 1) cx dL_drafts_399 (by decide) ?_
                      refine ll_0 cx dL_drafts_400 hw (by omega) ?_
                      refine r_eqi z1 ?_
                      refine ls_2 cx dL_drafts_401 hw (by omega) (fun w hw => ?_)
                      refine r_aload cx dL_drafts_402 rfl ?_
                      refine r_iconst (v := nI 0) cx dL_drafts_404 (by decide) ?_
                      refine r_iconst (v := nI 0) cx dL_drafts_405 (by decide) ?_
                      refine ls_0 cx dL_drafts_406 hw (by omega) (fun w hw => ?_)
                      refine r_aload cx dL_drafts_407 rfl ?_
                      refine r_iconst (v := nI 1) cx dL_drafts_409 (by decide) ?_
                      refine r_iconst (v := nI 0) cx dL_drafts_410 (by decide) ?_
                      refine ls_0 cx dL_drafts_411 hw (by omega) (fun w hw => ?_)
                      refine r_aload cx dL_drafts_412 rfl ?_
                      refine r_iconst (v := nI 2) cx dL_drafts_414 (by decide) ?_
                      refine r_dup2 cx dL_drafts_415 rfl rfl ?_
                      refine ll_0 cx dL_drafts_416 hw (by omega) ?_
                      refine r_eqi (y := nI (N 1)) z2 ?_
                      refine r_iconst (v := nI 1) cx dL_drafts_417 (by decide) ?_
                      first | refine r_iaddN cx dL_drafts_418 ?_ | refine r_iadd cx dL_drafts_418 ?_
                      refine ls_0 cx dL_drafts_419 hw (by omega) (fun w hw => ?_)
                      refine r_aload_n cx dL_drafts_420 rfl rfl ?_
                      refine r_iconst (v := nI 1) cx dL_drafts_421 (by decide) ?_
                      refine r_iload cx dL_drafts_422 rfl ?_
                      refine r_iload cx dL_drafts_424 rfl ?_
                      refine r_iload cx dL_drafts_426 rfl ?_
                      refine r_iload cx dL_drafts_428 rfl ?_
                      refine k_L_94 cx (c_Cinterview l g hl N A B L _ _ a0 hI hw (nI inf) (nI pl) (nI yr) (nI wd) (kc3 (in3 (show inf < 8 by omega) (show pl < 10 by omega) (show wd < 4 by omega)) (inT (n := 301) hyr (by decide))).1 (kc3 (in3 (show inf < 8 by omega) (show pl < 10 by omega) (show wd < 4 by omega)) (inT (n := 301) hyr (by decide))).2) dL_drafts_430 ⟨Nat.le_of_ble_eq_true rfl, Nat.le_of_ble_eq_true rfl⟩ ⟨Nat.le_of_ble_eq_true rfl, Nat.le_of_ble_eq_true rfl⟩ rfl rfl (Nat.le_of_ble_eq_true rfl) (fun r w hp => ?_)
                      rcases hp with ⟨hk, rfl, hw⟩ | ⟨hk, -⟩
                      rotate_left
                      · exact absurd (kc3z (in3 (show inf < 8 by omega) (show pl < 10 by omega) (show wd < 4 by omega)) (inT (n := 301) hyr (by decide)) (by rw [decide_eq_false (show ¬ N 0 = 0 by omega), decide_eq_false (show ¬ N 1 = 40 by omega)]; rfl)) hk
                      refine r_iload cx dL_drafts_433 rfl ?_
                      refine r_ifeqN (tgt := 447) cx (by omega) dL_drafts_435 (by decide) (fun h_435 => ?_) (fun h_435 => ?_)
                      · exact absurd h_435 (by decide)
                      · skip
                        refine r_aload cx dL_drafts_438 rfl ?_
                        refine r_iconst (v := nI 2) cx dL_drafts_440 (by decide) ?_
                        refine ll_0 cx dL_drafts_441 hw (by omega) ?_
                        refine r_eqi (y := nI (N 1 + 1)) rfl ?_
                        refine r_iconst (v := nI 1) cx dL_drafts_442 (by decide) ?_
                        first | refine r_isubN cx dL_drafts_443 (by omega) ?_ | refine r_isub cx dL_drafts_443 ?_
                        refine r_goto (tgt := 449) cx dL_drafts_444 (by decide) ?_
                        refine r_icmpne (tgt := 456) cx dL_drafts_449 (by decide) (fun h_449 => ?_) (fun h_449 => ?_)
                        · exact absurd (by rw [Nat.add_sub_cancel]) h_449
                        · skip
                          refine r_iconst (v := nI 1) cx dL_drafts_452 (by decide) ?_
                          refine r_goto (tgt := 457) cx dL_drafts_453 (by decide) ?_
                          exact r_zret cx dL_drafts_457 hr rfl (⟨rfl, lwI_mk hw (lR_interview hZ (by omega) hk rfl rfl rfl rfl rfl rfl)⟩) (Nat.le_of_ble_eq_true rfl) (Nat.le_of_ble_eq_true rfl)
                · skip
                  refine r_iload_n cx dL_drafts_305 rfl rfl ?_
                  refine r_bipush (v := nI 11) cx dL_drafts_306 (by decide) ?_
                  refine r_ishr cx dL_drafts_308 ?_
                  refine r_iconst (v := nI 3) cx dL_drafts_309 (by decide) ?_
                  refine k_L_58 cx (c_Low l g _ _ 3 (by decide) (by decide)) dL_drafts_310 ⟨Nat.le_of_ble_eq_true rfl, Nat.le_of_ble_eq_true rfl⟩ ⟨Nat.le_of_ble_eq_true rfl, Nat.le_of_ble_eq_true rfl⟩ rfl rfl (Nat.le_of_ble_eq_true rfl) (fun r w hp => ?_)
                  obtain ⟨⟨j9, hj9, rfl⟩, rfl⟩ := hp
                  refine r_ifneN (tgt := 320) cx (by omega) dL_drafts_313 (by decide) (fun h_313 => ?_) (fun h_313 => ?_)
                  · skip
                    refine r_iconst (v := nI 2) cx dL_drafts_320 (by decide) ?_
                    exact J_321 _ (⟨2, by decide, by decide, rfl⟩)
                  · skip
                    refine r_iconst (v := nI 4) cx dL_drafts_316 (by decide) ?_
                    refine r_goto (tgt := 321) cx dL_drafts_317 (by decide) ?_
                    exact J_321 _ (⟨4, by decide, by decide, rfl⟩)
              · skip
                refine r_iload_n cx dL_drafts_268 rfl rfl ?_
                refine r_bipush (v := nI 12) cx dL_drafts_269 (by decide) ?_
                refine r_ishr cx dL_drafts_271 ?_
                refine r_iconst (v := nI 3) cx dL_drafts_272 (by decide) ?_
                refine k_L_58 cx (c_Low l g _ _ 3 (by decide) (by decide)) dL_drafts_273 ⟨Nat.le_of_ble_eq_true rfl, Nat.le_of_ble_eq_true rfl⟩ ⟨Nat.le_of_ble_eq_true rfl, Nat.le_of_ble_eq_true rfl⟩ rfl rfl (Nat.le_of_ble_eq_true rfl) (fun r w hp => ?_)
                obtain ⟨⟨j9, hj9, rfl⟩, rfl⟩ := hp
                refine r_ifneN (tgt := 284) cx (by omega) dL_drafts_276 (by decide) (fun h_276 => ?_) (fun h_276 => ?_)
                · skip
                  refine r_iconst (v := nI 3) cx dL_drafts_284 (by decide) ?_
                  exact J_285 _ (⟨3, by decide, by decide, rfl⟩)
                · skip
                  refine r_bipush (v := nI 10) cx dL_drafts_279 (by decide) ?_
                  refine r_goto (tgt := 285) cx dL_drafts_281 (by decide) ?_
                  exact J_285 _ (⟨10, by decide, by decide, rfl⟩)
            · skip
              refine r_iload_n cx dL_drafts_243 rfl rfl ?_
              refine r_bipush (v := nI 13) cx dL_drafts_244 (by decide) ?_
              refine r_ishr cx dL_drafts_246 ?_
              refine r_iconst (v := nI 3) cx dL_drafts_247 (by decide) ?_
              refine k_L_58 cx (c_Low l g _ _ 3 (by decide) (by decide)) dL_drafts_248 ⟨Nat.le_of_ble_eq_true rfl, Nat.le_of_ble_eq_true rfl⟩ ⟨Nat.le_of_ble_eq_true rfl, Nat.le_of_ble_eq_true rfl⟩ rfl rfl (Nat.le_of_ble_eq_true rfl) (fun r w hp => ?_)
              obtain ⟨⟨j9, hj9, rfl⟩, rfl⟩ := hp
              refine r_ifneN (tgt := 259) cx (by omega) dL_drafts_251 (by decide) (fun h_251 => ?_) (fun h_251 => ?_)
              · skip
                refine r_iconst (v := nI 3) cx dL_drafts_259 (by decide) ?_
                exact J_260 _ (⟨3, by decide, by decide, rfl⟩)
              · skip
                refine r_bipush (v := nI 8) cx dL_drafts_254 (by decide) ?_
                refine r_goto (tgt := 260) cx dL_drafts_256 (by decide) ?_
                exact J_260 _ (⟨8, by decide, by decide, rfl⟩)
          · skip
            refine r_iconst (v := nI 1) cx dL_drafts_240 (by decide) ?_
            exact r_zret cx dL_drafts_241 hr rfl (⟨rfl, N, A, B, L, Z, hZ, hw⟩) (Nat.le_of_ble_eq_true rfl) (Nat.le_of_ble_eq_true rfl)
        · skip
          refine r_iload_n cx dL_drafts_141 rfl rfl ?_
          refine r_iconst (v := nI 4) cx dL_drafts_142 (by decide) ?_
          refine k_L_58 cx (c_Low l g _ _ 4 (by decide) (by decide)) dL_drafts_143 ⟨Nat.le_of_ble_eq_true rfl, Nat.le_of_ble_eq_true rfl⟩ ⟨Nat.le_of_ble_eq_true rfl, Nat.le_of_ble_eq_true rfl⟩ rfl rfl (Nat.le_of_ble_eq_true rfl) (fun r w hp => ?_)
          obtain ⟨⟨w0, hw0, rfl⟩, rfl⟩ := hp
          refine r_istore cx dL_drafts_146 (by decide) rfl ?_
          refine r_aload cx dL_drafts_148 rfl ?_
          refine r_iconst (v := nI 0) cx dL_drafts_150 (by decide) ?_
          refine ll_0 cx dL_drafts_151 hw (by omega) ?_
          refine r_eqi z0 ?_
          refine r_ifneN (tgt := 160) cx (by omega) dL_drafts_152 (by decide) (fun h_152 => ?_) (fun h_152 => ?_)
          · skip
            refine r_aload cx dL_drafts_160 rfl ?_
            refine r_bipush (v := nI 10) cx dL_drafts_162 (by decide) ?_
            refine r_iload cx dL_drafts_164 rfl ?_
            first | refine r_iaddN cx dL_drafts_166 ?_ | refine r_iadd cx dL_drafts_166 ?_
            refine ll_0 cx dL_drafts_167 hw (by omega) ?_
            refine r_eqi (zR w0 hw0) ?_
            refine r_istore cx dL_drafts_168 (by decide) rfl ?_
            refine r_aload cx dL_drafts_170 rfl ?_
            refine r_bipush (v := nI 10) cx dL_drafts_172 (by decide) ?_
            refine r_iload cx dL_drafts_174 rfl ?_
            first | refine r_iaddN cx dL_drafts_176 ?_ | refine r_iadd cx dL_drafts_176 ?_
            refine r_aload cx dL_drafts_177 rfl ?_
            refine r_iconst (v := nI 0) cx dL_drafts_179 (by decide) ?_
            refine ll_0 cx dL_drafts_180 hw (by omega) ?_
            refine r_eqi z0 ?_
            refine r_ifneN (tgt := 195) cx (by omega) dL_drafts_181 (by decide) (fun h_181 => ?_) (fun h_181 => ?_)
            · skip
              refine r_aload cx dL_drafts_195 rfl ?_
              refine r_iconst (v := nI 1) cx dL_drafts_197 (by decide) ?_
              refine ll_0 cx dL_drafts_198 hw (by omega) ?_
              refine r_eqi z1 ?_
              refine ls_0 cx dL_drafts_199 hw (by omega) (fun w hw => ?_)
              refine r_aload cx dL_drafts_200 rfl ?_
              refine r_iconst (v := nI 0) cx dL_drafts_202 (by decide) ?_
              refine r_iconst (v := nI 0) cx dL_drafts_203 (by decide) ?_
              refine ls_0 cx dL_drafts_204 hw (by omega) (fun w hw => ?_)
              refine r_aload cx dL_drafts_205 rfl ?_
              refine r_iconst (v := nI 1) cx dL_drafts_207 (by decide) ?_
              refine r_iconst (v := nI 0) cx dL_drafts_208 (by decide) ?_
              refine ls_0 cx dL_drafts_209 hw (by omega) (fun w hw => ?_)
              refine r_aload_n cx dL_drafts_210 rfl rfl ?_
              refine r_iconst (v := nI 2) cx dL_drafts_211 (by decide) ?_
              refine r_iload cx dL_drafts_212 rfl ?_
              refine r_iconst (v := nI 0) cx dL_drafts_214 (by decide) ?_
              refine r_iconst (v := nI 0) cx dL_drafts_215 (by decide) ?_
              refine r_iconst (v := nI 0) cx dL_drafts_216 (by decide) ?_
              refine k_L_94 cx (c_CsetRoot l g hl N A B L _ _ a0 hI hw (nI w0) (nI 0) (nI 0) (nI 0) (kc2 (inT (n := 4) hw0 (by decide)))) dL_drafts_217 ⟨Nat.le_of_ble_eq_true rfl, Nat.le_of_ble_eq_true rfl⟩ ⟨Nat.le_of_ble_eq_true rfl, Nat.le_of_ble_eq_true rfl⟩ rfl rfl (Nat.le_of_ble_eq_true rfl) (fun r w hp => ?_)
              rcases hp with ⟨hk, rfl, hw⟩ | ⟨hk, -⟩
              rotate_left
              · exact absurd (kc2z (inT (n := 4) hw0 (by decide)) (decide_eq_false h_152)) hk
              refine r_eqi (y := A 6 w0) (by rw [c32_nI (by omega)]) ?_
              refine r_iload cx dL_drafts_220 rfl ?_
              refine r_icmpne (tgt := 229) cx dL_drafts_222 (by decide) (fun h_222 => ?_) (fun h_222 => ?_)
              · exact absurd rfl h_222
              · skip
                refine r_iconst (v := nI 1) cx dL_drafts_225 (by decide) ?_
                refine r_goto (tgt := 230) cx dL_drafts_226 (by decide) ?_
                exact r_zret cx dL_drafts_230 hr rfl (⟨rfl, lwI_mk hw (lR_setRoot hZ hw0 hk rfl rfl rfl rfl rfl rfl)⟩) (Nat.le_of_ble_eq_true rfl) (Nat.le_of_ble_eq_true rfl)
            · exact absurd h_181 h_152
          · skip
            refine r_bipush (v := -3) cx dL_drafts_155 (by decide) ?_
            refine r_goto (tgt := 168) cx dL_drafts_157 (by decide) ?_
            refine r_istore cx dL_drafts_168 (by decide) rfl ?_
            refine r_aload cx dL_drafts_170 rfl ?_
            refine r_bipush (v := nI 10) cx dL_drafts_172 (by decide) ?_
            refine r_iload cx dL_drafts_174 rfl ?_
            first | refine r_iaddN cx dL_drafts_176 ?_ | refine r_iadd cx dL_drafts_176 ?_
            refine r_aload cx dL_drafts_177 rfl ?_
            refine r_iconst (v := nI 0) cx dL_drafts_179 (by decide) ?_
            refine ll_0 cx dL_drafts_180 hw (by omega) ?_
            refine r_eqi z0 ?_
            refine r_ifneN (tgt := 195) cx (by omega) dL_drafts_181 (by decide) (fun h_181 => ?_) (fun h_181 => ?_)
            · exact absurd h_152 h_181
            · skip
              refine r_aload cx dL_drafts_184 rfl ?_
              refine r_bipush (v := nI 10) cx dL_drafts_186 (by decide) ?_
              refine r_iload cx dL_drafts_188 rfl ?_
              first | refine r_iaddN cx dL_drafts_190 ?_ | refine r_iadd cx dL_drafts_190 ?_
              refine ll_0 cx dL_drafts_191 hw (by omega) ?_
              refine r_goto (tgt := 199) cx dL_drafts_192 (by decide) ?_
              refine ls_0 cx dL_drafts_199 hw (by omega) (fun w hw => ?_)
              refine r_aload cx dL_drafts_200 rfl ?_
              refine r_iconst (v := nI 0) cx dL_drafts_202 (by decide) ?_
              refine r_iconst (v := nI 0) cx dL_drafts_203 (by decide) ?_
              refine ls_0 cx dL_drafts_204 hw (by omega) (fun w hw => ?_)
              refine r_aload cx dL_drafts_205 rfl ?_
              refine r_iconst (v := nI 1) cx dL_drafts_207 (by decide) ?_
              refine r_iconst (v := nI 0) cx dL_drafts_208 (by decide) ?_
              refine ls_0 cx dL_drafts_209 hw (by omega) (fun w hw => ?_)
              refine r_aload_n cx dL_drafts_210 rfl rfl ?_
              refine r_iconst (v := nI 2) cx dL_drafts_211 (by decide) ?_
              refine r_iload cx dL_drafts_212 rfl ?_
              refine r_iconst (v := nI 0) cx dL_drafts_214 (by decide) ?_
              refine r_iconst (v := nI 0) cx dL_drafts_215 (by decide) ?_
              refine r_iconst (v := nI 0) cx dL_drafts_216 (by decide) ?_
              refine k_L_94 cx (c_CsetRoot l g hl N A B L _ _ a0 hI hw (nI w0) (nI 0) (nI 0) (nI 0) (kc2 (inT (n := 4) hw0 (by decide)))) dL_drafts_217 ⟨Nat.le_of_ble_eq_true rfl, Nat.le_of_ble_eq_true rfl⟩ ⟨Nat.le_of_ble_eq_true rfl, Nat.le_of_ble_eq_true rfl⟩ rfl rfl (Nat.le_of_ble_eq_true rfl) (fun r w hp => ?_)
              rcases hp with ⟨hk, -⟩ | ⟨hk, rfl, hw⟩
              · exact absurd hk (kc2n (inT (n := 4) hw0 (by decide)) (decide_eq_true h_152))
              refine r_iload cx dL_drafts_220 rfl ?_
              refine r_icmpne (tgt := 229) cx dL_drafts_222 (by decide) (fun h_222 => ?_) (fun h_222 => ?_)
              · exact absurd rfl h_222
              · skip
                refine r_iconst (v := nI 1) cx dL_drafts_225 (by decide) ?_
                refine r_goto (tgt := 230) cx dL_drafts_226 (by decide) ?_
                exact r_zret cx dL_drafts_230 hr rfl (⟨rfl, lwI_mk hw (lR_setRoot0 hZ h_152 rfl rfl rfl rfl rfl rfl)⟩) (Nat.le_of_ble_eq_true rfl) (Nat.le_of_ble_eq_true rfl)
      · skip
        refine r_aload cx dL_drafts_5 rfl ?_
        refine r_iconst (v := nI 0) cx dL_drafts_7 (by decide) ?_
        refine ll_0 cx dL_drafts_8 hw (by omega) ?_
        refine r_eqi z0 ?_
        refine r_ifneN (tgt := 135) cx (by omega) dL_drafts_9 (by decide) (fun h_9 => ?_) (fun h_9 => ?_)
        · skip
          exact r_lv (q_pk [0, 1, 2, 3, 4, 5] rfl) (J_135 () trivial)
        · skip
          refine r_iload_n cx dL_drafts_12 rfl rfl ?_
          refine r_bipush (v := nI 6) cx dL_drafts_13 (by decide) ?_
          refine r_icmpgeN (tgt := 135) cx (by omega) (by omega) dL_drafts_15 (by decide) (fun h_15 => ?_) (fun h_15 => ?_)
          · skip
            exact r_lv (q_pk [0, 1, 2, 3, 4, 5] rfl) (J_135 () trivial)
          · skip
            exact r_lv (q_pk [0, 1, 2, 3, 4, 5] rfl) (J_18 () trivial)
