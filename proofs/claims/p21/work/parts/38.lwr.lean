theorem rl_ok {so t be f gg y n : Nat} (h1 : so < 8) (h2 : t < 9) (h3 : be < 10) (h4 : f < 4) (h5 : gg < 10 - f) (h6 : y < 301) (hn : n < 8) : kc (!(inR (nI so) 8 && (inR (nI f) 10 && inR (nI (f + gg)) 10))) (decide ((if km t = nI so then (-1 : Int32) else km t) = nI so) || !(decide ((if km t = nI so then (-1 : Int32) else km t) = -1) || inR (if km t = nI so then (-1 : Int32) else km t) 8) || !inR (nI be) 10 || decide (nI (f + gg) < nI f) || !inR (nI y) 301) (decide (n = 20)) = 0 := by
  have e1 : (if km t = nI so then (-1 : Int32) else km t) ≠ nI so := by
    split
    · exact fun z => nI_nm1 (by omega) z.symm
    · assumption
  have e2 : (decide ((if km t = nI so then (-1 : Int32) else km t) = -1) || inR (if km t = nI so then (-1 : Int32) else km t) 8) = true := by
    split
    · rfl
    · cases t with
      | zero => rfl
      | succ j =>
        show (decide (nI j = -1) || inR (nI j) 8) = true
        rw [inT (show j < 8 by omega) (by decide), Bool.or_true]
  have e3 : ¬ nI (f + gg) < nI f := nI_nlt (by omega) (by omega)
  rw [inT h1 (by decide), inT (show f < 10 by omega) (by decide), inT (show f + gg < 10 by omega) (by decide), inT h3 (by decide), inT h6 (by decide), e2, decide_eq_false e1, decide_eq_false e3, decide_eq_false (show ¬ n = 20 by omega)]
  rfl
theorem fgS_s (go : Nat → Bool) (inf : Nat → Int32) (who : Int32) (k : Nat) : fgS go inf who (k + 1) = fgS go inf who k ||| (if !go k && decide (inf k = who) then 2 ^ k else 0) := by
  rw [fgS]
  split
  · rfl
  · rw [Nat.or_zero]
theorem thS_n (cd : Nat → Bool) (k : Nat) : thS (ngo cd) (k + 1) = thS (ngo cd) k ||| (if cd k then 2 ^ k else 0) := by
  rw [thS]
  show thS (ngo cd) k ||| (if (!cd k) = true then 0 else 2 ^ k) = _
  cases cd k <;> rfl
theorem fcn_0 {E F : Nat} (h : E &&& F = 0) : fcn E F = false := by
  unfold fcn
  rw [decide_eq_true h]
  rfl
theorem fcn_1 {E F : Nat} (h : E ^^^ (E &&& F) ≠ 0) : fcn E F = false := by
  unfold fcn
  rw [decide_eq_false h, Bool.and_false]
theorem fcn_2 {E F : Nat} (h : E &&& F ≠ 0) (h2 : E ^^^ (E &&& F) = 0) : fcn E F = true := by
  unfold fcn
  rw [decide_eq_false h, decide_eq_true h2]
  rfl
theorem bwif {G n k : Nat} {b : Bool} (hG : bw G n) (hk : k < n) : bw (G ||| (if b then 0 else 2 ^ k)) n := by
  split
  · rw [Nat.or_zero]
    exact hG
  · exact bw_or2 hG hk
theorem zE_E {L : Nat → Nat → Int64} {Z : Nat → Nat → Int32} {n : Nat} (hn : n ≤ 16) (zE : ∀ r, r < 8 → ∃ G, bw G n ∧ L 0 r = lN G ∧ Z 4 r = nI G) : ∀ r, r < 8 → bw (c32 (Z 4 r)) n ∧ L 0 r = lN (c32 (Z 4 r)) ∧ Z 4 r = nI (c32 (Z 4 r)) := fun r hr => by
  obtain ⟨G, h1, h2, h3⟩ := zE r hr
  have h4 := bw_lt hn h1
  rw [h3, c32_nI (by omega)]
  exact ⟨h1, h2, rfl⟩
theorem f0_eq {f X : Nat → Int32} {a : Int32} (h6 : f 6 = a) (h0 : ∀ j, j ≠ 6 → f j = X j) : f = upd X 6 a := by
  funext j
  by_cases e : j = 6
  · rw [e, pk_us, h6]
  · rw [pk_un e, h0 j e]
theorem rest_post {g : q_G} {a0 : Nat} {N : Nat → Nat} {A : Nat → Nat → Int32} {B : Nat → Nat → Bool} {L : Nat → Nat → Int64} {Z Z2 : Nat → Nat → Int32} {ld : Nat → Nat} {w : va_W} {r : Int32} {rr kk G : Nat} (hZ : lR N A B L Z) (hrr : rr < N 2) (hkk : kk < N 1) (hG : bw G (N 1)) (hGe : L 0 rr = lN G) (hGz : Z 4 rr = nI G)
    (hp : ((kc (!(inR (nI rr) (N 2) && inR (nI kk) (N 1))) (B 1 (c32 (nI rr)) || B 0 (c32 (nI kk)) || hasB (L 0 (c32 (nI rr))) (lN (2 ^ c32 (nI kk)))) false) = 0 ∧ r = nI (bcL (L 0 (c32 (nI rr)) ||| lN (2 ^ c32 (nI kk)))) ∧ cR g a0 N A B (va_up L 0 (vp_updL (L 0) (c32 (nI rr)) (L 0 (c32 (nI rr)) ||| lN (2 ^ c32 (nI kk))))) (lF g ld Z2) w) ∨ ((kc (!(inR (nI rr) (N 2) && inR (nI kk) (N 1))) (B 1 (c32 (nI rr)) || B 0 (c32 (nI kk)) || hasB (L 0 (c32 (nI rr))) (lN (2 ^ c32 (nI kk)))) false) ≠ 0 ∧ r = -3 ∧ cR g a0 N A B L (lF g ld Z2) w))
    (e4 : Z2 4 = upd (Z 4) rr (nI (G ||| (if B 1 rr || B 0 kk || G.testBit kk then 0 else 2 ^ kk)))) (e0 : Z2 0 = Z 0) (e1 : Z2 1 = Z 1) (e2 : Z2 2 = Z 2) (e3 : Z2 3 = Z 3) (e5 : Z2 5 = Z 5) : r = (if B 1 rr || B 0 kk || G.testBit kk then (-3 : Int32) else nI (bc (G ||| 2 ^ kk))) ∧ ∃ L3, cR g a0 N A B L3 (lF g ld Z2) w ∧ lR N A B L3 Z2 := by
  obtain ⟨b1, b2, b3⟩ := hZ.2.1
  have hGl := bw_lt b1 hG
  have hin := inT2 hrr (show N 2 ≤ 2147483648 by omega) hkk (show N 1 ≤ 2147483648 by omega)
  have hbb : (B 1 (c32 (nI rr)) || B 0 (c32 (nI kk)) || hasB (L 0 (c32 (nI rr))) (lN (2 ^ c32 (nI kk)))) = (B 1 rr || B 0 kk || G.testBit kk) := by rw [c32_nI (by omega), c32_nI (by omega), hGe, hasB_bit (by omega)]
  rcases hp with ⟨hk, hr, hw⟩ | ⟨hk, hr, hw⟩
  · have hc : (B 1 rr || B 0 kk || G.testBit kk) = false := by
      cases hq : (B 1 rr || B 0 kk || G.testBit kk) with
      | false => rfl
      | true => exact absurd hk (kc2n hin (hbb.trans hq))
    rw [hc] at e4 ⊢
    refine ⟨?_, _, hw, lR_rest hZ (by omega) hkk hG hGe hk e4 e0 e1 e2 e3 e5⟩
    have h16 := bw_lt b1 (bw_or2 hG hkk)
    rw [hr, c32_nI (by omega), c32_nI (by omega), hGe, fb_orL, bcL_lN (by omega)]
    rfl
  · have hc : (B 1 rr || B 0 kk || G.testBit kk) = true := by
      cases hq : (B 1 rr || B 0 kk || G.testBit kk) with
      | true => rfl
      | false => exact absurd (kc2z hin (hbb.trans hq)) hk
    rw [hc] at e4 ⊢
    refine ⟨hr, L, hw, lR_same hZ e0 e1 e2 e3 ?_ (fun k _ => by rw [e5])⟩
    rw [e4, upd_eq]
    rw [hGz, if_pos rfl, Nat.or_zero]
set_option maxHeartbeats 4000000 in
set_option maxRecDepth 100000 in
theorem c_Lrules (l : Launch) (g : q_G) (hl : l.stackTraces = false) (ws : va_W) (a0 : Nat) (ld : Nat → Nat) (h : lwI g a0 ld ws) (act : Nat) (hact : act < 1000) (zz : Int32) : MetW l g yL_rules cL_rules 11 (some .boolean) ({ frames := 9, cells := 4, slots := 250, locals := 253 } : Room) [.ref a0, .int (nI act), .int zz, .ref (ld 1), .ref (ld 3), .ref (ld 4), .ref (ld 5), .ref (ld 0)] (ws) (q_Qi g (fun r w => r = nI 1 ∧ lwI g a0 ld w)) := by
  refine q_met (own := RL) (by decide +kernel) rfl (Nat.le_of_ble_eq_true rfl) (fun p e s m args below meth c cx hr hnm => ?_)
  obtain ⟨N, A, B, L, Z, hZ, hw⟩ := h
  obtain ⟨hI, ⟨b1, b2, b3⟩, ⟨z0, z1, z2, z3, z4, z5, z6⟩, zK, zR, zV, zU, zE, zC⟩ := id hZ
  obtain ⟨⟨i1, i2, i3, i4⟩, j2, j3, j4, j5, j6, j7, j8, j9, j10, j11⟩ := id hI
  refine r_lv (lv2 := [(0, .ref a0), (1, .int (nI act)), (2, .int zz), (3, .ref (ld 1)), (4, .ref (ld 3)), (5, .ref (ld 4)), (6, .ref (ld 5)), (7, .ref (ld 0))]) (q_pk [0, 1, 2, 3, 4, 5, 6, 7] rfl) ?_
  refine at_join (tgt := 276) (fun (z : Unit) => True) (fun z => [(0, .ref a0), (1, .int (nI act)), (2, .int zz), (3, .ref (ld 1)), (4, .ref (ld 3)), (5, .ref (ld 4)), (6, .ref (ld 5)), (7, .ref (ld 0))]) (fun z => []) (fun z => ws) ?_ (fun J_276 => ?_)
  · intro z hz
    try dsimp only at hz ⊢
    refine at_join (tgt := 421) (fun (z : Unit) => True) (fun z => [(0, .ref a0), (1, .int (nI act)), (2, .int zz), (3, .ref (ld 1)), (4, .ref (ld 3)), (5, .ref (ld 4)), (6, .ref (ld 5)), (7, .ref (ld 0))]) (fun z => []) (fun z => ws) ?_ (fun J_421 => ?_)
    · intro z hz
      try dsimp only at hz ⊢
      refine r_iload_n cx dL_rules_421 rfl rfl ?_
      refine r_iconst (v := nI 3) cx dL_rules_422 (by decide) ?_
      refine r_icmpneN (tgt := 605) cx (by omega) (by omega) dL_rules_423 (by decide) (fun h_423 => ?_) (fun h_423 => ?_)
      · skip
        refine r_iload_n cx dL_rules_605 rfl rfl ?_
        refine r_iconst (v := nI 3) cx dL_rules_606 (by decide) ?_
        refine k_L_58 cx (c_Low l g _ _ 3 (by decide) (by decide)) dL_rules_607 ⟨Nat.le_of_ble_eq_true rfl, Nat.le_of_ble_eq_true rfl⟩ ⟨Nat.le_of_ble_eq_true rfl, Nat.le_of_ble_eq_true rfl⟩ rfl rfl (Nat.le_of_ble_eq_true rfl) (fun r w hp => ?_)
        obtain ⟨⟨sc, hsc, rfl⟩, rfl⟩ := hp
        refine r_istore cx dL_rules_610 (by decide) rfl ?_
        refine r_iload_n cx dL_rules_612 rfl rfl ?_
        refine r_iconst (v := nI 4) cx dL_rules_613 (by decide) ?_
        refine r_icmpneN (tgt := 666) cx (by omega) (by omega) dL_rules_614 (by decide) (fun h_614 => ?_) (fun h_614 => ?_)
        · skip
          refine at_join (tgt := 687) (fun (z : Unit) => True) (fun z => [(0, .ref a0), (1, .int (nI act)), (2, .int zz), (3, .ref (ld 1)), (4, .ref (ld 3)), (5, .ref (ld 4)), (6, .ref (ld 5)), (7, .ref (ld 0)), (8, .int (nI sc))]) (fun z => []) (fun z => w) ?_ (fun J_687 => ?_)
          · intro z hz
            try dsimp only at hz ⊢
            obtain ⟨K, hK, hKe, hKz⟩ := zK sc hsc
            refine r_aload cx dL_rules_687 rfl ?_
            refine r_bipush (v := nI 7) cx dL_rules_689 (by decide) ?_
            refine r_iload cx dL_rules_691 rfl ?_
            first | refine r_iaddN cx dL_rules_693 ?_ | refine r_iadd cx dL_rules_693 ?_
            refine ll_0 cx dL_rules_694 hw (by omega) ?_
            refine r_eqi hKz ?_
            refine r_aload cx dL_rules_695 rfl ?_
            refine r_iconst (v := nI 5) cx dL_rules_697 (by decide) ?_
            refine ll_0 cx dL_rules_698 hw (by omega) ?_
            refine r_eqi z5 ?_
            refine r_iand cx dL_rules_699 ?_
            refine r_eqi (fa_and _ _) ?_
            refine k_L_88 cx (c_Bits l g _ (K &&& thS (ngo (B 0)) (N 1)) (bw_lt b1 (bw_and hK))) dL_rules_700 ⟨Nat.le_of_ble_eq_true rfl, Nat.le_of_ble_eq_true rfl⟩ ⟨Nat.le_of_ble_eq_true rfl, Nat.le_of_ble_eq_true rfl⟩ rfl rfl (Nat.le_of_ble_eq_true rfl) (fun r w hp => ?_)
            obtain ⟨rfl, rfl⟩ := hp
            refine r_istore cx dL_rules_703 (by decide) rfl ?_
            refine r_aload cx dL_rules_705 rfl ?_
            refine r_bipush (v := nI 7) cx dL_rules_707 (by decide) ?_
            refine r_iload cx dL_rules_709 rfl ?_
            first | refine r_iaddN cx dL_rules_711 ?_ | refine r_iadd cx dL_rules_711 ?_
            refine r_dup2 cx dL_rules_712 rfl rfl ?_
            refine ll_0 cx dL_rules_713 hw (by omega) ?_
            refine r_eqi hKz ?_
            refine r_aload cx dL_rules_714 rfl ?_
            refine r_iconst (v := nI 5) cx dL_rules_716 (by decide) ?_
            refine ll_0 cx dL_rules_717 hw (by omega) ?_
            refine r_eqi z5 ?_
            refine r_iconst (v := -1) cx dL_rules_718 (by decide) ?_
            refine r_ixor cx dL_rules_719 ?_
            refine r_iand cx dL_rules_720 ?_
            refine r_eqi (y := nI (K &&& thS (B 0) (N 1))) (by rw [andnI, tl_eq hK]) ?_
            refine ls_0 cx dL_rules_721 hw (by omega) (fun w hw => ?_)
            refine r_aload_n cx dL_rules_722 rfl rfl ?_
            refine r_iload cx dL_rules_723 rfl ?_
            refine kW_L_108 cx (p_tell l g N A B L _ _ a0 hI hw (nI sc) (kcf (inT hsc (by decide)))) dL_rules_725 hw  ⟨Nat.le_of_ble_eq_true rfl, Nat.le_of_ble_eq_true rfl⟩ ⟨Nat.le_of_ble_eq_true rfl, Nat.le_of_ble_eq_true rfl⟩ rfl rfl (Nat.le_of_ble_eq_true rfl) (fun r w hp => ?_)
            obtain ⟨-, rfl, hw⟩ := hp
            refine r_eqi (y := nI (bc (K &&& thS (ngo (B 0)) (N 1)))) (by rw [c32_nI (by omega), hKe, andn, bcL_lN (andn_lt (Nat.lt_trans (bw_lt b1 hK) (by decide))), ow_eq hK]) ?_
            refine r_iload cx dL_rules_728 rfl ?_
            refine r_icmpne (tgt := 737) cx dL_rules_730 (by decide) (fun h_730 => ?_) (fun h_730 => ?_)
            · exact absurd rfl h_730
            · skip
              refine r_iconst (v := nI 1) cx dL_rules_733 (by decide) ?_
              refine r_goto (tgt := 738) cx dL_rules_734 (by decide) ?_
              exact r_zret cx dL_rules_738 hr rfl (⟨rfl, lwI_mk hw (lR_school hZ hsc (bw_and hK) (by rw [c32_nI (by omega), hKe, fb_andL]) (inv_tell hI (kcf (inT hsc (by decide)))) rfl rfl rfl rfl rfl rfl)⟩) (Nat.le_of_ble_eq_true rfl) (Nat.le_of_ble_eq_true rfl)
          · skip
            refine r_iload_n cx dL_rules_666 rfl rfl ?_
            refine r_iconst (v := nI 5) cx dL_rules_667 (by decide) ?_
            refine r_icmpeqN (tgt := 687) cx (by omega) (by omega) dL_rules_668 (by decide) (fun h_668 => ?_) (fun h_668 => ?_)
            · skip
              exact r_lv (q_pk [1, 2, 3, 4, 5, 6, 7, 8, 0] rfl) (J_687 () trivial)
            · skip
              refine r_aload cx dL_rules_671 rfl ?_
              refine r_iconst (v := nI 2) cx dL_rules_673 (by decide) ?_
              refine ll_0 cx dL_rules_674 hw (by omega) ?_
              refine r_eqi z2 ?_
              refine r_ifeqN (tgt := 687) cx (by omega) dL_rules_675 (by decide) (fun h_675 => ?_) (fun h_675 => ?_)
              · skip
                exact r_lv (q_pk [1, 2, 3, 4, 5, 6, 7, 8, 0] rfl) (J_687 () trivial)
              · skip
                refine r_aload cx dL_rules_678 rfl ?_
                refine r_iconst (v := nI 4) cx dL_rules_680 (by decide) ?_
                refine ll_0 cx dL_rules_681 hw (by omega) ?_
                refine r_eqi z4 ?_
                refine r_bipush (v := nI 6) cx dL_rules_682 (by decide) ?_
                refine r_icmpneN (tgt := 739) cx (by omega) (by omega) dL_rules_684 (by decide) (fun h_684 => ?_) (fun h_684 => ?_)
                · skip
                  refine r_iload_n cx dL_rules_739 rfl rfl ?_
                  refine r_aload cx dL_rules_740 rfl ?_
                  refine r_iconst (v := nI 2) cx dL_rules_742 (by decide) ?_
                  refine ll_0 cx dL_rules_743 hw (by omega) ?_
                  refine r_eqi z2 ?_
                  refine k_L_58 cx (c_Low l g _ _ (N 1) (by omega) (by omega)) dL_rules_744 ⟨Nat.le_of_ble_eq_true rfl, Nat.le_of_ble_eq_true rfl⟩ ⟨Nat.le_of_ble_eq_true rfl, Nat.le_of_ble_eq_true rfl⟩ rfl rfl (Nat.le_of_ble_eq_true rfl) (fun r w hp => ?_)
                  obtain ⟨⟨kq, hkq, rfl⟩, rfl⟩ := hp
                  refine r_istore cx dL_rules_747 (by decide) rfl ?_
                  refine r_aload cx dL_rules_749 rfl ?_
                  refine r_iconst (v := nI 5) cx dL_rules_751 (by decide) ?_
                  refine ll_0 cx dL_rules_752 hw (by omega) ?_
                  refine r_eqi z5 ?_
                  refine r_iload cx dL_rules_753 rfl ?_
                  refine r_ishr cx dL_rules_755 ?_
                  refine r_iconst (v := nI 1) cx dL_rules_756 (by decide) ?_
                  refine r_iand cx dL_rules_757 ?_
                  refine r_eqi (goz b1 hkq) ?_
                  refine r_ifneb (tgt := 765) cx dL_rules_758 (by decide) (fun h_758 => ?_) (fun h_758 => ?_)
                  · skip
                    refine r_iconst (v := nI 0) cx dL_rules_765 (by decide) ?_
                    refine r_istore cx dL_rules_766 (by decide) rfl ?_
                    refine r_aload cx dL_rules_768 rfl ?_
                    refine r_aload cx dL_rules_770 rfl ?_
                    refine r_iconst (v := nI 4) cx dL_rules_772 (by decide) ?_
                    refine ll_0 cx dL_rules_773 hw (by omega) ?_
                    refine r_eqi z4 ?_
                    refine r_iload cx dL_rules_774 rfl ?_
                    refine r_ifeqN (tgt := 784) cx (by omega) dL_rules_776 (by decide) (fun h_776 => ?_) (fun h_776 => ?_)
                    · skip
                      refine r_iconst (v := nI 0) cx dL_rules_784 (by decide) ?_
                      refine ls_5 cx dL_rules_785 hw (by omega) (fun w hw => ?_)
                      refine r_aload cx dL_rules_786 rfl ?_
                      refine r_iconst (v := nI 4) cx dL_rules_788 (by decide) ?_
                      refine r_dup2 cx dL_rules_789 rfl rfl ?_
                      refine ll_0 cx dL_rules_790 hw (by omega) ?_
                      refine r_eqi (y := nI (N 3)) z4 ?_
                      refine r_iload cx dL_rules_791 rfl ?_
                      refine r_ifeqN (tgt := 800) cx (by omega) dL_rules_793 (by decide) (fun h_793 => ?_) (fun h_793 => ?_)
                      · skip
                        refine r_iconst (v := nI 0) cx dL_rules_800 (by decide) ?_
                        first | refine r_iaddN cx dL_rules_801 ?_ | refine r_iadd cx dL_rules_801 ?_
                        refine ls_0 cx dL_rules_802 hw (by omega) (fun w hw => ?_)
                        refine r_aload_n cx dL_rules_803 rfl rfl ?_
                        refine r_iconst (v := nI 4) cx dL_rules_804 (by decide) ?_
                        refine r_iload cx dL_rules_805 rfl ?_
                        refine r_iconst (v := nI 0) cx dL_rules_807 (by decide) ?_
                        refine r_iconst (v := nI 0) cx dL_rules_808 (by decide) ?_
                        refine r_iconst (v := nI 0) cx dL_rules_809 (by decide) ?_
                        refine k_L_94 cx (c_Cquote l g hl N A B L _ _ a0 hI hw (nI kq) (nI 0) (nI 0) (nI 0) (kc2 (inT (n := N 1) hkq (by omega)))) dL_rules_810 ⟨Nat.le_of_ble_eq_true rfl, Nat.le_of_ble_eq_true rfl⟩ ⟨Nat.le_of_ble_eq_true rfl, Nat.le_of_ble_eq_true rfl⟩ rfl rfl (Nat.le_of_ble_eq_true rfl) (fun r w hp => ?_)
                        rcases hp with ⟨hk, -⟩ | ⟨hk, rfl, hw⟩
                        · exact absurd hk (kc2n (inT (n := N 1) hkq (by omega)) (by rw [c32_nI (by omega), h_758]; rfl))
                        refine r_iload cx dL_rules_813 rfl ?_
                        refine r_ifeqN (tgt := 827) cx (by omega) dL_rules_815 (by decide) (fun h_815 => ?_) (fun h_815 => ?_)
                        · skip
                          refine r_bipush (v := -3) cx dL_rules_827 (by decide) ?_
                          refine r_icmpne (tgt := 836) cx dL_rules_829 (by decide) (fun h_829 => ?_) (fun h_829 => ?_)
                          · exact absurd rfl h_829
                          · skip
                            refine r_iconst (v := nI 1) cx dL_rules_832 (by decide) ?_
                            refine r_goto (tgt := 837) cx dL_rules_833 (by decide) ?_
                            exact r_zret cx dL_rules_837 hr rfl (⟨rfl, lwI_mk hw (lR_same hZ (by
    show upd (Z 0) 4 (nI (N 3 + 0)) = Z 0
    rw [upd_eq (show nI (N 3 + 0) = Z 0 4 from z4.symm)]) rfl rfl rfl rfl (fun k hk => pk_un (by omega)))⟩) (Nat.le_of_ble_eq_true rfl) (Nat.le_of_ble_eq_true rfl)
                        · exact absurd rfl h_815
                      · exact absurd rfl h_793
                    · exact absurd rfl h_776
                  · skip
                    refine r_iconst (v := nI 1) cx dL_rules_761 (by decide) ?_
                    refine r_goto (tgt := 766) cx dL_rules_762 (by decide) ?_
                    refine r_istore cx dL_rules_766 (by decide) rfl ?_
                    refine r_aload cx dL_rules_768 rfl ?_
                    refine r_aload cx dL_rules_770 rfl ?_
                    refine r_iconst (v := nI 4) cx dL_rules_772 (by decide) ?_
                    refine ll_0 cx dL_rules_773 hw (by omega) ?_
                    refine r_eqi z4 ?_
                    refine r_iload cx dL_rules_774 rfl ?_
                    refine r_ifeqN (tgt := 784) cx (by omega) dL_rules_776 (by decide) (fun h_776 => ?_) (fun h_776 => ?_)
                    · exact absurd h_776 (by decide)
                    · skip
                      refine r_iload cx dL_rules_779 rfl ?_
                      refine r_goto (tgt := 785) cx dL_rules_781 (by decide) ?_
                      refine ls_5 cx dL_rules_785 hw (by omega) (fun w hw => ?_)
                      refine r_aload cx dL_rules_786 rfl ?_
                      refine r_iconst (v := nI 4) cx dL_rules_788 (by decide) ?_
                      refine r_dup2 cx dL_rules_789 rfl rfl ?_
                      refine ll_0 cx dL_rules_790 hw (by omega) ?_
                      refine r_eqi (y := nI (N 3)) z4 ?_
                      refine r_iload cx dL_rules_791 rfl ?_
                      refine r_ifeqN (tgt := 800) cx (by omega) dL_rules_793 (by decide) (fun h_793 => ?_) (fun h_793 => ?_)
                      · exact absurd h_793 (by decide)
                      · skip
                        refine r_iconst (v := nI 1) cx dL_rules_796 (by decide) ?_
                        refine r_goto (tgt := 801) cx dL_rules_797 (by decide) ?_
                        first | refine r_iaddN cx dL_rules_801 ?_ | refine r_iadd cx dL_rules_801 ?_
                        refine ls_0 cx dL_rules_802 hw (by omega) (fun w hw => ?_)
                        refine r_aload_n cx dL_rules_803 rfl rfl ?_
                        refine r_iconst (v := nI 4) cx dL_rules_804 (by decide) ?_
                        refine r_iload cx dL_rules_805 rfl ?_
                        refine r_iconst (v := nI 0) cx dL_rules_807 (by decide) ?_
                        refine r_iconst (v := nI 0) cx dL_rules_808 (by decide) ?_
                        refine r_iconst (v := nI 0) cx dL_rules_809 (by decide) ?_
                        refine k_L_94 cx (c_Cquote l g hl N A B L _ _ a0 hI hw (nI kq) (nI 0) (nI 0) (nI 0) (kc2 (inT (n := N 1) hkq (by omega)))) dL_rules_810 ⟨Nat.le_of_ble_eq_true rfl, Nat.le_of_ble_eq_true rfl⟩ ⟨Nat.le_of_ble_eq_true rfl, Nat.le_of_ble_eq_true rfl⟩ rfl rfl (Nat.le_of_ble_eq_true rfl) (fun r w hp => ?_)
                        rcases hp with ⟨hk, rfl, hw⟩ | ⟨hk, -⟩
                        rotate_left
                        · exact absurd (kc2z (inT (n := N 1) hkq (by omega)) (by rw [c32_nI (by omega), h_758, decide_eq_false (show ¬ N 3 = 20 by omega)]; rfl)) hk
                        refine r_iload cx dL_rules_813 rfl ?_
                        refine r_ifeqN (tgt := 827) cx (by omega) dL_rules_815 (by decide) (fun h_815 => ?_) (fun h_815 => ?_)
                        · exact absurd h_815 (by decide)
                        · skip
                          refine r_aload cx dL_rules_818 rfl ?_
                          refine r_iconst (v := nI 4) cx dL_rules_820 (by decide) ?_
                          refine ll_0 cx dL_rules_821 hw (by omega) ?_
                          refine r_eqi (y := nI (N 3 + 1)) rfl ?_
                          refine r_iconst (v := nI 1) cx dL_rules_822 (by decide) ?_
                          first | refine r_isubN cx dL_rules_823 (by omega) ?_ | refine r_isub cx dL_rules_823 ?_
                          refine r_goto (tgt := 829) cx dL_rules_824 (by decide) ?_
                          refine r_icmpne (tgt := 836) cx dL_rules_829 (by decide) (fun h_829 => ?_) (fun h_829 => ?_)
                          · exact absurd (by rw [Nat.add_sub_cancel]) h_829
                          · skip
                            refine r_iconst (v := nI 1) cx dL_rules_832 (by decide) ?_
                            refine r_goto (tgt := 837) cx dL_rules_833 (by decide) ?_
                            exact r_zret cx dL_rules_837 hr rfl (⟨rfl, lwI_mk hw (lR_quote hZ (by omega) hk rfl rfl rfl rfl rfl rfl)⟩) (Nat.le_of_ble_eq_true rfl) (Nat.le_of_ble_eq_true rfl)
                · skip
                  exact r_lv (q_pk [1, 2, 3, 4, 5, 6, 7, 8, 0] rfl) (J_687 () trivial)
        · skip
          refine r_aload cx dL_rules_617 rfl ?_
          refine r_bipush (v := nI 7) cx dL_rules_619 (by decide) ?_
          refine r_iload cx dL_rules_621 rfl ?_
          first | refine r_iaddN cx dL_rules_623 ?_ | refine r_iadd cx dL_rules_623 ?_
          refine r_iconst (v := nI 1) cx dL_rules_624 (by decide) ?_
          refine r_aload cx dL_rules_625 rfl ?_
          refine r_iconst (v := nI 2) cx dL_rules_627 (by decide) ?_
          refine ll_0 cx dL_rules_628 hw (by omega) ?_
          refine r_eqi z2 ?_
          refine r_ishl cx dL_rules_629 ?_
          refine r_eqi (shl1 (by omega)) ?_
          refine r_iconst (v := nI 1) cx dL_rules_630 (by decide) ?_
          first | refine r_isubN cx dL_rules_631 (by omega) ?_ | refine r_isub cx dL_rules_631 ?_
          refine r_eqi (pk_sub (Nat.two_pow_pos (N 1))) ?_
          refine r_aload cx dL_rules_632 rfl ?_
          refine r_iconst (v := nI 5) cx dL_rules_634 (by decide) ?_
          refine ll_0 cx dL_rules_635 hw (by omega) ?_
          refine r_eqi z5 ?_
          refine r_iconst (v := -1) cx dL_rules_636 (by decide) ?_
          refine r_ixor cx dL_rules_637 ?_
          refine r_iand cx dL_rules_638 ?_
          refine r_eqi (y := nI (thS (B 0) (N 1))) (by rw [andnI, cp_eq]) ?_
          refine ls_0 cx dL_rules_639 hw (by omega) (fun w hw => ?_)
          refine r_aload_n cx dL_rules_640 rfl rfl ?_
          refine r_iload cx dL_rules_641 rfl ?_
          refine kW_L_105 cx (p_copy l g N A B L _ _ a0 hI hw (nI sc) (kcf (inT hsc (by decide)))) dL_rules_643 hw  ⟨Nat.le_of_ble_eq_true rfl, Nat.le_of_ble_eq_true rfl⟩ ⟨Nat.le_of_ble_eq_true rfl, Nat.le_of_ble_eq_true rfl⟩ rfl rfl (Nat.le_of_ble_eq_true rfl) (fun r w hp => ?_)
          obtain ⟨-, rfl, hw⟩ := hp
          refine r_eqi (y := nI (bc (thS (B 0) (N 1)))) (by rw [bcL_lN (Nat.lt_trans (bw_lt b1 (bw_thS _ _)) (by decide))]) ?_
          refine r_aload cx dL_rules_646 rfl ?_
          refine r_bipush (v := nI 7) cx dL_rules_648 (by decide) ?_
          refine r_iload cx dL_rules_650 rfl ?_
          first | refine r_iaddN cx dL_rules_652 ?_ | refine r_iadd cx dL_rules_652 ?_
          refine ll_0 cx dL_rules_653 hw (by omega) ?_
          refine r_eqi (y := nI (thS (B 0) (N 1))) (by
            show upd (Z 0) (7 + sc) (nI (thS (B 0) (N 1))) (7 + sc) = _
            rw [pk_us]) ?_
          refine k_L_88 cx (c_Bits l g _ (thS (B 0) (N 1)) (bw_lt b1 (bw_thS _ _))) dL_rules_654 ⟨Nat.le_of_ble_eq_true rfl, Nat.le_of_ble_eq_true rfl⟩ ⟨Nat.le_of_ble_eq_true rfl, Nat.le_of_ble_eq_true rfl⟩ rfl rfl (Nat.le_of_ble_eq_true rfl) (fun r w hp => ?_)
          obtain ⟨rfl, rfl⟩ := hp
          refine r_icmpne (tgt := 664) cx dL_rules_657 (by decide) (fun h_657 => ?_) (fun h_657 => ?_)
          · exact absurd rfl h_657
          · skip
            refine r_iconst (v := nI 1) cx dL_rules_660 (by decide) ?_
            refine r_goto (tgt := 665) cx dL_rules_661 (by decide) ?_
            exact r_zret cx dL_rules_665 hr rfl (⟨rfl, lwI_mk hw (lR_school hZ hsc (bw_thS _ _) rfl (inv_copy hI) rfl rfl rfl rfl rfl rfl)⟩) (Nat.le_of_ble_eq_true rfl) (Nat.le_of_ble_eq_true rfl)
      · skip
        refine r_iload_n cx dL_rules_426 rfl rfl ?_
        refine at_val (tgt := 444) (fun z => ∃ n, 0 < n ∧ n ≤ 8 ∧ z = nI n) (fun z hz => ?_) (fun J_444 => ?_)
        · obtain ⟨n9, hn0, hn9, rfl⟩ := hz
          refine k_L_58 cx (c_Low l g _ _ n9 hn0 (by omega)) dL_rules_444 ⟨Nat.le_of_ble_eq_true rfl, Nat.le_of_ble_eq_true rfl⟩ ⟨Nat.le_of_ble_eq_true rfl, Nat.le_of_ble_eq_true rfl⟩ rfl rfl (Nat.le_of_ble_eq_true rfl) (fun r w hp => ?_)
          obtain ⟨⟨who, hwho, rfl⟩, rfl⟩ := hp
          refine r_istore cx dL_rules_447 (by decide) rfl ?_
          refine r_iconst (v := nI 0) cx dL_rules_449 (by decide) ?_
          refine r_istore cx dL_rules_450 (by decide) rfl ?_
          refine r_iconst (v := nI 0) cx dL_rules_452 (by decide) ?_
          refine r_istore cx dL_rules_453 (by decide) rfl ?_
          refine at_loop (fun (x : Nat) => x ≤ N 1) (fun x => [(0, .ref a0), (3, .ref (ld 1)), (5, .ref (ld 4)), (7, .ref (ld 0)), (8, .int (nI who)), (9, .int (nI (fgS (B 0) (A 1) (nI who) (x)))), (10, .int (nI x))]) (fun x => _) (fun x => N 1 - x) 0 (Nat.zero_le _) (q_pk [3, 6, 8, 10, 2, 1, 0] rfl) rfl (fun i hx ih => ?_)
          try dsimp only at hx ⊢
          refine r_iload cx dL_rules_455 rfl ?_
          refine r_aload cx dL_rules_457 rfl ?_
          refine r_iconst (v := nI 2) cx dL_rules_459 (by decide) ?_
          refine ll_0 cx dL_rules_460 hw (by omega) ?_
          refine r_eqi z2 ?_
          refine r_icmpgeN (tgt := 506) cx (by omega) (by omega) dL_rules_461 (by decide) (fun h_461 => ?_) (fun h_461 => ?_)
          · skip
            obtain rfl : i = N 1 := by omega
            have hE := zE_E (L := L) (Z := Z) b1 zE
            refine r_aload cx dL_rules_506 rfl ?_
            refine r_iconst (v := nI 5) cx dL_rules_508 (by decide) ?_
            refine r_dup2 cx dL_rules_509 rfl rfl ?_
            refine ll_0 cx dL_rules_510 hw (by omega) ?_
            refine r_eqi z5 ?_
            refine r_iload cx dL_rules_511 rfl ?_
            refine r_ior cx dL_rules_513 ?_
            refine r_eqi (fa_or _ _) ?_
            refine ls_0 cx dL_rules_514 hw (by omega) (fun w hw => ?_)
            refine r_iconst (v := nI 0) cx dL_rules_515 (by decide) ?_
            refine r_istore cx dL_rules_516 (by decide) rfl ?_
            refine at_loop (fun (x : Nat × ((Nat → Int32) × ((Nat → Int32) × va_W))) => x.1 ≤ N 2 ∧ x.2.1 6 = nI (thS (ngo (B 1)) (N 2) ||| thS (ngo (fun r => fcn (c32 (Z 4 r)) (fgS (B 0) (A 1) (nI who) (N 1)))) x.1) ∧ (∀ j, j ≠ 6 → x.2.1 j = (upd (Z 0) 5 (nI (thS (ngo (B 0)) (N 1) ||| fgS (B 0) (A 1) (nI who) (N 1)))) j) ∧ (∀ r, r < 8 → x.2.2.1 r = if r < x.1 then nI (c32 (Z 4 r) ^^^ (c32 (Z 4 r) &&& fgS (B 0) (A 1) (nI who) (N 1))) else Z 4 r) ∧ cR g a0 N A B L (lF g ld (va_up (va_up Z 0 x.2.1) 4 x.2.2.1)) x.2.2.2) (fun x => [(0, .ref a0), (5, .ref (ld 4)), (7, .ref (ld 0)), (8, .int (nI who)), (9, .int (nI (fgS (B 0) (A 1) (nI who) (N 1)))), (10, .int (nI x.1))]) (fun x => x.2.2.2) (fun x => N 2 - x.1) (0, ((upd (Z 0) 5 (nI (thS (ngo (B 0)) (N 1) ||| fgS (B 0) (A 1) (nI who) (N 1)))), (Z 4, w))) ⟨Nat.zero_le _, (show Z 0 6 = nI (thS (ngo (B 1)) (N 2) ||| 0) from by rw [z6, Nat.or_zero]), fun j _ => rfl, fun r _ => (if_neg (Nat.not_lt_zero r)).symm, hw⟩ (q_pk [1, 3, 4, 5, 6, 0] rfl) rfl (fun x hx ih => ?_)
            obtain ⟨i, ⟨f0, ⟨f4, w⟩⟩⟩ := x
            try dsimp only at hx ⊢
            clear hw
            obtain ⟨hx, h6, h0, h4, hw⟩ := hx
            refine r_iload cx dL_rules_518 rfl ?_
            refine r_aload cx dL_rules_520 rfl ?_
            refine r_iconst (v := nI 3) cx dL_rules_522 (by decide) ?_
            refine ll_0 cx dL_rules_523 hw (by omega) ?_
            refine r_eqi ((h0 3 (by decide)).trans z3) ?_
            refine r_icmpgeN (tgt := 585) cx (by omega) (by omega) dL_rules_524 (by decide) (fun h_524 => ?_) (fun h_524 => ?_)
            · skip
              obtain rfl : i = N 2 := by omega
              refine r_aload_n cx dL_rules_585 rfl rfl ?_
              refine r_iload cx dL_rules_586 rfl ?_
              refine kW_L_102 cx (p_forget l g N A B L _ _ a0 hI hw (nI who) (kcf (inT (show who < 8 by omega) (by decide)))) dL_rules_588 hw  ⟨Nat.le_of_ble_eq_true rfl, Nat.le_of_ble_eq_true rfl⟩ ⟨Nat.le_of_ble_eq_true rfl, Nat.le_of_ble_eq_true rfl⟩ rfl rfl (Nat.le_of_ble_eq_true rfl) (fun r w hp => ?_)
              obtain ⟨-, rfl, hw⟩ := hp
              refine r_eqi (y := nI (bc (fgS (B 0) (A 1) (nI who) (N 1)))) (by rw [bcL_lN (Nat.lt_trans (bw_lt b1 (bw_fgS _ _ _ _)) (by decide))]) ?_
              refine r_iload cx dL_rules_591 rfl ?_
              refine k_L_88 cx (c_Bits l g _ (fgS (B 0) (A 1) (nI who) (N 1)) (bw_lt b1 (bw_fgS _ _ _ _))) dL_rules_593 ⟨Nat.le_of_ble_eq_true rfl, Nat.le_of_ble_eq_true rfl⟩ ⟨Nat.le_of_ble_eq_true rfl, Nat.le_of_ble_eq_true rfl⟩ rfl rfl (Nat.le_of_ble_eq_true rfl) (fun r w hp => ?_)
              obtain ⟨rfl, rfl⟩ := hp
              refine r_icmpne (tgt := 603) cx dL_rules_596 (by decide) (fun h_596 => ?_) (fun h_596 => ?_)
              · exact absurd rfl h_596
              · skip
                refine r_iconst (v := nI 1) cx dL_rules_599 (by decide) ?_
                refine r_goto (tgt := 604) cx dL_rules_600 (by decide) ?_
                exact r_zret cx dL_rules_604 hr rfl (⟨rfl, lwI_mk hw (lR_forget hZ (fun r => c32 (Z 4 r)) hE (f0_eq h6 h0) h4 rfl rfl rfl rfl)⟩) (Nat.le_of_ble_eq_true rfl) (Nat.le_of_ble_eq_true rfl)
            · skip
              have hEl := bw_lt b1 (hE i (by omega)).1
              have hEF := bw_lt b1 (bw_and (F := fgS (B 0) (A 1) (nI who) (N 1)) (hE i (by omega)).1)
              have hEX := bw_lt b1 (bw_andn (F := fgS (B 0) (A 1) (nI who) (N 1)) (hE i (by omega)).1)
              refine r_aload cx dL_rules_527 rfl ?_
              refine r_bipush (v := nI 6) cx dL_rules_529 (by decide) ?_
              refine r_dup2 cx dL_rules_531 rfl rfl ?_
              refine ll_0 cx dL_rules_532 hw (by omega) ?_
              refine at_val (tgt := 565) (fun z => z = nI (if fcn (c32 (Z 4 i)) (fgS (B 0) (A 1) (nI who) (N 1)) then 2 ^ i else 0)) (fun z hz => ?_) (fun J_565 => ?_)
              · subst hz
                refine r_ior cx dL_rules_565 ?_
                refine r_eqi (y := nI (thS (ngo (B 1)) (N 2) ||| thS (ngo (fun r => fcn (c32 (Z 4 r)) (fgS (B 0) (A 1) (nI who) (N 1)))) (i + 1))) (by
                  show f0 6 ||| _ = _
                  rw [h6, fa_or, Nat.or_assoc, thS_n]) ?_
                refine ls_0 cx dL_rules_566 hw (by omega) (fun w hw => ?_)
                refine r_aload cx dL_rules_567 rfl ?_
                refine r_iload cx dL_rules_569 rfl ?_
                refine r_dup2 cx dL_rules_571 rfl rfl ?_
                refine ll_4 cx dL_rules_572 hw (by omega) ?_
                refine r_eqi (y := nI (c32 (Z 4 i))) ((h4 i (by omega)).trans (by rw [if_neg (Nat.lt_irrefl i)]; exact (hE i (by omega)).2.2)) ?_
                refine r_iload cx dL_rules_573 rfl ?_
                refine r_iconst (v := -1) cx dL_rules_575 (by decide) ?_
                refine r_ixor cx dL_rules_576 ?_
                refine r_iand cx dL_rules_577 ?_
                refine r_eqi (andnI _ _) ?_
                refine ls_4 cx dL_rules_578 hw (by omega) (fun w hw => ?_)
                refine r_iincN (j := 1) cx dL_rules_579 rfl rfl (by decide) rfl ?_
                refine r_goto (tgt := 518) cx dL_rules_582 (by decide) ?_
                exact r_lv (q_pk [1, 2, 3, 4, 5, 0] rfl) (ih (i + 1, (upd f0 6 (nI (thS (ngo (B 1)) (N 2) ||| thS (ngo (fun r => fcn (c32 (Z 4 r)) (fgS (B 0) (A 1) (nI who) (N 1)))) (i + 1))), (upd f4 i (nI (c32 (Z 4 i) ^^^ (c32 (Z 4 i) &&& fgS (B 0) (A 1) (nI who) (N 1)))), w))) ⟨by omega, (show upd f0 6 _ 6 = _ from pk_us), fun j hj => (show upd f0 6 _ j = _ from (pk_un hj).trans (h0 j hj)), fun r hr => by
    show upd f4 i _ r = if r < i + 1 then _ else _
    by_cases e9 : r = i
    · rw [e9, pk_us, if_pos (by omega)]
    · rw [pk_un e9, h4 r hr]
      by_cases e8 : r < i
      · rw [if_pos e8, if_pos (by omega)]
      · rw [if_neg e8, if_neg (by omega)], hw⟩ (by show N 2 - (i + 1) < N 2 - i; omega))
              · skip
                refine r_aload cx dL_rules_533 rfl ?_
                refine r_iload cx dL_rules_535 rfl ?_
                refine ll_4 cx dL_rules_537 hw (by omega) ?_
                refine r_eqi (y := nI (c32 (Z 4 i))) ((h4 i (by omega)).trans (by rw [if_neg (Nat.lt_irrefl i)]; exact (hE i (by omega)).2.2)) ?_
                refine r_iload cx dL_rules_538 rfl ?_
                refine r_iand cx dL_rules_540 ?_
                refine r_eqi (fa_and _ _) ?_
                refine r_ifeqN (tgt := 564) cx (by omega) dL_rules_541 (by decide) (fun h_541 => ?_) (fun h_541 => ?_)
                · skip
                  refine r_iconst (v := nI 0) cx dL_rules_564 (by decide) ?_
                  exact J_565 _ (by rw [fcn_0 h_541]; rfl)
                · skip
                  refine r_aload cx dL_rules_544 rfl ?_
                  refine r_iload cx dL_rules_546 rfl ?_
                  refine ll_4 cx dL_rules_548 hw (by omega) ?_
                  refine r_eqi (y := nI (c32 (Z 4 i))) ((h4 i (by omega)).trans (by rw [if_neg (Nat.lt_irrefl i)]; exact (hE i (by omega)).2.2)) ?_
                  refine r_iload cx dL_rules_549 rfl ?_
                  refine r_iconst (v := -1) cx dL_rules_551 (by decide) ?_
                  refine r_ixor cx dL_rules_552 ?_
                  refine r_iand cx dL_rules_553 ?_
                  refine r_eqi (andnI _ _) ?_
                  refine r_ifneN (tgt := 564) cx (by omega) dL_rules_554 (by decide) (fun h_554 => ?_) (fun h_554 => ?_)
                  · skip
                    refine r_iconst (v := nI 0) cx dL_rules_564 (by decide) ?_
                    exact J_565 _ (by rw [fcn_1 h_554]; rfl)
                  · skip
                    refine r_iconst (v := nI 1) cx dL_rules_557 (by decide) ?_
                    refine r_iload cx dL_rules_558 rfl ?_
                    refine r_ishl cx dL_rules_560 ?_
                    refine r_eqi (shl1 (by omega)) ?_
                    refine r_goto (tgt := 565) cx dL_rules_561 (by decide) ?_
                    exact J_565 _ (by rw [fcn_2 h_541 h_554]; rfl)
          · skip
            refine r_iload cx dL_rules_464 rfl ?_
            refine at_val (tgt := 497) (fun z => z = nI (if !B 0 i && decide (A 1 i = nI who) then 2 ^ i else 0)) (fun z hz => ?_) (fun J_497 => ?_)
            · subst hz
              refine r_ior cx dL_rules_497 ?_
              refine r_eqi (y := nI (fgS (B 0) (A 1) (nI who) (i + 1))) (by rw [fa_or, fgS_s]) ?_
              refine r_istore cx dL_rules_498 (by decide) rfl ?_
              refine r_iincN (j := 1) cx dL_rules_500 rfl rfl (by decide) rfl ?_
              refine r_goto (tgt := 455) cx dL_rules_503 (by decide) ?_
              exact r_lv (q_pk [2, 3, 4, 5, 6, 1, 0] rfl) (ih (i + 1) (by omega) (by omega))
            · skip
              refine r_aload_n cx dL_rules_466 rfl rfl ?_
              refine r_iconst (v := nI 4) cx dL_rules_467 (by decide) ?_
              refine r_iload cx dL_rules_468 rfl ?_
              first | refine r_imulN cx dL_rules_470 ?_ | refine r_imul cx dL_rules_470 ?_
              refine ll_1 cx dL_rules_471 hw (by omega) ?_
              refine r_eqi (zV i h_461).1 ?_
              refine r_iload cx dL_rules_472 rfl ?_
              refine r_icmpne (tgt := 496) cx dL_rules_474 (by decide) (fun h_474 => ?_) (fun h_474 => ?_)
              · skip
                refine r_iconst (v := nI 0) cx dL_rules_496 (by decide) ?_
                exact J_497 _ (by rw [if_neg (by simp [h_474])])
              · skip
                refine r_aload cx dL_rules_477 rfl ?_
                refine r_iconst (v := nI 5) cx dL_rules_479 (by decide) ?_
                refine ll_0 cx dL_rules_480 hw (by omega) ?_
                refine r_eqi z5 ?_
                refine r_iload cx dL_rules_481 rfl ?_
                refine r_ishr cx dL_rules_483 ?_
                refine r_iconst (v := nI 1) cx dL_rules_484 (by decide) ?_
                refine r_iand cx dL_rules_485 ?_
                refine r_eqi (goz b1 h_461) ?_
                refine r_ifneb (tgt := 496) cx dL_rules_486 (by decide) (fun h_486 => ?_) (fun h_486 => ?_)
                · skip
                  refine r_iconst (v := nI 0) cx dL_rules_496 (by decide) ?_
                  exact J_497 _ (by rw [if_neg (by simp [h_486])])
                · skip
                  refine r_iconst (v := nI 1) cx dL_rules_489 (by decide) ?_
                  refine r_iload cx dL_rules_490 rfl ?_
                  refine r_ishl cx dL_rules_492 ?_
                  refine r_eqi (shl1 (by omega)) ?_
                  refine r_goto (tgt := 497) cx dL_rules_493 (by decide) ?_
                  exact J_497 _ (by rw [if_pos (by simp [h_474, h_486])])
        · skip
          refine r_iload_n cx dL_rules_427 rfl rfl ?_
          refine r_bipush (v := nI 13) cx dL_rules_428 (by decide) ?_
          refine r_ishr cx dL_rules_430 ?_
          refine r_iconst (v := nI 3) cx dL_rules_431 (by decide) ?_
          refine k_L_58 cx (c_Low l g _ _ 3 (by decide) (by decide)) dL_rules_432 ⟨Nat.le_of_ble_eq_true rfl, Nat.le_of_ble_eq_true rfl⟩ ⟨Nat.le_of_ble_eq_true rfl, Nat.le_of_ble_eq_true rfl⟩ rfl rfl (Nat.le_of_ble_eq_true rfl) (fun r w hp => ?_)
          obtain ⟨⟨j9, hj9, rfl⟩, rfl⟩ := hp
          refine r_ifneN (tgt := 443) cx (by omega) dL_rules_435 (by decide) (fun h_435 => ?_) (fun h_435 => ?_)
          · skip
            refine r_iconst (v := nI 3) cx dL_rules_443 (by decide) ?_
            exact J_444 _ (⟨3, by decide, by decide, rfl⟩)
          · skip
            refine r_bipush (v := nI 8) cx dL_rules_438 (by decide) ?_
            refine r_goto (tgt := 444) cx dL_rules_440 (by decide) ?_
            exact J_444 _ (⟨8, by decide, by decide, rfl⟩)
    · skip
      refine r_iload_n cx dL_rules_276 rfl rfl ?_
      refine r_iconst (v := nI 3) cx dL_rules_277 (by decide) ?_
      refine r_icmpgeN (tgt := 421) cx (by omega) (by omega) dL_rules_278 (by decide) (fun h_278 => ?_) (fun h_278 => ?_)
      · skip
        exact r_lv (q_pk [0, 1, 2, 3, 4, 5, 6, 7] rfl) (J_421 () trivial)
      · skip
        refine r_aload cx dL_rules_281 rfl ?_
        refine r_iconst (v := nI 3) cx dL_rules_283 (by decide) ?_
        refine ll_0 cx dL_rules_284 hw (by omega) ?_
        refine r_eqi z3 ?_
        refine r_ifleN (tgt := 421) cx (by omega) dL_rules_285 (by decide) (fun h_285 => ?_) (fun h_285 => ?_)
        · skip
          exact r_lv (q_pk [0, 1, 2, 3, 4, 5, 6, 7] rfl) (J_421 () trivial)
        · skip
          refine r_aload cx dL_rules_288 rfl ?_
          refine r_iconst (v := nI 2) cx dL_rules_290 (by decide) ?_
          refine ll_0 cx dL_rules_291 hw (by omega) ?_
          refine r_eqi z2 ?_
          refine r_ifleN (tgt := 421) cx (by omega) dL_rules_292 (by decide) (fun h_292 => ?_) (fun h_292 => ?_)
          · skip
            exact r_lv (q_pk [0, 1, 2, 3, 4, 5, 6, 7] rfl) (J_421 () trivial)
          · skip
            refine r_iload_n cx dL_rules_295 rfl rfl ?_
            refine r_aload cx dL_rules_296 rfl ?_
            refine r_iconst (v := nI 3) cx dL_rules_298 (by decide) ?_
            refine ll_0 cx dL_rules_299 hw (by omega) ?_
            refine r_eqi z3 ?_
            refine k_L_58 cx (c_Low l g _ _ (N 2) (by omega) (by omega)) dL_rules_300 ⟨Nat.le_of_ble_eq_true rfl, Nat.le_of_ble_eq_true rfl⟩ ⟨Nat.le_of_ble_eq_true rfl, Nat.le_of_ble_eq_true rfl⟩ rfl rfl (Nat.le_of_ble_eq_true rfl) (fun r w hp => ?_)
            obtain ⟨⟨rr, hrr, rfl⟩, rfl⟩ := hp
            refine r_istore cx dL_rules_303 (by decide) rfl ?_
            refine r_iload_n cx dL_rules_305 rfl rfl ?_
            refine r_iconst (v := nI 4) cx dL_rules_306 (by decide) ?_
            refine r_ishr cx dL_rules_307 ?_
            refine r_aload cx dL_rules_308 rfl ?_
            refine r_iconst (v := nI 2) cx dL_rules_310 (by decide) ?_
            refine ll_0 cx dL_rules_311 hw (by omega) ?_
            refine r_eqi z2 ?_
            refine k_L_58 cx (c_Low l g _ _ (N 1) (by omega) (by omega)) dL_rules_312 ⟨Nat.le_of_ble_eq_true rfl, Nat.le_of_ble_eq_true rfl⟩ ⟨Nat.le_of_ble_eq_true rfl, Nat.le_of_ble_eq_true rfl⟩ rfl rfl (Nat.le_of_ble_eq_true rfl) (fun r w hp => ?_)
            obtain ⟨⟨kk, hkk, rfl⟩, rfl⟩ := hp
            obtain ⟨G, hG, hGe, hGz⟩ := zE rr (by omega)
            have hGl := bw_lt b1 hG
            refine r_istore cx dL_rules_315 (by decide) rfl ?_
            refine at_val (tgt := 360) (fun z => z = bI (!(B 1 rr || B 0 kk || G.testBit kk))) (fun z hz => ?_) (fun J_360 => ?_)
            · subst hz
              refine r_istore cx dL_rules_360 (by decide) rfl ?_
              refine r_aload cx dL_rules_362 rfl ?_
              refine r_iload cx dL_rules_364 rfl ?_
              refine r_dup2 cx dL_rules_366 rfl rfl ?_
              refine ll_4 cx dL_rules_367 hw (by omega) ?_
              refine at_val (tgt := 381) (fun z => z = nI (if (B 1 rr || B 0 kk || G.testBit kk) then 0 else 2 ^ kk)) (fun z hz => ?_) (fun J_381 => ?_)
              · subst hz
                refine r_ior cx dL_rules_381 ?_
                refine r_eqi (y := nI (G ||| (if (B 1 rr || B 0 kk || G.testBit kk) then 0 else 2 ^ kk))) (by rw [hGz, fa_or]) ?_
                refine ls_4 cx dL_rules_382 hw (by omega) (fun w hw => ?_)
                refine r_aload_n cx dL_rules_383 rfl rfl ?_
                refine r_iconst (v := nI 3) cx dL_rules_384 (by decide) ?_
                refine r_iload cx dL_rules_385 rfl ?_
                refine r_iload cx dL_rules_387 rfl ?_
                refine r_iconst (v := nI 0) cx dL_rules_389 (by decide) ?_
                refine r_iconst (v := nI 0) cx dL_rules_390 (by decide) ?_
                refine k_L_94 cx (c_Crest l g hl N A B L _ _ a0 hI hw (nI rr) (nI kk) (nI 0) (nI 0) (kc2 (inT2 hrr (by omega) hkk (by omega)))) dL_rules_391 ⟨Nat.le_of_ble_eq_true rfl, Nat.le_of_ble_eq_true rfl⟩ ⟨Nat.le_of_ble_eq_true rfl, Nat.le_of_ble_eq_true rfl⟩ rfl rfl (Nat.le_of_ble_eq_true rfl) (fun r w hp => ?_)
                obtain ⟨rfl, L3, hw, hR9⟩ := rest_post hZ hrr hkk hG hGe hGz hp rfl rfl rfl rfl rfl rfl
                refine at_val (tgt := 412) (fun z => z = if (B 1 rr || B 0 kk || G.testBit kk) then (-3 : Int32) else nI (bc (G ||| 2 ^ kk))) (fun z hz => ?_) (fun J_412 => ?_)
                · subst hz
                  refine r_icmpne (tgt := 419) cx dL_rules_412 (by decide) (fun h_412 => ?_) (fun h_412 => ?_)
                  · exact absurd rfl h_412
                  · skip
                    refine r_iconst (v := nI 1) cx dL_rules_415 (by decide) ?_
                    refine r_goto (tgt := 420) cx dL_rules_416 (by decide) ?_
                    exact r_zret cx dL_rules_420 hr rfl (⟨rfl, lwI_mk hw (hR9)⟩) (Nat.le_of_ble_eq_true rfl) (Nat.le_of_ble_eq_true rfl)
                · skip
                  refine r_iload cx dL_rules_394 rfl ?_
                  refine r_ifeqb (tgt := 410) cx dL_rules_396 (by decide) (fun h_396 => ?_) (fun h_396 => ?_)
                  · skip
                    refine r_bipush (v := -3) cx dL_rules_410 (by decide) ?_
                    exact J_412 _ (by rw [if_pos (nb h_396)])
                  · skip
                    refine r_aload cx dL_rules_399 rfl ?_
                    refine r_iload cx dL_rules_401 rfl ?_
                    refine ll_4 cx dL_rules_403 hw (by omega) ?_
                    refine r_eqi (y := nI (G ||| (if (B 1 rr || B 0 kk || G.testBit kk) then 0 else 2 ^ kk))) (by
                      show upd (Z 4) rr (nI (G ||| (if (B 1 rr || B 0 kk || G.testBit kk) then 0 else 2 ^ kk))) rr = _
                      rw [pk_us]) ?_
                    refine k_L_88 cx (c_Bits l g _ (G ||| (if (B 1 rr || B 0 kk || G.testBit kk) then 0 else 2 ^ kk)) (bw_lt b1 (bwif hG hkk))) dL_rules_404 ⟨Nat.le_of_ble_eq_true rfl, Nat.le_of_ble_eq_true rfl⟩ ⟨Nat.le_of_ble_eq_true rfl, Nat.le_of_ble_eq_true rfl⟩ rfl rfl (Nat.le_of_ble_eq_true rfl) (fun r w hp => ?_)
                    obtain ⟨rfl, rfl⟩ := hp
                    refine r_goto (tgt := 412) cx dL_rules_407 (by decide) ?_
                    exact J_412 _ (by rw [if_neg (show ¬ (B 1 rr || B 0 kk || G.testBit kk) = true by simpa using h_396), if_neg (show ¬ (B 1 rr || B 0 kk || G.testBit kk) = true by simpa using h_396)])
              · skip
                refine r_iload cx dL_rules_368 rfl ?_
                refine r_ifeqb (tgt := 380) cx dL_rules_370 (by decide) (fun h_370 => ?_) (fun h_370 => ?_)
                · skip
                  refine r_iconst (v := nI 0) cx dL_rules_380 (by decide) ?_
                  exact J_381 _ (by rw [if_pos (nb h_370)])
                · skip
                  refine r_iconst (v := nI 1) cx dL_rules_373 (by decide) ?_
                  refine r_iload cx dL_rules_374 rfl ?_
                  refine r_ishl cx dL_rules_376 ?_
                  refine r_eqi (shl1 (by omega)) ?_
                  refine r_goto (tgt := 381) cx dL_rules_377 (by decide) ?_
                  exact J_381 _ (by rw [if_neg (show ¬ (B 1 rr || B 0 kk || G.testBit kk) = true by simpa using h_370)])
            · skip
              refine r_aload cx dL_rules_317 rfl ?_
              refine r_bipush (v := nI 6) cx dL_rules_319 (by decide) ?_
              refine ll_0 cx dL_rules_321 hw (by omega) ?_
              refine r_eqi z6 ?_
              refine r_iload cx dL_rules_322 rfl ?_
              refine r_ishr cx dL_rules_324 ?_
              refine r_iconst (v := nI 1) cx dL_rules_325 (by decide) ?_
              refine r_iand cx dL_rules_326 ?_
              refine r_eqi (goz (by omega) hrr) ?_
              refine r_ifneb (tgt := 359) cx dL_rules_327 (by decide) (fun h_327 => ?_) (fun h_327 => ?_)
              · skip
                refine r_iconst (v := nI 0) cx dL_rules_359 (by decide) ?_
                exact J_360 _ (by rw [h_327]; rfl)
              · skip
                refine r_aload cx dL_rules_330 rfl ?_
                refine r_iconst (v := nI 5) cx dL_rules_332 (by decide) ?_
                refine ll_0 cx dL_rules_333 hw (by omega) ?_
                refine r_eqi z5 ?_
                refine r_iload cx dL_rules_334 rfl ?_
                refine r_ishr cx dL_rules_336 ?_
                refine r_iconst (v := nI 1) cx dL_rules_337 (by decide) ?_
                refine r_iand cx dL_rules_338 ?_
                refine r_eqi (goz b1 hkk) ?_
                refine r_ifneb (tgt := 359) cx dL_rules_339 (by decide) (fun h_339 => ?_) (fun h_339 => ?_)
                · skip
                  refine r_iconst (v := nI 0) cx dL_rules_359 (by decide) ?_
                  exact J_360 _ (by rw [h_327, h_339]; rfl)
                · skip
                  refine r_aload cx dL_rules_342 rfl ?_
                  refine r_iload cx dL_rules_344 rfl ?_
                  refine ll_4 cx dL_rules_346 hw (by omega) ?_
                  refine r_eqi hGz ?_
                  refine r_iload cx dL_rules_347 rfl ?_
                  refine r_ishr cx dL_rules_349 ?_
                  refine r_iconst (v := nI 1) cx dL_rules_350 (by decide) ?_
                  refine r_iand cx dL_rules_351 ?_
                  refine r_eqi (shr1 (by omega) (by omega)) ?_
                  refine r_ifneb (tgt := 359) cx dL_rules_352 (by decide) (fun h_352 => ?_) (fun h_352 => ?_)
                  · skip
                    refine r_iconst (v := nI 0) cx dL_rules_359 (by decide) ?_
                    exact J_360 _ (by rw [h_327, h_339, h_352]; rfl)
                  · skip
                    refine r_iconst (v := nI 1) cx dL_rules_355 (by decide) ?_
                    refine r_goto (tgt := 360) cx dL_rules_356 (by decide) ?_
                    exact J_360 _ (by rw [h_327, h_339, h_352]; rfl)
  · skip
    refine r_iload_n cx dL_rules_0 rfl rfl ?_
    refine r_ifneN (tgt := 276) cx (by omega) dL_rules_1 (by decide) (fun h_1 => ?_) (fun h_1 => ?_)
    · skip
      exact r_lv (q_pk [0, 1, 2, 3, 4, 5, 6, 7] rfl) (J_276 () trivial)
    · skip
      refine r_aload cx dL_rules_4 rfl ?_
      refine r_iconst (v := nI 3) cx dL_rules_6 (by decide) ?_
      refine ll_0 cx dL_rules_7 hw (by omega) ?_
      refine r_eqi z3 ?_
      refine r_bipush (v := nI 8) cx dL_rules_8 (by decide) ?_
      refine r_icmpgeN (tgt := 276) cx (by omega) (by omega) dL_rules_10 (by decide) (fun h_10 => ?_) (fun h_10 => ?_)
      · skip
        exact r_lv (q_pk [0, 1, 2, 3, 4, 5, 6, 7] rfl) (J_276 () trivial)
      · skip
        refine r_bipush (v := nI 6) cx dL_rules_13 (by decide) ?_
        refine r_aload cx dL_rules_15 rfl ?_
        refine r_iconst (v := nI 3) cx dL_rules_17 (by decide) ?_
        refine ll_0 cx dL_rules_18 hw (by omega) ?_
        refine r_eqi z3 ?_
        first | refine r_imulN cx dL_rules_19 ?_ | refine r_imul cx dL_rules_19 ?_
        refine r_istore cx dL_rules_20 (by decide) rfl ?_
        refine r_aload cx dL_rules_22 rfl ?_
        refine r_iload cx dL_rules_24 rfl ?_
        refine r_iload_n cx dL_rules_26 rfl rfl ?_
        refine at_val (tgt := 44) (fun z => ∃ n, 0 < n ∧ n ≤ 8 ∧ z = nI n) (fun z hz => ?_) (fun J_44 => ?_)
        · obtain ⟨n9, hn0, hn9, rfl⟩ := hz
          refine k_L_58 cx (c_Low l g _ _ n9 hn0 (by omega)) dL_rules_44 ⟨Nat.le_of_ble_eq_true rfl, Nat.le_of_ble_eq_true rfl⟩ ⟨Nat.le_of_ble_eq_true rfl, Nat.le_of_ble_eq_true rfl⟩ rfl rfl (Nat.le_of_ble_eq_true rfl) (fun r w hp => ?_)
          obtain ⟨⟨so9, hso9, rfl⟩, rfl⟩ := hp
          refine ls_3 cx dL_rules_47 hw (by omega) (fun w hw => ?_)
          refine r_iload_n cx dL_rules_48 rfl rfl ?_
          refine r_iconst (v := nI 3) cx dL_rules_49 (by decide) ?_
          refine r_ishr cx dL_rules_50 ?_
          refine at_val (tgt := 68) (fun z => ∃ n, 0 < n ∧ n ≤ 9 ∧ z = nI n) (fun z hz => ?_) (fun J_68 => ?_)
          · obtain ⟨n9, hn0, hn9, rfl⟩ := hz
            refine k_L_58 cx (c_Low l g _ _ n9 hn0 (by omega)) dL_rules_68 ⟨Nat.le_of_ble_eq_true rfl, Nat.le_of_ble_eq_true rfl⟩ ⟨Nat.le_of_ble_eq_true rfl, Nat.le_of_ble_eq_true rfl⟩ rfl rfl (Nat.le_of_ble_eq_true rfl) (fun r w hp => ?_)
            obtain ⟨⟨t9, ht9, rfl⟩, rfl⟩ := hp
            refine r_iconst (v := nI 1) cx dL_rules_71 (by decide) ?_
            first | refine r_isubN cx dL_rules_72 (by omega) ?_ | refine r_isub cx dL_rules_72 ?_
            refine r_eqi km_sub ?_
            refine r_istore cx dL_rules_73 (by decide) rfl ?_
            refine r_aload cx dL_rules_75 rfl ?_
            refine r_iload cx dL_rules_77 rfl ?_
            refine r_iconst (v := nI 1) cx dL_rules_79 (by decide) ?_
            first | refine r_iaddN cx dL_rules_80 ?_ | refine r_iadd cx dL_rules_80 ?_
            refine at_val (tgt := 97) (fun z => z = (if km t9 = nI so9 then (-1 : Int32) else km t9)) (fun z hz => ?_) (fun J_97 => ?_)
            · subst hz
              refine ls_3 cx dL_rules_97 hw (by omega) (fun w hw => ?_)
              refine r_aload cx dL_rules_98 rfl ?_
              refine r_iload cx dL_rules_100 rfl ?_
              refine r_iconst (v := nI 2) cx dL_rules_102 (by decide) ?_
              first | refine r_iaddN cx dL_rules_103 ?_ | refine r_iadd cx dL_rules_103 ?_
              refine at_val (tgt := 144) (fun z => ∃ n, n < 10 ∧ z = nI n) (fun z hz => ?_) (fun J_144 => ?_)
              · obtain ⟨be9, hbe9, rfl⟩ := hz
                refine ls_3 cx dL_rules_144 hw (by omega) (fun w hw => ?_)
                refine r_aload cx dL_rules_145 rfl ?_
                refine r_iload cx dL_rules_147 rfl ?_
                refine r_iconst (v := nI 3) cx dL_rules_149 (by decide) ?_
                first | refine r_iaddN cx dL_rules_150 ?_ | refine r_iadd cx dL_rules_150 ?_
                refine r_iload_n cx dL_rules_151 rfl rfl ?_
                refine r_bipush (v := nI 9) cx dL_rules_152 (by decide) ?_
                refine r_ishr cx dL_rules_154 ?_
                refine r_iconst (v := nI 4) cx dL_rules_155 (by decide) ?_
                refine k_L_58 cx (c_Low l g _ _ 4 (by decide) (by decide)) dL_rules_156 ⟨Nat.le_of_ble_eq_true rfl, Nat.le_of_ble_eq_true rfl⟩ ⟨Nat.le_of_ble_eq_true rfl, Nat.le_of_ble_eq_true rfl⟩ rfl rfl (Nat.le_of_ble_eq_true rfl) (fun r w hp => ?_)
                obtain ⟨⟨f9, hf9, rfl⟩, rfl⟩ := hp
                refine ls_3 cx dL_rules_159 hw (by omega) (fun w hw => ?_)
                refine r_aload cx dL_rules_160 rfl ?_
                refine r_iload cx dL_rules_162 rfl ?_
                refine r_iconst (v := nI 4) cx dL_rules_164 (by decide) ?_
                first | refine r_iaddN cx dL_rules_165 ?_ | refine r_iadd cx dL_rules_165 ?_
                refine r_aload cx dL_rules_166 rfl ?_
                refine r_iload cx dL_rules_168 rfl ?_
                refine r_iconst (v := nI 3) cx dL_rules_170 (by decide) ?_
                first | refine r_iaddN cx dL_rules_171 ?_ | refine r_iadd cx dL_rules_171 ?_
                refine ll_3 cx dL_rules_172 hw (by omega) ?_
                refine r_eqi (y := nI f9) (by
                  show (upd (upd (upd (upd (Z 3) (6 * N 2) (nI so9)) (6 * N 2 + 1) (if km t9 = nI so9 then (-1 : Int32) else km t9)) (6 * N 2 + 2) (nI be9)) (6 * N 2 + 3) (nI f9)) (6 * N 2 + 3) = _
                  rw [pk_us]) ?_
                refine r_iload_n cx dL_rules_173 rfl rfl ?_
                refine r_bipush (v := nI 10) cx dL_rules_174 (by decide) ?_
                refine r_ishr cx dL_rules_176 ?_
                refine r_bipush (v := nI 10) cx dL_rules_177 (by decide) ?_
                refine r_aload cx dL_rules_179 rfl ?_
                refine r_iload cx dL_rules_181 rfl ?_
                refine r_iconst (v := nI 3) cx dL_rules_183 (by decide) ?_
                first | refine r_iaddN cx dL_rules_184 ?_ | refine r_iadd cx dL_rules_184 ?_
                refine ll_3 cx dL_rules_185 hw (by omega) ?_
                refine r_eqi (y := nI f9) (by
                  show (upd (upd (upd (upd (Z 3) (6 * N 2) (nI so9)) (6 * N 2 + 1) (if km t9 = nI so9 then (-1 : Int32) else km t9)) (6 * N 2 + 2) (nI be9)) (6 * N 2 + 3) (nI f9)) (6 * N 2 + 3) = _
                  rw [pk_us]) ?_
                first | refine r_isubN cx dL_rules_186 (by omega) ?_ | refine r_isub cx dL_rules_186 ?_
                refine k_L_58 cx (c_Low l g _ _ (10 - f9) (by omega) (by omega)) dL_rules_187 ⟨Nat.le_of_ble_eq_true rfl, Nat.le_of_ble_eq_true rfl⟩ ⟨Nat.le_of_ble_eq_true rfl, Nat.le_of_ble_eq_true rfl⟩ rfl rfl (Nat.le_of_ble_eq_true rfl) (fun r w hp => ?_)
                obtain ⟨⟨g9, hg9, rfl⟩, rfl⟩ := hp
                first | refine r_iaddN cx dL_rules_190 ?_ | refine r_iadd cx dL_rules_190 ?_
                refine ls_3 cx dL_rules_191 hw (by omega) (fun w hw => ?_)
                refine r_aload cx dL_rules_192 rfl ?_
                refine r_iload cx dL_rules_194 rfl ?_
                refine r_iconst (v := nI 5) cx dL_rules_196 (by decide) ?_
                first | refine r_iaddN cx dL_rules_197 ?_ | refine r_iadd cx dL_rules_197 ?_
                refine r_iload_n cx dL_rules_198 rfl rfl ?_
                refine r_bipush (v := nI 11) cx dL_rules_199 (by decide) ?_
                refine r_ishr cx dL_rules_201 ?_
                refine r_sipush (v := nI 301) cx dL_rules_202 (by decide) ?_
                refine k_L_58 cx (c_Low l g _ _ 301 (by decide) (by decide)) dL_rules_205 ⟨Nat.le_of_ble_eq_true rfl, Nat.le_of_ble_eq_true rfl⟩ ⟨Nat.le_of_ble_eq_true rfl, Nat.le_of_ble_eq_true rfl⟩ rfl rfl (Nat.le_of_ble_eq_true rfl) (fun r w hp => ?_)
                obtain ⟨⟨y9, hy9, rfl⟩, rfl⟩ := hp
                refine ls_3 cx dL_rules_208 hw (by omega) (fun w hw => ?_)
                refine r_aload cx dL_rules_209 rfl ?_
                refine r_iconst (v := nI 3) cx dL_rules_211 (by decide) ?_
                refine r_dup2 cx dL_rules_212 rfl rfl ?_
                refine ll_0 cx dL_rules_213 hw (by omega) ?_
                refine r_eqi (y := nI (N 2)) z3 ?_
                refine r_iconst (v := nI 1) cx dL_rules_214 (by decide) ?_
                first | refine r_iaddN cx dL_rules_215 ?_ | refine r_iadd cx dL_rules_215 ?_
                refine ls_0 cx dL_rules_216 hw (by omega) (fun w hw => ?_)
                refine r_aload_n cx dL_rules_217 rfl rfl ?_
                refine r_aload cx dL_rules_218 rfl ?_
                refine r_iload cx dL_rules_220 rfl ?_
                refine ll_3 cx dL_rules_222 hw (by omega) ?_
                refine r_eqi (y := (nI so9)) (by
                  show (upd (upd (upd (upd (upd (upd (Z 3) (6 * N 2) (nI so9)) (6 * N 2 + 1) (if km t9 = nI so9 then (-1 : Int32) else km t9)) (6 * N 2 + 2) (nI be9)) (6 * N 2 + 3) (nI f9)) (6 * N 2 + 4) (nI (f9 + g9))) (6 * N 2 + 5) (nI y9)) (6 * N 2) = _
                  rw [pk_un (by omega), pk_un (by omega), pk_un (by omega), pk_un (by omega), pk_un (by omega), pk_us]) ?_
                refine r_aload cx dL_rules_223 rfl ?_
                refine r_iload cx dL_rules_225 rfl ?_
                refine r_iconst (v := nI 1) cx dL_rules_227 (by decide) ?_
                first | refine r_iaddN cx dL_rules_228 ?_ | refine r_iadd cx dL_rules_228 ?_
                refine ll_3 cx dL_rules_229 hw (by omega) ?_
                refine r_eqi (y := (if km t9 = nI so9 then (-1 : Int32) else km t9)) (by
                  show (upd (upd (upd (upd (upd (upd (Z 3) (6 * N 2) (nI so9)) (6 * N 2 + 1) (if km t9 = nI so9 then (-1 : Int32) else km t9)) (6 * N 2 + 2) (nI be9)) (6 * N 2 + 3) (nI f9)) (6 * N 2 + 4) (nI (f9 + g9))) (6 * N 2 + 5) (nI y9)) (6 * N 2 + 1) = _
                  rw [pk_un (by omega), pk_un (by omega), pk_un (by omega), pk_un (by omega), pk_us]) ?_
                refine r_aload cx dL_rules_230 rfl ?_
                refine r_iload cx dL_rules_232 rfl ?_
                refine r_iconst (v := nI 2) cx dL_rules_234 (by decide) ?_
                first | refine r_iaddN cx dL_rules_235 ?_ | refine r_iadd cx dL_rules_235 ?_
                refine ll_3 cx dL_rules_236 hw (by omega) ?_
                refine r_eqi (y := (nI be9)) (by
                  show (upd (upd (upd (upd (upd (upd (Z 3) (6 * N 2) (nI so9)) (6 * N 2 + 1) (if km t9 = nI so9 then (-1 : Int32) else km t9)) (6 * N 2 + 2) (nI be9)) (6 * N 2 + 3) (nI f9)) (6 * N 2 + 4) (nI (f9 + g9))) (6 * N 2 + 5) (nI y9)) (6 * N 2 + 2) = _
                  rw [pk_un (by omega), pk_un (by omega), pk_un (by omega), pk_us]) ?_
                refine r_aload cx dL_rules_237 rfl ?_
                refine r_iload cx dL_rules_239 rfl ?_
                refine r_iconst (v := nI 3) cx dL_rules_241 (by decide) ?_
                first | refine r_iaddN cx dL_rules_242 ?_ | refine r_iadd cx dL_rules_242 ?_
                refine ll_3 cx dL_rules_243 hw (by omega) ?_
                refine r_eqi (y := (nI f9)) (by
                  show (upd (upd (upd (upd (upd (upd (Z 3) (6 * N 2) (nI so9)) (6 * N 2 + 1) (if km t9 = nI so9 then (-1 : Int32) else km t9)) (6 * N 2 + 2) (nI be9)) (6 * N 2 + 3) (nI f9)) (6 * N 2 + 4) (nI (f9 + g9))) (6 * N 2 + 5) (nI y9)) (6 * N 2 + 3) = _
                  rw [pk_un (by omega), pk_un (by omega), pk_us]) ?_
                refine r_aload cx dL_rules_244 rfl ?_
                refine r_iload cx dL_rules_246 rfl ?_
                refine r_iconst (v := nI 4) cx dL_rules_248 (by decide) ?_
                first | refine r_iaddN cx dL_rules_249 ?_ | refine r_iadd cx dL_rules_249 ?_
                refine ll_3 cx dL_rules_250 hw (by omega) ?_
                refine r_eqi (y := (nI (f9 + g9))) (by
                  show (upd (upd (upd (upd (upd (upd (Z 3) (6 * N 2) (nI so9)) (6 * N 2 + 1) (if km t9 = nI so9 then (-1 : Int32) else km t9)) (6 * N 2 + 2) (nI be9)) (6 * N 2 + 3) (nI f9)) (6 * N 2 + 4) (nI (f9 + g9))) (6 * N 2 + 5) (nI y9)) (6 * N 2 + 4) = _
                  rw [pk_un (by omega), pk_us]) ?_
                refine r_aload cx dL_rules_251 rfl ?_
                refine r_iload cx dL_rules_253 rfl ?_
                refine r_iconst (v := nI 5) cx dL_rules_255 (by decide) ?_
                first | refine r_iaddN cx dL_rules_256 ?_ | refine r_iadd cx dL_rules_256 ?_
                refine ll_3 cx dL_rules_257 hw (by omega) ?_
                refine r_eqi (y := (nI y9)) (by
                  show (upd (upd (upd (upd (upd (upd (Z 3) (6 * N 2) (nI so9)) (6 * N 2 + 1) (if km t9 = nI so9 then (-1 : Int32) else km t9)) (6 * N 2 + 2) (nI be9)) (6 * N 2 + 3) (nI f9)) (6 * N 2 + 4) (nI (f9 + g9))) (6 * N 2 + 5) (nI y9)) (6 * N 2 + 5) = _
                  rw [pk_us]) ?_
                refine kW_L_98 cx (p_rule l g N A B L _ _ a0 hI hw (nI so9) (if km t9 = nI so9 then (-1 : Int32) else km t9) (nI be9) (nI f9) (nI (f9 + g9)) (nI y9) (rl_ok (by omega) (by omega) hbe9 hf9 hg9 hy9 h_10)) dL_rules_258 hw  ⟨Nat.le_of_ble_eq_true rfl, Nat.le_of_ble_eq_true rfl⟩ ⟨Nat.le_of_ble_eq_true rfl, Nat.le_of_ble_eq_true rfl⟩ rfl rfl (Nat.le_of_ble_eq_true rfl) (fun r w hp => ?_)
                obtain ⟨hk, rfl, hw⟩ := hp
                refine r_aload cx dL_rules_261 rfl ?_
                refine r_iconst (v := nI 3) cx dL_rules_263 (by decide) ?_
                refine ll_0 cx dL_rules_264 hw (by omega) ?_
                refine r_eqi (y := nI (N 2 + 1)) rfl ?_
                refine r_iconst (v := nI 1) cx dL_rules_265 (by decide) ?_
                first | refine r_isubN cx dL_rules_266 (by omega) ?_ | refine r_isub cx dL_rules_266 ?_
                refine r_icmpne (tgt := 274) cx dL_rules_267 (by decide) (fun h_267 => ?_) (fun h_267 => ?_)
                · exact absurd (by rw [Nat.add_sub_cancel]) h_267
                · skip
                  refine r_iconst (v := nI 1) cx dL_rules_270 (by decide) ?_
                  refine r_goto (tgt := 275) cx dL_rules_271 (by decide) ?_
                  exact r_zret cx dL_rules_275 hr rfl (⟨rfl, lwI_mk hw (lR_rule hZ h_10 hk rfl rfl rfl rfl rfl rfl)⟩) (Nat.le_of_ble_eq_true rfl) (Nat.le_of_ble_eq_true rfl)
              · skip
                refine r_iload_n cx dL_rules_104 rfl rfl ?_
                refine r_bipush (v := nI 6) cx dL_rules_105 (by decide) ?_
                refine r_ishr cx dL_rules_107 ?_
                refine r_iconst (v := nI 2) cx dL_rules_108 (by decide) ?_
                refine k_L_58 cx (c_Low l g _ _ 2 (by decide) (by decide)) dL_rules_109 ⟨Nat.le_of_ble_eq_true rfl, Nat.le_of_ble_eq_true rfl⟩ ⟨Nat.le_of_ble_eq_true rfl, Nat.le_of_ble_eq_true rfl⟩ rfl rfl (Nat.le_of_ble_eq_true rfl) (fun r w hp => ?_)
                obtain ⟨⟨j9, hj9, rfl⟩, rfl⟩ := hp
                refine r_ifneN (tgt := 120) cx (by omega) dL_rules_112 (by decide) (fun h_112 => ?_) (fun h_112 => ?_)
                · skip
                  refine r_iload_n cx dL_rules_120 rfl rfl ?_
                  refine r_bipush (v := nI 7) cx dL_rules_121 (by decide) ?_
                  refine r_ishr cx dL_rules_123 ?_
                  refine r_iconst (v := nI 4) cx dL_rules_124 (by decide) ?_
                  refine k_L_58 cx (c_Low l g _ _ 4 (by decide) (by decide)) dL_rules_125 ⟨Nat.le_of_ble_eq_true rfl, Nat.le_of_ble_eq_true rfl⟩ ⟨Nat.le_of_ble_eq_true rfl, Nat.le_of_ble_eq_true rfl⟩ rfl rfl (Nat.le_of_ble_eq_true rfl) (fun r w hp => ?_)
                  obtain ⟨⟨j9, hj9, rfl⟩, rfl⟩ := hp
                  refine r_ifneN (tgt := 136) cx (by omega) dL_rules_128 (by decide) (fun h_128 => ?_) (fun h_128 => ?_)
                  · skip
                    refine r_iload_n cx dL_rules_136 rfl rfl ?_
                    refine r_bipush (v := nI 8) cx dL_rules_137 (by decide) ?_
                    refine r_ishr cx dL_rules_139 ?_
                    refine r_iconst (v := nI 3) cx dL_rules_140 (by decide) ?_
                    refine k_L_58 cx (c_Low l g _ _ 3 (by decide) (by decide)) dL_rules_141 ⟨Nat.le_of_ble_eq_true rfl, Nat.le_of_ble_eq_true rfl⟩ ⟨Nat.le_of_ble_eq_true rfl, Nat.le_of_ble_eq_true rfl⟩ rfl rfl (Nat.le_of_ble_eq_true rfl) (fun r w hp => ?_)
                    obtain ⟨⟨b9, hb9, rfl⟩, rfl⟩ := hp
                    exact J_144 _ (⟨b9, by omega, rfl⟩)
                  · skip
                    refine r_bipush (v := nI 8) cx dL_rules_131 (by decide) ?_
                    refine r_goto (tgt := 144) cx dL_rules_133 (by decide) ?_
                    exact J_144 _ (⟨8, by decide, rfl⟩)
                · skip
                  refine r_bipush (v := nI 9) cx dL_rules_115 (by decide) ?_
                  refine r_goto (tgt := 144) cx dL_rules_117 (by decide) ?_
                  exact J_144 _ (⟨9, by decide, rfl⟩)
            · skip
              refine r_iload cx dL_rules_81 rfl ?_
              refine r_aload cx dL_rules_83 rfl ?_
              refine r_iload cx dL_rules_85 rfl ?_
              refine ll_3 cx dL_rules_87 hw (by omega) ?_
              refine r_eqi (y := nI so9) (by
                show (upd (Z 3) (6 * N 2) (nI so9)) (6 * N 2) = _
                rw [pk_us]) ?_
              refine r_icmpne (tgt := 95) cx dL_rules_88 (by decide) (fun h_88 => ?_) (fun h_88 => ?_)
              · skip
                refine r_iload cx dL_rules_95 rfl ?_
                exact J_97 _ (by rw [if_neg h_88])
              · skip
                refine r_iconst (v := -1) cx dL_rules_91 (by decide) ?_
                refine r_goto (tgt := 97) cx dL_rules_92 (by decide) ?_
                exact J_97 _ (by rw [if_pos h_88])
          · skip
            refine r_iload_n cx dL_rules_51 rfl rfl ?_
            refine r_bipush (v := nI 13) cx dL_rules_52 (by decide) ?_
            refine r_ishr cx dL_rules_54 ?_
            refine r_iconst (v := nI 3) cx dL_rules_55 (by decide) ?_
            refine k_L_58 cx (c_Low l g _ _ 3 (by decide) (by decide)) dL_rules_56 ⟨Nat.le_of_ble_eq_true rfl, Nat.le_of_ble_eq_true rfl⟩ ⟨Nat.le_of_ble_eq_true rfl, Nat.le_of_ble_eq_true rfl⟩ rfl rfl (Nat.le_of_ble_eq_true rfl) (fun r w hp => ?_)
            obtain ⟨⟨j9, hj9, rfl⟩, rfl⟩ := hp
            refine r_ifneN (tgt := 67) cx (by omega) dL_rules_59 (by decide) (fun h_59 => ?_) (fun h_59 => ?_)
            · skip
              refine r_iconst (v := nI 4) cx dL_rules_67 (by decide) ?_
              exact J_68 _ (⟨4, by decide, by decide, rfl⟩)
            · skip
              refine r_bipush (v := nI 9) cx dL_rules_62 (by decide) ?_
              refine r_goto (tgt := 68) cx dL_rules_64 (by decide) ?_
              exact J_68 _ (⟨9, by decide, by decide, rfl⟩)
        · skip
          refine r_iload_n cx dL_rules_27 rfl rfl ?_
          refine r_bipush (v := nI 13) cx dL_rules_28 (by decide) ?_
          refine r_ishr cx dL_rules_30 ?_
          refine r_iconst (v := nI 3) cx dL_rules_31 (by decide) ?_
          refine k_L_58 cx (c_Low l g _ _ 3 (by decide) (by decide)) dL_rules_32 ⟨Nat.le_of_ble_eq_true rfl, Nat.le_of_ble_eq_true rfl⟩ ⟨Nat.le_of_ble_eq_true rfl, Nat.le_of_ble_eq_true rfl⟩ rfl rfl (Nat.le_of_ble_eq_true rfl) (fun r w hp => ?_)
          obtain ⟨⟨j9, hj9, rfl⟩, rfl⟩ := hp
          refine r_ifneN (tgt := 43) cx (by omega) dL_rules_35 (by decide) (fun h_35 => ?_) (fun h_35 => ?_)
          · skip
            refine r_iconst (v := nI 3) cx dL_rules_43 (by decide) ?_
            exact J_44 _ (⟨3, by decide, by decide, rfl⟩)
          · skip
            refine r_bipush (v := nI 8) cx dL_rules_38 (by decide) ?_
            refine r_goto (tgt := 44) cx dL_rules_40 (by decide) ?_
            exact J_44 _ (⟨8, by decide, by decide, rfl⟩)
