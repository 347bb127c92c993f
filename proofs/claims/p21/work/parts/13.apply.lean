theorem l_snoc {l : List Nat} (h : l ≠ []) : ∃ (l3 : List Nat) (y : Nat), l = l3 ++ [y] := by
  rcases List.eq_nil_or_concat l with e | ⟨a, b, e⟩
  · exact absurd e h
  · exact ⟨a, b, by rw [e, List.concat_eq_append]⟩
theorem chg_eq {so be x f : Nat} (h1 : so < 8) (h2 : be < 10) (h3 : x < 8) (h4 : f < 9) : (decide (nI x = nI so) && (decide (nI be = nI 9) || decide (nI be = nI f))) = chg so be x f := by
  unfold chg
  congr 1
  · exact decide_eq_decide.mpr (nI_inj (by omega) (by omega))
  · congr 1
    · exact decide_eq_decide.mpr (nI_inj (by omega) (by omega))
    · exact decide_eq_decide.mpr (nI_inj (by omega) (by omega))
theorem fol_lt {l : List Nat} (h : snd l) : fol l < 9 := by
  cases l with
  | nil => decide
  | cons x xs => exact Nat.lt_trans (snd_cons.mp h).1 (by decide)
theorem apL_one {so : Nat} {to : Option Nat} {be x t : Nat} {l : List Nat} (h : pce so to be x (fol l) = [t]) : num (apL so to be (x :: l)) = num (apL so to be l) + (t + 1) * 9 ^ (apL so to be l).length ∧ (apL so to be (x :: l)).length = (apL so to be l).length + 1 := by
  rw [apL, h]
  exact ⟨by rw [List.singleton_append, num_cons, Nat.add_comm], by simp⟩
theorem apL_keep {so : Nat} {to : Option Nat} {be x : Nat} {l : List Nat} (h : chg so be x (fol l) = false) : num (apL so to be (x :: l)) = num (apL so to be l) + (x + 1) * 9 ^ (apL so to be l).length ∧ (apL so to be (x :: l)).length = (apL so to be l).length + 1 := apL_one (by rw [pce, h]; rfl)
theorem apL_some {so t be x : Nat} {l : List Nat} (h : chg so be x (fol l) = true) : num (apL so (some t) be (x :: l)) = num (apL so (some t) be l) + (t + 1) * 9 ^ (apL so (some t) be l).length ∧ (apL so (some t) be (x :: l)).length = (apL so (some t) be l).length + 1 := apL_one (by rw [pce, h]; rfl)
theorem apL_none {so be x : Nat} {l : List Nat} (h : chg so be x (fol l) = true) : apL so none be (x :: l) = apL so none be l := by rw [apL, pce, h]; rfl
theorem toI_none {to : Option Nat} (ht : ∀ t, to = some t → t < 8) (h : toI to = -1) : to = none := by
  cases to with
  | none => rfl
  | some t => exact absurd h (nI_nm1 (by have := ht t rfl; omega))
theorem toI_some {to : Option Nat} (h : ¬ toI to = -1) : ∃ t, to = some t := by
  cases to with
  | none => exact absurd rfl h
  | some t => exact ⟨t, rfl⟩
set_option maxHeartbeats 4000000 in
set_option maxRecDepth 100000 in
theorem c_applyTo (l : Launch) (g : q_G) (ws : va_W) (q0 a0 : Nat) (so be : Nat) (to : Option Nat) (fi la yr : Int32) (gr : Int64) (fa : Bool) (l0 : List Nat) (hso : so < 8) (hbe : be < 10) (hto : ∀ t, to = some t → t < 8) (hl0 : snd l0) (hn0 : l0.length ≤ 8) (h0 : ws[q0]? = some (a0, oR (nI so) (toI to) (nI be) fi la yr gr fa)) : MetW l g yX1_applyTo cX1_applyTo 9 (some .int) ({ frames := 1, cells := 0, slots := 0, locals := 22 } : Room) [.ref a0, .int (nI (num l0))] (ws) (q_Qi g (fun r w => r = nI (num (apR so to be l0)) ∧ w = ws)) := by
  refine q_met (own := RX1) (by decide +kernel) rfl (Nat.le_of_ble_eq_true rfl) (fun p e s m args below meth c cx hr hnm => ?_)
  refine r_lv (lv2 := [(0, .ref a0), (1, .int (nI (num l0)))]) (q_pk [0, 1] rfl) ?_
  refine r_iconst (v := nI 0) cx dX1_applyTo_0 (by decide) ?_
  refine r_istore_n cx dX1_applyTo_1 rfl (by decide) rfl ?_
  refine r_iconst (v := nI 1) cx dX1_applyTo_2 (by decide) ?_
  refine r_istore_n cx dX1_applyTo_3 rfl (by decide) rfl ?_
  refine r_iload_n cx dX1_applyTo_4 rfl rfl ?_
  refine r_istore cx dX1_applyTo_5 (by decide) rfl ?_
  refine r_bipush (v := nI 8) cx dX1_applyTo_7 (by decide) ?_
  refine r_istore cx dX1_applyTo_9 (by decide) rfl ?_
  refine r_iconst (v := nI 0) cx dX1_applyTo_11 (by decide) ?_
  refine r_istore cx dX1_applyTo_12 (by decide) rfl ?_
  refine at_loop (fun (x : List Nat × List Nat) => x.1 ++ x.2 = l0) (fun x => [(0, .ref a0), (1, .int (nI (num l0))), (2, .int (nI (num (apL so to be x.2)))), (3, .int (nI (9 ^ (apL so to be x.2).length))), (4, .int (nI (num x.1))), (5, .int (nI (fol x.2))), (6, .int (nI x.2.length))]) (fun x => ws) (fun x => x.1.length) (l0, []) (List.append_nil l0) (q_pk [5, 6, 4, 3, 2, 1, 0] rfl) rfl (fun x hx ih => ?_)
  obtain ⟨l1, l2⟩ := x
  try dsimp only at hx ⊢
  have hlen : l1.length + l2.length = l0.length := by rw [← hx, List.length_append]
  have hs1 : snd l1 := (snd_app.mp (hx ▸ hl0)).1
  have hs2 : snd l2 := (snd_app.mp (hx ▸ hl0)).2
  have hb1 := num_bd hs1 (by omega)
  have hal := apL_len so to be l2
  have hb2 := num_bd (apL_snd (so := so) (be := be) hto hs2) (by omega)
  have hb3 := p9 (n := (apL so to be l2).length) (by omega)
  have hf := fol_lt hs2
  refine r_iload cx dX1_applyTo_14 rfl ?_
  refine r_bipush (v := nI 8) cx dX1_applyTo_16 (by decide) ?_
  refine r_icmpgeN (tgt := 94) cx (by omega) (by omega) dX1_applyTo_18 (by decide) (fun h_18 => ?_) (fun h_18 => ?_)
  · skip
    obtain rfl : l1 = [] := List.eq_nil_of_length_eq_zero (by omega)
    obtain rfl : l2 = l0 := by simpa using hx
    refine r_iload_n cx dX1_applyTo_94 rfl rfl ?_
    refine r_ifneN (tgt := 102) cx (by omega) dX1_applyTo_95 (by decide) (fun h_95 => ?_) (fun h_95 => ?_)
    · skip
      refine r_iload_n cx dX1_applyTo_102 rfl rfl ?_
      exact r_iret cx dX1_applyTo_103 hr (⟨by first | (rw [apR, if_neg (fun z => h_95 (num_zero.mpr z))]; done) | (rw [apR, if_pos (num_zero.mp h_95)]; done), rfl⟩) (Nat.le_of_ble_eq_true rfl) (Nat.le_of_ble_eq_true rfl)
    · skip
      refine r_iload_n cx dX1_applyTo_98 rfl rfl ?_
      refine r_goto (tgt := 103) cx dX1_applyTo_99 (by decide) ?_
      exact r_iret cx dX1_applyTo_103 hr (⟨by first | (rw [apR, if_neg (fun z => h_95 (num_zero.mpr z))]; done) | (rw [apR, if_pos (num_zero.mp h_95)]; done), rfl⟩) (Nat.le_of_ble_eq_true rfl) (Nat.le_of_ble_eq_true rfl)
  · skip
    refine r_iload cx dX1_applyTo_21 rfl ?_
    refine r_ifleN (tgt := 94) cx (by omega) dX1_applyTo_23 (by decide) (fun h_23 => ?_) (fun h_23 => ?_)
    · skip
      obtain rfl : l1 = [] := num_zero.mp h_23
      obtain rfl : l2 = l0 := by simpa using hx
      refine r_iload_n cx dX1_applyTo_94 rfl rfl ?_
      refine r_ifneN (tgt := 102) cx (by omega) dX1_applyTo_95 (by decide) (fun h_95 => ?_) (fun h_95 => ?_)
      · skip
        refine r_iload_n cx dX1_applyTo_102 rfl rfl ?_
        exact r_iret cx dX1_applyTo_103 hr (⟨by first | (rw [apR, if_neg (fun z => h_95 (num_zero.mpr z))]; done) | (rw [apR, if_pos (num_zero.mp h_95)]; done), rfl⟩) (Nat.le_of_ble_eq_true rfl) (Nat.le_of_ble_eq_true rfl)
      · skip
        refine r_iload_n cx dX1_applyTo_98 rfl rfl ?_
        refine r_goto (tgt := 103) cx dX1_applyTo_99 (by decide) ?_
        exact r_iret cx dX1_applyTo_103 hr (⟨by first | (rw [apR, if_neg (fun z => h_95 (num_zero.mpr z))]; done) | (rw [apR, if_pos (num_zero.mp h_95)]; done), rfl⟩) (Nat.le_of_ble_eq_true rfl) (Nat.le_of_ble_eq_true rfl)
    · skip
      obtain ⟨l1, x, rfl⟩ : ∃ l3 y, l1 = l3 ++ [y] := l_snoc (fun z => by rw [z] at h_23; exact absurd h_23 (by decide))
      have hx8 : x < 8 := hs1 x (by simp)
      have hsn := num_snoc l1 x
      rw [List.length_append, List.length_singleton] at hlen
      refine r_iload cx dX1_applyTo_26 rfl ?_
      refine r_bipush (v := nI 9) cx dX1_applyTo_28 (by decide) ?_
      refine r_iremN cx dX1_applyTo_30 (by omega) (by omega) (by omega) ?_
      refine r_iconst (v := nI 1) cx dX1_applyTo_31 (by decide) ?_
      first | refine r_isubN cx dX1_applyTo_32 (by omega) ?_ | refine r_isub cx dX1_applyTo_32 ?_
      refine r_eqi (y := nI x) (congrArg nI (by omega)) ?_
      refine r_istore cx dX1_applyTo_33 (by decide) rfl ?_
      refine r_aload_n cx dX1_applyTo_35 rfl rfl ?_
      refine r_iload cx dX1_applyTo_36 rfl ?_
      refine r_iload cx dX1_applyTo_38 rfl ?_
      refine k_X1_45 cx (c_changes l g ws q0 a0 (nI so) (toI to) (nI be) fi la yr gr fa (nI x) (nI (fol l2)) h0) dX1_applyTo_40 q0 h0 ⟨Nat.le_of_ble_eq_true rfl, Nat.le_of_ble_eq_true rfl⟩ ⟨Nat.le_of_ble_eq_true rfl, Nat.le_of_ble_eq_true rfl⟩ rfl rfl (Nat.le_of_ble_eq_true rfl) (fun r w hp => ?_)
      obtain ⟨rfl, rfl⟩ := hp
      rw [chg_eq hso hbe hx8 hf]
      refine at_join (tgt := 77) (fun (z : Unit) => True) (fun z => [(0, .ref a0), (1, .int (nI (num l0))), (2, .int (nI (num (apL so to be (x :: l2))))), (3, .int (nI (9 ^ (apL so to be (x :: l2)).length))), (4, .int (nI (num (l1 ++ [x])))), (6, .int (nI l2.length)), (7, .int (nI x))]) (fun z => []) (fun z => w) ?_ (fun J_77 => ?_)
      · intro z hz
        try dsimp only at hz ⊢
        refine r_iload cx dX1_applyTo_77 rfl ?_
        refine r_istore cx dX1_applyTo_79 (by decide) rfl ?_
        refine r_iload cx dX1_applyTo_81 rfl ?_
        refine r_bipush (v := nI 9) cx dX1_applyTo_83 (by decide) ?_
        refine r_idivN cx dX1_applyTo_85 (by omega) (by omega) (by omega) ?_
        refine r_eqi (y := nI (num l1)) (congrArg nI (by omega)) ?_
        refine r_istore cx dX1_applyTo_86 (by decide) rfl ?_
        refine r_iincN (j := 1) cx dX1_applyTo_88 rfl rfl (by decide) rfl ?_
        refine r_goto (tgt := 14) cx dX1_applyTo_91 (by decide) ?_
        exact r_lv (q_pk [3, 4, 5, 6, 1, 2, 0] rfl) (ih (l1, x :: l2) (by rw [← hx]; simp) (by simp))
      · skip
        refine r_ifeqb (tgt := 53) cx dX1_applyTo_43 (by decide) (fun h_43 => ?_) (fun h_43 => ?_)
        · skip
          refine r_iload cx dX1_applyTo_53 rfl ?_
          refine r_istore cx dX1_applyTo_55 (by decide) rfl ?_
          refine r_iload cx dX1_applyTo_57 rfl ?_
          refine r_iconst (v := -1) cx dX1_applyTo_59 (by decide) ?_
          refine r_icmpeq (tgt := 77) cx dX1_applyTo_60 (by decide) (fun h_60 => ?_) (fun h_60 => ?_)
          · exact absurd h_60 (nI_nm1 (by omega))
          · skip
            have hk := apL_keep (to := to) h_43
            refine r_iload_n cx dX1_applyTo_63 rfl rfl ?_
            refine r_iload cx dX1_applyTo_64 rfl ?_
            refine r_iconst (v := nI 1) cx dX1_applyTo_66 (by decide) ?_
            first | refine r_iaddN cx dX1_applyTo_67 ?_ | refine r_iadd cx dX1_applyTo_67 ?_
            refine r_iload_n cx dX1_applyTo_68 rfl rfl ?_
            first | refine r_imulN cx dX1_applyTo_69 ?_ | refine r_imul cx dX1_applyTo_69 ?_
            first | refine r_iaddN cx dX1_applyTo_70 ?_ | refine r_iadd cx dX1_applyTo_70 ?_
            refine r_eqi (y := nI (num (apL so to be (x :: l2)))) (congrArg nI (hk.1.symm)) ?_
            refine r_istore_n cx dX1_applyTo_71 rfl (by decide) rfl ?_
            refine r_iload_n cx dX1_applyTo_72 rfl rfl ?_
            refine r_bipush (v := nI 9) cx dX1_applyTo_73 (by decide) ?_
            first | refine r_imulN cx dX1_applyTo_75 ?_ | refine r_imul cx dX1_applyTo_75 ?_
            refine r_eqi (y := nI (9 ^ (apL so to be (x :: l2)).length)) (congrArg nI (by rw [hk.2, Nat.pow_succ])) ?_
            refine r_istore_n cx dX1_applyTo_76 rfl (by decide) rfl ?_
            exact r_lv (q_pk [4, 5, 1, 0, 6, 8, 3] rfl) (J_77 () trivial)
        · skip
          refine r_aload_n cx dX1_applyTo_46 rfl rfl ?_
          refine gf_X1_23 cx dX1_applyTo_47 q0 h0 rfl ?_
          refine r_goto (tgt := 55) cx dX1_applyTo_50 (by decide) ?_
          refine r_istore cx dX1_applyTo_55 (by decide) rfl ?_
          refine r_iload cx dX1_applyTo_57 rfl ?_
          refine r_iconst (v := -1) cx dX1_applyTo_59 (by decide) ?_
          refine r_icmpeq (tgt := 77) cx dX1_applyTo_60 (by decide) (fun h_60 => ?_) (fun h_60 => ?_)
          · skip
            obtain rfl := toI_none hto h_60
            have J2 := J_77 () trivial
            dsimp only at J2
            rw [apL_none h_43] at J2
            exact r_lv (q_pk [2, 3, 4, 5, 6, 8, 1] rfl) (J2)
          · skip
            obtain ⟨t, rfl⟩ := toI_some h_60
            have ht8 := hto t rfl
            have hk := apL_some (t := t) h_43
            refine r_iload_n cx dX1_applyTo_63 rfl rfl ?_
            refine r_iload cx dX1_applyTo_64 rfl ?_
            refine r_iconst (v := nI 1) cx dX1_applyTo_66 (by decide) ?_
            first | refine r_iaddN cx dX1_applyTo_67 ?_ | refine r_iadd cx dX1_applyTo_67 ?_
            refine r_iload_n cx dX1_applyTo_68 rfl rfl ?_
            first | refine r_imulN cx dX1_applyTo_69 ?_ | refine r_imul cx dX1_applyTo_69 ?_
            first | refine r_iaddN cx dX1_applyTo_70 ?_ | refine r_iadd cx dX1_applyTo_70 ?_
            refine r_eqi (y := nI (num (apL so (some t) be (x :: l2)))) (congrArg nI (hk.1.symm)) ?_
            refine r_istore_n cx dX1_applyTo_71 rfl (by decide) rfl ?_
            refine r_iload_n cx dX1_applyTo_72 rfl rfl ?_
            refine r_bipush (v := nI 9) cx dX1_applyTo_73 (by decide) ?_
            first | refine r_imulN cx dX1_applyTo_75 ?_ | refine r_imul cx dX1_applyTo_75 ?_
            refine r_eqi (y := nI (9 ^ (apL so (some t) be (x :: l2)).length)) (congrArg nI (by rw [hk.2, Nat.pow_succ])) ?_
            refine r_istore_n cx dX1_applyTo_76 rfl (by decide) rfl ?_
            exact r_lv (q_pk [4, 5, 1, 0, 6, 8, 3] rfl) (J_77 () trivial)
