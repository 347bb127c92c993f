/-! the fewest steps, read from either end and from either side -/
def scL : List (Option Nat × Option Nat) → List Nat
  | [] => []
  | q :: s => q.1.toList ++ scL s
def scR : List (Option Nat × Option Nat) → List Nat
  | [] => []
  | q :: s => q.2.toList ++ scR s
def sc1 : Option Nat × Option Nat → Nat
  | (some x, some y) => if x = y then 0 else 1
  | (none, none) => 0
  | (some _, none) => 1
  | (none, some _) => 1
def scC : List (Option Nat × Option Nat) → Nat
  | [] => 0
  | q :: s => sc1 q + scC s
theorem scL_app (s t : List (Option Nat × Option Nat)) : scL (s ++ t) = scL s ++ scL t := by
  induction s with
  | nil => rfl
  | cons q s ih => rw [List.cons_append, scL, scL, ih, List.append_assoc]
theorem scR_app (s t : List (Option Nat × Option Nat)) : scR (s ++ t) = scR s ++ scR t := by
  induction s with
  | nil => rfl
  | cons q s ih => rw [List.cons_append, scR, scR, ih, List.append_assoc]
theorem scC_app (s t : List (Option Nat × Option Nat)) : scC (s ++ t) = scC s + scC t := by
  induction s with
  | nil => exact (Nat.zero_add _).symm
  | cons q s ih => rw [List.cons_append, scC, scC, ih, Nat.add_assoc]
theorem o_rev (q : Option Nat) : q.toList.reverse = q.toList := by cases q <;> rfl
theorem scL_rev (s : List (Option Nat × Option Nat)) : scL s.reverse = (scL s).reverse := by
  induction s with
  | nil => rfl
  | cons q s ih => rw [List.reverse_cons, scL_app, ih, show scL (q :: s) = q.1.toList ++ scL s from rfl, List.reverse_append, o_rev]; simp [scL]
theorem scR_rev (s : List (Option Nat × Option Nat)) : scR s.reverse = (scR s).reverse := by
  induction s with
  | nil => rfl
  | cons q s ih => rw [List.reverse_cons, scR_app, ih, show scR (q :: s) = q.2.toList ++ scR s from rfl, List.reverse_append, o_rev]; simp [scR]
theorem scC_rev (s : List (Option Nat × Option Nat)) : scC s.reverse = scC s := by
  induction s with
  | nil => rfl
  | cons q s ih => rw [List.reverse_cons, scC_app, ih, scC, Nat.add_comm]; simp [scC]
def scS (s : List (Option Nat × Option Nat)) : List (Option Nat × Option Nat) := s.map (fun q => (q.2, q.1))
theorem scS_L (s : List (Option Nat × Option Nat)) : scL (scS s) = scR s := by
  induction s with
  | nil => rfl
  | cons q s ih =>
    show q.2.toList ++ scL (scS s) = q.2.toList ++ scR s
    rw [ih]
theorem scS_R (s : List (Option Nat × Option Nat)) : scR (scS s) = scL s := by
  induction s with
  | nil => rfl
  | cons q s ih =>
    show q.1.toList ++ scR (scS s) = q.1.toList ++ scL s
    rw [ih]
theorem sc1_S (a b : Option Nat) : sc1 (a, b) = sc1 (b, a) := by
  cases a <;> cases b <;> first | rfl | (simp only [sc1, eq_comm])
theorem scS_C (s : List (Option Nat × Option Nat)) : scC (scS s) = scC s := by
  induction s with
  | nil => rfl
  | cons q s ih =>
    show sc1 (q.2, q.1) + scC (scS s) = sc1 q + scC s
    rw [ih, sc1_S]
theorem lev_sc (s : List (Option Nat × Option Nat)) : lev (scL s) (scR s) ≤ scC s := by
  induction s with
  | nil => exact Nat.le_refl _
  | cons q s ih =>
    obtain ⟨a, b⟩ := q
    cases a with
    | none =>
      cases b with
      | none =>
        show lev (scL s) (scR s) ≤ 0 + scC s
        omega
      | some y =>
        show lev (scL s) (y :: scR s) ≤ 1 + scC s
        cases h : scL s with
        | nil =>
          rw [h] at ih
          have ih2 : (scR s).length ≤ scC s := ih
          show (y :: scR s).length ≤ 1 + scC s
          rw [List.length_cons]
          omega
        | cons x a =>
          rw [h] at ih
          rw [lev] at ih ⊢
          rw [levI]
          omega
    | some x =>
      cases b with
      | none =>
        show lev (x :: scL s) (scR s) ≤ 1 + scC s
        have := levI_le x (lev (scL s)) (scR s)
        rw [lev]
        omega
      | some y =>
        show lev (x :: scL s) (y :: scR s) ≤ (if x = y then 0 else 1) + scC s
        rw [lev, levI]
        omega
theorem lev_ex : ∀ (a b : List Nat), ∃ s, scL s = a ∧ scR s = b ∧ scC s = lev a b
  | [], [] => ⟨[], rfl, rfl, rfl⟩
  | [], y :: b => by
    obtain ⟨s, h1, h2, h3⟩ := lev_ex [] b
    refine ⟨(none, some y) :: s, h1, congrArg (y :: ·) h2, ?_⟩
    have h4 : scC s = b.length := h3
    show 1 + scC s = (y :: b).length
    rw [h4, List.length_cons, Nat.add_comm]
  | x :: a, [] => by
    obtain ⟨s, h1, h2, h3⟩ := lev_ex a []
    refine ⟨(some x, none) :: s, congrArg (x :: ·) h1, h2, ?_⟩
    rw [lev, levI, scC, h3, sc1, Nat.add_comm]
  | x :: a, y :: b => by
    obtain ⟨s1, a1, b1, c1⟩ := lev_ex a b
    obtain ⟨s2, a2, b2, c2⟩ := lev_ex a (y :: b)
    obtain ⟨s3, a3, b3, c3⟩ := lev_ex (x :: a) b
    rw [lev] at c3
    have e : lev (x :: a) (y :: b) = min (lev a b + if x = y then 0 else 1) (min (lev a (y :: b)) (levI x (lev a) b) + 1) := rfl
    by_cases h1 : lev (x :: a) (y :: b) = lev a b + if x = y then 0 else 1
    · exact ⟨(some x, some y) :: s1, congrArg (x :: ·) a1, congrArg (y :: ·) b1, by rw [h1, scC, c1, sc1, Nat.add_comm]⟩
    · by_cases h2 : lev (x :: a) (y :: b) = lev a (y :: b) + 1
      · exact ⟨(some x, none) :: s2, congrArg (x :: ·) a2, b2, by rw [h2, scC, c2, sc1, Nat.add_comm]⟩
      · refine ⟨(none, some y) :: s3, a3, congrArg (y :: ·) b3, ?_⟩
        rw [scC, c3, sc1]
        omega
theorem lev_rev_le (a b : List Nat) : lev a.reverse b.reverse ≤ lev a b := by
  obtain ⟨s, h1, h2, h3⟩ := lev_ex a b
  have h := lev_sc s.reverse
  rwa [scL_rev, scR_rev, scC_rev, h1, h2, h3] at h
theorem lev_rev (a b : List Nat) : lev a.reverse b.reverse = lev a b := by
  apply Nat.le_antisymm (lev_rev_le a b)
  have h := lev_rev_le a.reverse b.reverse
  rwa [List.reverse_reverse, List.reverse_reverse] at h
theorem lev_sym_le (a b : List Nat) : lev b a ≤ lev a b := by
  obtain ⟨s, h1, h2, h3⟩ := lev_ex a b
  have h := lev_sc (scS s)
  rwa [scS_L, scS_R, scS_C, h1, h2, h3] at h
theorem lev_sym (a b : List Nat) : lev b a = lev a b := Nat.le_antisymm (lev_sym_le a b) (lev_sym_le b a)
theorem lev_nil : ∀ a : List Nat, lev a [] = a.length
  | [] => rfl
  | x :: a => by
    rw [lev, levI, lev_nil a]
    rfl
/-- the steps from a part of one word to a part of the other -/
def Dv (a b : List Nat) (i j : Nat) : Nat := lev (a.take i).reverse (b.take j).reverse
theorem tk_rev {a : List Nat} {i : Nat} (h : i < a.length) : (a.take (i + 1)).reverse = a.getD i 0 :: (a.take i).reverse := by
  rw [List.take_succ, List.reverse_append, List.getElem?_eq_getElem h, List.getD, List.getElem?_eq_getElem h]
  rfl
theorem Dv_0 {a b : List Nat} {j : Nat} (h : j ≤ b.length) : Dv a b 0 j = j := by
  show (b.take j).reverse.length = j
  rw [List.length_reverse, List.length_take, Nat.min_eq_left h]
theorem Dv_i {a b : List Nat} {i : Nat} (h : i ≤ a.length) : Dv a b i 0 = i := by
  show lev (a.take i).reverse [] = i
  rw [lev_nil, List.length_reverse, List.length_take, Nat.min_eq_left h]
theorem Dv_s {a b : List Nat} {i j : Nat} (hi : i < a.length) (hj : j < b.length) : Dv a b (i + 1) (j + 1) = min (Dv a b i j + if a.getD i 0 = b.getD j 0 then 0 else 1) (min (Dv a b i (j + 1)) (Dv a b (i + 1) j) + 1) := by
  simp only [Dv, tk_rev hi, tk_rev hj]
  rfl
theorem Dv_le (a b : List Nat) (i j : Nat) : Dv a b i j ≤ a.length + b.length := by
  have h := lev_le (a.take i).reverse (b.take j).reverse
  simp only [List.length_reverse, List.length_take] at h
  rw [Dv]
  omega
theorem Dv_end (a b : List Nat) : Dv a b a.length b.length = lev b a := by rw [Dv, List.take_length, List.take_length, lev_rev, lev_sym]
theorem gD8 {l : List Nat} (h : snd l) {i : Nat} (hi : i < l.length) : l.getD i 0 < 8 := by
  rw [List.getD, List.getElem?_eq_getElem hi]
  exact h _ (List.getElem_mem hi)
set_option maxHeartbeats 4000000 in
set_option maxRecDepth 100000 in
theorem c_mExpects (l : Launch) (g : q_G) (md : Nat → Nat) (wr : va_W) (t : Int32) (N : Nat → Nat) (A : Nat → Nat → Int32) (B : Nat → Nat → Bool) (L : Nat → Nat → Int64) (S : Nat → Nat → Int32) (w0 : Nat) (x2 x3 : Int32) (hw : w0 < 4) (hI : inv N A B L) : MetW l g yX4_expects cX4_expects 6 (some .int) ({ frames := 1, cells := 0, slots := 0, locals := 27 } : Room) [.ref (md 22), .int (nI w0), .int x2, .int x3] (mF g md t N A B L S ++ wr) (q_Qi g (fun r w => r = expV N A B w0 x2 x3 ∧ ∃ S2, w = mF g md t N A B L S2 ++ wr)) := by
  refine q_met (own := RX4) (by decide +kernel) rfl (Nat.le_of_ble_eq_true rfl) (fun p e s m args below meth c cx hr hnm => ?_)
  obtain ⟨⟨i1, i2, i3, i4⟩, j2, j3, j4, j5, j6, j7, j8, j9, j10, j11⟩ := id hI
  refine r_lv (lv2 := [(0, .ref (md 22)), (1, .int (nI w0)), (2, .int x2), (3, .int x3)]) (q_pk [0, 1, 2, 3] rfl) ?_
  refine r_aload_n cx dX4_expects_0 rfl rfl ?_
  refine gf_X4_32 cx dX4_expects_1 22 rfl rfl ?_
  refine r_iload_n cx dX4_expects_4 rfl rfl ?_
  first | refine r_ialdN cx 14 0 dX4_expects_5 rfl rfl (by omega) (by omega) ?_ | refine r_iald cx 14 0 dX4_expects_5 rfl rfl (by omega) ?_
  refine r_eqi (y := roI (unF (A 6 w0))) (j5 w0 hw).symm ?_
  refine r_iconst (v := -1) cx dX4_expects_6 (by decide) ?_
  refine r_icmpne (tgt := 12) cx dX4_expects_7 (by decide) (fun h_7 => ?_) (fun h_7 => ?_)
  · skip
    obtain ⟨b, hb⟩ := roI_some h_7
    obtain ⟨hA, hok⟩ := unF_some hb
    refine r_aload_n cx dX4_expects_12 rfl rfl ?_
    refine gf_X4_32 cx dX4_expects_13 22 rfl rfl ?_
    refine r_iload_n cx dX4_expects_16 rfl rfl ?_
    first | refine r_ialdN cx 14 0 dX4_expects_17 rfl rfl (by omega) (by omega) ?_ | refine r_iald cx 14 0 dX4_expects_17 rfl rfl (by omega) ?_
    refine r_eqi (y := nI (num b)) hA ?_
    refine r_aload_n cx dX4_expects_18 rfl rfl ?_
    refine gf_X4_66 cx dX4_expects_19 22 rfl rfl ?_
    refine k_X4_127 cx (c_mLays l g _ 3 (md 18) (S 0) b hok rfl) dX4_expects_22 ⟨Nat.le_of_ble_eq_true rfl, Nat.le_of_ble_eq_true rfl⟩ ⟨Nat.le_of_ble_eq_true rfl, Nat.le_of_ble_eq_true rfl⟩ rfl rfl (Nat.le_of_ble_eq_true rfl) (fun r w hp => ?_)
    obtain ⟨rfl, f2, hf2, rfl⟩ := hp
    refine r_ws (ws2 := mF g md t N A B L (va_up S 0 f2) ++ wr) rfl ?_
    refine r_istore cx dX4_expects_25 (by decide) rfl ?_
    refine r_iconst (v := nI 0) cx dX4_expects_27 (by decide) ?_
    refine r_istore cx dX4_expects_28 (by decide) rfl ?_
    refine at_loop (fun (x : Nat × (Nat → Nat → Int32)) => x.1 ≤ N 2 ∧ rowIs (x.2 0) (expF (goF (rlS A) (B 1) x2 x3) (soF A) (beF A) (toF A) b x.1)) (fun x => [(0, .ref (md 22)), (1, .int (nI w0)), (2, .int x2), (3, .int x3), (4, .int (nI (expF (goF (rlS A) (B 1) x2 x3) (soF A) (beF A) (toF A) b x.1).length)), (5, .int (nI x.1))]) (fun x => mF g md t N A B L x.2 ++ wr) (fun x => N 2 - x.1) (0, va_up S 0 f2) ⟨Nat.zero_le _, hf2⟩ (q_pk [2, 3, 4, 5, 1, 0] rfl) rfl (fun x hx ih => ?_)
    obtain ⟨i, S1⟩ := x
    try dsimp only at hx ⊢
    obtain ⟨hx1, hx2⟩ := hx
    have hke := expF_ok (gs := goF (rlS A) (B 1) x2 x3) (so := soF A) (be := beF A) (to := toF A) (n := N 2) (fun r hr9 => (j6 r hr9).2.2.2.2.2) hok.1 hok.2.1 i hx1
    refine r_iload cx dX4_expects_30 rfl ?_
    refine r_aload_n cx dX4_expects_32 rfl rfl ?_
    refine gf_X4_89 cx dX4_expects_33 22 rfl rfl ?_
    refine r_icmpgeN (tgt := 97) cx (by omega) (by omega) dX4_expects_36 (by decide) (fun h_36 => ?_) (fun h_36 => ?_)
    · skip
      obtain rfl : i = N 2 := by omega
      refine r_aload_n cx dX4_expects_97 rfl rfl ?_
      refine gf_X4_66 cx dX4_expects_98 22 rfl rfl ?_
      refine r_iload cx dX4_expects_101 rfl ?_
      refine k_X4_95 cx (c_mNum l g _ 3 (md 18) 8 (S1 0) (expF (goF (rlS A) (B 1) x2 x3) (soF A) (beF A) (toF A) b (N 2)).length hke.2 (by decide) rfl (rowIs_num hx2 hke.1).2) dX4_expects_103 ⟨Nat.le_of_ble_eq_true rfl, Nat.le_of_ble_eq_true rfl⟩ ⟨Nat.le_of_ble_eq_true rfl, Nat.le_of_ble_eq_true rfl⟩ rfl rfl (Nat.le_of_ble_eq_true rfl) (fun r w hp => ?_)
      obtain ⟨rfl, rfl⟩ := hp
      exact r_iret cx dX4_expects_106 hr (⟨by rw [expV, hb, (rowIs_num hx2 hke.1).1]; rfl, S1, rfl⟩) (Nat.le_of_ble_eq_true rfl) (Nat.le_of_ble_eq_true rfl)
    · skip
      refine r_aload_n cx dX4_expects_39 rfl rfl ?_
      refine gf_X4_53 cx dX4_expects_40 22 rfl rfl ?_
      refine r_iload cx dX4_expects_43 rfl ?_
      first | refine r_zaldN cx 7 2 dX4_expects_45 rfl rfl (by omega) (by omega) ?_ | refine r_zald cx 7 2 dX4_expects_45 rfl rfl (by omega) ?_
      refine r_ifneb (tgt := 91) cx dX4_expects_46 (by decide) (fun h_46 => ?_) (fun h_46 => ?_)
      · skip
        refine r_iincN (j := 1) cx dX4_expects_91 rfl rfl (by decide) rfl ?_
        refine r_goto (tgt := 30) cx dX4_expects_94 (by decide) ?_
        have hg : goF (rlS A) (B 1) x2 x3 i = false := by
          show (!B 1 i && decide (A 10 i ≤ x2) && decide (x2 ≤ A 11 i) && decide (A 12 i ≤ x3)) = false
          rw [h_46]; rfl
        have z := ih (i + 1, S1) ⟨by omega, by rw [expF_no hg]; exact hx2⟩ (by show N 2 - (i + 1) < N 2 - i; omega)
        try dsimp only at z
        rw [expF_no hg] at z
        exact r_lv (q_pk [1, 2, 3, 4, 5, 0] rfl) (z)
      · skip
        refine r_iload_n cx dX4_expects_49 rfl rfl ?_
        refine r_aload_n cx dX4_expects_50 rfl rfl ?_
        refine gf_X4_44 cx dX4_expects_51 22 rfl rfl ?_
        refine r_iload cx dX4_expects_54 rfl ?_
        first | refine r_ialdN cx 10 0 dX4_expects_56 rfl rfl (by omega) (by omega) ?_ | refine r_iald cx 10 0 dX4_expects_56 rfl rfl (by omega) ?_
        refine r_aload_n cx dX4_expects_57 rfl rfl ?_
        refine gf_X4_47 cx dX4_expects_58 22 rfl rfl ?_
        refine r_iload cx dX4_expects_61 rfl ?_
        first | refine r_ialdN cx 9 0 dX4_expects_63 rfl rfl (by omega) (by omega) ?_ | refine r_iald cx 9 0 dX4_expects_63 rfl rfl (by omega) ?_
        refine k_X4_82 cx (c_mIn l g _ x2 (A 10 i) (A 11 i)) dX4_expects_64 ⟨Nat.le_of_ble_eq_true rfl, Nat.le_of_ble_eq_true rfl⟩ ⟨Nat.le_of_ble_eq_true rfl, Nat.le_of_ble_eq_true rfl⟩ rfl rfl (Nat.le_of_ble_eq_true rfl) (fun r w hp => ?_)
        obtain ⟨rfl, rfl⟩ := hp
        refine r_ifeqb (tgt := 91) cx dX4_expects_67 (by decide) (fun h_67 => ?_) (fun h_67 => ?_)
        · skip
          refine r_iincN (j := 1) cx dX4_expects_91 rfl rfl (by decide) rfl ?_
          refine r_goto (tgt := 30) cx dX4_expects_94 (by decide) ?_
          have hg : goF (rlS A) (B 1) x2 x3 i = false := by
            show (!B 1 i && decide (A 10 i ≤ x2) && decide (x2 ≤ A 11 i) && decide (A 12 i ≤ x3)) = false
            rw [Bool.and_assoc (!B 1 i), h_67, Bool.and_false]; rfl
          have z := ih (i + 1, S1) ⟨by omega, by rw [expF_no hg]; exact hx2⟩ (by show N 2 - (i + 1) < N 2 - i; omega)
          try dsimp only at z
          rw [expF_no hg] at z
          exact r_lv (q_pk [1, 2, 3, 4, 5, 0] rfl) (z)
        · skip
          refine r_aload_n cx dX4_expects_70 rfl rfl ?_
          refine gf_X4_50 cx dX4_expects_71 22 rfl rfl ?_
          refine r_iload cx dX4_expects_74 rfl ?_
          first | refine r_ialdN cx 8 0 dX4_expects_76 rfl rfl (by omega) (by omega) ?_ | refine r_iald cx 8 0 dX4_expects_76 rfl rfl (by omega) ?_
          refine r_iload_n cx dX4_expects_77 rfl rfl ?_
          refine r_icmpgt (tgt := 91) cx dX4_expects_78 (by decide) (fun h_78 => ?_) (fun h_78 => ?_)
          · skip
            refine r_iincN (j := 1) cx dX4_expects_91 rfl rfl (by decide) rfl ?_
            refine r_goto (tgt := 30) cx dX4_expects_94 (by decide) ?_
            have hg : goF (rlS A) (B 1) x2 x3 i = false := by
              show (!B 1 i && decide (A 10 i ≤ x2) && decide (x2 ≤ A 11 i) && decide (A 12 i ≤ x3)) = false
              rw [decide_eq_false (Int32.not_le.mpr h_78), Bool.and_false]
            have z := ih (i + 1, S1) ⟨by omega, by rw [expF_no hg]; exact hx2⟩ (by show N 2 - (i + 1) < N 2 - i; omega)
            try dsimp only at z
            rw [expF_no hg] at z
            exact r_lv (q_pk [1, 2, 3, 4, 5, 0] rfl) (z)
          · skip
            refine r_aload_n cx dX4_expects_81 rfl rfl ?_
            refine r_iload cx dX4_expects_82 rfl ?_
            refine r_iload cx dX4_expects_84 rfl ?_
            refine k_X4_131 cx (c_mApplies l g md wr _ N A B L S1 i (expF (goF (rlS A) (B 1) x2 x3) (soF A) (beF A) (toF A) b i) (soF A i) (beF A i) (toF A i) (by omega) hke.1 hke.2 hx2 (j6 i h_36).2.1 (j6 i h_36).2.2.2.2.1 (j6 i h_36).2.2.2.1 (j6 i h_36).1 (j6 i h_36).2.2.1 (j6 i h_36).2.2.2.2.2) dX4_expects_86 22 rfl ⟨Nat.le_of_ble_eq_true rfl, Nat.le_of_ble_eq_true rfl⟩ ⟨Nat.le_of_ble_eq_true rfl, Nat.le_of_ble_eq_true rfl⟩ rfl rfl (Nat.le_of_ble_eq_true rfl) (fun r w hp => ?_)
            obtain ⟨rfl, S2, hS2, rfl⟩ := hp
            refine r_istore cx dX4_expects_89 (by decide) rfl ?_
            refine r_iincN (j := 1) cx dX4_expects_91 rfl rfl (by decide) rfl ?_
            refine r_goto (tgt := 30) cx dX4_expects_94 (by decide) ?_
            have hg : goF (rlS A) (B 1) x2 x3 i = true := by
              show (!B 1 i && decide (A 10 i ≤ x2) && decide (x2 ≤ A 11 i) && decide (A 12 i ≤ x3)) = true
              rw [Bool.and_assoc (!B 1 i), h_67, h_46, decide_eq_true (Int32.not_lt.mp h_78)]; rfl
            have z := ih (i + 1, S2) ⟨by omega, by rw [expF_yes hg]; exact hS2⟩ (by show N 2 - (i + 1) < N 2 - i; omega)
            try dsimp only at z
            rw [expF_yes hg] at z
            exact r_lv (q_pk [2, 3, 4, 5, 1, 0] rfl) (z)
  · skip
    refine r_iconst (v := -1) cx dX4_expects_10 (by decide) ?_
    exact r_iret cx dX4_expects_11 hr (⟨by rw [expV, roI_none (fun l hl9 => ⟨(unF_some hl9).2.1, (unF_some hl9).2.2.1⟩) h_7]; rfl, S, rfl⟩) (Nat.le_of_ble_eq_true rfl) (Nat.le_of_ble_eq_true rfl)
set_option maxHeartbeats 4000000 in
set_option maxRecDepth 100000 in
theorem c_mExpected (l : Launch) (g : q_G) (md : Nat → Nat) (wr : va_W) (t : Int32) (N : Nat → Nat) (A : Nat → Nat → Int32) (B : Nat → Nat → Bool) (L : Nat → Nat → Int64) (S : Nat → Nat → Int32) (hI : inv N A B L) (x1 : Int32) (x2 : Int32) (x3 : Int32) : MetW l g yX4_expected cX4_expected 4 (some .int) ({ frames := 2, cells := 0, slots := 0, locals := 52 } : Room) [.ref (md 22), .int x1, .int x2, .int x3] (mF g md t N A B L S ++ wr) (q_Qi g (fun r w => mP g md wr (kc (!(inR x1 4 && inR x2 10)) (!inR x3 301) false) (expV N A B (c32 x1) x2 x3) N A B L N A B L r w)) := by
  refine q_met (own := RX4) (by decide +kernel) rfl (Nat.le_of_ble_eq_true rfl) (fun p e s m args below meth c cx hr hnm => ?_)
  obtain ⟨⟨i1, i2, i3, i4⟩, j2, j3, j4, j5, j6, j7, j8, j9, j10, j11⟩ := id hI
  refine r_lv (lv2 := [(0, .ref (md 22)), (1, .int x1), (2, .int x2), (3, .int x3)]) (q_pk [0, 1, 2, 3] rfl) ?_
  refine r_aload_n cx dX4_expected_0 rfl rfl ?_
  refine r_iconst (v := nI 0) cx dX4_expected_1 (by decide) ?_
  refine pf_X4_78 cx dX4_expected_2 22 rfl (Nat.le_of_ble_eq_true rfl) ?_
  refine r_ws (ws2 := mF g md (nI 0) N A B L S ++ wr) rfl ?_
  refine r_iload_n cx dX4_expected_5 rfl rfl ?_
  refine k_X4_110 cx (c_mWo l g _ x1) dX4_expected_6 ⟨Nat.le_of_ble_eq_true rfl, Nat.le_of_ble_eq_true rfl⟩ ⟨Nat.le_of_ble_eq_true rfl, Nat.le_of_ble_eq_true rfl⟩ rfl rfl (Nat.le_of_ble_eq_true rfl) (fun r w hp => ?_)
  obtain ⟨rfl, rfl⟩ := hp
  refine r_ifeqb (tgt := 19) cx dX4_expected_9 (by decide) (fun h_9 => ?_) (fun h_9 => ?_)
  · skip
    refine r_aload_n cx dX4_expected_19 rfl rfl ?_
    refine r_iconst (v := nI 1) cx dX4_expected_20 (by decide) ?_
    refine k_X4_103 cx (c_mFails l g md wr _ N A B L S (nI 1)) dX4_expected_21 22 rfl ⟨Nat.le_of_ble_eq_true rfl, Nat.le_of_ble_eq_true rfl⟩ ⟨Nat.le_of_ble_eq_true rfl, Nat.le_of_ble_eq_true rfl⟩ rfl rfl (Nat.le_of_ble_eq_true rfl) (fun r w hp => ?_)
    obtain ⟨rfl, rfl⟩ := hp
    exact r_iret cx dX4_expected_24 hr (mP_f 1 (by simp [kc, h_9]) (by decide) S rfl) (Nat.le_of_ble_eq_true rfl) (Nat.le_of_ble_eq_true rfl)
  · skip
    refine r_iload_n cx dX4_expected_12 rfl rfl ?_
    refine k_X4_107 cx (c_mPl l g _ x2) dX4_expected_13 ⟨Nat.le_of_ble_eq_true rfl, Nat.le_of_ble_eq_true rfl⟩ ⟨Nat.le_of_ble_eq_true rfl, Nat.le_of_ble_eq_true rfl⟩ rfl rfl (Nat.le_of_ble_eq_true rfl) (fun r w hp => ?_)
    obtain ⟨rfl, rfl⟩ := hp
    refine r_ifneb (tgt := 25) cx dX4_expected_16 (by decide) (fun h_16 => ?_) (fun h_16 => ?_)
    · skip
      obtain ⟨j, hj, rfl, hcj⟩ := inR_ix (x := x1) (n := 4) (by simpa using h_9) (by omega)
      refine r_iload_n cx dX4_expected_25 rfl rfl ?_
      refine r_iconst (v := nI 0) cx dX4_expected_26 (by decide) ?_
      refine r_sipush (v := nI 300) cx dX4_expected_27 (by decide) ?_
      refine k_X4_82 cx (c_mIn l g _ x3 (nI 0) (nI 300)) dX4_expected_30 ⟨Nat.le_of_ble_eq_true rfl, Nat.le_of_ble_eq_true rfl⟩ ⟨Nat.le_of_ble_eq_true rfl, Nat.le_of_ble_eq_true rfl⟩ rfl rfl (Nat.le_of_ble_eq_true rfl) (fun r w hp => ?_)
      obtain ⟨rfl, rfl⟩ := hp
      rw [in_0 x3 300 (by decide)]
      refine r_ifeqb (tgt := 46) cx dX4_expected_33 (by decide) (fun h_33 => ?_) (fun h_33 => ?_)
      · skip
        refine r_aload_n cx dX4_expected_46 rfl rfl ?_
        refine r_iconst (v := nI 2) cx dX4_expected_47 (by decide) ?_
        refine k_X4_103 cx (c_mFails l g md wr _ N A B L S (nI 2)) dX4_expected_48 22 rfl ⟨Nat.le_of_ble_eq_true rfl, Nat.le_of_ble_eq_true rfl⟩ ⟨Nat.le_of_ble_eq_true rfl, Nat.le_of_ble_eq_true rfl⟩ rfl rfl (Nat.le_of_ble_eq_true rfl) (fun r w hp => ?_)
        obtain ⟨rfl, rfl⟩ := hp
        exact r_iret cx dX4_expected_51 hr (mP_f 2 (by simp [kc, h_9, h_16, h_33]) (by decide) S rfl) (Nat.le_of_ble_eq_true rfl) (Nat.le_of_ble_eq_true rfl)
      · skip
        refine r_aload_n cx dX4_expected_36 rfl rfl ?_
        refine r_iload_n cx dX4_expected_37 rfl rfl ?_
        refine r_iload_n cx dX4_expected_38 rfl rfl ?_
        refine r_iload_n cx dX4_expected_39 rfl rfl ?_
        refine k_X4_135 cx (c_mExpects l g md wr _ N A B L S j x2 x3 hj hI) dX4_expected_40 22 rfl ⟨Nat.le_of_ble_eq_true rfl, Nat.le_of_ble_eq_true rfl⟩ ⟨Nat.le_of_ble_eq_true rfl, Nat.le_of_ble_eq_true rfl⟩ rfl rfl (Nat.le_of_ble_eq_true rfl) (fun r w hp => ?_)
        obtain ⟨rfl, S2, rfl⟩ := hp
        refine r_goto (tgt := 51) cx dX4_expected_43 (by decide) ?_
        exact r_iret cx dX4_expected_51 hr (mP_t (by simp [kc, h_9, h_16, h_33]) (by rw [hcj]) S2 rfl) (Nat.le_of_ble_eq_true rfl) (Nat.le_of_ble_eq_true rfl)
    · skip
      refine r_aload_n cx dX4_expected_19 rfl rfl ?_
      refine r_iconst (v := nI 1) cx dX4_expected_20 (by decide) ?_
      refine k_X4_103 cx (c_mFails l g md wr _ N A B L S (nI 1)) dX4_expected_21 22 rfl ⟨Nat.le_of_ble_eq_true rfl, Nat.le_of_ble_eq_true rfl⟩ ⟨Nat.le_of_ble_eq_true rfl, Nat.le_of_ble_eq_true rfl⟩ rfl rfl (Nat.le_of_ble_eq_true rfl) (fun r w hp => ?_)
      obtain ⟨rfl, rfl⟩ := hp
      exact r_iret cx dX4_expected_24 hr (mP_f 1 (by simp [kc, h_16]) (by decide) S rfl) (Nat.le_of_ble_eq_true rfl) (Nat.le_of_ble_eq_true rfl)
