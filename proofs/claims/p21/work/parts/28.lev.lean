/-! the fewest steps, read from either end and from either side -/
def scL : List (Option Nat × Option Nat) → List Nat
  | [] => []
  | q :: s => q.1.toList ++ scL s
def scR : List (Option Nat × Option Nat) → List Nat
  | [] => []
  | q :: s => q.2.toList ++ scR s
def sc1 : Option Nat × Option Nat → Nat
  | (some x, some y) => if x = y then 0 else 1
  | (none, none) => 0
  | (some _, none) => 1
  | (none, some _) => 1
def scC : List (Option Nat × Option Nat) → Nat
  | [] => 0
  | q :: s => sc1 q + scC s
theorem scL_app (s t : List (Option Nat × Option Nat)) : scL (s ++ t) = scL s ++ scL t := by
  induction s with
  | nil => rfl
  | cons q s ih => rw [List.cons_append, scL, scL, ih, List.append_assoc]
theorem scR_app (s t : List (Option Nat × Option Nat)) : scR (s ++ t) = scR s ++ scR t := by
  induction s with
  | nil => rfl
  | cons q s ih => rw [List.cons_append, scR, scR, ih, List.append_assoc]
theorem scC_app (s t : List (Option Nat × Option Nat)) : scC (s ++ t) = scC s + scC t := by
  induction s with
  | nil => exact (Nat.zero_add _).symm
  | cons q s ih => rw [List.cons_append, scC, scC, ih, Nat.add_assoc]
theorem o_rev (q : Option Nat) : q.toList.reverse = q.toList := by cases q <;> rfl
theorem scL_rev (s : List (Option Nat × Option Nat)) : scL s.reverse = (scL s).reverse := by
  induction s with
  | nil => rfl
  | cons q s ih => rw [List.reverse_cons, scL_app, ih, show scL (q :: s) = q.1.toList ++ scL s from rfl, List.reverse_append, o_rev]; simp [scL]
theorem scR_rev (s : List (Option Nat × Option Nat)) : scR s.reverse = (scR s).reverse := by
  induction s with
  | nil => rfl
  | cons q s ih => rw [List.reverse_cons, scR_app, ih, show scR (q :: s) = q.2.toList ++ scR s from rfl, List.reverse_append, o_rev]; simp [scR]
theorem scC_rev (s : List (Option Nat × Option Nat)) : scC s.reverse = scC s := by
  induction s with
  | nil => rfl
  | cons q s ih => rw [List.reverse_cons, scC_app, ih, scC, Nat.add_comm]; simp [scC]
def scS (s : List (Option Nat × Option Nat)) : List (Option Nat × Option Nat) := s.map (fun q => (q.2, q.1))
theorem scS_L (s : List (Option Nat × Option Nat)) : scL (scS s) = scR s := by
  induction s with
  | nil => rfl
  | cons q s ih =>
    show q.2.toList ++ scL (scS s) = q.2.toList ++ scR s
    rw [ih]
theorem scS_R (s : List (Option Nat × Option Nat)) : scR (scS s) = scL s := by
  induction s with
  | nil => rfl
  | cons q s ih =>
    show q.1.toList ++ scR (scS s) = q.1.toList ++ scL s
    rw [ih]
theorem sc1_S (a b : Option Nat) : sc1 (a, b) = sc1 (b, a) := by
  cases a <;> cases b <;> first | rfl | (simp only [sc1, eq_comm])
theorem scS_C (s : List (Option Nat × Option Nat)) : scC (scS s) = scC s := by
  induction s with
  | nil => rfl
  | cons q s ih =>
    show sc1 (q.2, q.1) + scC (scS s) = sc1 q + scC s
    rw [ih, sc1_S]
theorem lev_sc (s : List (Option Nat × Option Nat)) : lev (scL s) (scR s) ≤ scC s := by
  induction s with
  | nil => exact Nat.le_refl _
  | cons q s ih =>
    obtain ⟨a, b⟩ := q
    cases a with
    | none =>
      cases b with
      | none =>
        show lev (scL s) (scR s) ≤ 0 + scC s
        omega
      | some y =>
        show lev (scL s) (y :: scR s) ≤ 1 + scC s
        cases h : scL s with
        | nil =>
          rw [h] at ih
          have ih2 : (scR s).length ≤ scC s := ih
          show (y :: scR s).length ≤ 1 + scC s
          rw [List.length_cons]
          omega
        | cons x a =>
          rw [h] at ih
          rw [lev] at ih ⊢
          rw [levI]
          omega
    | some x =>
      cases b with
      | none =>
        show lev (x :: scL s) (scR s) ≤ 1 + scC s
        have := levI_le x (lev (scL s)) (scR s)
        rw [lev]
        omega
      | some y =>
        show lev (x :: scL s) (y :: scR s) ≤ (if x = y then 0 else 1) + scC s
        rw [lev, levI]
        omega
theorem lev_ex : ∀ (a b : List Nat), ∃ s, scL s = a ∧ scR s = b ∧ scC s = lev a b
  | [], [] => ⟨[], rfl, rfl, rfl⟩
  | [], y :: b => by
    obtain ⟨s, h1, h2, h3⟩ := lev_ex [] b
    refine ⟨(none, some y) :: s, h1, congrArg (y :: ·) h2, ?_⟩
    have h4 : scC s = b.length := h3
    show 1 + scC s = (y :: b).length
    rw [h4, List.length_cons, Nat.add_comm]
  | x :: a, [] => by
    obtain ⟨s, h1, h2, h3⟩ := lev_ex a []
    refine ⟨(some x, none) :: s, congrArg (x :: ·) h1, h2, ?_⟩
    rw [lev, levI, scC, h3, sc1, Nat.add_comm]
  | x :: a, y :: b => by
    obtain ⟨s1, a1, b1, c1⟩ := lev_ex a b
    obtain ⟨s2, a2, b2, c2⟩ := lev_ex a (y :: b)
    obtain ⟨s3, a3, b3, c3⟩ := lev_ex (x :: a) b
    rw [lev] at c3
    have e : lev (x :: a) (y :: b) = min (lev a b + if x = y then 0 else 1) (min (lev a (y :: b)) (levI x (lev a) b) + 1) := rfl
    by_cases h1 : lev (x :: a) (y :: b) = lev a b + if x = y then 0 else 1
    · exact ⟨(some x, some y) :: s1, congrArg (x :: ·) a1, congrArg (y :: ·) b1, by rw [h1, scC, c1, sc1, Nat.add_comm]⟩
    · by_cases h2 : lev (x :: a) (y :: b) = lev a (y :: b) + 1
      · exact ⟨(some x, none) :: s2, congrArg (x :: ·) a2, b2, by rw [h2, scC, c2, sc1, Nat.add_comm]⟩
      · refine ⟨(none, some y) :: s3, a3, congrArg (y :: ·) b3, ?_⟩
        rw [scC, c3, sc1]
        omega
theorem lev_rev_le (a b : List Nat) : lev a.reverse b.reverse ≤ lev a b := by
  obtain ⟨s, h1, h2, h3⟩ := lev_ex a b
  have h := lev_sc s.reverse
  rwa [scL_rev, scR_rev, scC_rev, h1, h2, h3] at h
theorem lev_rev (a b : List Nat) : lev a.reverse b.reverse = lev a b := by
  apply Nat.le_antisymm (lev_rev_le a b)
  have h := lev_rev_le a.reverse b.reverse
  rwa [List.reverse_reverse, List.reverse_reverse] at h
theorem lev_sym_le (a b : List Nat) : lev b a ≤ lev a b := by
  obtain ⟨s, h1, h2, h3⟩ := lev_ex a b
  have h := lev_sc (scS s)
  rwa [scS_L, scS_R, scS_C, h1, h2, h3] at h
theorem lev_sym (a b : List Nat) : lev b a = lev a b := Nat.le_antisymm (lev_sym_le a b) (lev_sym_le b a)
theorem lev_nil : ∀ a : List Nat, lev a [] = a.length
  | [] => rfl
  | x :: a => by
    rw [lev, levI, lev_nil a]
    rfl
/-- the steps from a part of one word to a part of the other -/
def Dv (a b : List Nat) (i j : Nat) : Nat := lev (a.take i).reverse (b.take j).reverse
theorem tk_rev {a : List Nat} {i : Nat} (h : i < a.length) : (a.take (i + 1)).reverse = a.getD i 0 :: (a.take i).reverse := by
  rw [List.take_succ, List.reverse_append, List.getElem?_eq_getElem h, List.getD, List.getElem?_eq_getElem h]
  rfl
theorem Dv_0 {a b : List Nat} {j : Nat} (h : j ≤ b.length) : Dv a b 0 j = j := by
  show (b.take j).reverse.length = j
  rw [List.length_reverse, List.length_take, Nat.min_eq_left h]
theorem Dv_i {a b : List Nat} {i : Nat} (h : i ≤ a.length) : Dv a b i 0 = i := by
  show lev (a.take i).reverse [] = i
  rw [lev_nil, List.length_reverse, List.length_take, Nat.min_eq_left h]
theorem Dv_s {a b : List Nat} {i j : Nat} (hi : i < a.length) (hj : j < b.length) : Dv a b (i + 1) (j + 1) = min (Dv a b i j + if a.getD i 0 = b.getD j 0 then 0 else 1) (min (Dv a b i (j + 1)) (Dv a b (i + 1) j) + 1) := by
  simp only [Dv, tk_rev hi, tk_rev hj]
  rfl
theorem Dv_le (a b : List Nat) (i j : Nat) : Dv a b i j ≤ a.length + b.length := by
  have h := lev_le (a.take i).reverse (b.take j).reverse
  simp only [List.length_reverse, List.length_take] at h
  rw [Dv]
  omega
theorem Dv_end (a b : List Nat) : Dv a b a.length b.length = lev b a := by rw [Dv, List.take_length, List.take_length, lev_rev, lev_sym]
theorem gD8 {l : List Nat} (h : snd l) {i : Nat} (hi : i < l.length) : l.getD i 0 < 8 := by
  rw [List.getD, List.getElem?_eq_getElem hi]
  exact h _ (List.getElem_mem hi)
