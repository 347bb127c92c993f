/-! what holds of the shared state is kept by each call -/
section INV
variable {N : Nat → Nat} {A : Nat → Nat → Int32} {B : Nat → Nat → Bool} {L : Nat → Nat → Int64}
theorem kc0 {a b d : Bool} (h : kc a b d = 0) : a = false ∧ b = false ∧ d = false := by
  cases a <;> cases b <;> cases d <;> first | exact ⟨rfl, rfl, rfl⟩ | exact absurd h (by decide)
theorem nb {a : Bool} (h : (!a) = false) : a = true := by cases a <;> first | rfl | cases h
theorem inv_sound (hI : inv N A B L) {x1 : Int32} (h : kc (!inR x1 8) (decide (N 0 = 8)) false = 0) : inv (va_up N 0 (N 0 + 1)) (va_up A 0 (upd (A 0) (N 0) x1)) B L := by
  obtain ⟨⟨i1, i2, i3, i4⟩, j2, j3, j4, j5, j6, j7, j8, j9, j10, j11⟩ := hI
  obtain ⟨h1, h2, -⟩ := kc0 h
  have h3 := inR_c32 (nb h1) (by decide)
  have h4 := of_decide_eq_false h2
  refine ⟨⟨?_, i2, i3, i4⟩, ?_, j3, j4, j5, j6, j7, j8, j9, j10, j11⟩
  · show N 0 + 1 ≤ 8
    omega
  · intro k hk
    have hk2 : k < N 0 + 1 := hk
    show c32 (upd (A 0) (N 0) x1 k) < 8 ∧ upd (A 0) (N 0) x1 k = nI (c32 (upd (A 0) (N 0) x1 k))
    by_cases e : k = N 0
    · rw [e, pk_us]
      exact h3
    · rw [pk_un e]
      exact j2 k (by omega)
theorem dr_ok (hI : inv N A B L) (h0 : N 0 ≠ 0) : okL (drL (A 0) (N 0)) := drL_ok hI.1.1 h0 (fun i hi => (hI.2.1 i hi).1)
theorem inv_setRoot (hI : inv N A B L) {x1 : Int32} (h : kc (!inR x1 4) (decide (N 0 = 0)) false = 0) : inv (va_up N 0 0) (va_up A 6 (upd (A 6) (c32 x1) (nI (num (drL (A 0) (N 0)))))) B L := by
  obtain ⟨h1, h2, -⟩ := kc0 h
  have hd := dr_ok hI (of_decide_eq_false h2)
  obtain ⟨⟨i1, i2, i3, i4⟩, j2, j3, j4, j5, j6, j7, j8, j9, j10, j11⟩ := hI
  refine ⟨⟨Nat.zero_le _, i2, i3, i4⟩, fun k hk => absurd hk (Nat.not_lt_zero k), j3, j4, ?_, j6, j7, j8, j9, j10, j11⟩
  intro w hw
  show roI (unF (upd (A 6) (c32 x1) (nI (num (drL (A 0) (N 0)))) w)) = upd (A 6) (c32 x1) (nI (num (drL (A 0) (N 0)))) w
  by_cases e : w = c32 x1
  · rw [e, pk_us]
    exact roI_unF hd
  · rw [pk_un e]
    exact j5 w hw
theorem inv_interview (hI : inv N A B L) {x1 x2 x3 x4 : Int32} (h : kc (!(inR x1 8 && inR x2 10 && inR x4 4)) (!inR x3 301) (decide (N 0 = 0) || decide (N 1 = 40)) = 0) : inv (va_up (va_up N 1 (N 1 + 1)) 0 0) (ivA A (N 1) x1 x2 x3 x4 (nI (num (drL (A 0) (N 0))))) B L := by
  obtain ⟨h1, -, h2⟩ := kc0 h
  rw [Bool.or_eq_false_iff] at h2
  have hd := dr_ok hI (of_decide_eq_false h2.1)
  have h5 := of_decide_eq_false h2.2
  have h6 := nb h1
  rw [Bool.and_eq_true, Bool.and_eq_true] at h6
  have h4 := inR_c32 h6.2 (by decide)
  obtain ⟨⟨i1, i2, i3, i4⟩, j2, j3, j4, j5, j6, j7, j8, j9, j10, j11⟩ := hI
  refine ⟨⟨Nat.zero_le _, ?_, i3, i4⟩, fun k hk => absurd hk (Nat.not_lt_zero k), ?_, ?_, j5, j6, j7, j8, j9, j10, ?_⟩
  · show N 1 + 1 ≤ 40
    omega
  · intro i hi
    have hi2 : i < N 1 + 1 := hi
    show (c32 (upd (A 4) (N 1) x4 i) < 4 ∧ upd (A 4) (N 1) x4 i = nI (c32 (upd (A 4) (N 1) x4 i))) ∧ ∃ l, unF (upd (A 5) (N 1) (nI (num (drL (A 0) (N 0)))) i) = some l
    by_cases e : i = N 1
    · rw [e, pk_us, pk_us]
      exact ⟨h4, unF_of hd⟩
    · rw [pk_un e, pk_un e]
      exact j3 i (by omega)
  · intro i hi
    have hi2 : N 1 + 1 ≤ i := hi
    exact j4 i (by omega)
  · intro k hk
    have := j11 k hk
    show c32 (A 13 k) < N 1 + 1 ∧ A 13 k = nI (c32 (A 13 k))
    exact ⟨by omega, this.2⟩
theorem inv_rule (hI : inv N A B L) {x1 x2 x3 x4 x5 x6 : Int32} (h : kc (!(inR x1 8 && (inR x4 10 && inR x5 10))) (decide (x2 = x1) || !(decide (x2 = -1) || inR x2 8) || !inR x3 10 || decide (x5 < x4) || !inR x6 301) (decide (N 2 = 20)) = 0) : inv (va_up N 2 (N 2 + 1)) (rlA A (N 2) x1 x2 x3 x4 x5 x6) B L := by
  obtain ⟨h1, h2, h3⟩ := kc0 h
  have h5 := of_decide_eq_false h3
  have h6 := nb h1
  rw [Bool.and_eq_true] at h6
  have k1 := inR_c32 h6.1 (by decide)
  simp only [Bool.or_eq_false_iff] at h2
  have k3 := inR_c32 (nb h2.1.1.2) (by decide)
  have k2 := nb h2.1.1.1.2
  obtain ⟨⟨i1, i2, i3, i4⟩, j2, j3, j4, j5, j6, j7, j8, j9, j10, j11⟩ := hI
  refine ⟨⟨i1, i2, ?_, i4⟩, j2, j3, j4, j5, ?_, ?_, j8, j9, j10, j11⟩
  · show N 2 + 1 ≤ 20
    omega
  · intro r hr
    have hr2 : r < N 2 + 1 := hr
    show c32 (upd (A 7) (N 2) x1 r) < 8 ∧ upd (A 7) (N 2) x1 r = nI (c32 (upd (A 7) (N 2) x1 r)) ∧ c32 (upd (A 9) (N 2) x3 r) < 10 ∧ upd (A 9) (N 2) x3 r = nI (c32 (upd (A 9) (N 2) x3 r)) ∧ upd (A 8) (N 2) x2 r = toI (if upd (A 8) (N 2) x2 r = -1 then none else some (c32 (upd (A 8) (N 2) x2 r))) ∧ ∀ t, (if upd (A 8) (N 2) x2 r = -1 then none else some (c32 (upd (A 8) (N 2) x2 r))) = some t → t < 8
    by_cases e : r = N 2
    · rw [e, pk_us, pk_us, pk_us]
      refine ⟨k1.1, k1.2, k3.1, k3.2, ?_⟩
      by_cases hm : x2 = -1
      · rw [if_pos hm]
        exact ⟨hm, fun t ht => by cases ht⟩
      · rw [decide_eq_false hm, Bool.false_or] at k2
        have k4 := inR_c32 k2 (by decide)
        rw [if_neg hm]
        exact ⟨k4.2, fun t ht => by cases ht; exact k4.1⟩
    · rw [pk_un e, pk_un e, pk_un e]
      exact j6 r (by omega)
  · intro r hr
    have hr2 : N 2 + 1 ≤ r := hr
    exact j7 r (by omega)
theorem inv_rest (hI : inv N A B L) {x1 x2 : Int32} (h : kc (!(inR x1 (N 2) && inR x2 (N 1))) (B 1 (c32 x1) || B 0 (c32 x2) || hasB (L 0 (c32 x1)) (lN (2 ^ c32 x2))) false = 0) : inv N A B (va_up L 0 (vp_updL (L 0) (c32 x1) (L 0 (c32 x1) ||| lN (2 ^ c32 x2)))) := by
  obtain ⟨h1, h2, -⟩ := kc0 h
  have h6 := nb h1
  rw [Bool.and_eq_true] at h6
  obtain ⟨⟨i1, i2, i3, i4⟩, j2, j3, j4, j5, j6, j7, j8, j9, j10, j11⟩ := hI
  have k1 := inR_c32 h6.1 (by omega)
  have k2 := inR_c32 h6.2 (by omega)
  simp only [Bool.or_eq_false_iff] at h2
  refine ⟨⟨i1, i2, i3, i4⟩, j2, j3, j4, j5, j6, ?_, ?_, ?_, j10, j11⟩
  · intro r hr
    have e : r ≠ c32 x1 := by omega
    show vp_updL (L 0) (c32 x1) _ r = 0 ∧ B 1 r = false
    rw [pk_uLn e]
    exact j7 r hr
  · intro r hr
    show vp_updL (L 0) (c32 x1) _ r = 0
    have e : r ≠ c32 x1 := fun z => by rw [z, h2.1.1] at hr; cases hr
    rw [pk_uLn e]
    exact j8 r hr
  · intro r
    show ∃ G, G < 1099511627776 ∧ vp_updL (L 0) (c32 x1) _ r = lN G
    by_cases e : r = c32 x1
    · obtain ⟨G, hG, hGe⟩ := j9 (c32 x1)
      rw [e, pk_uLs, hGe, fb_orL]
      exact ⟨_, or_lt40 hG (p2_lt (by omega)), rfl⟩
    · rw [pk_uLn e]
      exact j9 r
theorem inv_copy (hI : inv N A B L) {x1 : Int32} : inv N A B (va_up L 1 (vp_updL (L 1) (c32 x1) (lN (thS (B 0) (N 1))))) := by
  obtain ⟨⟨i1, i2, i3, i4⟩, j2, j3, j4, j5, j6, j7, j8, j9, j10, j11⟩ := hI
  refine ⟨⟨i1, i2, i3, i4⟩, j2, j3, j4, j5, j6, j7, j8, j9, ?_, j11⟩
  intro w hw
  show ∃ K, K < 1099511627776 ∧ vp_updL (L 1) (c32 x1) _ w = lN K
  by_cases e : w = c32 x1
  · rw [e, pk_uLs]
    exact ⟨_, thS_lt i2, rfl⟩
  · rw [pk_uLn e]
    exact j10 w hw
theorem inv_tell (hI : inv N A B L) {x1 : Int32} (h : kc (!inR x1 3) false false = 0) : inv N A B (va_up L 1 (vp_updL (L 1) (c32 x1) (L 1 (c32 x1) &&& lN (thS (B 0) (N 1))))) := by
  obtain ⟨h1, -, -⟩ := kc0 h
  have k1 := inR_c32 (nb h1) (by decide)
  obtain ⟨⟨i1, i2, i3, i4⟩, j2, j3, j4, j5, j6, j7, j8, j9, j10, j11⟩ := hI
  refine ⟨⟨i1, i2, i3, i4⟩, j2, j3, j4, j5, j6, j7, j8, j9, ?_, j11⟩
  intro w hw
  show ∃ K, K < 1099511627776 ∧ vp_updL (L 1) (c32 x1) _ w = lN K
  by_cases e : w = c32 x1
  · obtain ⟨K, hK, hKe⟩ := j10 (c32 x1) k1.1
    rw [e, pk_uLs, hKe, fb_andL]
    exact ⟨_, and_lt40 hK, rfl⟩
  · rw [pk_uLn e]
    exact j10 w hw
theorem inv_quote (hI : inv N A B L) {x1 : Int32} (h : kc (!inR x1 (N 1)) (B 0 (c32 x1) || decide (N 3 = 20)) false = 0) : inv (va_up N 3 (N 3 + 1)) (va_up A 13 (upd (A 13) (N 3) x1)) B L := by
  obtain ⟨h1, h2, -⟩ := kc0 h
  rw [Bool.or_eq_false_iff] at h2
  have h5 := of_decide_eq_false h2.2
  obtain ⟨⟨i1, i2, i3, i4⟩, j2, j3, j4, j5, j6, j7, j8, j9, j10, j11⟩ := hI
  have k1 := inR_c32 (nb h1) (by omega)
  refine ⟨⟨i1, i2, i3, ?_⟩, j2, j3, j4, j5, j6, j7, j8, j9, j10, ?_⟩
  · show N 3 + 1 ≤ 20
    omega
  · intro k hk
    have hk2 : k < N 3 + 1 := hk
    show c32 (upd (A 13) (N 3) x1 k) < N 1 ∧ upd (A 13) (N 3) x1 k = nI (c32 (upd (A 13) (N 3) x1 k))
    by_cases e : k = N 3
    · rw [e, pk_us]
      exact k1
    · rw [pk_un e]
      exact j11 k (by omega)
theorem inv_forget (hI : inv N A B L) {x1 : Int32} : inv N A (va_up (va_up B 0 (goN (N 1) (B 0) (A 1) x1)) 1 (faN (L 0) (B 1) (fgS (B 0) (A 1) x1 (N 1)))) (va_up L 0 (grN (L 0) (fgS (B 0) (A 1) x1 (N 1)))) := by
  obtain ⟨⟨i1, i2, i3, i4⟩, j2, j3, j4, j5, j6, j7, j8, j9, j10, j11⟩ := hI
  have gz : ∀ r, L 0 r = 0 → grN (L 0) (fgS (B 0) (A 1) x1 (N 1)) r = 0 := fun r h => by
    rw [grN, h]
    exact Int64.zero_and
  refine ⟨⟨i1, i2, i3, i4⟩, j2, j3, ?_, j5, j6, ?_, ?_, ?_, j10, j11⟩
  · intro i hi
    show goN (N 1) (B 0) (A 1) x1 i = false
    rw [goN, j4 i hi, decide_eq_false (by omega)]
    rfl
  · intro r hr
    obtain ⟨h1, h2⟩ := j7 r hr
    refine ⟨gz r h1, ?_⟩
    show faN (L 0) (B 1) _ r = false
    rw [faN, h1, h2]
    rfl
  · intro r hr
    have hr2 : faN (L 0) (B 1) (fgS (B 0) (A 1) x1 (N 1)) r = true := hr
    show grN (L 0) _ r = 0
    rw [faN, Bool.or_eq_true, Bool.and_eq_true] at hr2
    rcases hr2 with h | h
    · exact gz r (j8 r h)
    · exact of_decide_eq_true h.2
  · intro r
    obtain ⟨G, hG, hGe⟩ := j9 r
    show ∃ G2, G2 < 1099511627776 ∧ grN (L 0) _ r = lN G2
    rw [grN, hGe, andn]
    exact ⟨_, andn_lt hG, rfl⟩
theorem inv_start {ro : Nat → Int32} (h : ∀ j, j < 4 → ro j = -1) : inv (fun _ => 0) (fun k => if k = 6 then ro else fun _ => 0) (fun _ _ => false) (fun _ _ => 0) := by
  refine ⟨⟨by decide, by decide, by decide, by decide⟩, fun k hk => absurd hk (Nat.not_lt_zero k), fun k hk => absurd hk (Nat.not_lt_zero k), fun _ _ => rfl, ?_, fun k hk => absurd hk (Nat.not_lt_zero k), fun _ _ => ⟨rfl, rfl⟩, (fun _ hr => Bool.noConfusion hr), (fun _ => ⟨0, by decide, rfl⟩), (fun _ _ => ⟨0, by decide, rfl⟩), fun k hk => absurd hk (Nat.not_lt_zero k)⟩
  intro w hw
  show roI (unF (ro w)) = ro w
  rw [h w hw, unF_m1]
  rfl
/-- the class's world at its start -/
theorem cR_start (g : q_G) (ad : Nat → Nat) (ro : Nat → Int32) (ro2 : Nat → Int32) (wm : va_W) (h : ∀ j, j < 4 → ro j = -1) (h2 : ∀ j, j < 4 → ro2 j = -1) : cR g (ad 8) (fun _ => 0) (fun k => if k = 6 then ro2 else fun _ => 0) (fun _ _ => false) (fun _ _ => 0) wm (iF g ad (fun _ => 0) (fun _ => g.2.2.2.1) (fun _ => 0) 0 0 0 ro (fun _ => 0) (fun _ => 0) (fun _ => 0) ++ wm) := by
  refine ⟨ad, fun _ => 0, fun _ => g.2.2.2.1, fun _ => 0, fun _ => 0, 0, 0, 0, ro, fun _ => 0, fun _ => 0, fun _ => 0, [], fun _ => .inr (0, []), rfl, ?_, ⟨rfl, rfl, rfl⟩, ?_, ?_, fun _ _ => rfl, fun i hi => absurd hi (Nat.not_lt_zero i), fun i hi => absurd hi (Nat.not_lt_zero i), fun i _ hi => absurd hi (Nat.not_lt_zero i), Or.inl ⟨rfl, rfl⟩, Or.inl ⟨rfl, rfl⟩, Or.inl ⟨rfl, rfl⟩, fun z => absurd z (Nat.not_lt_zero _), fun z => absurd z (Nat.not_lt_zero _), fun z => absurd z (Nat.not_lt_zero _)⟩
  · show iF g ad (fun _ => 0) (fun _ => g.2.2.2.1) (fun _ => 0) 0 0 0 ro (fun _ => 0) (fun _ => 0) (fun _ => 0) ++ wm = iF g ad (fun _ => 0) (fun _ => g.2.2.2.1) (fun _ => 0) 0 0 0 ro (fun _ => 0) (fun _ => 0) (fun _ => 0) ++ (wm ++ [])
    rw [List.append_nil]
  · intro w hw
    exact (h w hw).trans (h2 w hw).symm
  · intro w hw
    rfl
end INV
