/-! what ties the law's numbers to the state is kept by each call -/
theorem upd_eq {f : Nat → Int32} {i : Nat} {x : Int32} (h : x = f i) : upd f i x = f := by
  funext j
  by_cases e : j = i
  · rw [e, pk_us, h]
  · rw [pk_un e]
theorem lN_inj40 {a b : Nat} (ha : a < 65536) (hb : b < 65536) (h : lN a = lN b) : a = b := (fb_lN_inj (by omega) (by omega)).mp h
section LRI
variable {N : Nat → Nat} {A : Nat → Nat → Int32} {B : Nat → Nat → Bool} {L : Nat → Nat → Int64} {Z Z2 : Nat → Nat → Int32}
theorem lR_same (hZ : lR N A B L Z) (e0 : Z2 0 = Z 0) (e1 : Z2 1 = Z 1) (e2 : Z2 2 = Z 2) (e3 : Z2 3 = Z 3) (e4 : Z2 4 = Z 4) (e5 : ∀ k, k < N 3 → Z2 5 k = Z 5 k) : lR N A B L Z2 := by
  obtain ⟨hI, hb, hz, zK, zR, zV, zU, zE, zC⟩ := hZ
  refine ⟨hI, hb, by rw [e0]; exact hz, by rw [e0]; exact zK, by rw [e0]; exact zR, by rw [e1, e2]; exact zV, by rw [e3]; exact zU, by rw [e4]; exact zE, fun k hk => by rw [e5 k hk]; exact zC k hk⟩
theorem lR_sound (hZ : lR N A B L Z) {s : Nat} (hs : s < 8) (hk : kc (!inR (nI s) 8) (decide (N 0 = 8)) false = 0) (e0 : Z2 0 = upd (upd (Z 0) 1 (nI (9 * num (drL (A 0) (N 0)) + s + 1))) 0 (nI (N 0 + 1))) (e1 : Z2 1 = Z 1) (e2 : Z2 2 = Z 2) (e3 : Z2 3 = Z 3) (e4 : Z2 4 = Z 4) (e5 : Z2 5 = Z 5) : lR (va_up N 0 (N 0 + 1)) (va_up A 0 (upd (A 0) (N 0) (nI s))) B L Z2 := by
  obtain ⟨hI, hb, ⟨z0, z1, z2, z3, z4, z5, z6⟩, zK, zR, zV, zU, zE, zC⟩ := hZ
  refine ⟨inv_sound hI hk, hb, ⟨by rw [e0]; rfl, ?_, by rw [e0]; exact z2, by rw [e0]; exact z3, by rw [e0]; exact z4, by rw [e0]; exact z5, by rw [e0]; exact z6⟩, ?_, ?_, by rw [e1, e2]; exact zV, by rw [e3]; exact zU, by rw [e4]; exact zE, by rw [e5]; exact zC⟩
  · rw [e0]
    show nI (9 * num (drL (A 0) (N 0)) + s + 1) = nI (num (drL (upd (A 0) (N 0) (nI s)) (N 0 + 1)))
    rw [drL_succ, num_snoc, pk_us, c32_nI (by omega), drL_cong (d2 := A 0) (fun i hi => pk_un (by omega))]
  · intro s hs
    obtain ⟨K, h1, h2, h3⟩ := zK s hs
    exact ⟨K, h1, h2, by rw [e0, pk_un (by omega), pk_un (by omega)]; exact h3⟩
  · intro w hw
    rw [e0, pk_un (by omega), pk_un (by omega)]
    exact zR w hw
theorem lR_setRoot (hZ : lR N A B L Z) {w0 : Nat} (hw0 : w0 < 4) (hk : kc (!inR (nI w0) 4) (decide (N 0 = 0)) false = 0) (e0 : Z2 0 = upd (upd (upd (Z 0) (10 + w0) (nI (num (drL (A 0) (N 0))))) 0 (nI 0)) 1 (nI 0)) (e1 : Z2 1 = Z 1) (e2 : Z2 2 = Z 2) (e3 : Z2 3 = Z 3) (e4 : Z2 4 = Z 4) (e5 : Z2 5 = Z 5) : lR (va_up N 0 0) (va_up A 6 (upd (A 6) (c32 (nI w0)) (nI (num (drL (A 0) (N 0)))))) B L Z2 := by
  obtain ⟨hI, hb, ⟨z0, z1, z2, z3, z4, z5, z6⟩, zK, zR, zV, zU, zE, zC⟩ := hZ
  have u : ∀ j, 2 ≤ j → j ≠ 10 + w0 → Z2 0 j = Z 0 j := fun j h1 h2 => by rw [e0, pk_un (by omega), pk_un (by omega), pk_un h2]
  refine ⟨inv_setRoot hI hk, hb, ⟨by rw [e0]; rfl, by rw [e0]; rfl, (u 2 (by omega) (by omega)).trans z2, (u 3 (by omega) (by omega)).trans z3, (u 4 (by omega) (by omega)).trans z4, (u 5 (by omega) (by omega)).trans z5, (u 6 (by omega) (by omega)).trans z6⟩, ?_, ?_, by rw [e1, e2]; exact zV, by rw [e3]; exact zU, by rw [e4]; exact zE, by rw [e5]; exact zC⟩
  · intro s hs
    obtain ⟨K, h1, h2, h3⟩ := zK s hs
    exact ⟨K, h1, h2, (u _ (by omega) (by omega)).trans h3⟩
  · intro w hw
    show Z2 0 (10 + w) = upd (A 6) (c32 (nI w0)) (nI (num (drL (A 0) (N 0)))) w
    rw [c32_nI (by omega)]
    by_cases e : w = w0
    · rw [e, e0, pk_un (by omega), pk_un (by omega), pk_us, pk_us]
    · rw [u _ (by omega) (by omega), pk_un e]
      exact zR w hw
theorem lR_setRoot0 (hZ : lR N A B L Z) {w0 : Nat} (h0 : N 0 = 0) (e0 : Z2 0 = upd (upd (upd (Z 0) (10 + w0) (Z 0 (10 + w0))) 0 (nI 0)) 1 (nI 0)) (e1 : Z2 1 = Z 1) (e2 : Z2 2 = Z 2) (e3 : Z2 3 = Z 3) (e4 : Z2 4 = Z 4) (e5 : Z2 5 = Z 5) : lR N A B L Z2 := by
  refine lR_same hZ ?_ e1 e2 e3 e4 (fun k _ => by rw [e5])
  obtain ⟨hI, hb, ⟨z0, z1, -⟩, -⟩ := hZ
  rw [e0, upd_eq (f := Z 0) (i := 10 + w0) rfl, upd_eq (f := Z 0) (i := 0) (by rw [z0, h0]), upd_eq (by rw [z1, h0]; rfl)]
theorem lR_interview (hZ : lR N A B L Z) (h16 : N 1 < 16) {x1 x2 x3 x4 : Int32} (hk : kc (!(inR x1 8 && inR x2 10 && inR x4 4)) (!inR x3 301) (decide (N 0 = 0) || decide (N 1 = 40)) = 0)
    (e0 : Z2 0 = upd (upd (upd (Z 0) 0 (nI 0)) 1 (nI 0)) 2 (nI (N 1 + 1))) (e1 : Z2 1 = upd (upd (upd (upd (Z 1) (4 * N 1) x1) (4 * N 1 + 1) x2) (4 * N 1 + 2) x3) (4 * N 1 + 3) x4) (e2 : Z2 2 = upd (Z 2) (N 1) (nI (num (drL (A 0) (N 0))))) (e3 : Z2 3 = Z 3) (e4 : Z2 4 = Z 4) (e5 : Z2 5 = Z 5) : lR (va_up (va_up N 1 (N 1 + 1)) 0 0) (ivA A (N 1) x1 x2 x3 x4 (nI (num (drL (A 0) (N 0))))) B L Z2 := by
  obtain ⟨hI, ⟨b1, b2, b3⟩, ⟨z0, z1, z2, z3, z4, z5, z6⟩, zK, zR, zV, zU, zE, zC⟩ := hZ
  have j4 := hI.2.2.2.1
  have u : ∀ j, 3 ≤ j → Z2 0 j = Z 0 j := fun j h1 => by rw [e0, pk_un (by omega), pk_un (by omega), pk_un (by omega)]
  refine ⟨inv_interview hI hk, ⟨by show N 1 + 1 ≤ 16; omega, b2, b3⟩, ⟨by rw [e0]; rfl, by rw [e0]; rfl, by rw [e0]; rfl, (u 3 (by omega)).trans z3, (u 4 (by omega)).trans z4, ?_, (u 6 (by omega)).trans z6⟩, ?_, fun w hw => (u _ (by omega)).trans (zR w hw), ?_, by rw [e3]; exact zU, ?_, by rw [e5]; exact zC⟩
  · show Z2 0 5 = nI (thS (ngo (B 0)) (N 1 + 1))
    rw [u 5 (by omega), z5, thS, ngo, j4 (N 1) (Nat.le_refl _)]
    show nI _ = nI (thS (ngo (B 0)) (N 1) ||| 0)
    rw [Nat.or_zero]
  · intro s hs
    obtain ⟨K, h1, h2, h3⟩ := zK s hs
    exact ⟨K, bw_le h1 (Nat.le_succ _), h2, (u _ (by omega)).trans h3⟩
  · intro i hi
    have hi : i < N 1 + 1 := hi
    show Z2 1 (4 * i) = upd (A 1) (N 1) x1 i ∧ Z2 1 (4 * i + 1) = upd (A 2) (N 1) x2 i ∧ Z2 1 (4 * i + 2) = upd (A 3) (N 1) x3 i ∧ Z2 1 (4 * i + 3) = upd (A 4) (N 1) x4 i ∧ Z2 2 i = upd (A 5) (N 1) (nI (num (drL (A 0) (N 0)))) i
    rw [e1, e2]
    by_cases e : i = N 1
    · subst e
      refine ⟨?_, ?_, ?_, ?_, ?_⟩
      · rw [pk_un (by omega), pk_un (by omega), pk_un (by omega), pk_us, pk_us]
      · rw [pk_un (by omega), pk_un (by omega), pk_us, pk_us]
      · rw [pk_un (by omega), pk_us, pk_us]
      · rw [pk_us, pk_us]
      · rw [pk_us, pk_us]
    · obtain ⟨v1, v2, v3, v4, v5⟩ := zV i (by omega)
      refine ⟨?_, ?_, ?_, ?_, ?_⟩
      · rw [pk_un (by omega), pk_un (by omega), pk_un (by omega), pk_un (by omega), pk_un e]; exact v1
      · rw [pk_un (by omega), pk_un (by omega), pk_un (by omega), pk_un (by omega), pk_un e]; exact v2
      · rw [pk_un (by omega), pk_un (by omega), pk_un (by omega), pk_un (by omega), pk_un e]; exact v3
      · rw [pk_un (by omega), pk_un (by omega), pk_un (by omega), pk_un (by omega), pk_un e]; exact v4
      · rw [pk_un e, pk_un e]; exact v5
  · intro r hr
    obtain ⟨G, h1, h2, h3⟩ := zE r hr
    exact ⟨G, bw_le h1 (Nat.le_succ _), h2, by rw [e4]; exact h3⟩
theorem lR_rule (hZ : lR N A B L Z) (h8 : N 2 < 8) {x1 x2 x3 x4 x5 x6 : Int32} (hk : kc (!(inR x1 8 && (inR x4 10 && inR x5 10))) (decide (x2 = x1) || !(decide (x2 = -1) || inR x2 8) || !inR x3 10 || decide (x5 < x4) || !inR x6 301) (decide (N 2 = 20)) = 0)
    (e0 : Z2 0 = upd (Z 0) 3 (nI (N 2 + 1))) (e3 : Z2 3 = upd (upd (upd (upd (upd (upd (Z 3) (6 * N 2) x1) (6 * N 2 + 1) x2) (6 * N 2 + 2) x3) (6 * N 2 + 3) x4) (6 * N 2 + 4) x5) (6 * N 2 + 5) x6) (e1 : Z2 1 = Z 1) (e2 : Z2 2 = Z 2) (e4 : Z2 4 = Z 4) (e5 : Z2 5 = Z 5) : lR (va_up N 2 (N 2 + 1)) (rlA A (N 2) x1 x2 x3 x4 x5 x6) B L Z2 := by
  obtain ⟨hI, ⟨b1, b2, b3⟩, ⟨z0, z1, z2, z3, z4, z5, z6⟩, zK, zR, zV, zU, zE, zC⟩ := hZ
  have j7 := hI.2.2.2.2.2.2.1
  have u : ∀ j, j ≠ 3 → Z2 0 j = Z 0 j := fun j h1 => by rw [e0, pk_un h1]
  refine ⟨inv_rule hI hk, ⟨b1, by show N 2 + 1 ≤ 8; omega, b3⟩, ⟨(u 0 (by omega)).trans z0, (u 1 (by omega)).trans z1, (u 2 (by omega)).trans z2, by rw [e0]; rfl, (u 4 (by omega)).trans z4, (u 5 (by omega)).trans z5, ?_⟩, ?_, fun w hw => (u _ (by omega)).trans (zR w hw), by rw [e1, e2]; exact zV, ?_, by rw [e4]; exact zE, by rw [e5]; exact zC⟩
  · show Z2 0 6 = nI (thS (ngo (B 1)) (N 2 + 1))
    rw [u 6 (by omega), z6, thS, ngo, (j7 (N 2) (Nat.le_refl _)).2]
    show nI _ = nI (thS (ngo (B 1)) (N 2) ||| 0)
    rw [Nat.or_zero]
  · intro s hs
    obtain ⟨K, h1, h2, h3⟩ := zK s hs
    exact ⟨K, h1, h2, (u _ (by omega)).trans h3⟩
  · intro i hi
    have hi : i < N 2 + 1 := hi
    show Z2 3 (6 * i) = upd (A 7) (N 2) x1 i ∧ Z2 3 (6 * i + 1) = upd (A 8) (N 2) x2 i ∧ Z2 3 (6 * i + 2) = upd (A 9) (N 2) x3 i ∧ Z2 3 (6 * i + 3) = upd (A 10) (N 2) x4 i ∧ Z2 3 (6 * i + 4) = upd (A 11) (N 2) x5 i ∧ Z2 3 (6 * i + 5) = upd (A 12) (N 2) x6 i
    rw [e3]
    by_cases e : i = N 2
    · subst e
      refine ⟨?_, ?_, ?_, ?_, ?_, ?_⟩
      · rw [pk_un (by omega), pk_un (by omega), pk_un (by omega), pk_un (by omega), pk_un (by omega), pk_us, pk_us]
      · rw [pk_un (by omega), pk_un (by omega), pk_un (by omega), pk_un (by omega), pk_us, pk_us]
      · rw [pk_un (by omega), pk_un (by omega), pk_un (by omega), pk_us, pk_us]
      · rw [pk_un (by omega), pk_un (by omega), pk_us, pk_us]
      · rw [pk_un (by omega), pk_us, pk_us]
      · rw [pk_us, pk_us]
    · obtain ⟨v1, v2, v3, v4, v5, v6⟩ := zU i (by omega)
      refine ⟨?_, ?_, ?_, ?_, ?_, ?_⟩
      · rw [pk_un (by omega), pk_un (by omega), pk_un (by omega), pk_un (by omega), pk_un (by omega), pk_un (by omega), pk_un e]; exact v1
      · rw [pk_un (by omega), pk_un (by omega), pk_un (by omega), pk_un (by omega), pk_un (by omega), pk_un (by omega), pk_un e]; exact v2
      · rw [pk_un (by omega), pk_un (by omega), pk_un (by omega), pk_un (by omega), pk_un (by omega), pk_un (by omega), pk_un e]; exact v3
      · rw [pk_un (by omega), pk_un (by omega), pk_un (by omega), pk_un (by omega), pk_un (by omega), pk_un (by omega), pk_un e]; exact v4
      · rw [pk_un (by omega), pk_un (by omega), pk_un (by omega), pk_un (by omega), pk_un (by omega), pk_un (by omega), pk_un e]; exact v5
      · rw [pk_un (by omega), pk_un (by omega), pk_un (by omega), pk_un (by omega), pk_un (by omega), pk_un (by omega), pk_un e]; exact v6
theorem lR_rest (hZ : lR N A B L Z) {r k G : Nat} (hr : r < 8) (hkk : k < N 1) (hG : bw G (N 1)) (hGe : L 0 r = lN G) (hk : kc (!(inR (nI r) (N 2) && inR (nI k) (N 1))) (B 1 (c32 (nI r)) || B 0 (c32 (nI k)) || hasB (L 0 (c32 (nI r))) (lN (2 ^ c32 (nI k)))) false = 0)
    (e4 : Z2 4 = upd (Z 4) r (nI (G ||| 2 ^ k))) (e0 : Z2 0 = Z 0) (e1 : Z2 1 = Z 1) (e2 : Z2 2 = Z 2) (e3 : Z2 3 = Z 3) (e5 : Z2 5 = Z 5) : lR N A B (va_up L 0 (vp_updL (L 0) (c32 (nI r)) (L 0 (c32 (nI r)) ||| lN (2 ^ c32 (nI k))))) Z2 := by
  have b1 := hZ.2.1.1
  obtain ⟨hI, hb, hz, zK, zR, zV, zU, zE, zC⟩ := hZ
  refine ⟨inv_rest hI hk, hb, by rw [e0]; exact hz, by rw [e0]; exact zK, by rw [e0]; exact zR, by rw [e1, e2]; exact zV, by rw [e3]; exact zU, ?_, by rw [e5]; exact zC⟩
  intro j hj
  show ∃ G2, bw G2 (N 1) ∧ vp_updL (L 0) (c32 (nI r)) (L 0 (c32 (nI r)) ||| lN (2 ^ c32 (nI k))) j = lN G2 ∧ Z2 4 j = nI G2
  rw [c32_nI (by omega), c32_nI (by omega), e4]
  by_cases e : j = r
  · exact ⟨G ||| 2 ^ k, bw_or2 hG hkk, by rw [e, pk_uLs, hGe, fb_orL], by rw [e, pk_us]⟩
  · obtain ⟨G2, h1, h2, h3⟩ := zE j hj
    exact ⟨G2, h1, by rw [pk_uLn e]; exact h2, by rw [pk_un e]; exact h3⟩
theorem lR_forget (hZ : lR N A B L Z) {x1 : Int32} (E : Nat → Nat) (hE : ∀ r, r < 8 → bw (E r) (N 1) ∧ L 0 r = lN (E r) ∧ Z 4 r = nI (E r))
    (e0 : Z2 0 = upd (upd (Z 0) 5 (nI (thS (ngo (B 0)) (N 1) ||| fgS (B 0) (A 1) x1 (N 1)))) 6 (nI (thS (ngo (B 1)) (N 2) ||| thS (ngo (fun r => fcn (E r) (fgS (B 0) (A 1) x1 (N 1)))) (N 2)))) (e4 : ∀ r, r < 8 → Z2 4 r = if r < N 2 then nI (E r ^^^ (E r &&& fgS (B 0) (A 1) x1 (N 1))) else Z 4 r) (e1 : Z2 1 = Z 1) (e2 : Z2 2 = Z 2) (e3 : Z2 3 = Z 3) (e5 : Z2 5 = Z 5) : lR N A (va_up (va_up B 0 (goN (N 1) (B 0) (A 1) x1)) 1 (faN (L 0) (B 1) (fgS (B 0) (A 1) x1 (N 1)))) (va_up L 0 (grN (L 0) (fgS (B 0) (A 1) x1 (N 1)))) Z2 := by
  obtain ⟨hI, ⟨b1, b2, b3⟩, ⟨z0, z1, z2, z3, z4, z5, z6⟩, zK, zR, zV, zU, zE, zC⟩ := hZ
  have j7 := hI.2.2.2.2.2.2.1
  have u : ∀ j, j ≠ 5 → j ≠ 6 → Z2 0 j = Z 0 j := fun j h1 h2 => by rw [e0, pk_un h2, pk_un h1]
  refine ⟨inv_forget hI, ⟨b1, b2, b3⟩, ⟨(u 0 (by omega) (by omega)).trans z0, (u 1 (by omega) (by omega)).trans z1, (u 2 (by omega) (by omega)).trans z2, (u 3 (by omega) (by omega)).trans z3, (u 4 (by omega) (by omega)).trans z4, ?_, ?_⟩, ?_, fun w hw => (u _ (by omega) (by omega)).trans (zR w hw), by rw [e1, e2]; exact zV, by rw [e3]; exact zU, ?_, by rw [e5]; exact zC⟩
  · show Z2 0 5 = nI (thS (ngo (goN (N 1) (B 0) (A 1) x1)) (N 1))
    rw [e0, pk_un (by omega), pk_us, fg_eq]
  · show Z2 0 6 = nI (thS (ngo (faN (L 0) (B 1) (fgS (B 0) (A 1) x1 (N 1)))) (N 2))
    rw [e0, pk_us, or_thS]
    congr 1
    apply thS_cong
    intro r hr
    show (!(B 1 r || fcn (E r) _)) = !faN (L 0) (B 1) _ r
    obtain ⟨h1, h2, -⟩ := hE r (by omega)
    rw [fa_eq (bw_lt b1 h1) h2]
  · intro s hs
    obtain ⟨K, h1, h2, h3⟩ := zK s hs
    exact ⟨K, h1, h2, (u _ (by omega) (by omega)).trans h3⟩
  · intro r hr
    obtain ⟨h1, h2, h3⟩ := hE r hr
    show ∃ G, bw G (N 1) ∧ grN (L 0) (fgS (B 0) (A 1) x1 (N 1)) r = lN G ∧ Z2 4 r = nI G
    refine ⟨E r ^^^ (E r &&& fgS (B 0) (A 1) x1 (N 1)), bw_andn h1, by rw [grN, h2, andn], ?_⟩
    rw [e4 r hr]
    split
    · rfl
    · rename_i h9
      have h4 := (j7 r (by omega)).1
      have h5 : E r = 0 := lN_inj40 (b := 0) (bw_lt b1 h1) (by decide) (h2.symm.trans h4)
      rw [h3, h5]
      simp
theorem lR_school (hZ : lR N A B L Z) {s K : Nat} {l2 : Int64} (hs : s < 3) (hK : bw K (N 1)) (hl : l2 = lN K) (hI2 : inv N A B (va_up L 1 (vp_updL (L 1) (c32 (nI s)) l2))) (e0 : Z2 0 = upd (Z 0) (7 + s) (nI K)) (e1 : Z2 1 = Z 1) (e2 : Z2 2 = Z 2) (e3 : Z2 3 = Z 3) (e4 : Z2 4 = Z 4) (e5 : Z2 5 = Z 5) : lR N A B (va_up L 1 (vp_updL (L 1) (c32 (nI s)) l2)) Z2 := by
  obtain ⟨hI, hb, ⟨z0, z1, z2, z3, z4, z5, z6⟩, zK, zR, zV, zU, zE, zC⟩ := hZ
  have u : ∀ j, j ≠ 7 + s → Z2 0 j = Z 0 j := fun j h1 => by rw [e0, pk_un h1]
  refine ⟨hI2, hb, ⟨(u 0 (by omega)).trans z0, (u 1 (by omega)).trans z1, (u 2 (by omega)).trans z2, (u 3 (by omega)).trans z3, (u 4 (by omega)).trans z4, (u 5 (by omega)).trans z5, (u 6 (by omega)).trans z6⟩, ?_, fun w hw => (u _ (by omega)).trans (zR w hw), by rw [e1, e2]; exact zV, by rw [e3]; exact zU, by rw [e4]; exact zE, by rw [e5]; exact zC⟩
  intro t ht
  show ∃ K2, bw K2 (N 1) ∧ vp_updL (L 1) (c32 (nI s)) l2 t = lN K2 ∧ Z2 0 (7 + t) = nI K2
  rw [c32_nI (by omega)]
  by_cases e : t = s
  · exact ⟨K, hK, by rw [e, pk_uLs, hl], by rw [e, e0, pk_us]⟩
  · obtain ⟨K2, h1, h2, h3⟩ := zK t ht
    exact ⟨K2, h1, by rw [pk_uLn e]; exact h2, (u _ (by omega)).trans h3⟩
theorem lR_quote (hZ : lR N A B L Z) (h6 : N 3 < 6) {k : Nat} (hk : kc (!inR (nI k) (N 1)) (B 0 (c32 (nI k)) || decide (N 3 = 20)) false = 0) (e5 : Z2 5 = upd (Z 5) (N 3) (nI k)) (e0 : Z2 0 = upd (Z 0) 4 (nI (N 3 + 1))) (e1 : Z2 1 = Z 1) (e2 : Z2 2 = Z 2) (e3 : Z2 3 = Z 3) (e4 : Z2 4 = Z 4) : lR (va_up N 3 (N 3 + 1)) (va_up A 13 (upd (A 13) (N 3) (nI k))) B L Z2 := by
  obtain ⟨hI, ⟨b1, b2, b3⟩, ⟨z0, z1, z2, z3, z4, z5, z6⟩, zK, zR, zV, zU, zE, zC⟩ := hZ
  have u : ∀ j, j ≠ 4 → Z2 0 j = Z 0 j := fun j h1 => by rw [e0, pk_un h1]
  refine ⟨inv_quote hI hk, ⟨b1, b2, by show N 3 + 1 ≤ 6; omega⟩, ⟨(u 0 (by omega)).trans z0, (u 1 (by omega)).trans z1, (u 2 (by omega)).trans z2, (u 3 (by omega)).trans z3, by rw [e0]; rfl, (u 5 (by omega)).trans z5, (u 6 (by omega)).trans z6⟩, ?_, fun w hw => (u _ (by omega)).trans (zR w hw), by rw [e1, e2]; exact zV, by rw [e3]; exact zU, by rw [e4]; exact zE, ?_⟩
  · intro s hs
    obtain ⟨K, h1, h2, h3⟩ := zK s hs
    exact ⟨K, h1, h2, (u _ (by omega)).trans h3⟩
  · intro i hi
    have hi : i < N 3 + 1 := hi
    show Z2 5 i = upd (A 13) (N 3) (nI k) i
    rw [e5]
    by_cases e : i = N 3
    · rw [e, pk_us, pk_us]
    · rw [pk_un e, pk_un e]
      exact zC i (by omega)
theorem lR_start {ro : Nat → Int32} (h : ∀ j, j < 4 → ro j = -1) {Z : Nat → Nat → Int32} (h0 : ∀ j, j < 10 → Z 0 j = nI 0) (hr : ∀ j, j < 4 → Z 0 (10 + j) = -1) (h4 : ∀ j, j < 8 → Z 4 j = nI 0) : lR (fun _ => 0) (fun k => if k = 6 then ro else fun _ => 0) (fun _ _ => false) (fun _ _ => 0) Z := by
  refine ⟨inv_start h, ⟨by decide, by decide, by decide⟩, ⟨h0 0 (by decide), h0 1 (by decide), h0 2 (by decide), h0 3 (by decide), h0 4 (by decide), h0 5 (by decide), h0 6 (by decide)⟩, fun s hs => ⟨0, bw_0 _, rfl, h0 _ (by omega)⟩, fun w hw => (hr w hw).trans (h w hw).symm, fun i hi => absurd hi (Nat.not_lt_zero i), fun i hi => absurd hi (Nat.not_lt_zero i), fun r hr => ⟨0, bw_0 _, rfl, h4 r hr⟩, fun i hi => absurd hi (Nat.not_lt_zero i)⟩
end LRI
/-- the law's world between two turns -/
def lwI (g : q_G) (a0 : Nat) (ld : Nat → Nat) (w : va_W) : Prop := ∃ (N : Nat → Nat) (A : Nat → Nat → Int32) (B : Nat → Nat → Bool) (L : Nat → Nat → Int64) (Z : Nat → Nat → Int32), lR N A B L Z ∧ cR g a0 N A B L (lF g ld Z) w
theorem kc2 {a b : Bool} (ha : a = true) : kc (!a) b false ≠ 1 := by subst ha; cases b <;> decide
theorem kc3 {a b d : Bool} (ha : a = true) (hb : b = true) : kc (!a) (!b) d ≠ 1 ∧ kc (!a) (!b) d ≠ 2 := by subst ha; subst hb; cases d <;> decide
theorem kc2z {a b : Bool} (ha : a = true) (hb : b = false) : kc (!a) b false = 0 := by subst ha; subst hb; rfl
theorem kc2n {a b : Bool} (ha : a = true) (hb : b = true) : kc (!a) b false ≠ 0 := by subst ha; subst hb; decide
theorem kc3z {a b d : Bool} (ha : a = true) (hb : b = true) (hd : d = false) : kc (!a) (!b) d = 0 := by subst ha; subst hb; subst hd; rfl
theorem kc3n {a b d : Bool} (ha : a = true) (hb : b = true) (hd : d = true) : kc (!a) (!b) d ≠ 0 := by subst ha; subst hb; subst hd; decide
