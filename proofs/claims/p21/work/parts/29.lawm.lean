/-! sets in an int, as the law keeps them -/
theorem fa_or (a b : Nat) : nI a ||| nI b = nI (a ||| b) := by
  apply Int32.toBitVec_inj.1
  show BitVec.ofNat 32 a ||| BitVec.ofNat 32 b = BitVec.ofNat 32 (a ||| b)
  apply BitVec.eq_of_getLsbD_eq
  intro i hi
  simp [hi]
theorem fa_xor (a b : Nat) : nI a ^^^ nI b = nI (a ^^^ b) := by
  apply Int32.toBitVec_inj.1
  show BitVec.ofNat 32 a ^^^ BitVec.ofNat 32 b = BitVec.ofNat 32 (a ^^^ b)
  apply BitVec.eq_of_getLsbD_eq
  intro i hi
  simp [hi]
theorem andn_bv32 (X Y : BitVec 32) : X &&& (Y ^^^ BitVec.allOnes 32) = X ^^^ (X &&& Y) := by
  apply BitVec.eq_of_getLsbD_eq
  intro i hi
  rw [BitVec.getLsbD_and, BitVec.getLsbD_xor, BitVec.getLsbD_xor, BitVec.getLsbD_and, BitVec.getLsbD_allOnes, decide_eq_true hi]
  cases X.getLsbD i <;> cases Y.getLsbD i <;> rfl
theorem andnI (a b : Nat) : nI a &&& (nI b ^^^ (-1)) = nI (a ^^^ (a &&& b)) := by
  rw [← fa_xor, ← fa_and]
  apply Int32.toBitVec_inj.1
  have e : (-1 : Int32).toBitVec = BitVec.allOnes 32 := by decide
  rw [Int32.toBitVec_and, Int32.toBitVec_xor, Int32.toBitVec_xor, Int32.toBitVec_and, e]
  exact andn_bv32 _ _
theorem nI_c31 : ∀ k, k < 31 → ((nI k &&& 31).toBitVec.smod 32).toNat = k := by decide +kernel
theorem shr1 {G k : Nat} (hG : G < 2147483648) (hk : k < 31) : (nI G >>> (nI k &&& 31)) &&& nI 1 = bI (G.testBit k) := by
  rw [pk_shrN hG _ k (nI_c31 k hk), fa_and, Nat.and_one_is_mod, Nat.testBit_eq_decide_div_mod_eq]
  rcases Nat.mod_two_eq_zero_or_one (G / 2 ^ k) with h | h <;> rw [h] <;> rfl
theorem shrm {G k : Nat} (hG : G < 2147483648) (hk : k < 31) : (nI G >>> (nI k &&& 31)) &&& nI 1 = nI (G / 2 ^ k % 2) := by
  rw [pk_shrN hG _ k (nI_c31 k hk), fa_and, Nat.and_one_is_mod]
theorem shl1 {k : Nat} (hk : k < 31) : nI 1 <<< (nI k &&& 31) = nI (2 ^ k) := by
  rw [pk_shlN (nI k &&& 31) k (nI_c31 k hk) (by rw [Nat.one_mul]; exact Nat.pow_lt_pow_right (by decide) (by omega)), Nat.one_mul]
theorem bcS_16 {N : Nat} (h : N < 65536) : bcS N 16 = bc N := by
  have z : ∀ k, 16 ≤ k → bcS N k = bcS N 16 := by
    intro k
    induction k with
    | zero => intro hk; omega
    | succ j ih =>
      intro hk
      by_cases e : j + 1 = 16
      · rw [e]
      · have hp : 2 ^ 16 ≤ 2 ^ j := Nat.pow_le_pow_right (n := 2) (by decide) (by omega)
        have e2 : N / 2 ^ j = 0 := Nat.div_eq_of_lt (Nat.lt_of_lt_of_le (by simpa using h) hp)
        have h3 : N / 2 ^ j % 2 = 0 := by simp [e2]
        exact (congrArg (fun t => bcS N j + t) h3).trans (ih (by omega))
  exact (z 40 (by decide)).symm
def bw (K n : Nat) : Prop := ∀ i, K.testBit i = true → i < n
theorem bw_lt {K n : Nat} (hn : n ≤ 16) (h : bw K n) : K < 65536 := by
  have := Nat.lt_pow_two_of_testBit (n := 16) K (fun i hi => by
    cases e : K.testBit i with
    | false => rfl
    | true => have := h i e; omega)
  simpa using this
theorem bw_le {K n m : Nat} (h : bw K n) (hm : n ≤ m) : bw K m := fun i hi => Nat.lt_of_lt_of_le (h i hi) hm
theorem bw_thS (go : Nat → Bool) (n : Nat) : bw (thS go n) n := fun i hi => by
  rw [thS_bit] at hi
  simp only [Bool.and_eq_true, decide_eq_true_eq] at hi
  exact hi.1
theorem bw_fgS (go : Nat → Bool) (inf : Nat → Int32) (who : Int32) (n : Nat) : bw (fgS go inf who n) n := fun i hi => by
  rw [fgS_bit] at hi
  simp only [Bool.and_eq_true, decide_eq_true_eq] at hi
  exact hi.1
theorem bw_0 (n : Nat) : bw 0 n := fun i hi => by simp at hi
theorem bw_or2 {K n k : Nat} (h : bw K n) (hk : k < n) : bw (K ||| 2 ^ k) n := fun i hi => by
  rw [fb_bit_set] at hi
  simp only [Bool.or_eq_true, decide_eq_true_eq] at hi
  rcases hi with hi | hi
  · exact h i hi
  · omega
theorem bw_andn {K n F : Nat} (h : bw K n) : bw (K ^^^ (K &&& F)) n := fun i hi => by
  rw [andn_bit] at hi
  simp only [Bool.and_eq_true] at hi
  exact h i hi.1
theorem bw_and {K n F : Nat} (h : bw K n) : bw (K &&& F) n := fun i hi => by
  rw [Nat.testBit_and] at hi
  simp only [Bool.and_eq_true] at hi
  exact h i hi.1
abbrev ngo (go : Nat → Bool) : Nat → Bool := fun i => !go i
theorem goS_bit (go : Nat → Bool) {n i : Nat} (hi : i < n) : (thS (ngo go) n).testBit i = go i := by
  rw [thS_bit, decide_eq_true hi]
  cases h : go i <;> simp [ngo, h]
theorem ow_eq {go : Nat → Bool} {n K : Nat} (h : bw K n) : K &&& thS (ngo go) n = K ^^^ (K &&& thS go n) := by
  apply Nat.eq_of_testBit_eq
  intro i
  rw [Nat.testBit_and, andn_bit, thS_bit, thS_bit]
  cases hk : K.testBit i with
  | false => rfl
  | true =>
    rw [decide_eq_true (h i hk)]
    cases hg : go i <;> simp [ngo, hg]
theorem tl_eq {go : Nat → Bool} {n K : Nat} (h : bw K n) : K ^^^ (K &&& thS (ngo go) n) = K &&& thS go n := by
  apply Nat.eq_of_testBit_eq
  intro i
  rw [Nat.testBit_and, andn_bit, thS_bit, thS_bit]
  cases hk : K.testBit i with
  | false => rfl
  | true =>
    rw [decide_eq_true (h i hk)]
    cases hg : go i <;> simp [ngo, hg]
theorem cp_eq {go : Nat → Bool} {n : Nat} : (2 ^ n - 1) ^^^ ((2 ^ n - 1) &&& thS (ngo go) n) = thS go n := by
  apply Nat.eq_of_testBit_eq
  intro i
  rw [andn_bit, thS_bit, thS_bit, Nat.testBit_two_pow_sub_one]
  cases decide (i < n) <;> cases hg : go i <;> simp [ngo, hg]
theorem fg_eq {go : Nat → Bool} {inf : Nat → Int32} {who : Int32} {n : Nat} : thS (ngo go) n ||| fgS go inf who n = thS (ngo (goN n go inf who)) n := by
  apply Nat.eq_of_testBit_eq
  intro i
  rw [Nat.testBit_or, thS_bit, fgS_bit, thS_bit]
  unfold ngo goN
  cases decide (i < n) <;> cases go i <;> cases decide (inf i = who) <;> rfl
theorem or_thS (p q : Nat → Bool) (n : Nat) : thS (ngo p) n ||| thS (ngo q) n = thS (ngo (fun r => p r || q r)) n := by
  apply Nat.eq_of_testBit_eq
  intro i
  rw [Nat.testBit_or, thS_bit, thS_bit, thS_bit]
  show (decide (i < n) && !!p i || decide (i < n) && !!q i) = (decide (i < n) && !!(p i || q i))
  cases decide (i < n) <;> cases p i <;> cases q i <;> rfl
def fcn (E F : Nat) : Bool := !decide (E &&& F = 0) && decide (E ^^^ (E &&& F) = 0)
theorem fa_eq {L0 : Nat → Int64} {fa : Nat → Bool} {F r E : Nat} (hE : E < 65536) (h : L0 r = lN E) : faN L0 fa F r = (fa r || fcn E F) := by
  have hx : E ^^^ (E &&& F) < 65536 := by
    have := Nat.xor_lt_two_pow (n := 16) (by simpa using hE) (show E &&& F < 2 ^ 16 from Nat.lt_of_le_of_lt Nat.and_le_left (by simpa using hE))
    simpa using this
  have z : ∀ x : Nat, x < 65536 → decide (lN x = 0) = decide (x = 0) := fun x hx => decide_eq_decide.mpr (fb_lN_inj (b := 0) (by omega) (by decide))
  unfold faN fcn
  rw [grN, h, andn, z _ hE, z _ hx]
  congr 1
  by_cases hX : E ^^^ (E &&& F) = 0
  · have hb : ∀ i, (E ^^^ (E &&& F)).testBit i = false := fun i => by rw [hX]; exact Nat.zero_testBit i
    have e : E &&& F = E := by
      apply Nat.eq_of_testBit_eq
      intro i
      have h1 := hb i
      rw [andn_bit] at h1
      rw [Nat.testBit_and]
      cases h2 : E.testBit i with
      | false => rfl
      | true =>
        rw [h2] at h1
        cases h3 : F.testBit i with
        | true => rfl
        | false => rw [h3] at h1; cases h1
    rw [e]
  · rw [decide_eq_false hX, Bool.and_false, Bool.and_false]
/-! the form told most, counted from the last interview on -/
def mdF (hr : Nat → Bool) (fi : Nat → Nat → Int32) (n : Nat) (w p : Int32) : Nat → Int32 × Nat
  | 0 => (-1, 0)
  | j + 1 => if mtc hr fi w p (n - 1 - j) && decide ((mdF hr fi n w p j).2 ≤ cntF hr fi w p (fi 4 (n - 1 - j)) n) then (fi 4 (n - 1 - j), cntF hr fi w p (fi 4 (n - 1 - j)) n) else mdF hr fi n w p j
section MD
variable {hr : Nat → Bool} {fi : Nat → Nat → Int32} {n : Nat} {w p : Int32}
theorem mdF_le : ∀ k, (mdF hr fi n w p k).2 ≤ n
  | 0 => Nat.zero_le _
  | k + 1 => by
    rw [mdF]
    split
    · exact cntF_le hr fi w p _ n
    · exact mdF_le k
theorem cnt_mono (f : Int32) (i : Nat) : ∀ k, cntF hr fi w p f i ≤ cntF hr fi w p f (i + k)
  | 0 => Nat.le_refl _
  | k + 1 => by
    have h := cnt_mono f i k
    show cntF hr fi w p f i ≤ cntF hr fi w p f (i + k + 1)
    rw [cntF]
    split <;> omega
theorem cnt_pos {k : Nat} (hk : k < n) (h : mtc hr fi w p k = true) : 0 < cntF hr fi w p (fi 4 k) n := by
  have h1 : cntF hr fi w p (fi 4 k) (k + 1) = cntF hr fi w p (fi 4 k) k + 1 := cntF_yes (by rw [h]; simp)
  have h2 := cnt_mono (hr := hr) (fi := fi) (w := w) (p := p) (fi 4 k) (k + 1) (n - (k + 1))
  rw [show k + 1 + (n - (k + 1)) = n by omega] at h2
  omega
def best (hr : Nat → Bool) (fi : Nat → Nat → Int32) (n : Nat) (w p : Int32) (a b : Nat) (r : Int32 × Nat) : Prop :=
  (r = (-1, 0) ∧ ∀ i, a ≤ i → i < b → mtc hr fi w p i = false) ∨ ∃ t, a ≤ t ∧ t < b ∧ mtc hr fi w p t = true ∧ r = (fi 4 t, cntF hr fi w p (fi 4 t) n) ∧ (∀ i, a ≤ i → i < b → mtc hr fi w p i = true → cntF hr fi w p (fi 4 i) n ≤ cntF hr fi w p (fi 4 t) n) ∧ (∀ i, a ≤ i → i < t → mtc hr fi w p i = true → cntF hr fi w p (fi 4 i) n < cntF hr fi w p (fi 4 t) n)
theorem best_asc : ∀ k, k ≤ n → best hr fi n w p 0 k (mstF hr fi n w p k)
  | 0, _ => Or.inl ⟨rfl, fun i _ h => absurd h (Nat.not_lt_zero i)⟩
  | k + 1, hk => by
    have ih := best_asc k (by omega)
    by_cases hm : mtc hr fi w p k = true
    · rcases ih with ⟨e, h0⟩ | ⟨t, -, h1, h2, e, h3, h4⟩
      · have hp := cnt_pos (n := n) (by omega) hm
        rw [mstF_yes (by rw [hm, e]; simpa using hp)]
        refine Or.inr ⟨k, Nat.zero_le _, by omega, hm, rfl, fun i _ hi hi2 => ?_, fun i _ hi hi2 => ?_⟩
        · by_cases e9 : i = k
          · rw [e9]; exact Nat.le_refl _
          · rw [h0 i (Nat.zero_le _) (by omega)] at hi2; cases hi2
        · rw [h0 i (Nat.zero_le _) hi] at hi2; cases hi2
      · by_cases hc : cntF hr fi w p (fi 4 t) n < cntF hr fi w p (fi 4 k) n
        · rw [mstF_yes (by rw [hm, e]; simpa using hc)]
          refine Or.inr ⟨k, Nat.zero_le _, by omega, hm, rfl, fun i _ hi hi2 => ?_, fun i _ hi hi2 => ?_⟩
          · by_cases e9 : i = k
            · rw [e9]; exact Nat.le_refl _
            · have := h3 i (Nat.zero_le _) (by omega) hi2; omega
          · have := h3 i (Nat.zero_le _) hi hi2; omega
        · rw [mstF_no (by rw [hm, e]; simpa using hc)]
          refine Or.inr ⟨t, Nat.zero_le _, by omega, h2, e, fun i _ hi hi2 => ?_, h4⟩
          by_cases e9 : i = k
          · rw [e9]; omega
          · exact h3 i (Nat.zero_le _) (by omega) hi2
    · have hm : mtc hr fi w p k = false := by simpa using hm
      rw [mstF_no (by rw [hm]; rfl)]
      rcases ih with ⟨e, h0⟩ | ⟨t, -, h1, h2, e, h3, h4⟩
      · refine Or.inl ⟨e, fun i _ hi => ?_⟩
        by_cases e9 : i = k
        · rw [e9]; exact hm
        · exact h0 i (Nat.zero_le _) (by omega)
      · refine Or.inr ⟨t, Nat.zero_le _, by omega, h2, e, fun i _ hi hi2 => ?_, h4⟩
        by_cases e9 : i = k
        · rw [e9, hm] at hi2; cases hi2
        · exact h3 i (Nat.zero_le _) (by omega) hi2
theorem best_desc : ∀ j, j ≤ n → best hr fi n w p (n - j) n (mdF hr fi n w p j)
  | 0, _ => Or.inl ⟨rfl, fun i h1 h2 => by omega⟩
  | j + 1, hj => by
    have ih := best_desc j (by omega)
    obtain ⟨k, hk, e1, e2⟩ : ∃ k, k < n ∧ n - 1 - j = k ∧ n - j = k + 1 := ⟨n - 1 - j, by omega, rfl, by omega⟩
    rw [show n - (j + 1) = k by omega, mdF, e1]
    rw [e2] at ih
    by_cases hm : mtc hr fi w p k = true
    · rcases ih with ⟨e, h0⟩ | ⟨t, h5, h1, h2, e, h3, h4⟩
      · rw [if_pos (by rw [hm, e]; simp)]
        refine Or.inr ⟨k, Nat.le_refl _, hk, hm, rfl, fun i h7 hi hi2 => ?_, fun i h7 hi hi2 => by omega⟩
        by_cases e9 : i = k
        · rw [e9]; exact Nat.le_refl _
        · rw [h0 i (by omega) hi] at hi2; cases hi2
      · by_cases hc : cntF hr fi w p (fi 4 t) n ≤ cntF hr fi w p (fi 4 k) n
        · rw [if_pos (by rw [hm, e]; simpa using hc)]
          refine Or.inr ⟨k, Nat.le_refl _, hk, hm, rfl, fun i h7 hi hi2 => ?_, fun i h7 hi hi2 => by omega⟩
          by_cases e9 : i = k
          · rw [e9]; exact Nat.le_refl _
          · have := h3 i (by omega) hi hi2; omega
        · rw [if_neg (by rw [hm, e]; simpa using hc)]
          refine Or.inr ⟨t, by omega, h1, h2, e, fun i h7 hi hi2 => ?_, fun i h7 hi hi2 => ?_⟩
          · by_cases e9 : i = k
            · rw [e9]; omega
            · exact h3 i (by omega) hi hi2
          · by_cases e9 : i = k
            · rw [e9]; omega
            · exact h4 i (by omega) hi hi2
    · have hm : mtc hr fi w p k = false := by simpa using hm
      rw [if_neg (by rw [hm]; simp)]
      rcases ih with ⟨e, h0⟩ | ⟨t, h5, h1, h2, e, h3, h4⟩
      · refine Or.inl ⟨e, fun i h7 hi => ?_⟩
        by_cases e9 : i = k
        · rw [e9]; exact hm
        · exact h0 i (by omega) hi
      · refine Or.inr ⟨t, by omega, h1, h2, e, fun i h7 hi hi2 => ?_, fun i h7 hi hi2 => ?_⟩
        · by_cases e9 : i = k
          · rw [e9, hm] at hi2; cases hi2
          · exact h3 i (by omega) hi hi2
        · by_cases e9 : i = k
          · rw [e9, hm] at hi2; cases hi2
          · exact h4 i (by omega) hi hi2
theorem best_one {a b : Nat} {r q : Int32 × Nat} (h : best hr fi n w p a b r) (h2 : best hr fi n w p a b q) : r = q := by
  rcases h with ⟨e, h0⟩ | ⟨t, h5, h1, h2', e, h3, h4⟩
  · rcases h2 with ⟨f, -⟩ | ⟨u, g5, g1, g2, f, g3, g4⟩
    · rw [e, f]
    · rw [h0 u g5 g1] at g2; cases g2
  · rcases h2 with ⟨f, f0⟩ | ⟨u, g5, g1, g2, f, g3, g4⟩
    · rw [f0 t h5 h1] at h2'; cases h2'
    · rcases Nat.lt_trichotomy t u with z | z | z
      · have := g4 t h5 z h2'
        have := h3 u g5 g1 g2
        omega
      · rw [e, f, z]
      · have := h4 u g5 z g2
        have := g3 t h5 h1 h2'
        omega
theorem md_mst : (mdF hr fi n w p n).1 = mst hr fi n w p := by
  have h := best_desc (hr := hr) (fi := fi) (w := w) (p := p) n (Nat.le_refl n)
  rw [Nat.sub_self] at h
  rw [mst, best_one h (best_asc n (Nat.le_refl n))]
end MD
/-- a number counted down: -1 behind 0 -/
def km : Nat → Int32
  | 0 => -1
  | k + 1 => nI k
theorem km_sub {n : Nat} : nI n - nI 1 = km n := by
  cases n with
  | zero => decide
  | succ k => rw [pk_sub (by omega)]; rfl
theorem km_dec {n : Nat} : nI n + Int32.ofInt (-1) = km n := by rw [← km_sub, Int32.sub_eq_add_neg, show -(nI 1) = Int32.ofInt (-1) from by decide]
theorem km_lt {n : Nat} (hn : n < 2147483648) : km n < 0 ↔ n = 0 := by
  cases n with
  | zero => exact ⟨fun _ => rfl, fun _ => by decide⟩
  | succ k =>
    show nI k < 0 ↔ k + 1 = 0
    rw [i_lt, nI_toInt (by omega), i_0]
    omega
/-- what a form told most is -/
theorem mst_val {N : Nat → Nat} {A : Nat → Nat → Int32} {B : Nat → Nat → Bool} {L : Nat → Nat → Int64} (hI : inv N A B L) (w p : Int32) : mst (hrS B) (fiS A) (N 1) w p = -1 ∨ ∃ k : Nat, k < 43046721 ∧ mst (hrS B) (fiS A) (N 1) w p = nI k := by
  rcases best_asc (hr := hrS B) (fi := fiS A) (w := w) (p := p) (N 1) (Nat.le_refl _) with ⟨e, -⟩ | ⟨t, -, ht, -, e, -⟩
  · exact Or.inl (by rw [mst, e])
  · obtain ⟨l, hl⟩ := (hI.2.2.1 t ht).2
    obtain ⟨e2, e3⟩ := unF_some hl
    exact Or.inr ⟨num l, num_ok e3, by rw [mst, e]; exact e2⟩
theorem m1_ge : ¬ (0 : Int32) ≤ -1 := by decide
theorem nI_ge0 {k : Nat} (hk : k < 2147483648) : ¬ nI k < 0 := nI_pos hk
/-- a line of the map -/
def lnb (h t : Int32) (k : Nat) : Nat := if h ≠ -1 ∧ t ≠ -1 ∧ h ≠ t then 2 ^ k else 0
theorem or_0 (x : Int32) : x ||| nI 0 = x := by
  apply Int32.toBitVec_inj.1
  rw [Int32.toBitVec_or]
  exact BitVec.or_zero
theorem drw_step (ms : Nat → Int32) {k : Nat} (hk : k < 31) : drwF ms (k + 1) = drwF ms k ||| nI (lnb (ms k) (ms (k + 1)) k) := by
  rw [drwF, lnb, lnc]
  by_cases h : ms k ≠ -1 ∧ ms (k + 1) ≠ -1 ∧ ms k ≠ ms (k + 1)
  · rw [if_pos h, decide_eq_true h.1, decide_eq_true h.2.1, decide_eq_true h.2.2, shl1 hk]
    rfl
  · rw [if_neg h, or_0]
    have e : (decide (ms k ≠ -1) && (decide (ms (k + 1) ≠ -1) && decide (ms k ≠ ms (k + 1)))) = false := by
      rw [← Bool.decide_and, ← Bool.decide_and]
      exact decide_eq_false h
    rw [e]
    rfl
