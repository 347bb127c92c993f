/-! numbers in a range, texts of forms, how a rule changes a form -/
def inR (x : Int32) (n : Nat) : Bool := decide (0 ≤ x.toInt ∧ x.toInt < n)
theorem i_lt (a b : Int32) : a < b ↔ a.toInt < b.toInt := Int32.lt_iff_toInt_lt
theorem i_le (a b : Int32) : a ≤ b ↔ a.toInt ≤ b.toInt := Int32.le_iff_toInt_le
theorem i_eq (a b : Int32) : a = b ↔ a.toInt = b.toInt := Int32.toInt_inj.symm
theorem i_0 : (0 : Int32).toInt = 0 := rfl
theorem inR_f1 {x : Int32} {n : Nat} (h : x < 0) : inR x n = false := by
  rw [i_lt, i_0] at h
  simp only [inR, decide_eq_false_iff_not]
  omega
theorem inR_f2 {x : Int32} {n : Nat} (hn : n < 2147483648) (h : ¬ x < nI n) : inR x n = false := by
  rw [i_lt, nI_toInt hn] at h
  simp only [inR, decide_eq_false_iff_not]
  omega
theorem inR_t {x : Int32} {n : Nat} (hn : n < 2147483648) (h : ¬ x < 0) (h2 : x < nI n) : inR x n = true := by
  rw [i_lt, nI_toInt hn] at h2
  rw [i_lt, i_0] at h
  simp only [inR, decide_eq_true_eq]
  omega
theorem inR_of {x : Int32} {n : Nat} (h : inR x n = true) (hn : n ≤ 2147483648) : ∃ j : Nat, j < n ∧ x = nI j := by
  simp only [inR, decide_eq_true_eq] at h
  refine ⟨x.toInt.toNat, by omega, ?_⟩
  rw [i_eq, nI_toInt (by omega)]
  omega
theorem inR_nI {j n : Nat} (hj : j < 2147483648) : inR (nI j) n = decide (j < n) := by
  simp only [inR, nI_toInt hj]
  by_cases h : j < n
  · rw [decide_eq_true h, decide_eq_true (by omega)]
  · rw [decide_eq_false h, decide_eq_false (by omega)]
theorem inR_mono {x : Int32} {n k : Nat} (h : inR x n = true) (hk : n ≤ k) : inR x k = true := by
  simp only [inR, decide_eq_true_eq] at h ⊢
  omega
theorem inR_10a {x : Int32} (h : x = nI 8) : inR x 10 = true := by subst h; decide
theorem inR_10b {x : Int32} (h : x = nI 9) : inR x 10 = true := by subst h; decide
theorem inR_10c {x : Int32} (h8 : ¬ x = nI 8) (h9 : ¬ x = nI 9) : inR x 10 = inR x 8 := by
  rw [i_eq, nI_toInt (by decide)] at h8 h9
  simp only [inR]
  by_cases h : 0 ≤ x.toInt ∧ x.toInt < (8 : Nat)
  · rw [decide_eq_true h, decide_eq_true (by omega)]
  · rw [decide_eq_false h, decide_eq_false (by omega)]
/-- a bit of a set -/
def hasB (t b : Int64) : Bool := !decide (t &&& b = 0)
theorem lcmp_z (x y : Int64) : lg_cmp x y = 0 ↔ x = y := by
  unfold lg_cmp
  split
  · rename_i h
    constructor
    · intro z; exact absurd z (by decide)
    · intro z; subst z; exact absurd h (by simp [Int64.lt_iff_toInt_lt])
  · split
    · rename_i h1 h2
      simp_all
    · rename_i h1 h2
      constructor
      · intro z; exact absurd z (by decide)
      · intro z; subst z; exact absurd rfl h2
theorem hasB_f {t b : Int64} (h : lg_cmp (t &&& b) 0 = 0) : hasB t b = false := by rw [hasB, decide_eq_true ((lcmp_z _ _).mp h)]; rfl
theorem hasB_t {t b : Int64} (h : ¬ lg_cmp (t &&& b) 0 = 0) : hasB t b = true := by rw [hasB, decide_eq_false (fun z => h ((lcmp_z _ _).mpr z))]; rfl
/-- the objects' cells -/
def oI (bt : Int64) (i p y w f : Int32) : va_E := .inr (1, [.long bt, .int i, .int p, .int y, .int w, .int f])
def oR (s t b f l y : Int32) (gr : Int64) (fa : Bool) : va_E := .inr (2, [.int s, .int t, .int b, .int f, .int l, .int y, .long gr, .int (bI fa)])
/-- the number of a form -/
def num (l : List Nat) : Nat := l.foldl (fun a s => 9 * a + s + 1) 0
theorem num_nil : num [] = 0 := rfl
theorem num_snoc (l : List Nat) (s : Nat) : num (l ++ [s]) = 9 * num l + s + 1 := by simp [num, List.foldl_append]
theorem num_fold (a : Nat) (l : List Nat) : l.foldl (fun a s => 9 * a + s + 1) a = a * 9 ^ l.length + num l := by
  induction l generalizing a with
  | nil => simp [num]
  | cons x xs ih =>
    have e : num (x :: xs) = (9 * 0 + x + 1) * 9 ^ xs.length + num xs := by rw [← ih]; rfl
    rw [List.foldl_cons, ih, e, List.length_cons, Nat.pow_succ]
    simp only [Nat.mul_zero, Nat.zero_add, Nat.add_mul, Nat.one_mul]
    have : 9 * a * 9 ^ xs.length = a * (9 ^ xs.length * 9) := by rw [Nat.mul_comm 9 a, Nat.mul_assoc, Nat.mul_comm 9]
    omega
theorem num_cons (x : Nat) (l : List Nat) : num (x :: l) = (x + 1) * 9 ^ l.length + num l := by
  rw [num, List.foldl_cons, num_fold]
  simp
theorem num_app (a b : List Nat) : num (a ++ b) = num a * 9 ^ b.length + num b := by rw [num, List.foldl_append, ← num, num_fold]
/-- a row of sounds -/
def snd (l : List Nat) : Prop := ∀ x ∈ l, x < 8
theorem snd_nil : snd [] := fun _ h => by cases h
theorem snd_cons {x : Nat} {l : List Nat} : snd (x :: l) ↔ x < 8 ∧ snd l := by simp [snd]
theorem snd_app {a b : List Nat} : snd (a ++ b) ↔ snd a ∧ snd b := by
  simp only [snd, List.mem_append]
  exact ⟨fun h => ⟨fun x hx => h x (Or.inl hx), fun x hx => h x (Or.inr hx)⟩, fun h x hx => hx.elim (h.1 x) (h.2 x)⟩
theorem num_lt (l : List Nat) (h : snd l) : num l < 9 ^ l.length := by
  induction l with
  | nil => simp [num]
  | cons x xs ih =>
    have h1 := ih (snd_cons.mp h).2
    have h2 : (x + 1) * 9 ^ xs.length ≤ 8 * 9 ^ xs.length := Nat.mul_le_mul_right _ (by have := (snd_cons.mp h).1; omega)
    rw [num_cons, List.length_cons, Nat.pow_succ]
    omega
theorem p9 {n : Nat} (h : n ≤ 8) : 9 ^ n ≤ 43046721 := Nat.pow_le_pow_right (n := 9) (by decide) h
theorem num_bd {l : List Nat} (h : snd l) (hl : l.length ≤ 8) : num l < 43046721 := Nat.lt_of_lt_of_le (num_lt l h) (p9 hl)
theorem num_pos {l : List Nat} (h : l ≠ []) : 0 < num l := by
  cases l with
  | nil => exact absurd rfl h
  | cons x xs =>
    rw [num_cons]
    have : 0 < 9 ^ xs.length := Nat.pow_pos (by decide)
    have : 1 * 9 ^ xs.length ≤ (x + 1) * 9 ^ xs.length := Nat.mul_le_mul_right _ (by omega)
    omega
theorem num_zero {l : List Nat} : num l = 0 ↔ l = [] := ⟨fun h => Classical.byContradiction fun z => by have := num_pos z; omega, fun h => by rw [h]; rfl⟩
/-- what stands behind, in a rest of a form -/
def fol (l : List Nat) : Nat := l.headD 8
def chg (so : Nat) (be : Nat) (x f : Nat) : Bool := decide (x = so) && (decide (be = 9) || decide (be = f))
def pce (so : Nat) (to : Option Nat) (be : Nat) (x f : Nat) : List Nat := if chg so be x f then to.toList else [x]
def apL (so : Nat) (to : Option Nat) (be : Nat) : List Nat → List Nat
  | [] => []
  | x :: xs => pce so to be x (fol xs) ++ apL so to be xs
def apR (so : Nat) (to : Option Nat) (be : Nat) (l : List Nat) : List Nat := if apL so to be l = [] then l else apL so to be l
theorem apL_len (so : Nat) (to : Option Nat) (be : Nat) (l : List Nat) : (apL so to be l).length ≤ l.length := by
  induction l with
  | nil => exact Nat.le_refl _
  | cons x xs ih =>
    have : (pce so to be x (fol xs)).length ≤ 1 := by
      unfold pce
      split
      · cases to <;> simp
      · simp
    simp only [apL, List.length_append, List.length_cons]
    omega
theorem apL_snd {so : Nat} {to : Option Nat} {be : Nat} {l : List Nat} (ht : ∀ t, to = some t → t < 8) (h : snd l) : snd (apL so to be l) := by
  induction l with
  | nil => exact snd_nil
  | cons x xs ih =>
    have h2 := snd_cons.mp h
    refine snd_app.mpr ⟨?_, ih h2.2⟩
    unfold pce
    split
    · cases to with
      | none => exact snd_nil
      | some t => exact snd_cons.mpr ⟨ht t rfl, snd_nil⟩
    · exact snd_cons.mpr ⟨h2.1, snd_nil⟩
theorem apR_len (so : Nat) (to : Option Nat) (be : Nat) (l : List Nat) : (apR so to be l).length ≤ l.length := by
  unfold apR
  split
  · exact Nat.le_refl _
  · exact apL_len so to be l
theorem apR_snd {so : Nat} {to : Option Nat} {be : Nat} {l : List Nat} (ht : ∀ t, to = some t → t < 8) (h : snd l) : snd (apR so to be l) := by
  unfold apR
  split
  · exact h
  · exact apL_snd ht h
theorem apR_ne {so : Nat} {to : Option Nat} {be : Nat} {l : List Nat} (h : l ≠ []) : apR so to be l ≠ [] := by
  unfold apR
  split
  · exact h
  · assumption
def toI : Option Nat → Int32
  | none => -1
  | some t => nI t
theorem nI_inj {a b : Nat} (ha : a < 2147483648) (hb : b < 2147483648) : nI a = nI b ↔ a = b := nI_eq ha hb
theorem nI_nm1 {a : Nat} (ha : a < 2147483648) : nI a ≠ -1 := by
  rw [Ne, i_eq, nI_toInt ha]
  have : (-1 : Int32).toInt = -1 := rfl
  omega
