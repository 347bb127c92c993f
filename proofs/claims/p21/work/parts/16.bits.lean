theorem wb_tb (n : Nat) : (lN n).toBitVec = BitVec.ofNat 64 n := rfl
theorem wb_inj {a b : Int64} (h : a.toBitVec = b.toBitVec) : a = b := Int64.toBitVec_inj.mp h
theorem wb_tn {n : Nat} (h : n < 2 ^ 64) : (lN n).toBitVec.toNat = n := by rw [wb_tb, BitVec.toNat_ofNat, Nat.mod_eq_of_lt h]
theorem wb_c : ∀ k, k < 64 → ((nI k).toInt64 &&& 63) = lN k := by decide +kernel
theorem wb_cu : ∀ k, k < 64 → ((nI k).toInt64.toUInt64 &&& Int64.toUInt64 63) = UInt64.ofNat k := by decide +kernel
theorem wb_sm : ∀ k, k < 64 → (BitVec.ofNat 64 k).smod 64 = BitVec.ofNat 64 k := by decide +kernel
theorem wb_shl (n : Nat) {k : Nat} (hk : k < 64) : lN n <<< ((nI k).toInt64 &&& 63) = lN (n * 2 ^ k) := by
  rw [wb_c k hk]
  apply wb_inj
  rw [Int64.toBitVec_shiftLeft, wb_tb, wb_tb, wb_tb, wb_sm k hk]
  apply BitVec.eq_of_toNat_eq
  rw [BitVec.shiftLeft_eq', BitVec.toNat_shiftLeft, BitVec.toNat_ofNat, BitVec.toNat_ofNat, BitVec.toNat_ofNat, Nat.mod_eq_of_lt (show k < 2 ^ 64 by omega), Nat.shiftLeft_eq, Nat.mul_mod, Nat.mod_mod, ← Nat.mul_mod]
theorem pf_lI {a : Nat} (h : a < 2 ^ 63) : (lN a).toInt = (a : Int) := lg_ofNat_toInt h
theorem pf_shr {a d : Nat} {D : Int64} (hD : (D.toBitVec.smod 64).toNat = d) (h : a < 2 ^ 62) : lN a >>> D = lN (a / 2 ^ d) := by
  have hd : a / 2 ^ d ≤ a := Nat.div_le_self _ _
  apply Int64.toInt_inj.mp
  have e : (lN a >>> D).toInt = (lN a).toInt >>> d := by
    rw [← hD]
    exact BitVec.toInt_sshiftRight ..
  rw [e, Int.shiftRight_eq_div_pow, pf_lI (by omega), pf_lI (by omega)]
  rfl
theorem pf_ushr {a d : Nat} {D : UInt64} (hD : D.toNat % 64 = d) (h : a < 2 ^ 62) : ((lN a).toUInt64 >>> D).toInt64 = lN (a / 2 ^ d) := by
  have hd : a / 2 ^ d ≤ a := Nat.div_le_self _ _
  have e : (lN a).toUInt64 >>> D = UInt64.ofNat (a / 2 ^ d) := UInt64.toNat_inj.mp (by
    rw [UInt64.toNat_shiftRight, hD, Nat.shiftRight_eq_div_pow, UInt64.toNat_ofNat']
    show (UInt64.ofNat a).toNat / 2 ^ d = _
    rw [UInt64.toNat_ofNat', Nat.mod_eq_of_lt (by omega), Nat.mod_eq_of_lt (by omega)])
  rw [e]
  rfl
theorem fb_andL (a b : Nat) : lN a &&& lN b = lN (a &&& b) := by
  apply Int64.toBitVec_inj.1
  show BitVec.ofNat 64 a &&& BitVec.ofNat 64 b = BitVec.ofNat 64 (a &&& b)
  apply BitVec.eq_of_getLsbD_eq
  intro i hi
  simp [hi]
theorem fb_orL (a b : Nat) : lN a ||| lN b = lN (a ||| b) := by
  apply Int64.toBitVec_inj.1
  show BitVec.ofNat 64 a ||| BitVec.ofNat 64 b = BitVec.ofNat 64 (a ||| b)
  apply BitVec.eq_of_getLsbD_eq
  intro i hi
  simp [hi]
theorem fb_xorL (a b : Nat) : lN a ^^^ lN b = lN (a ^^^ b) := by
  apply Int64.toBitVec_inj.1
  show BitVec.ofNat 64 a ^^^ BitVec.ofNat 64 b = BitVec.ofNat 64 (a ^^^ b)
  apply BitVec.eq_of_getLsbD_eq
  intro i hi
  simp [hi]
theorem fb_lN_inj {a b : Nat} (ha : a < 2 ^ 63) (hb : b < 2 ^ 63) : lN a = lN b ↔ a = b := by
  constructor
  · intro h
    have h1 : (BitVec.ofNat 64 a).toNat = (BitVec.ofNat 64 b).toNat := congrArg (fun x : Int64 => x.toBitVec.toNat) h
    rw [BitVec.toNat_ofNat, BitVec.toNat_ofNat, Nat.mod_eq_of_lt (by omega), Nat.mod_eq_of_lt (by omega)] at h1
    exact h1
  · rintro rfl; rfl
theorem fb_bit_nat (n j : Nat) : n &&& 2 ^ j = 0 ↔ n.testBit j = false := by
  constructor
  · intro h
    have h1 : (n &&& 2 ^ j).testBit j = false := by rw [h]; simp
    rw [Nat.testBit_and] at h1
    simpa using h1
  · intro h
    apply Nat.eq_of_testBit_eq
    intro i
    rw [Nat.testBit_and]
    by_cases hi : j = i
    · subst hi; simp [h]
    · first | (simp [Nat.testBit_two_pow, hi]; done) | (simp [Nat.testBit_two_pow_of_ne hi]; done)
theorem fb_bitL {n j : Nat} (hj : j < 63) : lN n &&& lN (2 ^ j) = 0 ↔ n.testBit j = false := by
  have h2 : (2 : Nat) ^ j < 2 ^ 63 := Nat.pow_lt_pow_right (by decide) hj
  have hle : n &&& 2 ^ j ≤ 2 ^ j := Nat.and_le_right
  rw [fb_andL, ← fb_bit_nat, show (0 : Int64) = lN 0 from rfl]
  exact fb_lN_inj (by omega) (by decide)
theorem fb_bit_set (n j i : Nat) : (n ||| 2 ^ j).testBit i = (n.testBit i || decide (i = j)) := by
  rw [Nat.testBit_or]
  by_cases h : j = i
  · subst h; simp
  · have h2 : ¬ i = j := fun e => h e.symm
    first | (simp [Nat.testBit_two_pow, h, h2]; done) | (simp [Nat.testBit_two_pow_of_ne h, h2]; done)
theorem fa_and (a b : Nat) : nI a &&& nI b = nI (a &&& b) := by
  apply Int32.toBitVec_inj.1
  show BitVec.ofNat 32 a &&& BitVec.ofNat 32 b = BitVec.ofNat 32 (a &&& b)
  apply BitVec.eq_of_getLsbD_eq
  intro i hi
  simp [hi]
/-! the number of bits, byte by byte -/
def mapB (f : Nat → Nat) : Nat → Nat → Nat
  | 0, _ => 0
  | n + 1, N => f (N % 256) + 256 * mapB f n (N / 256)
def maskB (m : Nat) : Nat → Nat
  | 0 => 0
  | n + 1 => m + 256 * maskB m n
theorem mapB_id : ∀ (n N : Nat), N < 256 ^ n → mapB (fun a => a) n N = N
  | 0, N, h => by rw [Nat.pow_zero] at h; simp only [mapB]; omega
  | n + 1, N, h => by
    have h2 := mapB_id n (N / 256) (by rw [Nat.pow_succ] at h; exact Nat.div_lt_of_lt_mul (by rw [Nat.mul_comm]; exact h))
    simp only [mapB, h2]
    omega
theorem mapB_add (f h : Nat → Nat) : ∀ (n N : Nat), mapB f n N + mapB h n N = mapB (fun a => f a + h a) n N
  | 0, N => rfl
  | n + 1, N => by
    have h2 := mapB_add f h n (N / 256)
    simp only [mapB, ← h2]
    omega
theorem mapB_congr {f h : Nat → Nat} (e : ∀ a, a < 256 → f a = h a) : ∀ (n N : Nat), mapB f n N = mapB h n N
  | 0, N => rfl
  | n + 1, N => by rw [mapB, mapB, mapB_congr e n, e _ (Nat.mod_lt _ (by decide))]
theorem mapB_comp {f h : Nat → Nat} (e : ∀ a, a < 256 → h a < 256) : ∀ (n N : Nat), mapB f n (mapB h n N) = mapB (fun a => f (h a)) n N
  | 0, N => rfl
  | n + 1, N => by
    have h2 := e (N % 256) (Nat.mod_lt _ (by decide))
    have e1 : mapB h (n + 1) N % 256 = h (N % 256) := by rw [mapB]; omega
    have e2 : mapB h (n + 1) N / 256 = mapB h n (N / 256) := by rw [mapB]; omega
    rw [mapB, e1, e2, mapB_comp e n]
    rfl
theorem mapB_lt {f : Nat → Nat} (e : ∀ a, a < 256 → f a < 256) : ∀ (n N : Nat), mapB f n N < 256 ^ n
  | 0, N => by simp [mapB]
  | n + 1, N => by
    have h1 := mapB_lt e n (N / 256)
    have h2 := e (N % 256) (Nat.mod_lt _ (by decide))
    rw [mapB, Nat.pow_succ]
    omega
theorem and_byte (X m M : Nat) (hm : m < 256) : X &&& (m + 256 * M) = (X % 256 &&& m) + 256 * (X / 256 &&& M) := by
  have e1 : (X &&& (m + 256 * M)) % 256 = X % 256 &&& m := by
    have := Nat.and_mod_two_pow (a := X) (b := m + 256 * M) (n := 8)
    rw [show (2 : Nat) ^ 8 = 256 from rfl] at this
    rw [this, show (m + 256 * M) % 256 = m by omega]
  have e2 : (X &&& (m + 256 * M)) / 256 = X / 256 &&& M := by
    have := Nat.and_div_two_pow (a := X) (b := m + 256 * M) (n := 8)
    rw [show (2 : Nat) ^ 8 = 256 from rfl] at this
    rw [this, show (m + 256 * M) / 256 = M by omega]
  omega
theorem and_shr (s m : Nat) (hm : m < 256) (key : ∀ a, a < 256 → ∀ v, v < 256 → ((a + 256 * v) / 2 ^ s) % 256 &&& m = a / 2 ^ s &&& m) (hs : s ≤ 8) : ∀ (n N : Nat), (N / 2 ^ s) &&& maskB m n = mapB (fun a => a / 2 ^ s &&& m) n N
  | 0, N => by simp [maskB, mapB]
  | n + 1, N => by
    have h2 := and_shr s m hm key hs n (N / 256)
    rw [maskB, and_byte _ _ _ hm, mapB, ← h2, Nat.div_div_eq_div_mul, Nat.div_div_eq_div_mul, Nat.mul_comm (2 ^ s) 256]
    congr 1
    rw [← key (N % 256) (Nat.mod_lt _ (by decide)) (N / 256 % 256) (Nat.mod_lt _ (by decide))]
    congr 1
    have e : N = (N % 256 + 256 * (N / 256 % 256)) + 65536 * (N / 65536) := by omega
    have e3 : 65536 * (N / 65536) = 2 ^ s * (2 ^ (8 - s) * (256 * (N / 65536))) := by
      rw [← Nat.mul_assoc, ← Nat.pow_add, show s + (8 - s) = 8 by omega]
      omega
    conv => lhs; rw [e, e3, Nat.add_mul_div_left _ _ (Nat.pow_pos (by decide))]
    rw [show 2 ^ (8 - s) * (256 * (N / 65536)) = 256 * (2 ^ (8 - s) * (N / 65536)) by rw [Nat.mul_left_comm], Nat.add_mul_mod_self_left]
theorem k1 : ∀ a, a < 256 → ∀ v, v < 2 → ((a + 256 * v) / 2 ^ 1) % 256 &&& 85 = a / 2 ^ 1 &&& 85 := by decide +kernel
theorem k2 : ∀ a, a < 256 → ∀ v, v < 4 → ((a + 256 * v) / 2 ^ 2) % 256 &&& 51 = a / 2 ^ 2 &&& 51 := by decide +kernel
theorem k0 : ∀ a, a < 256 → a &&& 51 = a / 2 ^ 0 &&& 51 := by decide +kernel
def b1 (a : Nat) : Nat := a - (a / 2 ^ 1 &&& 85)
def b2 (a : Nat) : Nat := (b1 a / 2 ^ 0 &&& 51) + (b1 a / 2 ^ 2 &&& 51)
def b3 (a : Nat) : Nat := (b2 a + b2 a / 16) % 16
def pop8 (a : Nat) : Nat := a % 2 + a / 2 % 2 + a / 4 % 2 + a / 8 % 2 + a / 16 % 2 + a / 32 % 2 + a / 64 % 2 + a / 128 % 2
theorem b1_lt : ∀ a, a < 256 → b1 a < 256 ∧ (a / 2 ^ 1 &&& 85) ≤ a := by decide +kernel
theorem b2_lt : ∀ a, a < 256 → b2 a < 256 ∧ b2 a % 16 ≤ 4 ∧ b2 a / 16 ≤ 4 := by decide +kernel
theorem b3_pop : ∀ a, a < 256 → b3 a = pop8 a := by decide +kernel
theorem swar1 {n N : Nat} (h : N < 256 ^ n) : N - (N / 2 ^ 1 &&& maskB 85 n) = mapB b1 n N := by
  rw [and_shr 1 85 (by decide) (fun a ha v _ => by rw [← k1 a ha (v % 2) (Nat.mod_lt _ (by decide))]; congr 1; omega) (by decide)]
  have e := mapB_add b1 (fun a => a / 2 ^ 1 &&& 85) n N
  rw [mapB_congr (f := fun a => b1 a + (a / 2 ^ 1 &&& 85)) (h := fun a => a) (fun a ha => by have := (b1_lt a ha).2; simp only [b1]; omega) n N, mapB_id n N h] at e
  omega
theorem and_0 (m n N : Nat) (hm : m < 256) : N &&& maskB m n = mapB (fun a => a / 2 ^ 0 &&& m) n N := by
  have := and_shr 0 m hm (fun a ha v _ => by rw [Nat.pow_zero, Nat.div_one, Nat.div_one]; congr 1; omega) (by decide) n N
  rwa [Nat.pow_zero, Nat.div_one] at this
theorem swar2 {n N : Nat} : (mapB b1 n N &&& maskB 51 n) + (mapB b1 n N / 2 ^ 2 &&& maskB 51 n) = mapB b2 n N := by
  rw [and_0 51 n _ (by decide), and_shr 2 51 (by decide) (fun a ha v _ => by rw [← k2 a ha (v % 4) (Nat.mod_lt _ (by decide))]; congr 1; omega) (by decide), mapB_add, mapB_comp (fun a ha => (b1_lt a ha).1)]
  rfl
theorem swar3 : ∀ (n N : Nat), (mapB b2 n N + mapB b2 n N / 16) &&& maskB 15 n = mapB b3 n N ∧ mapB b2 n N % 16 ≤ 4
  | 0, N => by simp [mapB, maskB]
  | n + 1, N => by
    obtain ⟨h1, h2⟩ := swar3 n (N / 256)
    obtain ⟨g1, g2, g3⟩ := b2_lt (N % 256) (Nat.mod_lt _ (by decide))
    have e : mapB b2 (n + 1) N = b2 (N % 256) + 256 * mapB b2 n (N / 256) := rfl
    refine ⟨?_, by omega⟩
    rw [maskB, and_byte _ _ _ (by decide), show mapB b3 (n + 1) N = b3 (N % 256) + 256 * mapB b3 n (N / 256) from rfl, ← h1, e]
    congr 1
    · have := Nat.and_two_pow_sub_one_eq_mod ((b2 (N % 256) + 256 * mapB b2 n (N / 256) + (b2 (N % 256) + 256 * mapB b2 n (N / 256)) / 16) % 256) 4
      rw [show (2 : Nat) ^ 4 - 1 = 15 from rfl, show (2 : Nat) ^ 4 = 16 from rfl] at this
      rw [this, b3]
      omega
    · congr 2
      omega
/-- bits 0 .. k-1 of a number, counted -/
def bcS (N : Nat) : Nat → Nat
  | 0 => 0
  | k + 1 => bcS N k + N / 2 ^ k % 2
def bc (N : Nat) : Nat := bcS N 40
theorem bcS_le (N : Nat) : ∀ k, bcS N k ≤ k
  | 0 => Nat.le_refl _
  | k + 1 => by
    have := bcS_le N k
    rw [bcS]
    omega
theorem bcS_8 (N k : Nat) : bcS N (k + 8) = bcS N k + pop8 (N / 2 ^ k % 256) := by
  have e (i : Nat) : N / 2 ^ (k + i) = N / 2 ^ k / 2 ^ i := by rw [Nat.pow_add, Nat.div_div_eq_div_mul]
  have h0 : bcS N (k + 8) = bcS N k + N / 2 ^ k % 2 + N / 2 ^ (k + 1) % 2 + N / 2 ^ (k + 2) % 2 + N / 2 ^ (k + 3) % 2 + N / 2 ^ (k + 4) % 2 + N / 2 ^ (k + 5) % 2 + N / 2 ^ (k + 6) % 2 + N / 2 ^ (k + 7) % 2 := rfl
  rw [h0, e 1, e 2, e 3, e 4, e 5, e 6, e 7]
  generalize N / 2 ^ k = M
  unfold pop8
  omega
theorem bc_pop (N : Nat) : bc N = pop8 (N % 256) + (pop8 (N / 256 % 256) + (pop8 (N / 65536 % 256) + (pop8 (N / 16777216 % 256) + pop8 (N / 4294967296 % 256)))) := by
  have h0 := bcS_8 N 0
  have h1 := bcS_8 N 8
  have h2 := bcS_8 N 16
  have h3 := bcS_8 N 24
  have h4 := bcS_8 N 32
  have z : bcS N 0 = 0 := rfl
  rw [show N / 2 ^ 0 = N from Nat.div_one N] at h0
  rw [show (2 : Nat) ^ 8 = 256 from rfl] at h1
  rw [show (2 : Nat) ^ 16 = 65536 from rfl] at h2
  rw [show (2 : Nat) ^ 24 = 16777216 from rfl] at h3
  rw [show (2 : Nat) ^ 32 = 4294967296 from rfl] at h4
  rw [bc, show (40 : Nat) = 32 + 8 from rfl, h4, show (32 : Nat) = 24 + 8 from rfl, h3, show (24 : Nat) = 16 + 8 from rfl, h2, show (16 : Nat) = 8 + 8 from rfl, h1, show (8 : Nat) = 0 + 8 from rfl, h0, z, Nat.zero_add]
  simp only [Nat.add_assoc]
theorem pop8_le (a : Nat) : pop8 a ≤ 8 := by
  unfold pop8
  omega
theorem mapB3_8 (N : Nat) (h : N < 1099511627776) : mapB b3 8 N = pop8 (N % 256) + 256 * (pop8 (N / 256 % 256) + 256 * (pop8 (N / 65536 % 256) + 256 * (pop8 (N / 16777216 % 256) + 256 * pop8 (N / 4294967296 % 256)))) := by
  rw [mapB_congr b3_pop]
  simp only [mapB]
  have e1 : N / 256 / 256 = N / 65536 := by omega
  have e2 : N / 65536 / 256 = N / 16777216 := by omega
  have e3 : N / 16777216 / 256 = N / 4294967296 := by omega
  have e4 : N / 4294967296 / 256 = 0 := by omega
  have z : pop8 0 = 0 := rfl
  simp only [e1, e2, e3, e4, Nat.zero_div, Nat.zero_mod, z]
  omega
theorem swar_end (N : Nat) (h : N < 1099511627776) {m : Nat} (e : m = mapB b3 8 N) : ((m + m / 2 ^ 8) + (m + m / 2 ^ 8) / 2 ^ 16 + ((m + m / 2 ^ 8) + (m + m / 2 ^ 8) / 2 ^ 16) / 2 ^ 32) % 128 = bc N := by
  rw [mapB3_8 N h] at e
  rw [bc_pop]
  have h0 := pop8_le (N % 256)
  have h1 := pop8_le (N / 256 % 256)
  have h2 := pop8_le (N / 65536 % 256)
  have h3 := pop8_le (N / 16777216 % 256)
  have h4 := pop8_le (N / 4294967296 % 256)
  generalize pop8 (N % 256) = c0 at *
  generalize pop8 (N / 256 % 256) = c1 at *
  generalize pop8 (N / 65536 % 256) = c2 at *
  generalize pop8 (N / 16777216 % 256) = c3 at *
  generalize pop8 (N / 4294967296 % 256) = c4 at *
  have e8 : m / 2 ^ 8 = c1 + 256 * (c2 + 256 * (c3 + 256 * c4)) := by omega
  generalize hA : m + m / 2 ^ 8 = A
  have hA2 : A = (c0 + c1) + 256 * ((c1 + c2) + 256 * ((c2 + c3) + 256 * ((c3 + c4) + 256 * c4))) := by omega
  have e16 : A / 2 ^ 16 = (c2 + c3) + 256 * ((c3 + c4) + 256 * c4) := by omega
  generalize hB : A + A / 2 ^ 16 = B
  have hB2 : B = (c0 + c1 + c2 + c3) + 256 * ((c1 + c2 + c3 + c4) + 256 * ((c2 + c3 + c4) + 256 * ((c3 + c4) + 256 * c4))) := by omega
  have e32 : B / 2 ^ 32 = c4 := by omega
  omega
theorem swar {N : Nat} (h : N < 1099511627776) {m1 m2 m3 : Nat} (e1 : m1 = N - (N / 2 ^ 1 &&& 6148914691236517205)) (e2 : m2 = (m1 &&& 3689348814741910323) + (m1 / 2 ^ 2 &&& 3689348814741910323)) (e3 : m3 = (m2 + m2 / 2 ^ 4) &&& 1085102592571150095) : m1 = mapB b1 8 N ∧ m2 = mapB b2 8 N ∧ m3 = mapB b3 8 N := by
  have a1 : m1 = mapB b1 8 N := by rw [e1, ← swar1 (n := 8) (by omega)]; rfl
  have a2 : m2 = mapB b2 8 N := by rw [e2, a1, ← swar2]; rfl
  have a3 : m3 = mapB b3 8 N := by rw [e3, a2, ← (swar3 8 N).1]; rfl
  exact ⟨a1, a2, a3⟩
theorem u_sh {a d : Nat} (hd : d < 64) (ha : a < 4611686018427387904) : ((lN a).toUInt64 >>> ((nI d).toInt64.toUInt64 &&& Int64.toUInt64 63)).toInt64 = lN (a / 2 ^ d) := pf_ushr (by rw [wb_cu d hd, UInt64.toNat_ofNat']; omega) (by omega)
theorem s_sh {a d : Nat} (hd : d < 64) (ha : a < 4611686018427387904) : lN a >>> ((nI d).toInt64 &&& 63) = lN (a / 2 ^ d) := pf_shr (by rw [wb_c d hd, wb_tb, wb_sm d hd, BitVec.toNat_ofNat]; omega) (by omega)
set_option maxHeartbeats 4000000 in
set_option maxRecDepth 100000 in
theorem c_bitCount (l : Launch) (g : q_G) (ws : va_W) (N : Nat) (hN : N < 1099511627776) : MetW l g yJ13_bitCount_95d88 cJ13_bitCount_95d88 2 (some .int) ({ frames := 0, cells := 0, slots := 0, locals := 0 } : Room) [.long (lN N)] (ws) (q_Qi g (fun r w => r = nI (bc N) ∧ w = ws)) := by
  refine q_met (own := RJ13) (by decide +kernel) rfl (Nat.le_of_ble_eq_true rfl) (fun p e s m args below meth c cx hr hnm => ?_)
  obtain ⟨m1, e1⟩ : ∃ m, m = N - (N / 2 ^ 1 &&& 6148914691236517205) := ⟨_, rfl⟩
  obtain ⟨m2, e2⟩ : ∃ m, m = (m1 &&& 3689348814741910323) + (m1 / 2 ^ 2 &&& 3689348814741910323) := ⟨_, rfl⟩
  obtain ⟨m3, e3⟩ : ∃ m, m = (m2 + m2 / 2 ^ 4) &&& 1085102592571150095 := ⟨_, rfl⟩
  obtain ⟨hm1, hm2, hm3⟩ := swar hN e1 e2 e3
  have hl1 : m1 ≤ N := by omega
  have hl2 : m2 ≤ 2 * m1 := by have h1 := Nat.and_le_left (n := m1) (m := 3689348814741910323); have h2 := Nat.and_le_left (n := m1 / 2 ^ 2) (m := 3689348814741910323); omega
  have hl3 : m3 ≤ 2 * m2 := by have h1 := Nat.and_le_left (n := m2 + m2 / 2 ^ 4) (m := 1085102592571150095); omega
  refine r_lv (lv2 := [(0, .long (lN N))]) (q_pk [0] rfl) ?_
  refine r_lload_n cx dJ13_bitCount_95d88_0 rfl rfl ?_
  refine r_lload_n cx dJ13_bitCount_95d88_1 rfl rfl ?_
  refine r_iconst (v := nI 1) cx dJ13_bitCount_95d88_2 (by decide) ?_
  refine r_lushr (v := lN (N / 2 ^ 1)) cx dJ13_bitCount_95d88_3 (u_sh (by decide) (by omega)) ?_
  refine r_ldc2 cx dJ13_bitCount_95d88_4 tb_319 ?_
  refine r_land cx dJ13_bitCount_95d88_7 ?_
  refine r_lsub cx dJ13_bitCount_95d88_8 ?_
  refine r_eql (y := lN m1) (by rw [show (6148914691236517205 : Int64) = lN 6148914691236517205 from rfl, fb_andL, lN_sub (Nat.le_trans (Nat.and_le_left) (Nat.div_le_self _ _)), ← e1]) ?_
  refine r_lstore_n cx dJ13_bitCount_95d88_9 rfl (by decide) rfl ?_
  refine r_lload_n cx dJ13_bitCount_95d88_10 rfl rfl ?_
  refine r_ldc2 cx dJ13_bitCount_95d88_11 tb_320 ?_
  refine r_land cx dJ13_bitCount_95d88_14 ?_
  refine r_lload_n cx dJ13_bitCount_95d88_15 rfl rfl ?_
  refine r_iconst (v := nI 2) cx dJ13_bitCount_95d88_16 (by decide) ?_
  refine r_lushr (v := lN (m1 / 2 ^ 2)) cx dJ13_bitCount_95d88_17 (u_sh (by decide) (by omega)) ?_
  refine r_ldc2 cx dJ13_bitCount_95d88_18 tb_320 ?_
  refine r_land cx dJ13_bitCount_95d88_21 ?_
  refine r_ladd cx dJ13_bitCount_95d88_22 ?_
  refine r_eql (y := lN m2) (by rw [show (3689348814741910323 : Int64) = lN 3689348814741910323 from rfl, fb_andL, fb_andL, lN_add, ← e2]) ?_
  refine r_lstore_n cx dJ13_bitCount_95d88_23 rfl (by decide) rfl ?_
  refine r_lload_n cx dJ13_bitCount_95d88_24 rfl rfl ?_
  refine r_lload_n cx dJ13_bitCount_95d88_25 rfl rfl ?_
  refine r_iconst (v := nI 4) cx dJ13_bitCount_95d88_26 (by decide) ?_
  refine r_lushr (v := lN (m2 / 2 ^ 4)) cx dJ13_bitCount_95d88_27 (u_sh (by decide) (by omega)) ?_
  refine r_ladd cx dJ13_bitCount_95d88_28 ?_
  refine r_ldc2 cx dJ13_bitCount_95d88_29 tb_321 ?_
  refine r_land cx dJ13_bitCount_95d88_32 ?_
  refine r_eql (y := lN m3) (by rw [show (1085102592571150095 : Int64) = lN 1085102592571150095 from rfl, lN_add, fb_andL, ← e3]) ?_
  refine r_lstore_n cx dJ13_bitCount_95d88_33 rfl (by decide) rfl ?_
  refine r_lload_n cx dJ13_bitCount_95d88_34 rfl rfl ?_
  refine r_lload_n cx dJ13_bitCount_95d88_35 rfl rfl ?_
  refine r_bipush (v := nI 8) cx dJ13_bitCount_95d88_36 (by decide) ?_
  refine r_lushr (v := lN (m3 / 2 ^ 8)) cx dJ13_bitCount_95d88_38 (u_sh (by decide) (by omega)) ?_
  refine r_ladd cx dJ13_bitCount_95d88_39 ?_
  rw [lN_add]
  refine r_lstore_n cx dJ13_bitCount_95d88_40 rfl (by decide) rfl ?_
  refine r_lload_n cx dJ13_bitCount_95d88_41 rfl rfl ?_
  refine r_lload_n cx dJ13_bitCount_95d88_42 rfl rfl ?_
  refine r_bipush (v := nI 16) cx dJ13_bitCount_95d88_43 (by decide) ?_
  refine r_lushr (v := lN ((m3 + m3 / 2 ^ 8) / 2 ^ 16)) cx dJ13_bitCount_95d88_45 (u_sh (by decide) (by omega)) ?_
  refine r_ladd cx dJ13_bitCount_95d88_46 ?_
  rw [lN_add]
  refine r_lstore_n cx dJ13_bitCount_95d88_47 rfl (by decide) rfl ?_
  refine r_lload_n cx dJ13_bitCount_95d88_48 rfl rfl ?_
  refine r_lload_n cx dJ13_bitCount_95d88_49 rfl rfl ?_
  refine r_bipush (v := nI 32) cx dJ13_bitCount_95d88_50 (by decide) ?_
  refine r_lushr (v := lN (((m3 + m3 / 2 ^ 8) + (m3 + m3 / 2 ^ 8) / 2 ^ 16) / 2 ^ 32)) cx dJ13_bitCount_95d88_52 (u_sh (by decide) (by omega)) ?_
  refine r_ladd cx dJ13_bitCount_95d88_53 ?_
  rw [lN_add]
  refine r_lstore_n cx dJ13_bitCount_95d88_54 rfl (by decide) rfl ?_
  refine r_lload_n cx dJ13_bitCount_95d88_55 rfl rfl ?_
  refine r_l2i (v := nI ((m3 + m3 / 2 ^ 8) + (m3 + m3 / 2 ^ 8) / 2 ^ 16 + ((m3 + m3 / 2 ^ 8) + (m3 + m3 / 2 ^ 8) / 2 ^ 16) / 2 ^ 32)) cx dJ13_bitCount_95d88_56 (lN_i _) ?_
  refine r_bipush (v := nI 127) cx dJ13_bitCount_95d88_57 (by decide) ?_
  refine r_iand cx dJ13_bitCount_95d88_59 ?_
  refine r_eqi (y := nI (bc N)) (by rw [fa_and, show (127 : Nat) = 2 ^ 7 - 1 from rfl, Nat.and_two_pow_sub_one_eq_mod, show (2 : Nat) ^ 7 = 128 from rfl, swar_end N hN hm3]) ?_
  exact r_iret cx dJ13_bitCount_95d88_60 hr (⟨rfl, rfl⟩) (Nat.le_of_ble_eq_true rfl) (Nat.le_of_ble_eq_true rfl)
