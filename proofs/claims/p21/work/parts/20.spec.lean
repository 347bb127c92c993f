/-! the state that class and reference share: N counts (draft, interviews, rules, quotes), A rows of ints (draft, informant, place, year, word, told, root, from, to, behind, first, last, since, quote), B gone and fallen, L rests and copies -/
def thS (go : Nat → Bool) : Nat → Nat
  | 0 => 0
  | k + 1 => thS go k ||| (if go k then 0 else 2 ^ k)
def fgS (go : Nat → Bool) (inf : Nat → Int32) (who : Int32) : Nat → Nat
  | 0 => 0
  | k + 1 => if !go k && decide (inf k = who) then fgS go inf who k ||| 2 ^ k else fgS go inf who k
theorem p2_bit (k i : Nat) : (2 ^ k).testBit i = decide (k = i) := Nat.testBit_two_pow
theorem thS_bit (go : Nat → Bool) (n i : Nat) : (thS go n).testBit i = (decide (i < n) && !go i) := by
  induction n with
  | zero => simp [thS]
  | succ k ih =>
    rw [thS, Nat.testBit_or, ih]
    by_cases h : k = i
    · subst h
      cases hg : go k <;> simp
    · have e : (decide (i < k + 1)) = decide (i < k) := decide_eq_decide.mpr (by omega)
      cases hg : go k <;> simp [e, h, p2_bit]
theorem fgS_bit (go : Nat → Bool) (inf : Nat → Int32) (who : Int32) (n i : Nat) : (fgS go inf who n).testBit i = (decide (i < n) && (!go i && decide (inf i = who))) := by
  induction n with
  | zero => simp [fgS]
  | succ k ih =>
    rw [fgS]
    by_cases h : k = i
    · subst h
      cases hg : (!go k && decide (inf k = who)) <;> simp [ih, hg]
    · have e : (decide (i < k + 1)) = decide (i < k) := decide_eq_decide.mpr (by omega)
      split <;> simp [ih, e, h, p2_bit]
theorem lt40 {x n : Nat} (hn : n ≤ 40) (h : ∀ i, n ≤ i → x.testBit i = false) : x < 1099511627776 := by
  have := Nat.lt_pow_two_of_testBit (n := 40) x (fun i hi => h i (by omega))
  simpa using this
theorem thS_lt {go : Nat → Bool} {n : Nat} (hn : n ≤ 40) : thS go n < 1099511627776 := lt40 hn (fun i hi => by rw [thS_bit, decide_eq_false (by omega)]; rfl)
theorem fgS_lt {go : Nat → Bool} {inf : Nat → Int32} {who : Int32} {n : Nat} (hn : n ≤ 40) : fgS go inf who n < 1099511627776 := lt40 hn (fun i hi => by rw [fgS_bit, decide_eq_false (by omega)]; rfl)
theorem thS_cong {go go2 : Nat → Bool} : ∀ {n : Nat}, (∀ i, i < n → go i = go2 i) → thS go n = thS go2 n
  | 0, _ => rfl
  | k + 1, h => by rw [thS, thS, thS_cong (fun i hi => h i (by omega)), h k (by omega)]
theorem hasB_bit {T i : Nat} (hi : i < 63) : hasB (lN T) (lN (2 ^ i)) = T.testBit i := by
  rw [hasB]
  cases h : T.testBit i with
  | false => rw [decide_eq_true ((fb_bitL hi).mpr h)]; rfl
  | true => rw [decide_eq_false (fun z => by rw [(fb_bitL hi).mp z] at h; cases h)]; rfl
/-- a set without the bits of another one -/
theorem andn_bv (X Y : BitVec 64) : X &&& (Y ^^^ BitVec.allOnes 64) = X ^^^ (X &&& Y) := by
  apply BitVec.eq_of_getLsbD_eq
  intro i hi
  rw [BitVec.getLsbD_and, BitVec.getLsbD_xor, BitVec.getLsbD_xor, BitVec.getLsbD_and, BitVec.getLsbD_allOnes, decide_eq_true hi]
  cases X.getLsbD i <;> cases Y.getLsbD i <;> rfl
theorem andn (a b : Nat) : lN a &&& (lN b ^^^ (-1)) = lN (a ^^^ (a &&& b)) := by
  rw [← fb_xorL, ← fb_andL]
  apply Int64.toBitVec_inj.1
  have e : (-1 : Int64).toBitVec = BitVec.allOnes 64 := by decide
  rw [Int64.toBitVec_and, Int64.toBitVec_xor, Int64.toBitVec_xor, Int64.toBitVec_and, e]
  exact andn_bv _ _
theorem andn_bit (a b i : Nat) : (a ^^^ (a &&& b)).testBit i = (a.testBit i && !b.testBit i) := by
  rw [Nat.testBit_xor, Nat.testBit_and]
  cases a.testBit i <;> cases b.testBit i <;> rfl
theorem sub40 {a b : Nat} (ha : a < 1099511627776) (h : ∀ i, b.testBit i = true → a.testBit i = true) : b < 1099511627776 := by
  have := Nat.lt_pow_two_of_testBit (n := 40) b (fun i hi => by
    cases e : b.testBit i with
    | false => rfl
    | true =>
      have h2 := h i e
      rw [Nat.testBit_lt_two_pow (Nat.lt_of_lt_of_le ha (show 2 ^ 40 ≤ 2 ^ i from Nat.pow_le_pow_right (by decide) hi))] at h2
      cases h2)
  simpa using this
theorem andn_lt {a b : Nat} (ha : a < 1099511627776) : a ^^^ (a &&& b) < 1099511627776 := sub40 ha (fun i h => by rw [andn_bit] at h; simp only [Bool.and_eq_true] at h; exact h.1)
theorem and_lt40 {a b : Nat} (ha : a < 1099511627776) : a &&& b < 1099511627776 := Nat.lt_of_le_of_lt Nat.and_le_left ha
theorem or_lt40 {a b : Nat} (ha : a < 1099511627776) (hb : b < 1099511627776) : a ||| b < 1099511627776 := by
  have := Nat.or_lt_two_pow (n := 40) (by simpa using ha) (by simpa using hb)
  simpa using this
theorem p2_lt {k : Nat} (h : k < 40) : 2 ^ k < 1099511627776 := by
  have := Nat.pow_lt_pow_right (a := 2) (by decide) h
  simpa using this
def bcL (x : Int64) : Nat := bc x.toBitVec.toNat
theorem bcL_lN {n : Nat} (h : n < 1099511627776) : bcL (lN n) = bc n := by rw [bcL, wb_tn (by omega)]
def c32 (x : Int32) : Nat := x.toNatClampNeg
theorem c32_nI {n : Nat} (h : n < 2147483648) : c32 (nI n) = n := nI_clamp h
def drL (d : Nat → Int32) (k : Nat) : List Nat := (List.range k).map (fun i => c32 (d i))
theorem drL_len (d : Nat → Int32) (k : Nat) : (drL d k).length = k := by simp [drL]
theorem drL_succ (d : Nat → Int32) (k : Nat) : drL d (k + 1) = drL d k ++ [c32 (d k)] := by simp [drL, List.range_succ]
theorem drL_cong {d d2 : Nat → Int32} {k : Nat} (h : ∀ i, i < k → d i = d2 i) : drL d k = drL d2 k := List.map_congr_left (fun i hi => by rw [h i (List.mem_range.mp hi)])
theorem drL_snd {d : Nat → Int32} {k : Nat} (h : ∀ i, i < k → c32 (d i) < 8) : snd (drL d k) := fun x hx => by
  obtain ⟨i, hi, rfl⟩ := List.mem_map.mp hx
  exact h i (List.mem_range.mp hi)
def okL (l : List Nat) : Prop := snd l ∧ l.length ≤ 8 ∧ l ≠ []
noncomputable def unF (x : Int32) : Option (List Nat) := @dite _ (∃ l : List Nat, x = nI (num l) ∧ okL l) (Classical.propDecidable _) (fun h => some (Classical.choose h)) (fun _ => none)
theorem unF_some {x : Int32} {l : List Nat} (h : unF x = some l) : x = nI (num l) ∧ okL l := by
  unfold unF at h
  split at h
  · rename_i hh
    have e : Classical.choose hh = l := Option.some.inj h
    rw [← e]
    exact Classical.choose_spec hh
  · cases h
theorem unF_of {l : List Nat} (h : okL l) : ∃ l2, unF (nI (num l)) = some l2 := by
  unfold unF
  split
  · exact ⟨_, rfl⟩
  · rename_i hh
    exact absurd ⟨l, rfl, h⟩ hh
theorem num_ok {l : List Nat} (h : okL l) : num l < 43046721 := num_bd h.1 h.2.1
theorem unF_m1 : unF (-1) = none := by
  unfold unF
  split
  · rename_i hh
    obtain ⟨l, h1, h2⟩ := hh
    exact absurd h1.symm (nI_nm1 (by have := num_ok h2; omega))
  · rfl
theorem roI_unF {l : List Nat} (h : okL l) : roI (unF (nI (num l))) = nI (num l) := by
  obtain ⟨l2, e⟩ := unF_of h
  rw [e]
  exact (unF_some e).1.symm
theorem drL_ok {d : Nat → Int32} {k : Nat} (hk : k ≤ 8) (h0 : k ≠ 0) (h : ∀ i, i < k → c32 (d i) < 8) : okL (drL d k) := ⟨drL_snd h, by rw [drL_len]; exact hk, fun z => h0 (by rw [← drL_len d k, z]; rfl)⟩
abbrev fiS (A : Nat → Nat → Int32) : Nat → Nat → Int32 := fun k i => A (k + 1) i
abbrev rlS (A : Nat → Nat → Int32) : Nat → Nat → Int32 := fun k r => A (k + 10) r
abbrev hrS (B : Nat → Nat → Bool) : Nat → Bool := fun i => !B 0 i
def soF (A : Nat → Nat → Int32) (r : Nat) : Nat := c32 (A 7 r)
def beF (A : Nat → Nat → Int32) (r : Nat) : Nat := c32 (A 9 r)
def toF (A : Nat → Nat → Int32) (r : Nat) : Option Nat := if A 8 r = -1 then none else some (c32 (A 8 r))
/-- what holds of the shared state -/
def inv (N : Nat → Nat) (A : Nat → Nat → Int32) (B : Nat → Nat → Bool) (L : Nat → Nat → Int64) : Prop :=
  (N 0 ≤ 8 ∧ N 1 ≤ 40 ∧ N 2 ≤ 20 ∧ N 3 ≤ 20) ∧ (∀ k, k < N 0 → c32 (A 0 k) < 8 ∧ A 0 k = nI (c32 (A 0 k))) ∧
  (∀ i, i < N 1 → (c32 (A 4 i) < 4 ∧ A 4 i = nI (c32 (A 4 i))) ∧ ∃ l, unF (A 5 i) = some l) ∧ (∀ i, N 1 ≤ i → B 0 i = false) ∧
  (∀ w, w < 4 → roI (unF (A 6 w)) = A 6 w) ∧
  (∀ r, r < N 2 → soF A r < 8 ∧ A 7 r = nI (soF A r) ∧ beF A r < 10 ∧ A 9 r = nI (beF A r) ∧ A 8 r = toI (toF A r) ∧ ∀ t, toF A r = some t → t < 8) ∧
  (∀ r, N 2 ≤ r → L 0 r = 0 ∧ B 1 r = false) ∧ (∀ r, B 1 r = true → L 0 r = 0) ∧ (∀ r, ∃ G, G < 1099511627776 ∧ L 0 r = lN G) ∧ (∀ s, s < 3 → ∃ K, K < 1099511627776 ∧ L 1 s = lN K) ∧
  (∀ k, k < N 3 → c32 (A 13 k) < N 1 ∧ A 13 k = nI (c32 (A 13 k)))
/-- what the class holds, beside its cells -/
def cF (g : q_G) (N : Nat → Nat) (A : Nat → Nat → Int32) (B : Nat → Nat → Bool) (L : Nat → Nat → Int64) (el ia ra : Nat → Nat) (th : Int64) (dr dl : Int32) (ro kl : Nat → Int32) (kn : Nat → Int64) (P : List Nat) (f : Nat → va_E) : Prop :=
  (th = lN (thS (B 0) (N 1)) ∧ dr = nI (num (drL (A 0) (N 0))) ∧ dl = nI (N 0)) ∧ (∀ w, w < 4 → ro w = A 6 w) ∧ (∀ w, w < 4 → kl w = drw (hrS B) (fiS A) (N 1) (nI w)) ∧ (∀ s, s < 3 → kn s = L 1 s) ∧
  (∀ i, i < N 1 → ia i ∈ P ∧ f (ia i) = oI (lN (2 ^ i)) (A 1 i) (A 2 i) (A 3 i) (A 4 i) (A 5 i)) ∧
  (∀ r, r < N 2 → ra r ∈ P ∧ f (ra r) = oR (A 7 r) (A 8 r) (A 9 r) (A 10 r) (A 11 r) (A 12 r) (L 0 r) (B 1 r)) ∧ (∀ r r2, r < N 2 → r2 < N 2 → ra r = ra r2 → r = r2) ∧
  laS g (el 0) (N 1) ia P f ∧ laS g (el 1) (N 2) ra P f ∧ laS g (el 2) (N 3) (fun k => ia (c32 (A 13 k))) P f ∧
  (0 < N 1 → 0 < N 2 → el 0 ≠ el 1) ∧ (0 < N 1 → 0 < N 3 → el 0 ≠ el 2) ∧ (0 < N 2 → 0 < N 3 → el 1 ≠ el 2)
def cR (g : q_G) (a0 : Nat) (N : Nat → Nat) (A : Nat → Nat → Int32) (B : Nat → Nat → Bool) (L : Nat → Nat → Int64) (wm ws : va_W) : Prop :=
  ∃ (ad : Nat → Nat) (mc : Nat → Int32) (el ia ra : Nat → Nat) (th : Int64) (dr dl : Int32) (ro kl : Nat → Int32) (kn : Nat → Int64) (row : Nat → Int32) (P : List Nat) (f : Nat → va_E),
    a0 = ad 8 ∧ ws = iF g ad mc el (fun k => N (k + 1)) th dr dl ro kl kn row ++ (wm ++ va_pl P f) ∧ cF g N A B L el ia ra th dr dl ro kl kn P f
theorem las_lsV {g : q_G} {el n li ql : Nat} {mc : Int32} {a : Nat → Nat} {P : List Nat} {f : Nat → va_E} {X : va_W} (h : laS g el n a P f) (hn : n ≤ 40) (hq : (X ++ va_pl P f)[ql]? = some (li, .inr (0, [.int mc, .ref el, .int (nI n)]))) : lsV g (X ++ va_pl P f) li n a := by
  refine ⟨ql, mc, el, hq, by omega, ?_⟩
  rcases h with ⟨h1, -⟩ | ⟨h0, cap, hh, h1, h2, h3, h4, h5, h6⟩
  · exact Or.inl h1
  · obtain ⟨k, hk⟩ := pl_getX (X := X) h1 h2
    exact Or.inr ⟨k, cap, hh, hk, h3, by omega, h6⟩
theorem cF_iv {g : q_G} {N : Nat → Nat} {A : Nat → Nat → Int32} {B : Nat → Nat → Bool} {L : Nat → Nat → Int64} {ad el ia ra : Nat → Nat} {mc : Nat → Int32} {th : Int64} {dr dl : Int32} {ro kl : Nat → Int32} {kn : Nat → Int64} {row : Nat → Int32} {P : List Nat} {f : Nat → va_E} {wm : va_W} (hI : inv N A B L) (h : cF g N A B L el ia ra th dr dl ro kl kn P f) : ivV g (iF g ad mc el (fun k => N (k + 1)) th dr dl ro kl kn row ++ (wm ++ va_pl P f)) (ad 8) (ad 7) th (N 1) ia (fun i => lN (2 ^ i)) (fiS A) := by
  obtain ⟨-, -, -, -, h5, -, -, h8, -⟩ := h
  refine ⟨⟨8, _, _, _, _, _, _, _, _, rfl⟩, ?_, hI.1.2.1, fun i hi => ?_⟩
  · rw [← List.append_assoc]
    refine las_lsV (ql := 7) (mc := mc 0) h8 hI.1.2.1 ?_
    rw [List.append_assoc]
    rfl
  · obtain ⟨k, hk⟩ := pl_getX (X := iF g ad mc el (fun k => N (k + 1)) th dr dl ro kl kn row ++ wm) (h5 i hi).1 (h5 i hi).2
    rw [List.append_assoc] at hk
    exact ⟨k, hk⟩
theorem cF_rl {g : q_G} {N : Nat → Nat} {A : Nat → Nat → Int32} {B : Nat → Nat → Bool} {L : Nat → Nat → Int64} {ad el ia ra : Nat → Nat} {mc : Nat → Int32} {th : Int64} {dr dl : Int32} {ro kl : Nat → Int32} {kn : Nat → Int64} {row : Nat → Int32} {P : List Nat} {f : Nat → va_E} {wm : va_W} (hI : inv N A B L) (h : cF g N A B L el ia ra th dr dl ro kl kn P f) : rlV g (iF g ad mc el (fun k => N (k + 1)) th dr dl ro kl kn row ++ (wm ++ va_pl P f)) (ad 8) (ad 6) (N 2) ra (soF A) (beF A) (toF A) (rlS A) (L 0) (B 1) := by
  obtain ⟨-, -, -, -, -, h6, -, -, h9, -⟩ := h
  obtain ⟨i1, -, -, -, -, i6, -⟩ := hI
  refine ⟨⟨8, _, _, _, _, _, _, _, _, _, rfl⟩, ?_, i1.2.2.1, fun r hr => ⟨(i6 r hr).1, (i6 r hr).2.2.1, (i6 r hr).2.2.2.2.2⟩, fun r hr => ?_⟩
  · rw [← List.append_assoc]
    refine las_lsV (ql := 6) (mc := mc 1) h9 (by omega) ?_
    rw [List.append_assoc]
    rfl
  · obtain ⟨k, hk⟩ := pl_getX (X := iF g ad mc el (fun k => N (k + 1)) th dr dl ro kl kn row ++ wm) (h6 r hr).1 (h6 r hr).2
    rw [List.append_assoc] at hk
    refine ⟨k, ?_⟩
    obtain ⟨-, e1, -, e2, e3, -⟩ := i6 r hr
    rw [← e1, ← e2, ← e3]
    exact hk
theorem cF_qu {g : q_G} {N : Nat → Nat} {A : Nat → Nat → Int32} {B : Nat → Nat → Bool} {L : Nat → Nat → Int64} {ad el ia ra : Nat → Nat} {mc : Nat → Int32} {th : Int64} {dr dl : Int32} {ro kl : Nat → Int32} {kn : Nat → Int64} {row : Nat → Int32} {P : List Nat} {f : Nat → va_E} {wm : va_W} (hI : inv N A B L) (h : cF g N A B L el ia ra th dr dl ro kl kn P f) : lsV g (iF g ad mc el (fun k => N (k + 1)) th dr dl ro kl kn row ++ (wm ++ va_pl P f)) (ad 5) (N 3) (fun k => ia (c32 (A 13 k))) := by
  obtain ⟨-, -, -, -, -, -, -, -, -, h10, -⟩ := h
  have i1 := hI.1
  rw [← List.append_assoc]
  refine las_lsV (ql := 5) (mc := mc 2) h10 (by omega) ?_
  rw [List.append_assoc]
  rfl
theorem cntF_cong {hr hr2 : Nat → Bool} {fi fi2 : Nat → Nat → Int32} {w p f : Int32} : ∀ {n : Nat}, (∀ i, i < n → mtc hr fi w p i = mtc hr2 fi2 w p i ∧ (mtc hr fi w p i = true → fi 4 i = fi2 4 i)) → cntF hr fi w p f n = cntF hr2 fi2 w p f n
  | 0, _ => rfl
  | k + 1, h => by
    have h1 := h k (by omega)
    rw [cntF, cntF, cntF_cong (fun i hi => h i (by omega)), h1.1]
    cases hm : mtc hr2 fi2 w p k with
    | false => rfl
    | true => rw [h1.2 (h1.1.trans hm)]
theorem mstF_cong {hr hr2 : Nat → Bool} {fi fi2 : Nat → Nat → Int32} {n : Nat} {w p : Int32} (h : ∀ i, i < n → mtc hr fi w p i = mtc hr2 fi2 w p i ∧ (mtc hr fi w p i = true → fi 4 i = fi2 4 i)) : ∀ k, k ≤ n → mstF hr fi n w p k = mstF hr2 fi2 n w p k
  | 0, _ => rfl
  | k + 1, hk => by
    have h1 := h k (by omega)
    rw [mstF, mstF, mstF_cong h k (by omega), h1.1]
    cases hm : mtc hr2 fi2 w p k with
    | false => rfl
    | true =>
      rw [h1.2 (h1.1.trans hm), cntF_cong h]
theorem mst_cong {hr hr2 : Nat → Bool} {fi fi2 : Nat → Nat → Int32} {n : Nat} {w p : Int32} (h : ∀ i, i < n → mtc hr fi w p i = mtc hr2 fi2 w p i ∧ (mtc hr fi w p i = true → fi 4 i = fi2 4 i)) : mst hr fi n w p = mst hr2 fi2 n w p := by rw [mst, mst, mstF_cong h n (Nat.le_refl n)]
theorem drw_cong {hr hr2 : Nat → Bool} {fi fi2 : Nat → Nat → Int32} {n : Nat} {w : Int32} (h : ∀ p i, i < n → mtc hr fi w p i = mtc hr2 fi2 w p i ∧ (mtc hr fi w p i = true → fi 4 i = fi2 4 i)) : drw hr fi n w = drw hr2 fi2 n w := by
  unfold drw
  congr 1
  funext k
  exact mst_cong (h (nI k))
theorem hr_th {B : Nat → Nat → Bool} {n i : Nat} (hn : n ≤ 40) (hi : i < n) : hasB (lN (thS (B 0) n)) (lN (2 ^ i)) = !B 0 i := by
  rw [hasB_bit (by omega), thS_bit, decide_eq_true hi]
  rfl
theorem mtc_hr {hr hr2 : Nat → Bool} {fi : Nat → Nat → Int32} {w p : Int32} {i : Nat} (h : hr i = hr2 i) : mtc hr fi w p i = mtc hr2 fi w p i ∧ (mtc hr fi w p i = true → fi 4 i = fi 4 i) := ⟨by rw [mtc, mtc, h], fun _ => rfl⟩
theorem drw_th {A : Nat → Nat → Int32} {B : Nat → Nat → Bool} {n : Nat} {w : Int32} (hn : n ≤ 40) : drw (fun i => hasB (lN (thS (B 0) n)) (lN (2 ^ i))) (fiS A) n w = drw (hrS B) (fiS A) n w := drw_cong (fun p i hi => mtc_hr (hr_th hn hi))
theorem mst_th {A : Nat → Nat → Int32} {B : Nat → Nat → Bool} {n : Nat} {w p : Int32} (hn : n ≤ 40) : mst (fun i => hasB (lN (thS (B 0) n)) (lN (2 ^ i))) (fiS A) n w p = mst (hrS B) (fiS A) n w p := mst_cong (fun i hi => mtc_hr (hr_th hn hi))
theorem ivo_fg {A : Nat → Nat → Int32} {B : Nat → Nat → Bool} {n : Nat} {who : Int32} (hn : n ≤ 40) : ∀ k, k ≤ n → ivoF (lN (thS (B 0) n)) (fun i => lN (2 ^ i)) (fiS A) who k = lN (fgS (B 0) (A 1) who k)
  | 0, _ => rfl
  | k + 1, hk => by
    rw [ivoF, fgS, ivo_fg hn k (by omega), hr_th hn (by omega), fb_orL]
    split <;> rfl
