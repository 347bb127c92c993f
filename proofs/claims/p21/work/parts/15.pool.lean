/-- what a world shows of the interviews -/
def ivV (g : q_G) (ws : va_W) (a0 aI : Nat) (th : Int64) (n : Nat) (ia : Nat → Nat) (bt : Nat → Int64) (fi : Nat → Nat → Int32) : Prop :=
  (∃ (q0 : Nat) (r1 r2 r3 r4 r5 r6 : Value) (dr dl : Int32), ws[q0]? = some (a0, .inr (4, [.ref aI, r1, r2, r3, r4, r5, r6, .long th, .int dr, .int dl]))) ∧ lsV g ws aI n ia ∧ n ≤ 40 ∧ ∀ i, i < n → ∃ qi : Nat, ws[qi]? = some (ia i, oI (bt i) (fi 0 i) (fi 1 i) (fi 2 i) (fi 3 i) (fi 4 i))
/-- what a world shows of the rules -/
def rlV (g : q_G) (ws : va_W) (a0 aR : Nat) (rn : Nat) (ra : Nat → Nat) (so be : Nat → Nat) (to : Nat → Option Nat) (rl : Nat → Nat → Int32) (gr : Nat → Int64) (fa : Nat → Bool) : Prop :=
  (∃ (q0 : Nat) (r0 r2 r3 r4 r5 r6 : Value) (th : Int64) (dr dl : Int32), ws[q0]? = some (a0, .inr (4, [r0, .ref aR, r2, r3, r4, r5, r6, .long th, .int dr, .int dl]))) ∧ lsV g ws aR rn ra ∧ rn ≤ 20 ∧ (∀ r, r < rn → so r < 8 ∧ be r < 10 ∧ ∀ t, to r = some t → t < 8) ∧ ∀ r, r < rn → ∃ q : Nat, ws[q]? = some (ra r, oR (nI (so r)) (toI (to r)) (nI (be r)) (rl 0 r) (rl 1 r) (rl 2 r) (gr r) (fa r))
def mtc (hr : Nat → Bool) (fi : Nat → Nat → Int32) (w p : Int32) (k : Nat) : Bool := hr k && (decide (fi 3 k = w) && decide (fi 1 k = p))
def cntF (hr : Nat → Bool) (fi : Nat → Nat → Int32) (w p f : Int32) : Nat → Nat
  | 0 => 0
  | k + 1 => if mtc hr fi w p k && decide (fi 4 k = f) then cntF hr fi w p f k + 1 else cntF hr fi w p f k
theorem cntF_no {hr : Nat → Bool} {fi : Nat → Nat → Int32} {w p f : Int32} {k : Nat} (h : (mtc hr fi w p k && decide (fi 4 k = f)) = false) : cntF hr fi w p f (k + 1) = cntF hr fi w p f k := by rw [cntF, h]; rfl
theorem cntF_yes {hr : Nat → Bool} {fi : Nat → Nat → Int32} {w p f : Int32} {k : Nat} (h : (mtc hr fi w p k && decide (fi 4 k = f)) = true) : cntF hr fi w p f (k + 1) = cntF hr fi w p f k + 1 := by rw [cntF, h]; rfl
theorem cntF_le (hr : Nat → Bool) (fi : Nat → Nat → Int32) (w p f : Int32) : ∀ k, cntF hr fi w p f k ≤ k
  | 0 => Nat.le_refl _
  | k + 1 => by
    have h := cntF_le hr fi w p f k
    rw [cntF]
    split <;> omega
/-- the form told most, and by how many, over the first k interviews -/
def mstF (hr : Nat → Bool) (fi : Nat → Nat → Int32) (n : Nat) (w p : Int32) : Nat → Int32 × Nat
  | 0 => (-1, 0)
  | k + 1 => if mtc hr fi w p k && decide ((mstF hr fi n w p k).2 < cntF hr fi w p (fi 4 k) n) then (fi 4 k, cntF hr fi w p (fi 4 k) n) else mstF hr fi n w p k
theorem mstF_no {hr : Nat → Bool} {fi : Nat → Nat → Int32} {n : Nat} {w p : Int32} {k : Nat} (h : (mtc hr fi w p k && decide ((mstF hr fi n w p k).2 < cntF hr fi w p (fi 4 k) n)) = false) : mstF hr fi n w p (k + 1) = mstF hr fi n w p k := by rw [mstF, h]; rfl
theorem mstF_yes {hr : Nat → Bool} {fi : Nat → Nat → Int32} {n : Nat} {w p : Int32} {k : Nat} (h : (mtc hr fi w p k && decide ((mstF hr fi n w p k).2 < cntF hr fi w p (fi 4 k) n)) = true) : mstF hr fi n w p (k + 1) = (fi 4 k, cntF hr fi w p (fi 4 k) n) := by rw [mstF, h]; rfl
theorem mstF_le (hr : Nat → Bool) (fi : Nat → Nat → Int32) (n : Nat) (w p : Int32) : ∀ k, (mstF hr fi n w p k).2 ≤ n
  | 0 => Nat.zero_le _
  | k + 1 => by
    rw [mstF]
    split
    · exact cntF_le hr fi w p _ n
    · exact mstF_le hr fi n w p k
def mst (hr : Nat → Bool) (fi : Nat → Nat → Int32) (n : Nat) (w p : Int32) : Int32 := (mstF hr fi n w p n).1
def lnc (ms : Nat → Int32) (k : Nat) : Bool := decide (ms k ≠ -1) && (decide (ms (k + 1) ≠ -1) && decide (ms k ≠ ms (k + 1)))
def drwF (ms : Nat → Int32) : Nat → Int32
  | 0 => 0
  | k + 1 => if lnc ms k then drwF ms k ||| (nI 1 <<< (nI k &&& 31)) else drwF ms k
theorem drwF_no {ms : Nat → Int32} {k : Nat} (h : lnc ms k = false) : drwF ms (k + 1) = drwF ms k := by rw [drwF, h]; rfl
theorem drwF_yes {ms : Nat → Int32} {k : Nat} (h : lnc ms k = true) : drwF ms (k + 1) = drwF ms k ||| (nI 1 <<< (nI k &&& 31)) := by rw [drwF, h]; rfl
def drw (hr : Nat → Bool) (fi : Nat → Nat → Int32) (n : Nat) (w : Int32) : Int32 := drwF (fun k => mst hr fi n w (nI k)) 9
def ivoF (th : Int64) (bt : Nat → Int64) (fi : Nat → Nat → Int32) (who : Int32) : Nat → Int64
  | 0 => 0
  | k + 1 => if hasB th (bt k) && decide (fi 0 k = who) then ivoF th bt fi who k ||| bt k else ivoF th bt fi who k
theorem ivoF_no {th : Int64} {bt : Nat → Int64} {fi : Nat → Nat → Int32} {who : Int32} {k : Nat} (h : (hasB th (bt k) && decide (fi 0 k = who)) = false) : ivoF th bt fi who (k + 1) = ivoF th bt fi who k := by rw [ivoF, h]; rfl
theorem ivoF_yes {th : Int64} {bt : Nat → Int64} {fi : Nat → Nat → Int32} {who : Int32} {k : Nat} (h : (hasB th (bt k) && decide (fi 0 k = who)) = true) : ivoF th bt fi who (k + 1) = ivoF th bt fi who k ||| bt k := by rw [ivoF, h]; rfl
def goF (rl : Nat → Nat → Int32) (fa : Nat → Bool) (p y : Int32) (r : Nat) : Bool := !fa r && decide (rl 0 r ≤ p) && decide (p ≤ rl 1 r) && decide (rl 2 r ≤ y)
def expF (gs : Nat → Bool) (so be : Nat → Nat) (to : Nat → Option Nat) (l : List Nat) : Nat → List Nat
  | 0 => l
  | k + 1 => if gs k then apR (so k) (to k) (be k) (expF gs so be to l k) else expF gs so be to l k
theorem expF_no {gs : Nat → Bool} {so be : Nat → Nat} {to : Nat → Option Nat} {l : List Nat} {k : Nat} (h : gs k = false) : expF gs so be to l (k + 1) = expF gs so be to l k := by rw [expF, h]; rfl
theorem expF_yes {gs : Nat → Bool} {so be : Nat → Nat} {to : Nat → Option Nat} {l : List Nat} {k : Nat} (h : gs k = true) : expF gs so be to l (k + 1) = apR (so k) (to k) (be k) (expF gs so be to l k) := by rw [expF, h]; rfl
theorem expF_ok {gs : Nat → Bool} {so be : Nat → Nat} {to : Nat → Option Nat} {l : List Nat} {n : Nat} (hto : ∀ r, r < n → ∀ t, to r = some t → t < 8) (hl : snd l) (hn : l.length ≤ 8) : ∀ k, k ≤ n → snd (expF gs so be to l k) ∧ (expF gs so be to l k).length ≤ 8
  | 0, _ => ⟨hl, hn⟩
  | k + 1, hk => by
    have h := expF_ok (gs := gs) (so := so) (be := be) hto hl hn k (by omega)
    rw [expF]
    split
    · exact ⟨apR_snd (hto k (by omega)) h.1, Nat.le_trans (apR_len _ _ _ _) h.2⟩
    · exact h
theorem expF_ne {gs : Nat → Bool} {so be : Nat → Nat} {to : Nat → Option Nat} {l : List Nat} (h : l ≠ []) : ∀ k, expF gs so be to l k ≠ []
  | 0 => h
  | k + 1 => by
    rw [expF]
    split
    · exact apR_ne (expF_ne h k)
    · exact expF_ne h k
def roI : Option (List Nat) → Int32
  | none => -1
  | some l => nI (num l)
theorem roI_some {o : Option (List Nat)} (h : ¬ roI o = -1) : ∃ l, o = some l := by
  cases o with
  | none => exact absurd rfl h
  | some l => exact ⟨l, rfl⟩
theorem roI_none {o : Option (List Nat)} (hl : ∀ l, o = some l → snd l ∧ l.length ≤ 8) (h : roI o = -1) : o = none := by
  cases o with
  | none => rfl
  | some l =>
    have h2 := hl l rfl
    exact absurd h (nI_nm1 (by have := num_bd h2.1 h2.2; omega))
set_option maxHeartbeats 4000000 in
set_option maxRecDepth 100000 in
theorem c_countLike (l : Launch) (g : q_G) (ws : va_W) (a0 aI : Nat) (th : Int64) (n : Nat) (ia : Nat → Nat) (bt : Nat → Int64) (fi : Nat → Nat → Int32) (j : Nat) (hj : j < n) (hv : ivV g ws a0 aI th n ia bt fi) : MetW l g yX3_countLike cX3_countLike 5 (some .int) ({ frames := 3, cells := 0, slots := 0, locals := 64 } : Room) [.ref a0, .ref (ia j)] (ws) (q_Qi g (fun r w => r = nI (cntF (fun i => hasB th (bt i)) fi (fi 3 j) (fi 1 j) (fi 4 j) n) ∧ w = ws)) := by
  refine q_met (own := RX3) (by decide +kernel) rfl (Nat.le_of_ble_eq_true rfl) (fun p e s m args below meth c cx hr hnm => ?_)
  obtain ⟨⟨q0, r1, r2, r3, r4, r5, r6, dr, dl, h0⟩, hls, hn40, hob⟩ := hv
  obtain ⟨ql, mc, el, hl1, hl2, hl3⟩ := id hls
  obtain ⟨qj, hqj⟩ := hob j hj
  refine r_lv (lv2 := [(0, .ref a0), (1, .ref (ia j))]) (q_pk [0, 1] rfl) ?_
  refine r_iconst (v := nI 0) cx dX3_countLike_0 (by decide) ?_
  refine r_istore_n cx dX3_countLike_1 rfl (by decide) rfl ?_
  refine r_iconst (v := nI 0) cx dX3_countLike_2 (by decide) ?_
  refine r_istore_n cx dX3_countLike_3 rfl (by decide) rfl ?_
  refine at_loop (fun (x : Nat) => x ≤ n) (fun x => [(0, .ref a0), (1, .ref (ia j)), (2, .int (nI (cntF (fun i => hasB th (bt i)) fi (fi 3 j) (fi 1 j) (fi 4 j) x))), (3, .int (nI x))]) (fun x => ws) (fun x => n - x) 0 (Nat.zero_le n) (q_pk [2, 3, 1, 0] rfl) rfl (fun i hx ih => ?_)
  try dsimp only at hx ⊢
  have hc := cntF_le (fun i => hasB th (bt i)) fi (fi 3 j) (fi 1 j) (fi 4 j) i
  refine r_iload_n cx dX3_countLike_4 rfl rfl ?_
  refine r_aload_n cx dX3_countLike_5 rfl rfl ?_
  refine gf_X3_10 cx dX3_countLike_6 q0 h0 rfl ?_
  refine k_X3_80 cx (c_lsize l g _ aI n ia hls) dX3_countLike_9 ql hl1 ⟨Nat.le_of_ble_eq_true rfl, Nat.le_of_ble_eq_true rfl⟩ ⟨Nat.le_of_ble_eq_true rfl, Nat.le_of_ble_eq_true rfl⟩ rfl rfl (Nat.le_of_ble_eq_true rfl) (fun r w hp => ?_)
  obtain ⟨rfl, rfl⟩ := hp
  refine r_icmpgeN (tgt := 74) cx (by omega) (by omega) dX3_countLike_12 (by decide) (fun h_12 => ?_) (fun h_12 => ?_)
  · skip
    obtain rfl : i = n := by omega
    refine r_iload_n cx dX3_countLike_74 rfl rfl ?_
    exact r_iret cx dX3_countLike_75 hr (⟨rfl, rfl⟩) (Nat.le_of_ble_eq_true rfl) (Nat.le_of_ble_eq_true rfl)
  · skip
    refine r_aload_n cx dX3_countLike_15 rfl rfl ?_
    refine gf_X3_10 cx dX3_countLike_16 q0 h0 rfl ?_
    refine r_iload_n cx dX3_countLike_19 rfl rfl ?_
    refine k_X3_108 cx (c_lget l g _ aI n i ia hls h_12) dX3_countLike_20 ql hl1 ⟨Nat.le_of_ble_eq_true rfl, Nat.le_of_ble_eq_true rfl⟩ ⟨Nat.le_of_ble_eq_true rfl, Nat.le_of_ble_eq_true rfl⟩ rfl rfl (Nat.le_of_ble_eq_true rfl) (fun r w hp => ?_)
    obtain ⟨rfl, rfl⟩ := hp
    obtain ⟨qi, hqi⟩ := hob i h_12
    refine r_eqv (y := .ref (ia i)) rfl ?_
    refine r_cast (ci := 1) cx tb_219 dX3_countLike_23 qi rfl rfl hqi ?_
    refine r_astore cx dX3_countLike_26 (by decide) rfl ?_
    refine r_aload_n cx dX3_countLike_28 rfl rfl ?_
    refine r_aload cx dX3_countLike_29 rfl ?_
    refine k_X3_139 cx (c_isThere l g _ q0 qi _ _ _ _ _ _ _ _ _ _ _ _ _ _ _ _ _ _ h0 hqi) dX3_countLike_31 q0 h0 ⟨Nat.le_of_ble_eq_true rfl, Nat.le_of_ble_eq_true rfl⟩ ⟨Nat.le_of_ble_eq_true rfl, Nat.le_of_ble_eq_true rfl⟩ rfl rfl (Nat.le_of_ble_eq_true rfl) (fun r w hp => ?_)
    obtain ⟨rfl, rfl⟩ := hp
    refine r_ifeqb (tgt := 68) cx dX3_countLike_34 (by decide) (fun h_34 => ?_) (fun h_34 => ?_)
    · skip
      refine r_iincN (j := 1) cx dX3_countLike_68 rfl rfl (by decide) rfl ?_
      refine r_goto (tgt := 4) cx dX3_countLike_71 (by decide) ?_
      have z := ih (i + 1) (by omega) (by omega)
      dsimp only at z
      rw [cntF_no (by simp [mtc, h_34])] at z
      exact r_lv (q_pk [2, 3, 4, 0] rfl) (z)
    · skip
      refine r_aload cx dX3_countLike_37 rfl ?_
      refine r_aload_n cx dX3_countLike_39 rfl rfl ?_
      refine gf_X3_168 cx dX3_countLike_40 qj hqj rfl ?_
      refine r_aload_n cx dX3_countLike_43 rfl rfl ?_
      refine gf_X3_174 cx dX3_countLike_44 qj hqj rfl ?_
      refine k_X3_214 cx (c_isFor l g _ qi _ _ _ _ _ _ _ (fi 3 j) (fi 1 j) hqi) dX3_countLike_47 qi hqi ⟨Nat.le_of_ble_eq_true rfl, Nat.le_of_ble_eq_true rfl⟩ ⟨Nat.le_of_ble_eq_true rfl, Nat.le_of_ble_eq_true rfl⟩ rfl rfl (Nat.le_of_ble_eq_true rfl) (fun r w hp => ?_)
      obtain ⟨rfl, rfl⟩ := hp
      refine r_ifeqb (tgt := 68) cx dX3_countLike_50 (by decide) (fun h_50 => ?_) (fun h_50 => ?_)
      · skip
        refine r_iincN (j := 1) cx dX3_countLike_68 rfl rfl (by decide) rfl ?_
        refine r_goto (tgt := 4) cx dX3_countLike_71 (by decide) ?_
        have z := ih (i + 1) (by omega) (by omega)
        dsimp only at z
        rw [cntF_no (by simp only [mtc, h_50, Bool.and_false, Bool.false_and])] at z
        exact r_lv (q_pk [2, 3, 4, 0] rfl) (z)
      · skip
        refine r_aload cx dX3_countLike_53 rfl ?_
        refine gf_X3_171 cx dX3_countLike_55 qi hqi rfl ?_
        refine r_aload_n cx dX3_countLike_58 rfl rfl ?_
        refine gf_X3_171 cx dX3_countLike_59 qj hqj rfl ?_
        refine r_icmpne (tgt := 68) cx dX3_countLike_62 (by decide) (fun h_62 => ?_) (fun h_62 => ?_)
        · skip
          refine r_iincN (j := 1) cx dX3_countLike_68 rfl rfl (by decide) rfl ?_
          refine r_goto (tgt := 4) cx dX3_countLike_71 (by decide) ?_
          have z := ih (i + 1) (by omega) (by omega)
          dsimp only at z
          rw [cntF_no (by simp [h_62])] at z
          exact r_lv (q_pk [2, 3, 4, 0] rfl) (z)
        · skip
          refine r_iincN (j := 1) cx dX3_countLike_65 rfl rfl (by decide) rfl ?_
          refine r_iincN (j := 1) cx dX3_countLike_68 rfl rfl (by decide) rfl ?_
          refine r_goto (tgt := 4) cx dX3_countLike_71 (by decide) ?_
          have z := ih (i + 1) (by omega) (by omega)
          dsimp only at z
          rw [cntF_yes (by simp only [mtc, h_34, h_50, h_62, decide_true, Bool.and_self])] at z
          exact r_lv (q_pk [3, 4, 1, 0] rfl) (z)
set_option maxHeartbeats 4000000 in
set_option maxRecDepth 100000 in
theorem c_most (l : Launch) (g : q_G) (ws : va_W) (a0 aI : Nat) (th : Int64) (n : Nat) (ia : Nat → Nat) (bt : Nat → Int64) (fi : Nat → Nat → Int32) (w0 p0 : Int32) (hv : ivV g ws a0 aI th n ia bt fi) : MetW l g yX3_mostToldForm cX3_mostToldForm 8 (some .int) ({ frames := 4, cells := 0, slots := 0, locals := 88 } : Room) [.ref a0, .int w0, .int p0] (ws) (q_Qi g (fun r w => r = mst (fun i => hasB th (bt i)) fi n w0 p0 ∧ w = ws)) := by
  refine q_met (own := RX3) (by decide +kernel) rfl (Nat.le_of_ble_eq_true rfl) (fun p e s m args below meth c cx hr hnm => ?_)
  obtain ⟨⟨q0, r1, r2, r3, r4, r5, r6, dr, dl, h0⟩, hls, hn40, hob⟩ := hv
  obtain ⟨ql, mc, el, hl1, hl2, hl3⟩ := id hls
  refine r_lv (lv2 := [(0, .ref a0), (1, .int w0), (2, .int p0)]) (q_pk [0, 1, 2] rfl) ?_
  refine r_iconst (v := -1) cx dX3_mostToldForm_0 (by decide) ?_
  refine r_istore_n cx dX3_mostToldForm_1 rfl (by decide) rfl ?_
  refine r_iconst (v := nI 0) cx dX3_mostToldForm_2 (by decide) ?_
  refine r_istore cx dX3_mostToldForm_3 (by decide) rfl ?_
  refine r_iconst (v := nI 0) cx dX3_mostToldForm_5 (by decide) ?_
  refine r_istore cx dX3_mostToldForm_6 (by decide) rfl ?_
  refine at_loop (fun (x : Nat) => x ≤ n) (fun x => [(0, .ref a0), (1, .int w0), (2, .int p0), (3, .int (mstF (fun i => hasB th (bt i)) fi n w0 p0 x).1), (4, .int (nI (mstF (fun i => hasB th (bt i)) fi n w0 p0 x).2)), (5, .int (nI x))]) (fun x => ws) (fun x => n - x) 0 (Nat.zero_le n) (q_pk [3, 4, 5, 2, 1, 0] rfl) rfl (fun i hx ih => ?_)
  try dsimp only at hx ⊢
  have hc := mstF_le (fun i => hasB th (bt i)) fi n w0 p0 i
  refine r_iload cx dX3_mostToldForm_8 rfl ?_
  refine r_aload_n cx dX3_mostToldForm_10 rfl rfl ?_
  refine gf_X3_10 cx dX3_mostToldForm_11 q0 h0 rfl ?_
  refine k_X3_80 cx (c_lsize l g _ aI n ia hls) dX3_mostToldForm_14 ql hl1 ⟨Nat.le_of_ble_eq_true rfl, Nat.le_of_ble_eq_true rfl⟩ ⟨Nat.le_of_ble_eq_true rfl, Nat.le_of_ble_eq_true rfl⟩ rfl rfl (Nat.le_of_ble_eq_true rfl) (fun r w hp => ?_)
  obtain ⟨rfl, rfl⟩ := hp
  refine r_icmpgeN (tgt := 84) cx (by omega) (by omega) dX3_mostToldForm_17 (by decide) (fun h_17 => ?_) (fun h_17 => ?_)
  · skip
    obtain rfl : i = n := by omega
    refine r_iload_n cx dX3_mostToldForm_84 rfl rfl ?_
    exact r_iret cx dX3_mostToldForm_85 hr (⟨rfl, rfl⟩) (Nat.le_of_ble_eq_true rfl) (Nat.le_of_ble_eq_true rfl)
  · skip
    refine r_aload_n cx dX3_mostToldForm_20 rfl rfl ?_
    refine gf_X3_10 cx dX3_mostToldForm_21 q0 h0 rfl ?_
    refine r_iload cx dX3_mostToldForm_24 rfl ?_
    refine k_X3_108 cx (c_lget l g _ aI n i ia hls h_17) dX3_mostToldForm_26 ql hl1 ⟨Nat.le_of_ble_eq_true rfl, Nat.le_of_ble_eq_true rfl⟩ ⟨Nat.le_of_ble_eq_true rfl, Nat.le_of_ble_eq_true rfl⟩ rfl rfl (Nat.le_of_ble_eq_true rfl) (fun r w hp => ?_)
    obtain ⟨rfl, rfl⟩ := hp
    obtain ⟨qi, hqi⟩ := hob i h_17
    refine r_eqv (y := .ref (ia i)) rfl ?_
    refine r_cast (ci := 1) cx tb_219 dX3_mostToldForm_29 qi rfl rfl hqi ?_
    refine r_astore cx dX3_mostToldForm_32 (by decide) rfl ?_
    refine r_aload_n cx dX3_mostToldForm_34 rfl rfl ?_
    refine r_aload cx dX3_mostToldForm_35 rfl ?_
    refine k_X3_139 cx (c_isThere l g _ q0 qi _ _ _ _ _ _ _ _ _ _ _ _ _ _ _ _ _ _ h0 hqi) dX3_mostToldForm_37 q0 h0 ⟨Nat.le_of_ble_eq_true rfl, Nat.le_of_ble_eq_true rfl⟩ ⟨Nat.le_of_ble_eq_true rfl, Nat.le_of_ble_eq_true rfl⟩ rfl rfl (Nat.le_of_ble_eq_true rfl) (fun r w hp => ?_)
    obtain ⟨rfl, rfl⟩ := hp
    refine r_ifeqb (tgt := 78) cx dX3_mostToldForm_40 (by decide) (fun h_40 => ?_) (fun h_40 => ?_)
    · skip
      refine r_iincN (j := 1) cx dX3_mostToldForm_78 rfl rfl (by decide) rfl ?_
      refine r_goto (tgt := 8) cx dX3_mostToldForm_81 (by decide) ?_
      have z := ih (i + 1) (by omega) (by omega)
      dsimp only at z
      rw [mstF_no (by simp [mtc, h_40])] at z
      exact r_lv (q_pk [2, 3, 4, 5, 6, 0] rfl) (z)
    · skip
      refine r_aload cx dX3_mostToldForm_43 rfl ?_
      refine r_iload_n cx dX3_mostToldForm_45 rfl rfl ?_
      refine r_iload_n cx dX3_mostToldForm_46 rfl rfl ?_
      refine k_X3_214 cx (c_isFor l g _ qi _ _ _ _ _ _ _ w0 p0 hqi) dX3_mostToldForm_47 qi hqi ⟨Nat.le_of_ble_eq_true rfl, Nat.le_of_ble_eq_true rfl⟩ ⟨Nat.le_of_ble_eq_true rfl, Nat.le_of_ble_eq_true rfl⟩ rfl rfl (Nat.le_of_ble_eq_true rfl) (fun r w hp => ?_)
      obtain ⟨rfl, rfl⟩ := hp
      refine r_ifeqb (tgt := 78) cx dX3_mostToldForm_50 (by decide) (fun h_50 => ?_) (fun h_50 => ?_)
      · skip
        refine r_iincN (j := 1) cx dX3_mostToldForm_78 rfl rfl (by decide) rfl ?_
        refine r_goto (tgt := 8) cx dX3_mostToldForm_81 (by decide) ?_
        have z := ih (i + 1) (by omega) (by omega)
        dsimp only at z
        rw [mstF_no (by simp only [mtc, h_50, Bool.and_false, Bool.false_and])] at z
        exact r_lv (q_pk [2, 3, 4, 5, 6, 0] rfl) (z)
      · skip
        refine r_aload_n cx dX3_mostToldForm_53 rfl rfl ?_
        refine r_aload cx dX3_mostToldForm_54 rfl ?_
        refine k_X3_217 cx (c_countLike l g _ a0 aI th n ia bt fi i h_17 ⟨⟨q0, r1, r2, r3, r4, r5, r6, dr, dl, h0⟩, hls, hn40, hob⟩) dX3_mostToldForm_56 q0 h0 ⟨Nat.le_of_ble_eq_true rfl, Nat.le_of_ble_eq_true rfl⟩ ⟨Nat.le_of_ble_eq_true rfl, Nat.le_of_ble_eq_true rfl⟩ rfl rfl (Nat.le_of_ble_eq_true rfl) (fun r w hp => ?_)
        obtain ⟨rfl, rfl⟩ := hp
        have hwp : fi 3 i = w0 ∧ fi 1 i = p0 := by simpa using h_50
        rw [hwp.1, hwp.2]
        have hc2 := cntF_le (fun i => hasB th (bt i)) fi w0 p0 (fi 4 i) n
        refine r_istore cx dX3_mostToldForm_59 (by decide) rfl ?_
        refine r_iload cx dX3_mostToldForm_61 rfl ?_
        refine r_iload cx dX3_mostToldForm_63 rfl ?_
        refine r_icmpleN (tgt := 78) cx (by omega) (by omega) dX3_mostToldForm_65 (by decide) (fun h_65 => ?_) (fun h_65 => ?_)
        · skip
          refine r_iincN (j := 1) cx dX3_mostToldForm_78 rfl rfl (by decide) rfl ?_
          refine r_goto (tgt := 8) cx dX3_mostToldForm_81 (by decide) ?_
          have z := ih (i + 1) (by omega) (by omega)
          dsimp only at z
          rw [mstF_no (by rw [decide_eq_false (by omega), Bool.and_false])] at z
          exact r_lv (q_pk [3, 4, 5, 6, 7, 0] rfl) (z)
        · skip
          refine r_iload cx dX3_mostToldForm_68 rfl ?_
          refine r_istore cx dX3_mostToldForm_70 (by decide) rfl ?_
          refine r_aload cx dX3_mostToldForm_72 rfl ?_
          refine gf_X3_171 cx dX3_mostToldForm_74 qi hqi rfl ?_
          refine r_istore_n cx dX3_mostToldForm_77 rfl (by decide) rfl ?_
          refine r_iincN (j := 1) cx dX3_mostToldForm_78 rfl rfl (by decide) rfl ?_
          refine r_goto (tgt := 8) cx dX3_mostToldForm_81 (by decide) ?_
          have z := ih (i + 1) (by omega) (by omega)
          dsimp only at z
          rw [mstF_yes (by rw [decide_eq_true h_65]; simp only [mtc, h_40, h_50, Bool.and_self])] at z
          exact r_lv (q_pk [5, 6, 7, 1, 2, 0] rfl) (z)
set_option maxHeartbeats 4000000 in
set_option maxRecDepth 100000 in
theorem c_drawLines (l : Launch) (g : q_G) (ws : va_W) (a0 aI : Nat) (th : Int64) (n : Nat) (ia : Nat → Nat) (bt : Nat → Int64) (fi : Nat → Nat → Int32) (w0 : Int32) (hv : ivV g ws a0 aI th n ia bt fi) : MetW l g yX3_drawLines cX3_drawLines 6 (some .int) ({ frames := 5, cells := 0, slots := 0, locals := 115 } : Room) [.ref a0, .int w0] (ws) (q_Qi g (fun r w => r = drw (fun i => hasB th (bt i)) fi n w0 ∧ w = ws)) := by
  refine q_met (own := RX3) (by decide +kernel) rfl (Nat.le_of_ble_eq_true rfl) (fun p e s m args below meth c cx hr hnm => ?_)
  obtain ⟨⟨q0, r1, r2, r3, r4, r5, r6, dr, dl, h0⟩, hls, hn40, hob⟩ := hv
  obtain ⟨ql, mc, el, hl1, hl2, hl3⟩ := id hls
  refine r_lv (lv2 := [(0, .ref a0), (1, .int w0)]) (q_pk [0, 1] rfl) ?_
  refine r_iconst (v := 0) cx dX3_drawLines_0 (by decide) ?_
  refine r_istore_n cx dX3_drawLines_1 rfl (by decide) rfl ?_
  refine r_aload_n cx dX3_drawLines_2 rfl rfl ?_
  refine r_iload_n cx dX3_drawLines_3 rfl rfl ?_
  refine r_iconst (v := nI 0) cx dX3_drawLines_4 (by decide) ?_
  refine k_X3_184 cx (c_most l g _ a0 aI th n ia bt fi w0 (nI 0) ⟨⟨q0, r1, r2, r3, r4, r5, r6, dr, dl, h0⟩, hls, hn40, hob⟩) dX3_drawLines_5 q0 h0 ⟨Nat.le_of_ble_eq_true rfl, Nat.le_of_ble_eq_true rfl⟩ ⟨Nat.le_of_ble_eq_true rfl, Nat.le_of_ble_eq_true rfl⟩ rfl rfl (Nat.le_of_ble_eq_true rfl) (fun r w hp => ?_)
  obtain ⟨rfl, rfl⟩ := hp
  refine r_istore_n cx dX3_drawLines_8 rfl (by decide) rfl ?_
  refine r_iconst (v := nI 0) cx dX3_drawLines_9 (by decide) ?_
  refine r_istore cx dX3_drawLines_10 (by decide) rfl ?_
  refine at_loop (fun (x : Nat) => x ≤ 9) (fun x => [(0, .ref a0), (1, .int w0), (2, .int (drwF (fun k => mst (fun i => hasB th (bt i)) fi n w0 (nI k)) x)), (3, .int ((fun k => mst (fun i => hasB th (bt i)) fi n w0 (nI k)) x)), (4, .int (nI x))]) (fun x => w) (fun x => 9 - x) 0 (Nat.zero_le 9) (q_pk [3, 4, 2, 1, 0] rfl) rfl (fun i hx ih => ?_)
  try dsimp only at hx ⊢
  refine r_iload cx dX3_drawLines_12 rfl ?_
  refine r_iconst (v := nI 1) cx dX3_drawLines_14 (by decide) ?_
  first | refine r_iaddN cx dX3_drawLines_15 ?_ | refine r_iadd cx dX3_drawLines_15 ?_
  refine r_bipush (v := nI 10) cx dX3_drawLines_16 (by decide) ?_
  refine r_icmpgeN (tgt := 65) cx (by omega) (by omega) dX3_drawLines_18 (by decide) (fun h_18 => ?_) (fun h_18 => ?_)
  · skip
    obtain rfl : i = 9 := by omega
    refine r_iload_n cx dX3_drawLines_65 rfl rfl ?_
    exact r_iret cx dX3_drawLines_66 hr (⟨rfl, rfl⟩) (Nat.le_of_ble_eq_true rfl) (Nat.le_of_ble_eq_true rfl)
  · skip
    refine r_aload_n cx dX3_drawLines_21 rfl rfl ?_
    refine r_iload_n cx dX3_drawLines_22 rfl rfl ?_
    refine r_iload cx dX3_drawLines_23 rfl ?_
    refine r_iconst (v := nI 1) cx dX3_drawLines_25 (by decide) ?_
    first | refine r_iaddN cx dX3_drawLines_26 ?_ | refine r_iadd cx dX3_drawLines_26 ?_
    refine k_X3_184 cx (c_most l g _ a0 aI th n ia bt fi w0 (nI (i + 1)) ⟨⟨q0, r1, r2, r3, r4, r5, r6, dr, dl, h0⟩, hls, hn40, hob⟩) dX3_drawLines_27 q0 h0 ⟨Nat.le_of_ble_eq_true rfl, Nat.le_of_ble_eq_true rfl⟩ ⟨Nat.le_of_ble_eq_true rfl, Nat.le_of_ble_eq_true rfl⟩ rfl rfl (Nat.le_of_ble_eq_true rfl) (fun r w hp => ?_)
    obtain ⟨rfl, rfl⟩ := hp
    refine r_istore cx dX3_drawLines_30 (by decide) rfl ?_
    refine r_iload_n cx dX3_drawLines_32 rfl rfl ?_
    refine r_iconst (v := -1) cx dX3_drawLines_33 (by decide) ?_
    refine r_icmpeq (tgt := 56) cx dX3_drawLines_34 (by decide) (fun h_34 => ?_) (fun h_34 => ?_)
    · skip
      refine r_iload cx dX3_drawLines_56 rfl ?_
      refine r_istore_n cx dX3_drawLines_58 rfl (by decide) rfl ?_
      refine r_iincN (j := 1) cx dX3_drawLines_59 rfl rfl (by decide) rfl ?_
      refine r_goto (tgt := 12) cx dX3_drawLines_62 (by decide) ?_
      have z := ih (i + 1) (by omega) (by omega)
      dsimp only at z
      rw [drwF_no (ms := (fun k => mst (fun i => hasB th (bt i)) fi n w0 (nI k))) (by simp [lnc, h_34])] at z
      exact r_lv (q_pk [3, 4, 5, 1, 0] rfl) (z)
    · skip
      refine r_iload cx dX3_drawLines_37 rfl ?_
      refine r_iconst (v := -1) cx dX3_drawLines_39 (by decide) ?_
      refine r_icmpeq (tgt := 56) cx dX3_drawLines_40 (by decide) (fun h_40 => ?_) (fun h_40 => ?_)
      · skip
        refine r_iload cx dX3_drawLines_56 rfl ?_
        refine r_istore_n cx dX3_drawLines_58 rfl (by decide) rfl ?_
        refine r_iincN (j := 1) cx dX3_drawLines_59 rfl rfl (by decide) rfl ?_
        refine r_goto (tgt := 12) cx dX3_drawLines_62 (by decide) ?_
        have z := ih (i + 1) (by omega) (by omega)
        dsimp only at z
        rw [drwF_no (ms := (fun k => mst (fun i => hasB th (bt i)) fi n w0 (nI k))) (by simp [lnc, h_40])] at z
        exact r_lv (q_pk [3, 4, 5, 1, 0] rfl) (z)
      · skip
        refine r_iload_n cx dX3_drawLines_43 rfl rfl ?_
        refine r_iload cx dX3_drawLines_44 rfl ?_
        refine r_icmpeq (tgt := 56) cx dX3_drawLines_46 (by decide) (fun h_46 => ?_) (fun h_46 => ?_)
        · skip
          refine r_iload cx dX3_drawLines_56 rfl ?_
          refine r_istore_n cx dX3_drawLines_58 rfl (by decide) rfl ?_
          refine r_iincN (j := 1) cx dX3_drawLines_59 rfl rfl (by decide) rfl ?_
          refine r_goto (tgt := 12) cx dX3_drawLines_62 (by decide) ?_
          have z := ih (i + 1) (by omega) (by omega)
          dsimp only at z
          rw [drwF_no (ms := (fun k => mst (fun i => hasB th (bt i)) fi n w0 (nI k))) (by simp [lnc, h_46])] at z
          exact r_lv (q_pk [3, 4, 5, 1, 0] rfl) (z)
        · skip
          refine r_iload_n cx dX3_drawLines_49 rfl rfl ?_
          refine r_iconst (v := nI 1) cx dX3_drawLines_50 (by decide) ?_
          refine r_iload cx dX3_drawLines_51 rfl ?_
          refine r_ishl cx dX3_drawLines_53 ?_
          refine r_ior cx dX3_drawLines_54 ?_
          refine r_istore_n cx dX3_drawLines_55 rfl (by decide) rfl ?_
          refine r_iload cx dX3_drawLines_56 rfl ?_
          refine r_istore_n cx dX3_drawLines_58 rfl (by decide) rfl ?_
          refine r_iincN (j := 1) cx dX3_drawLines_59 rfl rfl (by decide) rfl ?_
          refine r_goto (tgt := 12) cx dX3_drawLines_62 (by decide) ?_
          have z := ih (i + 1) (by omega) (by omega)
          dsimp only at z
          rw [drwF_yes (ms := (fun k => mst (fun i => hasB th (bt i)) fi n w0 (nI k))) (by simp [lnc, h_34, h_40, h_46])] at z
          exact r_lv (q_pk [4, 5, 2, 1, 0] rfl) (z)
set_option maxHeartbeats 4000000 in
set_option maxRecDepth 100000 in
theorem c_interviewsOf (l : Launch) (g : q_G) (ws : va_W) (a0 aI : Nat) (th : Int64) (n : Nat) (ia : Nat → Nat) (bt : Nat → Int64) (fi : Nat → Nat → Int32) (who : Int32) (hv : ivV g ws a0 aI th n ia bt fi) : MetW l g yX3_interviewsOf cX3_interviewsOf 6 (some .long) ({ frames := 3, cells := 0, slots := 0, locals := 64 } : Room) [.ref a0, .int who] (ws) (q_Ql g (fun r w => r = ivoF th bt fi who n ∧ w = ws)) := by
  refine q_met (own := RX3) (by decide +kernel) rfl (Nat.le_of_ble_eq_true rfl) (fun p e s m args below meth c cx hr hnm => ?_)
  obtain ⟨⟨q0, r1, r2, r3, r4, r5, r6, dr, dl, h0⟩, hls, hn40, hob⟩ := hv
  obtain ⟨ql, mc, el, hl1, hl2, hl3⟩ := id hls
  refine r_lv (lv2 := [(0, .ref a0), (1, .int who)]) (q_pk [0, 1] rfl) ?_
  refine r_lconst (v := 0) cx dX3_interviewsOf_0 rfl ?_
  refine r_lstore_n cx dX3_interviewsOf_1 rfl (by decide) rfl ?_
  refine r_iconst (v := nI 0) cx dX3_interviewsOf_2 (by decide) ?_
  refine r_istore cx dX3_interviewsOf_3 (by decide) rfl ?_
  refine at_loop (fun (x : Nat) => x ≤ n) (fun x => [(0, .ref a0), (1, .int who), (2, .long (ivoF th bt fi who x)), (4, .int (nI x))]) (fun x => ws) (fun x => n - x) 0 (Nat.zero_le n) (q_pk [2, 3, 1, 0] rfl) rfl (fun i hx ih => ?_)
  try dsimp only at hx ⊢
  refine r_iload cx dX3_interviewsOf_5 rfl ?_
  refine r_aload_n cx dX3_interviewsOf_7 rfl rfl ?_
  refine gf_X3_10 cx dX3_interviewsOf_8 q0 h0 rfl ?_
  refine k_X3_80 cx (c_lsize l g _ aI n ia hls) dX3_interviewsOf_11 ql hl1 ⟨Nat.le_of_ble_eq_true rfl, Nat.le_of_ble_eq_true rfl⟩ ⟨Nat.le_of_ble_eq_true rfl, Nat.le_of_ble_eq_true rfl⟩ rfl rfl (Nat.le_of_ble_eq_true rfl) (fun r w hp => ?_)
  obtain ⟨rfl, rfl⟩ := hp
  refine r_icmpgeN (tgt := 63) cx (by omega) (by omega) dX3_interviewsOf_14 (by decide) (fun h_14 => ?_) (fun h_14 => ?_)
  · skip
    obtain rfl : i = n := by omega
    refine r_lload_n cx dX3_interviewsOf_63 rfl rfl ?_
    exact r_lret cx dX3_interviewsOf_64 hr (⟨rfl, rfl⟩) (Nat.le_of_ble_eq_true rfl) (Nat.le_of_ble_eq_true rfl)
  · skip
    refine r_aload_n cx dX3_interviewsOf_17 rfl rfl ?_
    refine gf_X3_10 cx dX3_interviewsOf_18 q0 h0 rfl ?_
    refine r_iload cx dX3_interviewsOf_21 rfl ?_
    refine k_X3_108 cx (c_lget l g _ aI n i ia hls h_14) dX3_interviewsOf_23 ql hl1 ⟨Nat.le_of_ble_eq_true rfl, Nat.le_of_ble_eq_true rfl⟩ ⟨Nat.le_of_ble_eq_true rfl, Nat.le_of_ble_eq_true rfl⟩ rfl rfl (Nat.le_of_ble_eq_true rfl) (fun r w hp => ?_)
    obtain ⟨rfl, rfl⟩ := hp
    obtain ⟨qi, hqi⟩ := hob i h_14
    refine r_eqv (y := .ref (ia i)) rfl ?_
    refine r_cast (ci := 1) cx tb_219 dX3_interviewsOf_26 qi rfl rfl hqi ?_
    refine r_astore cx dX3_interviewsOf_29 (by decide) rfl ?_
    refine r_aload_n cx dX3_interviewsOf_31 rfl rfl ?_
    refine r_aload cx dX3_interviewsOf_32 rfl ?_
    refine k_X3_139 cx (c_isThere l g _ q0 qi _ _ _ _ _ _ _ _ _ _ _ _ _ _ _ _ _ _ h0 hqi) dX3_interviewsOf_34 q0 h0 ⟨Nat.le_of_ble_eq_true rfl, Nat.le_of_ble_eq_true rfl⟩ ⟨Nat.le_of_ble_eq_true rfl, Nat.le_of_ble_eq_true rfl⟩ rfl rfl (Nat.le_of_ble_eq_true rfl) (fun r w hp => ?_)
    obtain ⟨rfl, rfl⟩ := hp
    refine r_ifeqb (tgt := 57) cx dX3_interviewsOf_37 (by decide) (fun h_37 => ?_) (fun h_37 => ?_)
    · skip
      refine r_iincN (j := 1) cx dX3_interviewsOf_57 rfl rfl (by decide) rfl ?_
      refine r_goto (tgt := 5) cx dX3_interviewsOf_60 (by decide) ?_
      have z := ih (i + 1) (by omega) (by omega)
      dsimp only at z
      rw [ivoF_no (by simp [h_37])] at z
      exact r_lv (q_pk [2, 3, 4, 0] rfl) (z)
    · skip
      refine r_aload cx dX3_interviewsOf_40 rfl ?_
      refine gf_X3_205 cx dX3_interviewsOf_42 qi hqi rfl ?_
      refine r_iload_n cx dX3_interviewsOf_45 rfl rfl ?_
      refine r_icmpne (tgt := 57) cx dX3_interviewsOf_46 (by decide) (fun h_46 => ?_) (fun h_46 => ?_)
      · skip
        refine r_iincN (j := 1) cx dX3_interviewsOf_57 rfl rfl (by decide) rfl ?_
        refine r_goto (tgt := 5) cx dX3_interviewsOf_60 (by decide) ?_
        have z := ih (i + 1) (by omega) (by omega)
        dsimp only at z
        rw [ivoF_no (by simp [h_46])] at z
        exact r_lv (q_pk [2, 3, 4, 0] rfl) (z)
      · skip
        refine r_lload_n cx dX3_interviewsOf_49 rfl rfl ?_
        refine r_aload cx dX3_interviewsOf_50 rfl ?_
        refine gf_X3_151 cx dX3_interviewsOf_52 qi hqi rfl ?_
        refine r_lor cx dX3_interviewsOf_55 ?_
        refine r_lstore_n cx dX3_interviewsOf_56 rfl (by decide) rfl ?_
        refine r_iincN (j := 1) cx dX3_interviewsOf_57 rfl rfl (by decide) rfl ?_
        refine r_goto (tgt := 5) cx dX3_interviewsOf_60 (by decide) ?_
        have z := ih (i + 1) (by omega) (by omega)
        dsimp only at z
        rw [ivoF_yes (by simp [h_37, h_46])] at z
        exact r_lv (q_pk [3, 4, 1, 0] rfl) (z)
set_option maxHeartbeats 4000000 in
set_option maxRecDepth 100000 in
theorem c_applyRules (l : Launch) (g : q_G) (ws : va_W) (a0 aR rn : Nat) (ra so be : Nat → Nat) (to : Nat → Option Nat) (rl : Nat → Nat → Int32) (gr : Nat → Int64) (fa : Nat → Bool) (o : Option (List Nat)) (p0 y0 : Int32) (ho : ∀ l, o = some l → snd l ∧ l.length ≤ 8) (hv : rlV g ws a0 aR rn ra so be to rl gr fa) : MetW l g yX3_applyRules cX3_applyRules 7 (some .int) ({ frames := 3, cells := 0, slots := 0, locals := 64 } : Room) [.ref a0, .int (roI o), .int p0, .int y0] (ws) (q_Qi g (fun r w => r = roI (o.map (fun l => expF (goF rl fa p0 y0) so be to l rn)) ∧ w = ws)) := by
  refine q_met (own := RX3) (by decide +kernel) rfl (Nat.le_of_ble_eq_true rfl) (fun p e s m args below meth c cx hr hnm => ?_)
  obtain ⟨⟨q0, r0, r2, r3, r4, r5, r6, th, dr, dl, h0⟩, hls, hn20, hpr, hob⟩ := hv
  obtain ⟨ql, mc, el, hl1, hl2, hl3⟩ := id hls
  refine r_lv (lv2 := [(0, .ref a0), (1, .int (roI o)), (2, .int p0), (3, .int y0)]) (q_pk [0, 1, 2, 3] rfl) ?_
  refine r_iload_n cx dX3_applyRules_0 rfl rfl ?_
  refine r_iconst (v := -1) cx dX3_applyRules_1 (by decide) ?_
  refine r_icmpne (tgt := 7) cx dX3_applyRules_2 (by decide) (fun h_2 => ?_) (fun h_2 => ?_)
  · skip
    obtain ⟨l0, rfl⟩ := roI_some h_2
    obtain ⟨hl0, hn0⟩ := ho l0 rfl
    refine r_iload_n cx dX3_applyRules_7 rfl rfl ?_
    refine r_istore cx dX3_applyRules_8 (by decide) rfl ?_
    refine r_iconst (v := nI 0) cx dX3_applyRules_10 (by decide) ?_
    refine r_istore cx dX3_applyRules_11 (by decide) rfl ?_
    refine at_loop (fun (x : Nat) => x ≤ rn) (fun x => [(0, .ref a0), (2, .int p0), (3, .int y0), (4, .int (nI (num (expF (goF rl fa p0 y0) so be to l0 x)))), (5, .int (nI x))]) (fun x => ws) (fun x => rn - x) 0 (Nat.zero_le rn) (q_pk [2, 4, 5, 1, 0] rfl) rfl (fun i hx ih => ?_)
    try dsimp only at hx ⊢
    have hok := expF_ok (gs := goF rl fa p0 y0) (so := so) (be := be) (n := rn) (fun r hr9 => (hpr r hr9).2.2) hl0 hn0 i hx
    refine r_iload cx dX3_applyRules_13 rfl ?_
    refine r_aload_n cx dX3_applyRules_15 rfl rfl ?_
    refine gf_X3_16 cx dX3_applyRules_16 q0 h0 rfl ?_
    refine k_X3_80 cx (c_lsize l g _ aR rn ra hls) dX3_applyRules_19 ql hl1 ⟨Nat.le_of_ble_eq_true rfl, Nat.le_of_ble_eq_true rfl⟩ ⟨Nat.le_of_ble_eq_true rfl, Nat.le_of_ble_eq_true rfl⟩ rfl rfl (Nat.le_of_ble_eq_true rfl) (fun r w hp => ?_)
    obtain ⟨rfl, rfl⟩ := hp
    refine r_icmpgeN (tgt := 64) cx (by omega) (by omega) dX3_applyRules_22 (by decide) (fun h_22 => ?_) (fun h_22 => ?_)
    · skip
      obtain rfl : i = rn := by omega
      refine r_iload cx dX3_applyRules_64 rfl ?_
      exact r_iret cx dX3_applyRules_66 hr (⟨rfl, rfl⟩) (Nat.le_of_ble_eq_true rfl) (Nat.le_of_ble_eq_true rfl)
    · skip
      refine r_aload_n cx dX3_applyRules_25 rfl rfl ?_
      refine gf_X3_16 cx dX3_applyRules_26 q0 h0 rfl ?_
      refine r_iload cx dX3_applyRules_29 rfl ?_
      refine k_X3_108 cx (c_lget l g _ aR rn i ra hls h_22) dX3_applyRules_31 ql hl1 ⟨Nat.le_of_ble_eq_true rfl, Nat.le_of_ble_eq_true rfl⟩ ⟨Nat.le_of_ble_eq_true rfl, Nat.le_of_ble_eq_true rfl⟩ rfl rfl (Nat.le_of_ble_eq_true rfl) (fun r w hp => ?_)
      obtain ⟨rfl, rfl⟩ := hp
      obtain ⟨qi, hqi⟩ := hob i h_22
      refine r_eqv (y := .ref (ra i)) rfl ?_
      refine r_cast (ci := 2) cx tb_263 dX3_applyRules_34 qi rfl rfl hqi ?_
      refine r_astore cx dX3_applyRules_37 (by decide) rfl ?_
      refine r_aload cx dX3_applyRules_39 rfl ?_
      refine r_iload_n cx dX3_applyRules_41 rfl rfl ?_
      refine r_iload_n cx dX3_applyRules_42 rfl rfl ?_
      refine k_X3_208 cx (c_goesAt l g _ qi _ _ _ _ _ _ _ _ _ p0 y0 hqi) dX3_applyRules_43 qi hqi ⟨Nat.le_of_ble_eq_true rfl, Nat.le_of_ble_eq_true rfl⟩ ⟨Nat.le_of_ble_eq_true rfl, Nat.le_of_ble_eq_true rfl⟩ rfl rfl (Nat.le_of_ble_eq_true rfl) (fun r w hp => ?_)
      obtain ⟨rfl, rfl⟩ := hp
      refine r_ifeqb (tgt := 58) cx dX3_applyRules_46 (by decide) (fun h_46 => ?_) (fun h_46 => ?_)
      · skip
        refine r_iincN (j := 1) cx dX3_applyRules_58 rfl rfl (by decide) rfl ?_
        refine r_goto (tgt := 13) cx dX3_applyRules_61 (by decide) ?_
        have z := ih (i + 1) (by omega) (by omega)
        dsimp only at z
        rw [expF_no (gs := goF rl fa p0 y0) h_46] at z
        exact r_lv (q_pk [2, 3, 4, 5, 0] rfl) (z)
      · skip
        refine r_aload cx dX3_applyRules_49 rfl ?_
        refine r_iload cx dX3_applyRules_51 rfl ?_
        refine k_X3_211 cx (c_applyTo l g _ qi _ (so i) (be i) (to i) _ _ _ _ _ _ (hpr i h_22).1 (hpr i h_22).2.1 (hpr i h_22).2.2 hok.1 hok.2 hqi) dX3_applyRules_53 qi hqi ⟨Nat.le_of_ble_eq_true rfl, Nat.le_of_ble_eq_true rfl⟩ ⟨Nat.le_of_ble_eq_true rfl, Nat.le_of_ble_eq_true rfl⟩ rfl rfl (Nat.le_of_ble_eq_true rfl) (fun r w hp => ?_)
        obtain ⟨rfl, rfl⟩ := hp
        refine r_istore cx dX3_applyRules_56 (by decide) rfl ?_
        refine r_iincN (j := 1) cx dX3_applyRules_58 rfl rfl (by decide) rfl ?_
        refine r_goto (tgt := 13) cx dX3_applyRules_61 (by decide) ?_
        have z := ih (i + 1) (by omega) (by omega)
        dsimp only at z
        rw [expF_yes (gs := goF rl fa p0 y0) h_46] at z
        exact r_lv (q_pk [3, 4, 5, 1, 0] rfl) (z)
  · skip
    obtain rfl := roI_none ho h_2
    refine r_iconst (v := -1) cx dX3_applyRules_5 (by decide) ?_
    exact r_iret cx dX3_applyRules_6 hr (⟨rfl, rfl⟩) (Nat.le_of_ble_eq_true rfl) (Nat.le_of_ble_eq_true rfl)
