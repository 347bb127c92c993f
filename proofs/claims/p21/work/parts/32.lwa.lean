/-- what ties the law's own numbers to the state -/
def lR (N : Nat → Nat) (A : Nat → Nat → Int32) (B : Nat → Nat → Bool) (L : Nat → Nat → Int64) (Z : Nat → Nat → Int32) : Prop :=
  inv N A B L ∧ (N 1 ≤ 16 ∧ N 2 ≤ 8 ∧ N 3 ≤ 6) ∧
  (Z 0 0 = nI (N 0) ∧ Z 0 1 = nI (num (drL (A 0) (N 0))) ∧ Z 0 2 = nI (N 1) ∧ Z 0 3 = nI (N 2) ∧ Z 0 4 = nI (N 3) ∧ Z 0 5 = nI (thS (ngo (B 0)) (N 1)) ∧ Z 0 6 = nI (thS (ngo (B 1)) (N 2))) ∧
  (∀ s, s < 3 → ∃ K, bw K (N 1) ∧ L 1 s = lN K ∧ Z 0 (7 + s) = nI K) ∧
  (∀ w, w < 4 → Z 0 (10 + w) = A 6 w) ∧
  (∀ i, i < N 1 → Z 1 (4 * i) = A 1 i ∧ Z 1 (4 * i + 1) = A 2 i ∧ Z 1 (4 * i + 2) = A 3 i ∧ Z 1 (4 * i + 3) = A 4 i ∧ Z 2 i = A 5 i) ∧
  (∀ r, r < N 2 → Z 3 (6 * r) = A 7 r ∧ Z 3 (6 * r + 1) = A 8 r ∧ Z 3 (6 * r + 2) = A 9 r ∧ Z 3 (6 * r + 3) = A 10 r ∧ Z 3 (6 * r + 4) = A 11 r ∧ Z 3 (6 * r + 5) = A 12 r) ∧
  (∀ r, r < 8 → ∃ G, bw G (N 1) ∧ L 0 r = lN G ∧ Z 4 r = nI G) ∧
  (∀ k, k < N 3 → Z 5 k = A 13 k)
theorem thS_31 {go : Nat → Bool} {n : Nat} (hn : n ≤ 16) : thS go n < 2147483648 := Nat.lt_trans (bw_lt hn (bw_thS go n)) (by decide)
theorem goz {B : Nat → Bool} {n k : Nat} (hn : n ≤ 16) (hk : k < n) : (nI (thS (ngo B) n) >>> (nI k &&& 31)) &&& nI 1 = bI (B k) := by rw [shr1 (thS_31 hn) (by omega), goS_bit B hk]
/-- what a rule makes of a sound, as two numbers -/
def opO (so : Nat) (to : Option Nat) (be x f : Nat) : Option Nat := if chg so be x f then to else some x
def addO : Option Nat → Nat → Nat
  | none, _ => 0
  | some t, w => w * (t + 1)
def mulO : Option Nat → Nat
  | none => 1
  | some _ => 9
theorem pce_O (so : Nat) (to : Option Nat) (be x f : Nat) : pce so to be x f = (opO so to be x f).toList := by
  unfold pce opO
  split <;> rfl
theorem apL_O (so : Nat) (to : Option Nat) (be x : Nat) (l : List Nat) : num (apL so to be (x :: l)) = num (apL so to be l) + addO (opO so to be x (fol l)) (9 ^ (apL so to be l).length) ∧ 9 ^ (apL so to be (x :: l)).length = 9 ^ (apL so to be l).length * mulO (opO so to be x (fol l)) := by
  rw [apL, pce_O]
  cases opO so to be x (fol l) with
  | none => exact ⟨rfl, by simp [mulO]⟩
  | some t =>
    refine ⟨?_, ?_⟩
    · show num (t :: apL so to be l) = _
      rw [num_cons, addO, Nat.mul_comm, Nat.add_comm]
    · show 9 ^ (apL so to be l).length.succ = _
      rw [Nat.pow_succ]
      rfl
theorem opO_8 {so : Nat} {to : Option Nat} {be x f : Nat} (ht : ∀ t, to = some t → t < 8) (hx : x < 8) : ∀ t, opO so to be x f = some t → t < 8 := fun t h => by
  unfold opO at h
  split at h
  · exact ht t h
  · cases h; exact hx
theorem toI_0 {o : Option Nat} (h8 : ∀ t, o = some t → t < 8) (h : 0 ≤ toI o) : ∃ t, o = some t ∧ toI o = nI t := by
  cases o with
  | none => exact absurd h (by decide)
  | some t => exact ⟨t, rfl, rfl⟩
theorem toI_n0 {o : Option Nat} (h8 : ∀ t, o = some t → t < 8) (h : ¬ 0 ≤ toI o) : o = none := by
  cases o with
  | none => rfl
  | some t => exact absurd (nI_pos' (by have := h8 t rfl; omega)) h
def c01 (b : Bool) : Nat := if b then 1 else 0
theorem cntF_s {hr : Nat → Bool} {fi : Nat → Nat → Int32} {w p f : Int32} {k : Nat} : cntF hr fi w p f (k + 1) = cntF hr fi w p f k + c01 (mtc hr fi w p k && decide (fi 4 k = f)) := by
  rw [cntF]
  cases mtc hr fi w p k && decide (fi 4 k = f) <;> rfl
def rowIs (f : Nat → Int32) (l : List Nat) : Prop := ∀ i, i < l.length → f i = nI (l.getD i 0)
theorem rowIs_app {f : Nat → Int32} {l : List Nat} {y : Nat} (h : rowIs f l) : rowIs (upd f l.length (nI y)) (l ++ [y]) := by
  intro i hi
  rw [List.length_append, List.length_singleton] at hi
  by_cases h9 : i = l.length
  · subst h9
    rw [pk_us]
    simp [List.getD]
  · rw [pk_un h9, h i (by omega)]
    simp [List.getD, List.getElem?_append_left (show i < l.length by omega)]
theorem roI_le0 {o : Option (List Nat)} (hl : ∀ l, o = some l → snd l ∧ l.length ≤ 8 ∧ l ≠ []) (h : roI o ≤ 0) : o = none := by
  cases o with
  | none => rfl
  | some l =>
    obtain ⟨h1, h2, h3⟩ := hl l rfl
    have hb := num_bd h1 h2
    have hp := num_pos h3
    exact absurd h (nI_nle hp (by omega))
set_option maxHeartbeats 4000000 in
set_option maxRecDepth 100000 in
theorem c_Low (l : Launch) (g : q_G) (ws : va_W) (v : Int32) (n : Nat) (h0 : 0 < n) (hn : n < 2147483648) : MetW l g yL_low cL_low 2 (some .int) ({ frames := 0, cells := 0, slots := 0, locals := 0 } : Room) [.int v, .int (nI n)] (ws) (q_Qi g (fun r w => (∃ j, j < n ∧ r = nI j) ∧ w = ws)) := by
  refine q_met (own := RL) (by decide +kernel) rfl (Nat.le_of_ble_eq_true rfl) (fun p e s m args below meth c cx hr hnm => ?_)
  refine r_lv (lv2 := [(0, .int v), (1, .int (nI n))]) (q_pk [0, 1] rfl) ?_
  refine r_iload_n cx dL_low_0 rfl rfl ?_
  refine r_ldc (v := 2147483647) cx dL_low_1 tb_109 ?_
  refine r_iand cx dL_low_3 ?_
  obtain ⟨j, hj, he⟩ := pk_andE v (m := 2147483647) 31 (by decide)
  refine r_eqi he ?_
  refine r_iload_n cx dL_low_4 rfl rfl ?_
  refine r_iremN cx dL_low_5 (by omega) (by omega) (by omega) ?_
  exact r_iret cx dL_low_6 hr (⟨⟨j % n, Nat.mod_lt _ h0, rfl⟩, rfl⟩) (Nat.le_of_ble_eq_true rfl) (Nat.le_of_ble_eq_true rfl)
set_option maxHeartbeats 4000000 in
set_option maxRecDepth 100000 in
theorem c_Cell (l : Launch) (g : q_G) (ws : va_W) (k : Nat) (hk : k < 2147483648) (hn : (q_sc g).2.1 < 2147483648) : MetW l g yL_cell cL_cell 2 (some .int) ({ frames := 0, cells := 0, slots := 0, locals := 0 } : Room) [.ref (q_sc g).1, .int (nI k)] (ws) (q_Qi g (fun r w => w = ws)) := by
  refine q_met (own := RL) (by decide +kernel) rfl (Nat.le_of_ble_eq_true rfl) (fun p e s m args below meth c cx hr hnm => ?_)
  refine r_lv (lv2 := [(0, .ref (q_sc g).1), (1, .int (nI k))]) (q_pk [0, 1] rfl) ?_
  refine r_iload_n cx dL_cell_0 rfl rfl ?_
  refine r_aload_n cx dL_cell_1 rfl rfl ?_
  refine r_slen cx dL_cell_2 ?_
  refine r_icmpgeN (tgt := 12) cx (by omega) (by omega) dL_cell_3 (by decide) (fun h_3 => ?_) (fun h_3 => ?_)
  · skip
    refine r_ldc (v := 50821) cx dL_cell_12 tb_104 ?_
    refine r_iload_n cx dL_cell_14 rfl rfl ?_
    refine r_bipush (v := nI 29) cx dL_cell_15 (by decide) ?_
    first | refine r_iaddN cx dL_cell_17 ?_ | refine r_iadd cx dL_cell_17 ?_
    first | refine r_imulN cx dL_cell_18 ?_ | refine r_imul cx dL_cell_18 ?_
    refine r_ldc (v := 2140613) cx dL_cell_19 tb_105 ?_
    first | refine r_iaddN cx dL_cell_21 ?_ | refine r_iadd cx dL_cell_21 ?_
    exact r_iret cx dL_cell_22 hr (rfl) (Nat.le_of_ble_eq_true rfl) (Nat.le_of_ble_eq_true rfl)
  · skip
    refine r_aload_n cx dL_cell_6 rfl rfl ?_
    refine r_iload_n cx dL_cell_7 rfl rfl ?_
    refine r_sld cx h_3 hn dL_cell_8 ?_
    refine r_goto (tgt := 22) cx dL_cell_9 (by decide) ?_
    exact r_iret cx dL_cell_22 hr (rfl) (Nat.le_of_ble_eq_true rfl) (Nat.le_of_ble_eq_true rfl)
set_option maxHeartbeats 4000000 in
set_option maxRecDepth 100000 in
theorem c_Bits (l : Launch) (g : q_G) (ws : va_W) (F : Nat) (hF : F < 65536) : MetW l g yL_bits cL_bits 3 (some .int) ({ frames := 0, cells := 0, slots := 0, locals := 0 } : Room) [.int (nI F)] (ws) (q_Qi g (fun r w => r = nI (bc F) ∧ w = ws)) := by
  refine q_met (own := RL) (by decide +kernel) rfl (Nat.le_of_ble_eq_true rfl) (fun p e s m args below meth c cx hr hnm => ?_)
  refine r_lv (lv2 := [(0, .int (nI F))]) (q_pk [0] rfl) ?_
  refine r_iconst (v := nI 0) cx dL_bits_0 (by decide) ?_
  refine r_istore_n cx dL_bits_1 rfl (by decide) rfl ?_
  refine r_iconst (v := nI 0) cx dL_bits_2 (by decide) ?_
  refine r_istore_n cx dL_bits_3 rfl (by decide) rfl ?_
  refine at_loop (fun (x : Nat) => x ≤ 16) (fun x => [(0, .int (nI F)), (1, .int (nI (bcS F x))), (2, .int (nI x))]) (fun x => ws) (fun x => 16 - x) 0 (Nat.zero_le 16) (q_pk [2, 1, 0] rfl) rfl (fun i hx ih => ?_)
  try dsimp only at hx ⊢
  refine r_iload_n cx dL_bits_4 rfl rfl ?_
  refine r_bipush (v := nI 16) cx dL_bits_5 (by decide) ?_
  refine r_icmpgeN (tgt := 24) cx (by omega) (by omega) dL_bits_7 (by decide) (fun h_7 => ?_) (fun h_7 => ?_)
  · skip
    obtain rfl : i = 16 := by omega
    refine r_iload_n cx dL_bits_24 rfl rfl ?_
    exact r_iret cx dL_bits_25 hr (⟨by rw [bcS_16 hF], rfl⟩) (Nat.le_of_ble_eq_true rfl) (Nat.le_of_ble_eq_true rfl)
  · skip
    refine r_iload_n cx dL_bits_10 rfl rfl ?_
    refine r_iload_n cx dL_bits_11 rfl rfl ?_
    refine r_iload_n cx dL_bits_12 rfl rfl ?_
    refine r_ishr cx dL_bits_13 ?_
    refine r_iconst (v := nI 1) cx dL_bits_14 (by decide) ?_
    refine r_iand cx dL_bits_15 ?_
    refine r_eqi (shrm (by omega) (by omega)) ?_
    first | refine r_iaddN cx dL_bits_16 ?_ | refine r_iadd cx dL_bits_16 ?_
    refine r_istore_n cx dL_bits_17 rfl (by decide) rfl ?_
    refine r_iincN (j := 1) cx dL_bits_18 rfl rfl (by decide) rfl ?_
    refine r_goto (tgt := 4) cx dL_bits_21 (by decide) ?_
    exact r_lv (q_pk [2, 1, 0] rfl) (ih (i + 1) (by omega) (by omega))
set_option maxHeartbeats 4000000 in
set_option maxRecDepth 100000 in
theorem c_Lthere (l : Launch) (g : q_G) (N : Nat → Nat) (A : Nat → Nat → Int32) (B : Nat → Nat → Bool) (L : Nat → Nat → Int64) (ws : va_W) (a0 : Nat) (ld : Nat → Nat) (Z : Nat → Nat → Int32) (hw : cR g a0 N A B L (lF g ld Z) ws) (hZ : lR N A B L Z) (k : Nat) (hk : k < N 1) (x1 x2 : Int32) : MetW l g yL_there cL_there 5 (some .boolean) ({ frames := 0, cells := 0, slots := 0, locals := 0 } : Room) [.int (nI k), .int x1, .int x2, .ref (ld 1), .ref (ld 0)] (ws) (q_Qi g (fun r w => r = bI (mtc (hrS B) (fiS A) x1 x2 k) ∧ w = ws)) := by
  refine q_met (own := RL) (by decide +kernel) rfl (Nat.le_of_ble_eq_true rfl) (fun p e s m args below meth c cx hr hnm => ?_)
  obtain ⟨hI, ⟨b1, b2, b3⟩, ⟨z0, z1, z2, z3, z4, z5, z6⟩, zK, zR, zV, zU, zE, zC⟩ := id hZ
  obtain ⟨⟨i1, i2, i3, i4⟩, j2, j3, j4, j5, j6, j7, j8, j9, j10, j11⟩ := id hI
  refine r_lv (lv2 := [(0, .int (nI k)), (1, .int x1), (2, .int x2), (3, .ref (ld 1)), (4, .ref (ld 0))]) (q_pk [0, 1, 2, 3, 4] rfl) ?_
  refine r_aload cx dL_there_0 rfl ?_
  refine r_iconst (v := nI 5) cx dL_there_2 (by decide) ?_
  refine ll_0 cx dL_there_3 hw (by omega) ?_
  refine r_eqi z5 ?_
  refine r_iload_n cx dL_there_4 rfl rfl ?_
  refine r_ishr cx dL_there_5 ?_
  refine r_iconst (v := nI 1) cx dL_there_6 (by decide) ?_
  refine r_iand cx dL_there_7 ?_
  refine r_eqi (goz b1 hk) ?_
  refine r_ifneb (tgt := 37) cx dL_there_8 (by decide) (fun h_8 => ?_) (fun h_8 => ?_)
  · skip
    refine r_iconst (v := nI 0) cx dL_there_37 (by decide) ?_
    exact r_zret cx dL_there_38 hr rfl (⟨by rw [show mtc (hrS B) (fiS A) x1 x2 k = false by simp [mtc, hrS, h_8]]; rfl, rfl⟩) (Nat.le_of_ble_eq_true rfl) (Nat.le_of_ble_eq_true rfl)
  · skip
    refine r_aload_n cx dL_there_11 rfl rfl ?_
    refine r_iconst (v := nI 4) cx dL_there_12 (by decide) ?_
    refine r_iload_n cx dL_there_13 rfl rfl ?_
    first | refine r_imulN cx dL_there_14 ?_ | refine r_imul cx dL_there_14 ?_
    refine r_iconst (v := nI 1) cx dL_there_15 (by decide) ?_
    first | refine r_iaddN cx dL_there_16 ?_ | refine r_iadd cx dL_there_16 ?_
    refine ll_1 cx dL_there_17 hw (by omega) ?_
    refine r_eqi (zV k hk).2.1 ?_
    refine r_iload_n cx dL_there_18 rfl rfl ?_
    refine r_icmpne (tgt := 37) cx dL_there_19 (by decide) (fun h_19 => ?_) (fun h_19 => ?_)
    · skip
      refine r_iconst (v := nI 0) cx dL_there_37 (by decide) ?_
      exact r_zret cx dL_there_38 hr rfl (⟨by rw [show mtc (hrS B) (fiS A) x1 x2 k = false by have h9 : ¬ fiS A 1 k = x2 := h_19; simp [mtc, h9]]; rfl, rfl⟩) (Nat.le_of_ble_eq_true rfl) (Nat.le_of_ble_eq_true rfl)
    · skip
      refine r_aload_n cx dL_there_22 rfl rfl ?_
      refine r_iconst (v := nI 4) cx dL_there_23 (by decide) ?_
      refine r_iload_n cx dL_there_24 rfl rfl ?_
      first | refine r_imulN cx dL_there_25 ?_ | refine r_imul cx dL_there_25 ?_
      refine r_iconst (v := nI 3) cx dL_there_26 (by decide) ?_
      first | refine r_iaddN cx dL_there_27 ?_ | refine r_iadd cx dL_there_27 ?_
      refine ll_1 cx dL_there_28 hw (by omega) ?_
      refine r_eqi (zV k hk).2.2.2.1 ?_
      refine r_iload_n cx dL_there_29 rfl rfl ?_
      refine r_icmpne (tgt := 37) cx dL_there_30 (by decide) (fun h_30 => ?_) (fun h_30 => ?_)
      · skip
        refine r_iconst (v := nI 0) cx dL_there_37 (by decide) ?_
        exact r_zret cx dL_there_38 hr rfl (⟨by rw [show mtc (hrS B) (fiS A) x1 x2 k = false by have h9 : ¬ fiS A 3 k = x1 := h_30; simp [mtc, h9]]; rfl, rfl⟩) (Nat.le_of_ble_eq_true rfl) (Nat.le_of_ble_eq_true rfl)
      · skip
        refine r_iconst (v := nI 1) cx dL_there_33 (by decide) ?_
        refine r_goto (tgt := 38) cx dL_there_34 (by decide) ?_
        exact r_zret cx dL_there_38 hr rfl (⟨by rw [show mtc (hrS B) (fiS A) x1 x2 k = true by have h7 : fiS A 1 k = x2 := h_19; have h8 : fiS A 3 k = x1 := h_30; simp [mtc, hrS, h_8, h7, h8]]; rfl, rfl⟩) (Nat.le_of_ble_eq_true rfl) (Nat.le_of_ble_eq_true rfl)
set_option maxHeartbeats 4000000 in
set_option maxRecDepth 100000 in
theorem c_Lapplied (l : Launch) (g : q_G) (N : Nat → Nat) (A : Nat → Nat → Int32) (B : Nat → Nat → Bool) (L : Nat → Nat → Int64) (ws : va_W) (a0 : Nat) (ld : Nat → Nat) (Z : Nat → Nat → Int32) (hw : cR g a0 N A B L (lF g ld Z) ws) (hZ : lR N A B L Z) (k : Nat) (hk : k < N 2) (l0 : List Nat) (hl0 : snd l0) (hn0 : l0.length ≤ 8) : MetW l g yL_applied cL_applied 10 (some .int) ({ frames := 0, cells := 0, slots := 0, locals := 0 } : Room) [.int (nI (num l0)), .int (nI k), .ref (ld 3)] (ws) (q_Qi g (fun r w => r = nI (num (apR (soF A k) (toF A k) (beF A k) l0)) ∧ w = ws)) := by
  refine q_met (own := RL) (by decide +kernel) rfl (Nat.le_of_ble_eq_true rfl) (fun p e s m args below meth c cx hr hnm => ?_)
  obtain ⟨hI, ⟨b1, b2, b3⟩, ⟨z0, z1, z2, z3, z4, z5, z6⟩, zK, zR, zV, zU, zE, zC⟩ := id hZ
  obtain ⟨⟨i1, i2, i3, i4⟩, j2, j3, j4, j5, j6, j7, j8, j9, j10, j11⟩ := id hI
  obtain ⟨hso, e7, hbe, e9, e8, hto⟩ := j6 k hk
  refine r_lv (lv2 := [(0, .int (nI (num l0))), (1, .int (nI k)), (2, .ref (ld 3))]) (q_pk [0, 1, 2] rfl) ?_
  refine r_iconst (v := nI 0) cx dL_applied_0 (by decide) ?_
  refine r_istore_n cx dL_applied_1 rfl (by decide) rfl ?_
  refine r_iconst (v := nI 1) cx dL_applied_2 (by decide) ?_
  refine r_istore cx dL_applied_3 (by decide) rfl ?_
  refine r_bipush (v := nI 8) cx dL_applied_5 (by decide) ?_
  refine r_istore cx dL_applied_7 (by decide) rfl ?_
  refine r_iload_n cx dL_applied_9 rfl rfl ?_
  refine r_istore cx dL_applied_10 (by decide) rfl ?_
  refine at_loop (fun (x : List Nat × List Nat) => x.1 ++ x.2 = l0) (fun x => [(0, .int (nI (num l0))), (1, .int (nI k)), (2, .ref (ld 3)), (3, .int (nI (num (apL (soF A k) (toF A k) (beF A k) x.2)))), (4, .int (nI (9 ^ (apL (soF A k) (toF A k) (beF A k) x.2).length))), (5, .int (nI (fol x.2))), (6, .int (nI (num x.1)))]) (fun x => ws) (fun x => x.1.length) (l0, []) (List.append_nil l0) (q_pk [4, 5, 6, 3, 2, 1, 0] rfl) rfl (fun x hx ih => ?_)
  obtain ⟨l1, l2⟩ := x
  try dsimp only at hx ⊢
  have hlen : l1.length + l2.length = l0.length := by rw [← hx, List.length_append]
  have hs1 : snd l1 := (snd_app.mp (hx ▸ hl0)).1
  have hs2 : snd l2 := (snd_app.mp (hx ▸ hl0)).2
  have hb1 := num_bd hs1 (by omega)
  have hal := apL_len (soF A k) (toF A k) (beF A k) l2
  have hb2 := num_bd (apL_snd (so := (soF A k)) (be := (beF A k)) hto hs2) (by omega)
  have hb3 := p9 (n := (apL (soF A k) (toF A k) (beF A k) l2).length) (by omega)
  have hf := fol_lt hs2
  refine r_iload cx dL_applied_12 rfl ?_
  refine r_ifleN (tgt := 139) cx (by omega) dL_applied_14 (by decide) (fun h_14 => ?_) (fun h_14 => ?_)
  · skip
    obtain rfl : l1 = [] := num_zero.mp h_14
    obtain rfl : l2 = l0 := by simpa using hx
    refine r_iload_n cx dL_applied_139 rfl rfl ?_
    refine r_ifneN (tgt := 147) cx (by omega) dL_applied_140 (by decide) (fun h_140 => ?_) (fun h_140 => ?_)
    · skip
      refine r_iload_n cx dL_applied_147 rfl rfl ?_
      exact r_iret cx dL_applied_148 hr (⟨by first | (rw [apR, if_neg (fun z => h_140 (num_zero.mpr z))]; done) | (rw [apR, if_pos (num_zero.mp h_140)]; done), rfl⟩) (Nat.le_of_ble_eq_true rfl) (Nat.le_of_ble_eq_true rfl)
    · skip
      refine r_iload_n cx dL_applied_143 rfl rfl ?_
      refine r_goto (tgt := 148) cx dL_applied_144 (by decide) ?_
      exact r_iret cx dL_applied_148 hr (⟨by first | (rw [apR, if_neg (fun z => h_140 (num_zero.mpr z))]; done) | (rw [apR, if_pos (num_zero.mp h_140)]; done), rfl⟩) (Nat.le_of_ble_eq_true rfl) (Nat.le_of_ble_eq_true rfl)
  · skip
    obtain ⟨l1, x, rfl⟩ : ∃ l3 y, l1 = l3 ++ [y] := l_snoc (fun z => by rw [z] at h_14; exact absurd h_14 (by decide))
    have hx8 : x < 8 := hs1 x (by simp)
    have hsn := num_snoc l1 x
    rw [List.length_append, List.length_singleton] at hlen
    have hot := opO_8 (so := (soF A k)) (be := (beF A k)) (f := fol l2) hto hx8
    have hO := apL_O (soF A k) (toF A k) (beF A k) x l2
    refine r_iload cx dL_applied_17 rfl ?_
    refine r_bipush (v := nI 9) cx dL_applied_19 (by decide) ?_
    refine r_iremN cx dL_applied_21 (by omega) (by omega) (by omega) ?_
    refine r_iconst (v := nI 1) cx dL_applied_22 (by decide) ?_
    first | refine r_isubN cx dL_applied_23 (by omega) ?_ | refine r_isub cx dL_applied_23 ?_
    refine r_eqi (y := nI x) (congrArg nI (by omega)) ?_
    refine r_istore cx dL_applied_24 (by decide) rfl ?_
    refine at_val (tgt := 68) (fun z => z = bI (chg (soF A k) (beF A k) x (fol l2))) (fun z hz => ?_) (fun J_68 => ?_)
    · subst hz
      refine r_istore cx dL_applied_68 (by decide) rfl ?_
      refine at_val (tgt := 88) (fun z => z = toI (opO (soF A k) (toF A k) (beF A k) x (fol l2))) (fun z hz => ?_) (fun J_88 => ?_)
      · subst hz
        refine r_istore cx dL_applied_88 (by decide) rfl ?_
        refine r_iload_n cx dL_applied_90 rfl rfl ?_
        refine at_val (tgt := 107) (fun z => z = nI (addO (opO (soF A k) (toF A k) (beF A k) x (fol l2)) (9 ^ (apL (soF A k) (toF A k) (beF A k) l2).length))) (fun z hz => ?_) (fun J_107 => ?_)
        · subst hz
          first | refine r_iaddN cx dL_applied_107 ?_ | refine r_iadd cx dL_applied_107 ?_
          refine r_eqi (y := nI (num (apL (soF A k) (toF A k) (beF A k) (x :: l2)))) (congrArg nI hO.1.symm) ?_
          refine r_istore_n cx dL_applied_108 rfl (by decide) rfl ?_
          refine r_iload cx dL_applied_109 rfl ?_
          refine at_val (tgt := 122) (fun z => z = nI (mulO (opO (soF A k) (toF A k) (beF A k) x (fol l2)))) (fun z hz => ?_) (fun J_122 => ?_)
          · subst hz
            first | refine r_imulN cx dL_applied_122 ?_ | refine r_imul cx dL_applied_122 ?_
            refine r_eqi (y := nI (9 ^ (apL (soF A k) (toF A k) (beF A k) (x :: l2)).length)) (congrArg nI hO.2.symm) ?_
            refine r_istore cx dL_applied_123 (by decide) rfl ?_
            refine r_iload cx dL_applied_125 rfl ?_
            refine r_istore cx dL_applied_127 (by decide) rfl ?_
            refine r_iload cx dL_applied_129 rfl ?_
            refine r_bipush (v := nI 9) cx dL_applied_131 (by decide) ?_
            refine r_idivN cx dL_applied_133 (by omega) (by omega) (by omega) ?_
            refine r_eqi (y := nI (num l1)) (congrArg nI (by omega)) ?_
            refine r_istore cx dL_applied_134 (by decide) rfl ?_
            refine r_goto (tgt := 12) cx dL_applied_136 (by decide) ?_
            exact r_lv (q_pk [7, 8, 9, 3, 2, 1, 0] rfl) (ih (l1, x :: l2) (by rw [← hx]; simp) (by simp))
          · skip
            refine r_iload cx dL_applied_111 rfl ?_
            refine r_ifge (tgt := 120) cx dL_applied_113 (by decide) (fun h_113 => ?_) (fun h_113 => ?_)
            · skip
              obtain ⟨t, ht, ht2⟩ := toI_0 hot h_113
              refine r_bipush (v := nI 9) cx dL_applied_120 (by decide) ?_
              exact J_122 _ ((congrArg (fun q9 => nI (mulO q9)) ht).symm)
            · skip
              have ht := toI_n0 hot h_113
              refine r_iconst (v := nI 1) cx dL_applied_116 (by decide) ?_
              refine r_goto (tgt := 122) cx dL_applied_117 (by decide) ?_
              exact J_122 _ ((congrArg (fun q9 => nI (mulO q9)) ht).symm)
        · skip
          refine r_iload cx dL_applied_91 rfl ?_
          refine r_ifge (tgt := 100) cx dL_applied_93 (by decide) (fun h_93 => ?_) (fun h_93 => ?_)
          · skip
            obtain ⟨t, ht, ht2⟩ := toI_0 hot h_93
            refine r_iload cx dL_applied_100 rfl ?_
            refine r_iload cx dL_applied_102 rfl ?_
            refine r_eqi ht2 ?_
            refine r_iconst (v := nI 1) cx dL_applied_104 (by decide) ?_
            first | refine r_iaddN cx dL_applied_105 ?_ | refine r_iadd cx dL_applied_105 ?_
            first | refine r_imulN cx dL_applied_106 ?_ | refine r_imul cx dL_applied_106 ?_
            exact J_107 _ ((congrArg (fun q9 => nI (addO q9 _)) ht).symm)
          · skip
            have ht := toI_n0 hot h_93
            refine r_iconst (v := nI 0) cx dL_applied_96 (by decide) ?_
            refine r_goto (tgt := 107) cx dL_applied_97 (by decide) ?_
            exact J_107 _ ((congrArg (fun q9 => nI (addO q9 _)) ht).symm)
      · skip
        refine r_iload cx dL_applied_70 rfl ?_
        refine r_ifeqb (tgt := 86) cx dL_applied_72 (by decide) (fun h_72 => ?_) (fun h_72 => ?_)
        · skip
          refine r_iload cx dL_applied_86 rfl ?_
          exact J_88 _ (by rw [opO, h_72]; rfl)
        · skip
          refine r_aload_n cx dL_applied_75 rfl rfl ?_
          refine r_bipush (v := nI 6) cx dL_applied_76 (by decide) ?_
          refine r_iload_n cx dL_applied_78 rfl rfl ?_
          first | refine r_imulN cx dL_applied_79 ?_ | refine r_imul cx dL_applied_79 ?_
          refine r_iconst (v := nI 1) cx dL_applied_80 (by decide) ?_
          first | refine r_iaddN cx dL_applied_81 ?_ | refine r_iadd cx dL_applied_81 ?_
          refine ll_3 cx dL_applied_82 hw (by omega) ?_
          refine r_eqi ((zU k hk).2.1.trans e8) ?_
          refine r_goto (tgt := 88) cx dL_applied_83 (by decide) ?_
          exact J_88 _ (by rw [opO, h_72]; rfl)
    · skip
      refine r_iload cx dL_applied_26 rfl ?_
      refine r_aload_n cx dL_applied_28 rfl rfl ?_
      refine r_bipush (v := nI 6) cx dL_applied_29 (by decide) ?_
      refine r_iload_n cx dL_applied_31 rfl rfl ?_
      first | refine r_imulN cx dL_applied_32 ?_ | refine r_imul cx dL_applied_32 ?_
      refine ll_3 cx dL_applied_33 hw (by omega) ?_
      refine r_eqi ((zU k hk).1.trans e7) ?_
      refine r_icmpneN (tgt := 67) cx (by omega) (by omega) dL_applied_34 (by decide) (fun h_34 => ?_) (fun h_34 => ?_)
      · skip
        refine r_iconst (v := nI 0) cx dL_applied_67 (by decide) ?_
        exact J_68 _ (by simp [chg, h_34, bI_f, nI_0])
      · skip
        refine r_aload_n cx dL_applied_37 rfl rfl ?_
        refine r_bipush (v := nI 6) cx dL_applied_38 (by decide) ?_
        refine r_iload_n cx dL_applied_40 rfl rfl ?_
        first | refine r_imulN cx dL_applied_41 ?_ | refine r_imul cx dL_applied_41 ?_
        refine r_iconst (v := nI 2) cx dL_applied_42 (by decide) ?_
        first | refine r_iaddN cx dL_applied_43 ?_ | refine r_iadd cx dL_applied_43 ?_
        refine ll_3 cx dL_applied_44 hw (by omega) ?_
        refine r_eqi ((zU k hk).2.2.1.trans e9) ?_
        refine r_bipush (v := nI 9) cx dL_applied_45 (by decide) ?_
        refine r_icmpeqN (tgt := 63) cx (by omega) (by omega) dL_applied_47 (by decide) (fun h_47 => ?_) (fun h_47 => ?_)
        · skip
          refine r_iconst (v := nI 1) cx dL_applied_63 (by decide) ?_
          refine r_goto (tgt := 68) cx dL_applied_64 (by decide) ?_
          exact J_68 _ (by simp [chg, h_34, h_47, bI_t]; rfl)
        · skip
          refine r_aload_n cx dL_applied_50 rfl rfl ?_
          refine r_bipush (v := nI 6) cx dL_applied_51 (by decide) ?_
          refine r_iload_n cx dL_applied_53 rfl rfl ?_
          first | refine r_imulN cx dL_applied_54 ?_ | refine r_imul cx dL_applied_54 ?_
          refine r_iconst (v := nI 2) cx dL_applied_55 (by decide) ?_
          first | refine r_iaddN cx dL_applied_56 ?_ | refine r_iadd cx dL_applied_56 ?_
          refine ll_3 cx dL_applied_57 hw (by omega) ?_
          refine r_eqi ((zU k hk).2.2.1.trans e9) ?_
          refine r_iload cx dL_applied_58 rfl ?_
          refine r_icmpneN (tgt := 67) cx (by omega) (by omega) dL_applied_60 (by decide) (fun h_60 => ?_) (fun h_60 => ?_)
          · skip
            refine r_iconst (v := nI 0) cx dL_applied_67 (by decide) ?_
            exact J_68 _ (by simp [chg, h_34, h_47, h_60, bI_f, nI_0])
          · skip
            refine r_iconst (v := nI 1) cx dL_applied_63 (by decide) ?_
            refine r_goto (tgt := 68) cx dL_applied_64 (by decide) ?_
            exact J_68 _ (by simp [chg, h_34, h_47, h_60, bI_t]; rfl)
set_option maxHeartbeats 4000000 in
set_option maxRecDepth 100000 in
theorem c_Lexpected (l : Launch) (g : q_G) (N : Nat → Nat) (A : Nat → Nat → Int32) (B : Nat → Nat → Bool) (L : Nat → Nat → Int64) (ws : va_W) (a0 : Nat) (ld : Nat → Nat) (Z : Nat → Nat → Int32) (hw : cR g a0 N A B L (lF g ld Z) ws) (hZ : lR N A B L Z) (w0 : Nat) (hw0 : w0 < 4) (x2 x3 : Int32) : MetW l g yL_expected cL_expected 8 (some .int) ({ frames := 1, cells := 0, slots := 0, locals := 29 } : Room) [.int (nI w0), .int x2, .int x3, .ref (ld 3), .ref (ld 0)] (ws) (q_Qi g (fun r w => r = expV N A B w0 x2 x3 ∧ w = ws)) := by
  refine q_met (own := RL) (by decide +kernel) rfl (Nat.le_of_ble_eq_true rfl) (fun p e s m args below meth c cx hr hnm => ?_)
  obtain ⟨hI, ⟨b1, b2, b3⟩, ⟨z0, z1, z2, z3, z4, z5, z6⟩, zK, zR, zV, zU, zE, zC⟩ := id hZ
  obtain ⟨⟨i1, i2, i3, i4⟩, j2, j3, j4, j5, j6, j7, j8, j9, j10, j11⟩ := id hI
  have hto : ∀ r, r < N 2 → ∀ t, toF A r = some t → t < 8 := fun r hr => (j6 r hr).2.2.2.2.2
  refine r_lv (lv2 := [(0, .int (nI w0)), (1, .int x2), (2, .int x3), (3, .ref (ld 3)), (4, .ref (ld 0))]) (q_pk [0, 1, 2, 3, 4] rfl) ?_
  refine r_aload cx dL_expected_0 rfl ?_
  refine r_bipush (v := nI 10) cx dL_expected_2 (by decide) ?_
  refine r_iload_n cx dL_expected_4 rfl rfl ?_
  first | refine r_iaddN cx dL_expected_5 ?_ | refine r_iadd cx dL_expected_5 ?_
  refine ll_0 cx dL_expected_6 hw (by omega) ?_
  refine r_eqi (y := roI ((unF (A 6 w0)).map (fun l => expF (goF (rlS A) (B 1) x2 x3) (soF A) (beF A) (toF A) l (0)))) ((zR w0 hw0).trans ((j5 w0 hw0).symm.trans (by cases unF (A 6 w0) <;> rfl))) ?_
  refine r_istore cx dL_expected_7 (by decide) rfl ?_
  refine r_iconst (v := nI 0) cx dL_expected_9 (by decide) ?_
  refine r_istore cx dL_expected_10 (by decide) rfl ?_
  refine at_loop (fun (x : Nat) => x ≤ N 2) (fun x => [(0, .int (nI w0)), (1, .int x2), (2, .int x3), (3, .ref (ld 3)), (4, .ref (ld 0)), (5, .int (roI ((unF (A 6 w0)).map (fun l => expF (goF (rlS A) (B 1) x2 x3) (soF A) (beF A) (toF A) l (x))))), (6, .int (nI x))]) (fun x => ws) (fun x => N 2 - x) 0 (Nat.zero_le _) (q_pk [2, 3, 4, 5, 6, 1, 0] rfl) rfl (fun k hx ih => ?_)
  try dsimp only at hx ⊢
  refine r_iload cx dL_expected_12 rfl ?_
  refine r_aload cx dL_expected_14 rfl ?_
  refine r_iconst (v := nI 3) cx dL_expected_16 (by decide) ?_
  refine ll_0 cx dL_expected_17 hw (by omega) ?_
  refine r_eqi z3 ?_
  refine r_icmpgeN (tgt := 111) cx (by omega) (by omega) dL_expected_18 (by decide) (fun h_18 => ?_) (fun h_18 => ?_)
  · skip
    obtain rfl : k = N 2 := by omega
    refine r_iload cx dL_expected_111 rfl ?_
    exact r_iret cx dL_expected_113 hr (⟨rfl, rfl⟩) (Nat.le_of_ble_eq_true rfl) (Nat.le_of_ble_eq_true rfl)
  · skip
    refine r_iload cx dL_expected_21 rfl ?_
    refine r_ifle (tgt := 111) cx dL_expected_23 (by decide) (fun h_23 => ?_) (fun h_23 => ?_)
    · skip
      have ho := roI_le0 (fun l hl => by
        obtain ⟨l3, h3, rfl⟩ := Option.map_eq_some_iff.mp hl
        obtain ⟨-, h4, h5, h6⟩ := unF_some h3
        obtain ⟨h7, h8⟩ := expF_ok (gs := goF (rlS A) (B 1) x2 x3) (so := soF A) (be := beF A) (n := N 2) hto h4 h5 k hx
        exact ⟨h7, h8, expF_ne h6 k⟩) h_23
      have ho2 : unF (A 6 w0) = none := by simpa using ho
      refine r_iload cx dL_expected_111 rfl ?_
      exact r_iret cx dL_expected_113 hr (⟨by rw [expV, ho2]; rfl, rfl⟩) (Nat.le_of_ble_eq_true rfl) (Nat.le_of_ble_eq_true rfl)
    · skip
      obtain ⟨l9, hl9⟩ : ∃ l, unF (A 6 w0) = some l := by
        cases hq : unF (A 6 w0) with
        | none => rw [hq] at h_23; exact absurd (show (-1 : Int32) ≤ 0 from by decide) h_23
        | some l => exact ⟨l, rfl⟩
      obtain ⟨-, h4, h5, h6⟩ := unF_some hl9
      obtain ⟨h7, h8⟩ := expF_ok (gs := goF (rlS A) (B 1) x2 x3) (so := soF A) (be := beF A) (n := N 2) hto h4 h5 k hx
      rw [hl9, show roI ((some l9).map (fun l => expF (goF (rlS A) (B 1) x2 x3) (soF A) (beF A) (toF A) l k)) = nI (num (expF (goF (rlS A) (B 1) x2 x3) (soF A) (beF A) (toF A) l9 (k))) from rfl]
      refine at_val (tgt := 83) (fun z => z = bI (goF (rlS A) (B 1) x2 x3 k)) (fun z hz => ?_) (fun J_83 => ?_)
      · subst hz
        refine r_istore cx dL_expected_83 (by decide) rfl ?_
        refine at_val (tgt := 103) (fun z => z = nI (num (expF (goF (rlS A) (B 1) x2 x3) (soF A) (beF A) (toF A) l9 (k + 1)))) (fun z hz => ?_) (fun J_103 => ?_)
        · subst hz
          refine r_istore cx dL_expected_103 (by decide) rfl ?_
          refine r_iincN (j := 1) cx dL_expected_105 rfl rfl (by decide) rfl ?_
          refine r_goto (tgt := 12) cx dL_expected_108 (by decide) ?_
          have z9 := ih (k + 1) (by omega) (by omega)
          dsimp only at z9
          rw [hl9] at z9
          exact r_lv (q_pk [3, 4, 5, 6, 7, 1, 0] rfl) (z9)
        · skip
          refine r_iload cx dL_expected_85 rfl ?_
          refine r_ifeqb (tgt := 101) cx dL_expected_87 (by decide) (fun h_87 => ?_) (fun h_87 => ?_)
          · skip
            refine r_iload cx dL_expected_101 rfl ?_
            exact J_103 _ (by rw [expF_no h_87])
          · skip
            refine r_iload cx dL_expected_90 rfl ?_
            refine r_iload cx dL_expected_92 rfl ?_
            refine r_aload_n cx dL_expected_94 rfl rfl ?_
            refine k_L_32 cx (c_Lapplied l g N A B L ws a0 ld Z hw hZ k h_18 (expF (goF (rlS A) (B 1) x2 x3) (soF A) (beF A) (toF A) l9 (k)) h7 h8) dL_expected_95 ⟨Nat.le_of_ble_eq_true rfl, Nat.le_of_ble_eq_true rfl⟩ ⟨Nat.le_of_ble_eq_true rfl, Nat.le_of_ble_eq_true rfl⟩ rfl rfl (Nat.le_of_ble_eq_true rfl) (fun r w hp => ?_)
            obtain ⟨rfl, rfl⟩ := hp
            refine r_goto (tgt := 103) cx dL_expected_98 (by decide) ?_
            exact J_103 _ (by rw [expF_yes h_87])
      · skip
        refine r_aload cx dL_expected_26 rfl ?_
        refine r_bipush (v := nI 6) cx dL_expected_28 (by decide) ?_
        refine ll_0 cx dL_expected_30 hw (by omega) ?_
        refine r_eqi z6 ?_
        refine r_iload cx dL_expected_31 rfl ?_
        refine r_ishr cx dL_expected_33 ?_
        refine r_iconst (v := nI 1) cx dL_expected_34 (by decide) ?_
        refine r_iand cx dL_expected_35 ?_
        refine r_eqi (goz (by omega) h_18) ?_
        refine r_ifneb (tgt := 82) cx dL_expected_36 (by decide) (fun h_36 => ?_) (fun h_36 => ?_)
        · skip
          refine r_iconst (v := nI 0) cx dL_expected_82 (by decide) ?_
          exact J_83 _ (by rw [show goF (rlS A) (B 1) x2 x3 k = false by simp [goF, h_36]]; rfl)
        · skip
          refine r_iload_n cx dL_expected_39 rfl rfl ?_
          refine r_aload_n cx dL_expected_40 rfl rfl ?_
          refine r_bipush (v := nI 6) cx dL_expected_41 (by decide) ?_
          refine r_iload cx dL_expected_43 rfl ?_
          first | refine r_imulN cx dL_expected_45 ?_ | refine r_imul cx dL_expected_45 ?_
          refine r_iconst (v := nI 3) cx dL_expected_46 (by decide) ?_
          first | refine r_iaddN cx dL_expected_47 ?_ | refine r_iadd cx dL_expected_47 ?_
          refine ll_3 cx dL_expected_48 hw (by omega) ?_
          refine r_eqi (zU k h_18).2.2.2.1 ?_
          refine r_icmplt (tgt := 82) cx dL_expected_49 (by decide) (fun h_49 => ?_) (fun h_49 => ?_)
          · skip
            refine r_iconst (v := nI 0) cx dL_expected_82 (by decide) ?_
            exact J_83 _ (by rw [show goF (rlS A) (B 1) x2 x3 k = false by have h9 : ¬ rlS A 0 k ≤ x2 := Int32.not_le.mpr h_49; simp [goF, h9]]; rfl)
          · skip
            refine r_iload_n cx dL_expected_52 rfl rfl ?_
            refine r_aload_n cx dL_expected_53 rfl rfl ?_
            refine r_bipush (v := nI 6) cx dL_expected_54 (by decide) ?_
            refine r_iload cx dL_expected_56 rfl ?_
            first | refine r_imulN cx dL_expected_58 ?_ | refine r_imul cx dL_expected_58 ?_
            refine r_iconst (v := nI 4) cx dL_expected_59 (by decide) ?_
            first | refine r_iaddN cx dL_expected_60 ?_ | refine r_iadd cx dL_expected_60 ?_
            refine ll_3 cx dL_expected_61 hw (by omega) ?_
            refine r_eqi (zU k h_18).2.2.2.2.1 ?_
            refine r_icmpgt (tgt := 82) cx dL_expected_62 (by decide) (fun h_62 => ?_) (fun h_62 => ?_)
            · skip
              refine r_iconst (v := nI 0) cx dL_expected_82 (by decide) ?_
              exact J_83 _ (by rw [show goF (rlS A) (B 1) x2 x3 k = false by have h9 : ¬ x2 ≤ rlS A 1 k := Int32.not_le.mpr h_62; simp [goF, h9]]; rfl)
            · skip
              refine r_iload_n cx dL_expected_65 rfl rfl ?_
              refine r_aload_n cx dL_expected_66 rfl rfl ?_
              refine r_bipush (v := nI 6) cx dL_expected_67 (by decide) ?_
              refine r_iload cx dL_expected_69 rfl ?_
              first | refine r_imulN cx dL_expected_71 ?_ | refine r_imul cx dL_expected_71 ?_
              refine r_iconst (v := nI 5) cx dL_expected_72 (by decide) ?_
              first | refine r_iaddN cx dL_expected_73 ?_ | refine r_iadd cx dL_expected_73 ?_
              refine ll_3 cx dL_expected_74 hw (by omega) ?_
              refine r_eqi (zU k h_18).2.2.2.2.2 ?_
              refine r_icmplt (tgt := 82) cx dL_expected_75 (by decide) (fun h_75 => ?_) (fun h_75 => ?_)
              · skip
                refine r_iconst (v := nI 0) cx dL_expected_82 (by decide) ?_
                exact J_83 _ (by rw [show goF (rlS A) (B 1) x2 x3 k = false by have h9 : ¬ rlS A 2 k ≤ x3 := Int32.not_le.mpr h_75; simp [goF, h9]]; rfl)
              · skip
                refine r_iconst (v := nI 1) cx dL_expected_78 (by decide) ?_
                refine r_goto (tgt := 83) cx dL_expected_79 (by decide) ?_
                exact J_83 _ (by rw [show goF (rlS A) (B 1) x2 x3 k = true by have h1 : rlS A 0 k ≤ x2 := Int32.not_lt.mp h_49; have h2 : x2 ≤ rlS A 1 k := Int32.not_lt.mp h_62; have h3 : rlS A 2 k ≤ x3 := Int32.not_lt.mp h_75; simp [goF, h_36, h1, h2, h3]]; rfl)
set_option maxHeartbeats 4000000 in
set_option maxRecDepth 100000 in
theorem c_Lsounds_t (l : Launch) (g : q_G) (N : Nat → Nat) (A : Nat → Nat → Int32) (B : Nat → Nat → Bool) (L : Nat → Nat → Int64) (ws : va_W) (a0 : Nat) (ld : Nat → Nat) (Z : Nat → Nat → Int32) (hw : cR g a0 N A B L (lF g ld Z) ws) (l0 : List Nat) (hl0 : snd l0) (hn0 : l0.length ≤ 8) : MetW l g yL_sounds cL_sounds 4 (some .int) ({ frames := 0, cells := 0, slots := 0, locals := 0 } : Room) [.int (nI (num l0)), .ref (ld 6)] (ws) (q_Qi g (fun r w => r = nI l0.length ∧ ∃ f, rowIs f l0.reverse ∧ cR g a0 N A B L (lF g ld (va_up Z 6 f)) w)) := by
  refine q_met (own := RL) (by decide +kernel) rfl (Nat.le_of_ble_eq_true rfl) (fun p e s m args below meth c cx hr hnm => ?_)
  refine r_lv (lv2 := [(0, .int (nI (num l0))), (1, .ref (ld 6))]) (q_pk [0, 1] rfl) ?_
  refine r_iconst (v := nI 0) cx dL_sounds_0 (by decide) ?_
  refine r_istore_n cx dL_sounds_1 rfl (by decide) rfl ?_
  refine r_iload_n cx dL_sounds_2 rfl rfl ?_
  refine r_istore_n cx dL_sounds_3 rfl (by decide) rfl ?_
  refine at_loop (fun (x : (List Nat × List Nat) × ((Nat → Int32) × va_W)) => x.1.1 ++ x.1.2 = l0 ∧ rowIs x.2.1 x.1.2.reverse ∧ cR g a0 N A B L (lF g ld (va_up Z 6 x.2.1)) x.2.2) (fun x => [(0, .int (nI (num l0))), (1, .ref (ld 6)), (2, .int (nI x.1.2.length)), (3, .int (nI (num x.1.1)))]) (fun x => x.2.2) (fun x => x.1.1.length) ((l0, []), (Z 6, ws)) ⟨List.append_nil l0, fun i hi => absurd hi (Nat.not_lt_zero i), hw⟩ (q_pk [2, 3, 1, 0] rfl) rfl (fun x hx ih => ?_)
  obtain ⟨⟨l1, l2⟩, ⟨f, w⟩⟩ := x
  try dsimp only at hx ⊢
  clear hw
  obtain ⟨hx, hrw, hw⟩ := hx
  have hlen : l1.length + l2.length = l0.length := by rw [← hx, List.length_append]
  have hs1 : snd l1 := (snd_app.mp (hx ▸ hl0)).1
  have hb1 := num_bd hs1 (by omega)
  refine r_iload_n cx dL_sounds_4 rfl rfl ?_
  refine r_ifleN (tgt := 28) cx (by omega) dL_sounds_5 (by decide) (fun h_5 => ?_) (fun h_5 => ?_)
  · skip
    obtain rfl : l1 = [] := num_zero.mp h_5
    obtain rfl : l2 = l0 := by simpa using hx
    refine r_iload_n cx dL_sounds_28 rfl rfl ?_
    exact r_iret cx dL_sounds_29 hr (⟨rfl, f, hrw, hw⟩) (Nat.le_of_ble_eq_true rfl) (Nat.le_of_ble_eq_true rfl)
  · skip
    obtain ⟨l1, x, rfl⟩ : ∃ l3 y, l1 = l3 ++ [y] := l_snoc (fun z => by rw [z] at h_5; exact absurd h_5 (by decide))
    have hx8 : x < 8 := hs1 x (by simp)
    have hsn := num_snoc l1 x
    rw [List.length_append, List.length_singleton] at hlen
    refine r_aload_n cx dL_sounds_8 rfl rfl ?_
    refine r_iload_n cx dL_sounds_9 rfl rfl ?_
    refine r_iload_n cx dL_sounds_10 rfl rfl ?_
    refine r_bipush (v := nI 9) cx dL_sounds_11 (by decide) ?_
    refine r_iremN cx dL_sounds_13 (by omega) (by omega) (by omega) ?_
    refine r_iconst (v := nI 1) cx dL_sounds_14 (by decide) ?_
    first | refine r_isubN cx dL_sounds_15 (by omega) ?_ | refine r_isub cx dL_sounds_15 ?_
    refine r_eqi (y := nI x) (congrArg nI (by omega)) ?_
    refine ls_6 cx dL_sounds_16 hw (by omega) (fun w hw => ?_)
    refine r_iincN (j := 1) cx dL_sounds_17 rfl rfl (by decide) rfl ?_
    refine r_iload_n cx dL_sounds_20 rfl rfl ?_
    refine r_bipush (v := nI 9) cx dL_sounds_21 (by decide) ?_
    refine r_idivN cx dL_sounds_23 (by omega) (by omega) (by omega) ?_
    refine r_eqi (y := nI (num l1)) (congrArg nI (by omega)) ?_
    refine r_istore_n cx dL_sounds_24 rfl (by decide) rfl ?_
    refine r_goto (tgt := 4) cx dL_sounds_25 (by decide) ?_
    exact r_lv (q_pk [2, 3, 1, 0] rfl) (ih ((l1, x :: l2), (upd f l2.length (nI x), w)) ⟨by rw [← hx]; simp, by
    have h9 := rowIs_app (y := x) hrw
    rw [List.length_reverse] at h9
    rw [List.reverse_cons]
    exact h9, hw⟩ (by simp))
set_option maxHeartbeats 4000000 in
set_option maxRecDepth 100000 in
theorem c_Lsounds_u (l : Launch) (g : q_G) (N : Nat → Nat) (A : Nat → Nat → Int32) (B : Nat → Nat → Bool) (L : Nat → Nat → Int64) (ws : va_W) (a0 : Nat) (ld : Nat → Nat) (Z : Nat → Nat → Int32) (hw : cR g a0 N A B L (lF g ld Z) ws) (l0 : List Nat) (hl0 : snd l0) (hn0 : l0.length ≤ 8) : MetW l g yL_sounds cL_sounds 4 (some .int) ({ frames := 0, cells := 0, slots := 0, locals := 0 } : Room) [.int (nI (num l0)), .ref (ld 7)] (ws) (q_Qi g (fun r w => r = nI l0.length ∧ ∃ f, rowIs f l0.reverse ∧ cR g a0 N A B L (lF g ld (va_up Z 7 f)) w)) := by
  refine q_met (own := RL) (by decide +kernel) rfl (Nat.le_of_ble_eq_true rfl) (fun p e s m args below meth c cx hr hnm => ?_)
  refine r_lv (lv2 := [(0, .int (nI (num l0))), (1, .ref (ld 7))]) (q_pk [0, 1] rfl) ?_
  refine r_iconst (v := nI 0) cx dL_sounds_0 (by decide) ?_
  refine r_istore_n cx dL_sounds_1 rfl (by decide) rfl ?_
  refine r_iload_n cx dL_sounds_2 rfl rfl ?_
  refine r_istore_n cx dL_sounds_3 rfl (by decide) rfl ?_
  refine at_loop (fun (x : (List Nat × List Nat) × ((Nat → Int32) × va_W)) => x.1.1 ++ x.1.2 = l0 ∧ rowIs x.2.1 x.1.2.reverse ∧ cR g a0 N A B L (lF g ld (va_up Z 7 x.2.1)) x.2.2) (fun x => [(0, .int (nI (num l0))), (1, .ref (ld 7)), (2, .int (nI x.1.2.length)), (3, .int (nI (num x.1.1)))]) (fun x => x.2.2) (fun x => x.1.1.length) ((l0, []), (Z 7, ws)) ⟨List.append_nil l0, fun i hi => absurd hi (Nat.not_lt_zero i), hw⟩ (q_pk [2, 3, 1, 0] rfl) rfl (fun x hx ih => ?_)
  obtain ⟨⟨l1, l2⟩, ⟨f, w⟩⟩ := x
  try dsimp only at hx ⊢
  clear hw
  obtain ⟨hx, hrw, hw⟩ := hx
  have hlen : l1.length + l2.length = l0.length := by rw [← hx, List.length_append]
  have hs1 : snd l1 := (snd_app.mp (hx ▸ hl0)).1
  have hb1 := num_bd hs1 (by omega)
  refine r_iload_n cx dL_sounds_4 rfl rfl ?_
  refine r_ifleN (tgt := 28) cx (by omega) dL_sounds_5 (by decide) (fun h_5 => ?_) (fun h_5 => ?_)
  · skip
    obtain rfl : l1 = [] := num_zero.mp h_5
    obtain rfl : l2 = l0 := by simpa using hx
    refine r_iload_n cx dL_sounds_28 rfl rfl ?_
    exact r_iret cx dL_sounds_29 hr (⟨rfl, f, hrw, hw⟩) (Nat.le_of_ble_eq_true rfl) (Nat.le_of_ble_eq_true rfl)
  · skip
    obtain ⟨l1, x, rfl⟩ : ∃ l3 y, l1 = l3 ++ [y] := l_snoc (fun z => by rw [z] at h_5; exact absurd h_5 (by decide))
    have hx8 : x < 8 := hs1 x (by simp)
    have hsn := num_snoc l1 x
    rw [List.length_append, List.length_singleton] at hlen
    refine r_aload_n cx dL_sounds_8 rfl rfl ?_
    refine r_iload_n cx dL_sounds_9 rfl rfl ?_
    refine r_iload_n cx dL_sounds_10 rfl rfl ?_
    refine r_bipush (v := nI 9) cx dL_sounds_11 (by decide) ?_
    refine r_iremN cx dL_sounds_13 (by omega) (by omega) (by omega) ?_
    refine r_iconst (v := nI 1) cx dL_sounds_14 (by decide) ?_
    first | refine r_isubN cx dL_sounds_15 (by omega) ?_ | refine r_isub cx dL_sounds_15 ?_
    refine r_eqi (y := nI x) (congrArg nI (by omega)) ?_
    refine ls_7 cx dL_sounds_16 hw (by omega) (fun w hw => ?_)
    refine r_iincN (j := 1) cx dL_sounds_17 rfl rfl (by decide) rfl ?_
    refine r_iload_n cx dL_sounds_20 rfl rfl ?_
    refine r_bipush (v := nI 9) cx dL_sounds_21 (by decide) ?_
    refine r_idivN cx dL_sounds_23 (by omega) (by omega) (by omega) ?_
    refine r_eqi (y := nI (num l1)) (congrArg nI (by omega)) ?_
    refine r_istore_n cx dL_sounds_24 rfl (by decide) rfl ?_
    refine r_goto (tgt := 4) cx dL_sounds_25 (by decide) ?_
    exact r_lv (q_pk [2, 3, 1, 0] rfl) (ih ((l1, x :: l2), (upd f l2.length (nI x), w)) ⟨by rw [← hx]; simp, by
    have h9 := rowIs_app (y := x) hrw
    rw [List.length_reverse] at h9
    rw [List.reverse_cons]
    exact h9, hw⟩ (by simp))
