theorem pl_setX {A : Nat → Prop} {Z wm : va_W} {P : List Nat} {f : Nat → va_E} {a k : Nat} {e e0 : va_E} (hD : va_D A (Z ++ (wm ++ va_pl P f))) (ha : a ∈ P) (hk : (Z ++ (wm ++ va_pl P f))[k]? = some (a, e0)) : (Z ++ (wm ++ va_pl P f)).set k (a, e) = Z ++ (wm ++ va_pl P (va_up f a e)) := by
  rw [← List.append_assoc] at hD hk ⊢
  obtain ⟨k2, hk2⟩ := va_pl_get (X := Z ++ wm) (f := f) ha
  have hkk := hD.1 k k2 _ _ hk hk2 rfl
  subst hkk
  rw [va_pl_set hD ha hk2, List.append_assoc]
theorem pl_getZ {Z wm : va_W} {P : List Nat} {f : Nat → va_E} {a : Nat} {e : va_E} (h : a ∈ P) (he : f a = e) : ∃ k : Nat, (Z ++ (wm ++ va_pl P f))[k]? = some (a, e) := by
  rw [← List.append_assoc]
  exact pl_getX h he
theorem out_ob {Z wm : va_W} {P : List Nat} {f : Nat → va_E} {a : Nat} (h : a ∈ P) : (Z ++ (wm ++ va_pl P f)).Perm ((a, f a) :: (Z ++ (wm ++ va_pl (P.erase a) f))) := by
  rw [← List.append_assoc, ← List.append_assoc]
  exact pl_outX h
theorem in_ob {Z wm : va_W} {P : List Nat} {f : Nat → va_E} {a : Nat} {e : va_E} (hn : P.Nodup) (h : a ∈ P) : ((a, e) :: (Z ++ (wm ++ va_pl (P.erase a) f))).Perm (Z ++ (wm ++ va_pl P (va_up f a e))) := by
  rw [← List.append_assoc, ← List.append_assoc]
  exact pl_inX hn h
theorem P_nodup {A : Nat → Prop} {Z wm : va_W} {P : List Nat} {f : Nat → va_E} (h : va_D A (Z ++ (wm ++ va_pl P f))) : P.Nodup := by
  rw [← List.append_assoc] at h
  exact pl_nodup h
/-- an array's cell isn't touched by what is done to an object -/
theorem las_up {g : q_G} {el n b : Nat} {e : va_E} {a : Nat → Nat} {P : List Nat} {f : Nat → va_E} (hb : ∃ x, f b = .inr x) (h : laS g el n a P f) : laS g el n a P (va_up f b e) := las_tr h (fun hp h0 => ⟨hp, va_up_ne _ _ (fun z => by
  obtain ⟨-, x, hx⟩ := las_in h h0
  obtain ⟨y, hy⟩ := hb
  rw [z, hy] at hx
  cases hx)⟩)
theorem las_eqv {g : q_G} {el n : Nat} {a : Nat → Nat} {P : List Nat} {f f2 : Nat → va_E} (e : ∀ b x, f b = .inl x → f2 b = f b) (h : laS g el n a P f) : laS g el n a P f2 := las_tr h (fun hp h0 => by
  obtain ⟨-, x, hx⟩ := las_in h h0
  exact ⟨hp, e _ x hx⟩)
/-- what forgetting leaves -/
def goN (n : Nat) (go : Nat → Bool) (inf : Nat → Int32) (who : Int32) : Nat → Bool := fun i => go i || (decide (i < n) && decide (inf i = who))
theorem thS_fg (go : Nat → Bool) (inf : Nat → Int32) (who : Int32) (n : Nat) : thS go n ^^^ (thS go n &&& fgS go inf who n) = thS (goN n go inf who) n := by
  apply Nat.eq_of_testBit_eq
  intro i
  rw [andn_bit, thS_bit, fgS_bit, thS_bit]
  unfold goN
  cases decide (i < n) <;> cases go i <;> cases decide (inf i = who) <;> rfl
def grN (L0 : Nat → Int64) (F : Nat) : Nat → Int64 := fun r => L0 r &&& (lN F ^^^ (-1))
def faN (L0 : Nat → Int64) (fa : Nat → Bool) (F : Nat) : Nat → Bool := fun r => fa r || (!decide (L0 r = 0) && decide (grN L0 F r = 0))
theorem and_z {G F : Nat} (hG : G < 1099511627776) (h : hasB (lN G) (lN F) = false) : G &&& F = 0 := by
  rw [hasB, fb_andL] at h
  have h1 : lN (G &&& F) = 0 := by simpa using h
  exact (fb_lN_inj (b := 0) (Nat.lt_of_le_of_lt Nat.and_le_left (by omega)) (by decide)).mp h1
theorem grN_eq {L0 : Nat → Int64} {F r : Nat} (hG : ∃ G, G < 1099511627776 ∧ L0 r = lN G) : (if hasB (L0 r) (lN F) then L0 r &&& (lN F ^^^ (-1)) else L0 r) = grN L0 F r := by
  obtain ⟨G, hG, e⟩ := hG
  unfold grN
  rw [e]
  split
  · rfl
  · rename_i h
    rw [andn, and_z hG (by simpa using h), Nat.xor_zero]
theorem faN_eq {L0 : Nat → Int64} {fa : Nat → Bool} {F r : Nat} (hG : ∃ G, G < 1099511627776 ∧ L0 r = lN G) (hf : fa r = true → L0 r = 0) : (if hasB (L0 r) (lN F) then decide (L0 r &&& (lN F ^^^ (-1)) = 0) else fa r) = faN L0 fa F r := by
  have e1 := grN_eq (F := F) hG
  unfold faN
  obtain ⟨G, hG, e⟩ := hG
  cases hb : hasB (L0 r) (lN F) with
  | true =>
    have h0 : ¬ L0 r = 0 := fun z => by rw [z] at hb; simp [hasB] at hb
    have h1 : fa r = false := by cases hh : fa r with
      | false => rfl
      | true => exact absurd (hf hh) h0
    rw [h1, decide_eq_false h0]
    rfl
  | false =>
    rw [hb] at e1
    have e2 : L0 r = grN L0 F r := e1
    rw [← e2]
    cases decide (L0 r = 0) <;> simp
set_option maxHeartbeats 4000000 in
set_option maxRecDepth 100000 in
theorem c_rest (l : Launch) (hl : l.stackTraces = false) (g : q_G) (N : Nat → Nat) (A : Nat → Nat → Int32) (B : Nat → Nat → Bool) (L : Nat → Nat → Int64) (wm ws : va_W) (a0 : Nat) (hI : inv N A B L) (hR : cR g a0 N A B L wm ws) (x1 : Int32) (x2 : Int32) : MetX l g yX3_rest cX3_rest 5 (some .int) ({ frames := 6, cells := 4, slots := 250, locals := 90 } : Room) [.ref a0, .int x1, .int x2] (ws) (q_Qi g (fun r w => (kc (!(inR x1 (N 2) && inR x2 (N 1))) (B 1 (c32 x1) || B 0 (c32 x2) || hasB (L 0 (c32 x1)) (lN (2 ^ c32 x2))) false) = 0 ∧ r = nI (bcL (L 0 (c32 x1) ||| lN (2 ^ c32 x2))) ∧ cR g a0 (N) (A) B (va_up L 0 (vp_updL (L 0) (c32 x1) (L 0 (c32 x1) ||| lN (2 ^ c32 x2)))) wm w)) (peS (kc (!(inR x1 (N 2) && inR x2 (N 1))) (B 1 (c32 x1) || B 0 (c32 x2) || hasB (L 0 (c32 x1)) (lN (2 ^ c32 x2))) false) ws) := by
  refine q_metX (own := RX3) (by decide +kernel) rfl (Nat.le_of_ble_eq_true rfl) (fun p e s m args below meth c cx hr htab => ?_)
  obtain ⟨ad, mc, el, ia, ra, th, dr, dl, ro, kl, kn, row, P, f, rfl, rfl, hF⟩ := hR
  have hiv := cF_iv (ad := ad) (mc := mc) (row := row) (wm := wm) hI hF
  have hrl := cF_rl (ad := ad) (mc := mc) (row := row) (wm := wm) hI hF
  have hqu := cF_qu (ad := ad) (mc := mc) (row := row) (wm := wm) hI hF
  obtain ⟨⟨rfl, rfl, rfl⟩, f2, f3, f4, f5, f6, f7, f8, f9, f10, f11, f12, f13⟩ := id hF
  obtain ⟨⟨i1, i2, i3, i4⟩, j2, j3, j4, j5, j6, j7, j8, j9, j10, j11⟩ := id hI
  refine r_lv (lv2 := [(0, .ref (ad 8)), (1, .int x1), (2, .int x2)]) (q_pk [0, 1, 2] rfl) ?_
  refine r_iload_n cx dX3_rest_0 rfl rfl ?_
  refine r_aload_n cx dX3_rest_1 rfl rfl ?_
  refine gf_X3_16 cx dX3_rest_2 8 rfl rfl ?_
  refine k_X3_80 cx (c_lsize l g _ (ad 6) (N 2) ra hrl.2.1) dX3_rest_5 6 rfl ⟨Nat.le_of_ble_eq_true rfl, Nat.le_of_ble_eq_true rfl⟩ ⟨Nat.le_of_ble_eq_true rfl, Nat.le_of_ble_eq_true rfl⟩ rfl rfl (Nat.le_of_ble_eq_true rfl) (fun r w hp => ?_)
  obtain ⟨rfl, rfl⟩ := hp
  refine k_X3_57 cx (c_isOutside l g _ x1 (N 2) (by omega)) dX3_rest_8 ⟨Nat.le_of_ble_eq_true rfl, Nat.le_of_ble_eq_true rfl⟩ ⟨Nat.le_of_ble_eq_true rfl, Nat.le_of_ble_eq_true rfl⟩ rfl rfl (Nat.le_of_ble_eq_true rfl) (fun r w hp => ?_)
  obtain ⟨rfl, rfl⟩ := hp
  refine r_ifneb (tgt := 28) cx dX3_rest_11 (by decide) (fun h_11 => ?_) (fun h_11 => ?_)
  · skip
    exact th_IO cx "no such rule or interview" 133 hl htab dX3_rest_28 dX3_rest_31 dX3_rest_32 dX3_rest_34 dX3_rest_37 (by decide) ⟨Nat.le_of_ble_eq_true rfl, Nat.le_of_ble_eq_true rfl, Nat.le_of_ble_eq_true rfl, Nat.le_of_ble_eq_true rfl⟩ ⟨Nat.le_of_ble_eq_true rfl, Nat.le_of_ble_eq_true rfl⟩ (⟨Or.inl ⟨rfl, by first | (simp [kc, h_11]; done) | (simp [kc, h_25]; done)⟩, rfl⟩)
  · skip
    refine r_iload_n cx dX3_rest_14 rfl rfl ?_
    refine r_aload_n cx dX3_rest_15 rfl rfl ?_
    refine gf_X3_10 cx dX3_rest_16 8 rfl rfl ?_
    refine k_X3_80 cx (c_lsize l g _ (ad 7) (N 1) ia hiv.2.1) dX3_rest_19 7 rfl ⟨Nat.le_of_ble_eq_true rfl, Nat.le_of_ble_eq_true rfl⟩ ⟨Nat.le_of_ble_eq_true rfl, Nat.le_of_ble_eq_true rfl⟩ rfl rfl (Nat.le_of_ble_eq_true rfl) (fun r w hp => ?_)
    obtain ⟨rfl, rfl⟩ := hp
    refine k_X3_57 cx (c_isOutside l g _ x2 (N 1) (by omega)) dX3_rest_22 ⟨Nat.le_of_ble_eq_true rfl, Nat.le_of_ble_eq_true rfl⟩ ⟨Nat.le_of_ble_eq_true rfl, Nat.le_of_ble_eq_true rfl⟩ rfl rfl (Nat.le_of_ble_eq_true rfl) (fun r w hp => ?_)
    obtain ⟨rfl, rfl⟩ := hp
    refine r_ifeqb (tgt := 38) cx dX3_rest_25 (by decide) (fun h_25 => ?_) (fun h_25 => ?_)
    · skip
      obtain ⟨j, hj, rfl, hcj⟩ := inR_ix (x := x1) (n := N 2) (by simpa using h_11) (by omega)
      obtain ⟨i, hi, rfl, hci⟩ := inR_ix (x := x2) (n := N 1) (by simpa using h_25) (by omega)
      obtain ⟨G, hG, hGe⟩ := j9 j
      refine r_aload_n cx dX3_rest_38 rfl rfl ?_
      refine gf_X3_16 cx dX3_rest_39 8 rfl rfl ?_
      refine r_iload_n cx dX3_rest_42 rfl rfl ?_
      refine k_X3_108 cx (c_lget l g _ (ad 6) (N 2) j ra hrl.2.1 hj) dX3_rest_43 6 rfl ⟨Nat.le_of_ble_eq_true rfl, Nat.le_of_ble_eq_true rfl⟩ ⟨Nat.le_of_ble_eq_true rfl, Nat.le_of_ble_eq_true rfl⟩ rfl rfl (Nat.le_of_ble_eq_true rfl) (fun r w hp => ?_)
      obtain ⟨rfl, rfl⟩ := hp
      obtain ⟨qr, hqr⟩ := hrl.2.2.2.2 j hj
      refine r_eqv (y := .ref (ra j)) rfl ?_
      refine r_cast (ci := 2) cx tb_263 dX3_rest_46 qr rfl rfl hqr ?_
      refine r_astore_n cx dX3_rest_49 rfl (by decide) rfl ?_
      refine r_aload_n cx dX3_rest_50 rfl rfl ?_
      refine gf_X3_10 cx dX3_rest_51 8 rfl rfl ?_
      refine r_iload_n cx dX3_rest_54 rfl rfl ?_
      refine k_X3_108 cx (c_lget l g _ (ad 7) (N 1) i ia hiv.2.1 hi) dX3_rest_55 7 rfl ⟨Nat.le_of_ble_eq_true rfl, Nat.le_of_ble_eq_true rfl⟩ ⟨Nat.le_of_ble_eq_true rfl, Nat.le_of_ble_eq_true rfl⟩ rfl rfl (Nat.le_of_ble_eq_true rfl) (fun r w hp => ?_)
      obtain ⟨rfl, rfl⟩ := hp
      obtain ⟨qi, hqi⟩ := hiv.2.2.2 i hi
      refine r_eqv (y := .ref (ia i)) rfl ?_
      refine r_cast (ci := 1) cx tb_219 dX3_rest_58 qi rfl rfl hqi ?_
      refine r_astore cx dX3_rest_61 (by decide) rfl ?_
      refine r_aload_n cx dX3_rest_63 rfl rfl ?_
      refine gf_X3_135 cx dX3_rest_64 qr hqr rfl ?_
      refine r_ifneb (tgt := 88) cx dX3_rest_67 (by decide) (fun h_67 => ?_) (fun h_67 => ?_)
      · skip
        exact th_IS cx "the rule cannot rest on the interview, or does so" 146 hl htab dX3_rest_88 dX3_rest_91 dX3_rest_92 dX3_rest_94 dX3_rest_97 (by decide) ⟨Nat.le_of_ble_eq_true rfl, Nat.le_of_ble_eq_true rfl, Nat.le_of_ble_eq_true rfl, Nat.le_of_ble_eq_true rfl⟩ ⟨Nat.le_of_ble_eq_true rfl, Nat.le_of_ble_eq_true rfl⟩ (⟨Or.inr ⟨rfl, by rw [hcj, hci]; simp at h_11 h_25; simp [kc, h_11, h_25, h_67]⟩, rfl⟩)
      · skip
        refine r_aload_n cx dX3_rest_70 rfl rfl ?_
        refine r_aload cx dX3_rest_71 rfl ?_
        refine k_X3_139 cx (c_isThere l g _ 8 qi _ _ _ _ _ _ _ _ _ _ _ _ _ _ _ _ _ _ rfl hqi) dX3_rest_73 8 rfl ⟨Nat.le_of_ble_eq_true rfl, Nat.le_of_ble_eq_true rfl⟩ ⟨Nat.le_of_ble_eq_true rfl, Nat.le_of_ble_eq_true rfl⟩ rfl rfl (Nat.le_of_ble_eq_true rfl) (fun r w hp => ?_)
        obtain ⟨rfl, rfl⟩ := hp
        refine r_ifeqb (tgt := 88) cx dX3_rest_76 (by decide) (fun h_76 => ?_) (fun h_76 => ?_)
        · skip
          rw [hr_th i2 hi] at h_76
          exact th_IS cx "the rule cannot rest on the interview, or does so" 146 hl htab dX3_rest_88 dX3_rest_91 dX3_rest_92 dX3_rest_94 dX3_rest_97 (by decide) ⟨Nat.le_of_ble_eq_true rfl, Nat.le_of_ble_eq_true rfl, Nat.le_of_ble_eq_true rfl, Nat.le_of_ble_eq_true rfl⟩ ⟨Nat.le_of_ble_eq_true rfl, Nat.le_of_ble_eq_true rfl⟩ (⟨Or.inr ⟨rfl, by rw [hcj, hci]; simp at h_11 h_25; simp at h_76; simp [kc, h_11, h_25, h_67, h_76]⟩, rfl⟩)
        · skip
          rw [hr_th i2 hi] at h_76
          refine r_aload_n cx dX3_rest_79 rfl rfl ?_
          refine r_aload cx dX3_rest_80 rfl ?_
          refine k_X3_143 cx (c_restsOn l g _ qr qi _ _ _ _ _ _ _ _ _ _ _ _ _ _ _ _ hqr hqi) dX3_rest_82 qr hqr ⟨Nat.le_of_ble_eq_true rfl, Nat.le_of_ble_eq_true rfl⟩ ⟨Nat.le_of_ble_eq_true rfl, Nat.le_of_ble_eq_true rfl⟩ rfl rfl (Nat.le_of_ble_eq_true rfl) (fun r w hp => ?_)
          obtain ⟨rfl, rfl⟩ := hp
          refine r_ifeqb (tgt := 98) cx dX3_rest_85 (by decide) (fun h_85 => ?_) (fun h_85 => ?_)
          · skip
            refine r_aload_n cx dX3_rest_98 rfl rfl ?_
            refine r_dup cx dX3_rest_99 rfl ?_
            refine gf_X3_148 cx dX3_rest_100 qr hqr rfl ?_
            refine r_aload cx dX3_rest_103 rfl ?_
            refine gf_X3_151 cx dX3_rest_105 qi hqi rfl ?_
            refine r_lor cx dX3_rest_108 ?_
            refine r_D (fun hD => ?_)
            refine pf_X3_148 cx dX3_rest_109 qr hqr (Nat.le_of_ble_eq_true rfl) ?_
            refine r_ws (ws2 := iF g ad mc el (fun k => N (k + 1)) (lN (thS (B 0) (N 1))) (nI (num (drL (A 0) (N 0)))) (nI (N 0)) ro kl kn row ++ (wm ++ va_pl P (va_up f (ra j) (oR (nI (soF A j)) (toI (toF A j)) (nI (beF A j)) (A 10 j) (A 11 j) (A 12 j) (L 0 j ||| lN (2 ^ i)) (B 1 j))))) (pl_setX hD (f6 j hj).1 hqr) ?_
            obtain ⟨qr2, hqr2⟩ := pl_getZ (Z := iF g ad mc el (fun k => N (k + 1)) (lN (thS (B 0) (N 1))) (nI (num (drL (A 0) (N 0)))) (nI (N 0)) ro kl kn row) (wm := wm) (f := va_up f (ra j) (oR (nI (soF A j)) (toI (toF A j)) (nI (beF A j)) (A 10 j) (A 11 j) (A 12 j) (L 0 j ||| lN (2 ^ i)) (B 1 j))) (f6 j hj).1 (va_up_self _ _ _)
            refine r_aload_n cx dX3_rest_112 rfl rfl ?_
            refine gf_X3_148 cx dX3_rest_113 qr2 hqr2 rfl ?_
            refine r_eql (y := lN (G ||| 2 ^ i)) (by rw [hGe, fb_orL]) ?_
            refine k_X3_154 cx (c_bitCount l g _ _ (or_lt40 hG (p2_lt (by omega : i < 40)))) dX3_rest_116 ⟨Nat.le_of_ble_eq_true rfl, Nat.le_of_ble_eq_true rfl⟩ ⟨Nat.le_of_ble_eq_true rfl, Nat.le_of_ble_eq_true rfl⟩ rfl rfl (Nat.le_of_ble_eq_true rfl) (fun r w hp => ?_)
            obtain ⟨rfl, rfl⟩ := hp
            exact x_iret cx dX3_rest_119 hr (⟨by rw [hcj, hci]; simp at h_11 h_25 h_76; simp [kc, h_11, h_25, h_67, h_76, h_85], by rw [hcj, hci, hGe, fb_orL, bcL_lN (or_lt40 hG (p2_lt (by omega)))], by rw [hcj, hci]; exact ⟨ad, mc, el, ia, ra, _, _, _, ro, kl, kn, row, P, _, rfl, rfl, ⟨rfl, rfl, rfl⟩, f2, f3, f4, (fun k hk => ⟨(f5 k hk).1, (va_up_ne _ _ (fun z => by have u := (f5 k hk).2; rw [z, (f6 j hj).2] at u; cases u)).trans (f5 k hk).2⟩), (fun r hr => by
    refine ⟨(f6 r hr).1, ?_⟩
    show _ = oR (A 7 r) (A 8 r) (A 9 r) (A 10 r) (A 11 r) (A 12 r) (vp_updL (L 0) j (L 0 j ||| lN (2 ^ i)) r) (B 1 r)
    by_cases e9 : r = j
    · subst e9
      obtain ⟨-, e1, -, e2, e3, -⟩ := j6 r hr
      rw [va_up_self, pk_uLs, e1, e2, e3]
    · rw [va_up_ne _ _ (fun z => e9 (f7 r j hr hj z)), pk_uLn e9]
      exact (f6 r hr).2), f7, las_up ⟨_, (f6 j hj).2⟩ f8, las_up ⟨_, (f6 j hj).2⟩ f9, las_up ⟨_, (f6 j hj).2⟩ f10, f11, f12, f13⟩⟩) (Nat.le_of_ble_eq_true rfl) (Nat.le_of_ble_eq_true rfl)
          · skip
            exact th_IS cx "the rule cannot rest on the interview, or does so" 146 hl htab dX3_rest_88 dX3_rest_91 dX3_rest_92 dX3_rest_94 dX3_rest_97 (by decide) ⟨Nat.le_of_ble_eq_true rfl, Nat.le_of_ble_eq_true rfl, Nat.le_of_ble_eq_true rfl, Nat.le_of_ble_eq_true rfl⟩ ⟨Nat.le_of_ble_eq_true rfl, Nat.le_of_ble_eq_true rfl⟩ (⟨Or.inr ⟨rfl, by rw [hcj, hci]; simp at h_11 h_25; simp at h_76; simp [kc, h_11, h_25, h_67, h_76, h_85]⟩, rfl⟩)
    · skip
      exact th_IO cx "no such rule or interview" 133 hl htab dX3_rest_28 dX3_rest_31 dX3_rest_32 dX3_rest_34 dX3_rest_37 (by decide) ⟨Nat.le_of_ble_eq_true rfl, Nat.le_of_ble_eq_true rfl, Nat.le_of_ble_eq_true rfl, Nat.le_of_ble_eq_true rfl⟩ ⟨Nat.le_of_ble_eq_true rfl, Nat.le_of_ble_eq_true rfl⟩ (⟨Or.inl ⟨rfl, by first | (simp [kc, h_11]; done) | (simp [kc, h_25]; done)⟩, rfl⟩)
set_option maxHeartbeats 4000000 in
set_option maxRecDepth 100000 in
theorem c_forget (l : Launch) (hl : l.stackTraces = false) (g : q_G) (N : Nat → Nat) (A : Nat → Nat → Int32) (B : Nat → Nat → Bool) (L : Nat → Nat → Int64) (wm ws : va_W) (a0 : Nat) (hI : inv N A B L) (hR : cR g a0 N A B L wm ws) (x1 : Int32) : MetX l g yX3_forget cX3_forget 5 (some .int) ({ frames := 6, cells := 4, slots := 250, locals := 140 } : Room) [.ref a0, .int x1] (ws) (q_Qi g (fun r w => (kc (!inR x1 8) false false) = 0 ∧ r = nI (bcL (lN (fgS (B 0) (A 1) x1 (N 1)))) ∧ cR g a0 N A (va_up (va_up B 0 (goN (N 1) (B 0) (A 1) x1)) 1 (faN (L 0) (B 1) (fgS (B 0) (A 1) x1 (N 1)))) (va_up L 0 (grN (L 0) (fgS (B 0) (A 1) x1 (N 1)))) wm w)) (pe1 (kc (!inR x1 8) false false) ws) := by
  refine q_metX (own := RX3) (by decide +kernel) rfl (Nat.le_of_ble_eq_true rfl) (fun p e s m args below meth c cx hr htab => ?_)
  obtain ⟨ad, mc, el, ia, ra, th, dr, dl, ro, kl, kn, row, P, f, rfl, rfl, hF⟩ := hR
  have hiv := cF_iv (ad := ad) (mc := mc) (row := row) (wm := wm) hI hF
  have hrl := cF_rl (ad := ad) (mc := mc) (row := row) (wm := wm) hI hF
  have hqu := cF_qu (ad := ad) (mc := mc) (row := row) (wm := wm) hI hF
  obtain ⟨⟨rfl, rfl, rfl⟩, f2, f3, f4, f5, f6, f7, f8, f9, f10, f11, f12, f13⟩ := id hF
  obtain ⟨⟨i1, i2, i3, i4⟩, j2, j3, j4, j5, j6, j7, j8, j9, j10, j11⟩ := id hI
  refine r_lv (lv2 := [(0, .ref (ad 8)), (1, .int x1)]) (q_pk [0, 1] rfl) ?_
  refine r_iload_n cx dX3_forget_0 rfl rfl ?_
  refine r_bipush (v := nI 8) cx dX3_forget_1 (by decide) ?_
  refine k_X3_57 cx (c_isOutside l g _ x1 (8) (by omega)) dX3_forget_3 ⟨Nat.le_of_ble_eq_true rfl, Nat.le_of_ble_eq_true rfl⟩ ⟨Nat.le_of_ble_eq_true rfl, Nat.le_of_ble_eq_true rfl⟩ rfl rfl (Nat.le_of_ble_eq_true rfl) (fun r w hp => ?_)
  obtain ⟨rfl, rfl⟩ := hp
  refine r_ifeqb (tgt := 19) cx dX3_forget_6 (by decide) (fun h_6 => ?_) (fun h_6 => ?_)
  · skip
    refine r_aload_n cx dX3_forget_19 rfl rfl ?_
    refine r_iload_n cx dX3_forget_20 rfl rfl ?_
    refine k_X3_189 cx (c_interviewsOf l g _ (ad 8) (ad 7) _ (N 1) ia _ (fiS A) x1 hiv) dX3_forget_21 8 rfl ⟨Nat.le_of_ble_eq_true rfl, Nat.le_of_ble_eq_true rfl⟩ ⟨Nat.le_of_ble_eq_true rfl, Nat.le_of_ble_eq_true rfl⟩ rfl rfl (Nat.le_of_ble_eq_true rfl) (fun r w hp => ?_)
    obtain ⟨rfl, rfl⟩ := hp
    refine r_eql (y := lN (fgS (B 0) (A 1) x1 (N 1))) (ivo_fg i2 _ (Nat.le_refl _)) ?_
    refine r_lstore_n cx dX3_forget_24 rfl (by decide) rfl ?_
    refine r_aload_n cx dX3_forget_25 rfl rfl ?_
    refine r_dup cx dX3_forget_26 rfl ?_
    refine gf_X3_40 cx dX3_forget_27 8 rfl rfl ?_
    refine r_lload_n cx dX3_forget_30 rfl rfl ?_
    refine r_ldc2 cx dX3_forget_31 tb_315 ?_
    refine r_lxor cx dX3_forget_34 ?_
    refine r_land cx dX3_forget_35 ?_
    refine r_eql (y := (lN (thS (goN (N 1) (B 0) (A 1) x1) (N 1)))) (by rw [andn, thS_fg]) ?_
    refine pf_X3_40 cx dX3_forget_36 8 rfl (Nat.le_of_ble_eq_true rfl) ?_
    refine r_iconst (v := nI 0) cx dX3_forget_39 (by decide) ?_
    refine r_istore cx dX3_forget_40 (by decide) rfl ?_
    refine at_loop (fun (x : Nat × (Nat → va_E)) => x.1 ≤ N 2 ∧ (∀ r, r < x.1 → x.2 (ra r) = (oR (nI (soF A r)) (toI (toF A r)) (nI (beF A r)) (A 10 r) (A 11 r) (A 12 r) (grN (L 0) (fgS (B 0) (A 1) x1 (N 1)) r) (faN (L 0) (B 1) (fgS (B 0) (A 1) x1 (N 1)) r))) ∧ (∀ r, x.1 ≤ r → r < N 2 → x.2 (ra r) = (oR (nI (soF A r)) (toI (toF A r)) (nI (beF A r)) (A 10 r) (A 11 r) (A 12 r) (L 0 r) (B 1 r))) ∧ (∀ b, (∀ r, r < N 2 → b ≠ ra r) → x.2 b = f b)) (fun x => [(0, .ref (ad 8)), (2, .long (lN (fgS (B 0) (A 1) x1 (N 1)))), (4, .int (nI x.1))]) (fun x => iF g ad mc el (fun k => N (k + 1)) (lN (thS (goN (N 1) (B 0) (A 1) x1) (N 1))) (nI (num (drL (A 0) (N 0)))) (nI (N 0)) ro kl kn row ++ (wm ++ va_pl P (x.2))) (fun x => N 2 - x.1) (0, f) ⟨Nat.zero_le _, fun r hr => absurd hr (Nat.not_lt_zero r), fun r _ hr => by
    obtain ⟨-, e1, -, e2, e3, -⟩ := j6 r hr
    rw [← e1, ← e2, ← e3]
    exact (f6 r hr).2, fun _ _ => rfl⟩ (q_pk [2, 1, 0] rfl) rfl (fun x hx ih => ?_)
    obtain ⟨i, fk⟩ := x
    try dsimp only at hx ⊢
    obtain ⟨hx1, hx2, hx3, hx4⟩ := hx
    have hxe : ∀ b x, f b = .inl x → fk b = f b := fun b x hb => hx4 b (fun r hr z => by rw [z, (f6 r hr).2] at hb; cases hb)
    have hls : lsV g (iF g ad mc el (fun k => N (k + 1)) (lN (thS (goN (N 1) (B 0) (A 1) x1) (N 1))) (nI (num (drL (A 0) (N 0)))) (nI (N 0)) ro kl kn row ++ (wm ++ va_pl P (fk))) (ad 6) (N 2) ra := by
      rw [← List.append_assoc]
      refine las_lsV (ql := 6) (mc := mc 1) (las_eqv hxe f9) (by omega) ?_
      rw [List.append_assoc]
      rfl
    refine r_iload cx dX3_forget_42 rfl ?_
    refine r_aload_n cx dX3_forget_44 rfl rfl ?_
    refine gf_X3_16 cx dX3_forget_45 8 rfl rfl ?_
    refine k_X3_80 cx (c_lsize l g _ (ad 6) (N 2) ra hls) dX3_forget_48 6 rfl ⟨Nat.le_of_ble_eq_true rfl, Nat.le_of_ble_eq_true rfl⟩ ⟨Nat.le_of_ble_eq_true rfl, Nat.le_of_ble_eq_true rfl⟩ rfl rfl (Nat.le_of_ble_eq_true rfl) (fun r w hp => ?_)
    obtain ⟨rfl, rfl⟩ := hp
    refine r_icmpgeN (tgt := 76) cx (by omega) (by omega) dX3_forget_51 (by decide) (fun h_51 => ?_) (fun h_51 => ?_)
    · skip
      obtain rfl : i = N 2 := by omega
      have hI5 : ∀ i, i < N 1 → ia i ∈ P ∧ fk (ia i) = oI (lN (2 ^ i)) (A 1 i) (A 2 i) (A 3 i) (A 4 i) (A 5 i) := fun k hk => ⟨(f5 k hk).1, (hx4 _ (fun r hr z => by have u := (f5 k hk).2; rw [z, (f6 r hr).2] at u; cases u)).trans (f5 k hk).2⟩
      have hlI : laS g (el 0) (N 1) ia P fk := las_eqv hxe f8
      refine r_iconst (v := nI 0) cx dX3_forget_76 (by decide) ?_
      refine r_istore cx dX3_forget_77 (by decide) rfl ?_
      refine at_loop (fun (x : Nat × (Nat → Int32)) => x.1 ≤ 4 ∧ (∀ w, w < x.1 → x.2 w = drw (fun i => hasB (lN (thS (goN (N 1) (B 0) (A 1) x1) (N 1))) (lN (2 ^ i))) (fiS A) (N 1) (nI w))) (fun x => [(0, .ref (ad 8)), (2, .long (lN (fgS (B 0) (A 1) x1 (N 1)))), (4, .int (nI x.1))]) (fun x => iF g ad mc el (fun k => N (k + 1)) (lN (thS (goN (N 1) (B 0) (A 1) x1) (N 1))) (nI (num (drL (A 0) (N 0)))) (nI (N 0)) ro x.2 kn row ++ (wm ++ va_pl P (fk))) (fun x => 4 - x.1) (0, kl) ⟨Nat.zero_le _, fun w hw => absurd hw (Nat.not_lt_zero w)⟩ (q_pk [1, 2, 0] rfl) rfl (fun x hx ih => ?_)
      obtain ⟨i, kl2⟩ := x
      try dsimp only at hx ⊢
      obtain ⟨hy1, hy2⟩ := hx
      refine r_iload cx dX3_forget_79 rfl ?_
      refine r_iconst (v := nI 4) cx dX3_forget_81 (by decide) ?_
      refine r_icmpgeN (tgt := 104) cx (by omega) (by omega) dX3_forget_82 (by decide) (fun h_82 => ?_) (fun h_82 => ?_)
      · skip
        obtain rfl : i = 4 := by omega
        refine r_lload_n cx dX3_forget_104 rfl rfl ?_
        refine k_X3_154 cx (c_bitCount l g _ _ (fgS_lt i2)) dX3_forget_105 ⟨Nat.le_of_ble_eq_true rfl, Nat.le_of_ble_eq_true rfl⟩ ⟨Nat.le_of_ble_eq_true rfl, Nat.le_of_ble_eq_true rfl⟩ rfl rfl (Nat.le_of_ble_eq_true rfl) (fun r w hp => ?_)
        obtain ⟨rfl, rfl⟩ := hp
        exact x_iret cx dX3_forget_108 hr (⟨by simp [kc, h_6], by rw [bcL_lN (fgS_lt i2)], ⟨ad, mc, el, ia, ra, _, _, _, ro, kl2, kn, row, P, fk, rfl, rfl, ⟨rfl, rfl, rfl⟩, f2, (fun w hw => by
    rw [hy2 w hw]
    exact drw_th (B := va_up (va_up B 0 (goN (N 1) (B 0) (A 1) x1)) 1 (faN (L 0) (B 1) (fgS (B 0) (A 1) x1 (N 1)))) i2), f4, hI5, (fun r hr => by
    refine ⟨(f6 r hr).1, ?_⟩
    obtain ⟨-, e1, -, e2, e3, -⟩ := j6 r hr
    show _ = oR (A 7 r) (A 8 r) (A 9 r) (A 10 r) (A 11 r) (A 12 r) (grN (L 0) (fgS (B 0) (A 1) x1 (N 1)) r) (faN (L 0) (B 1) (fgS (B 0) (A 1) x1 (N 1)) r)
    rw [hx2 r hr, e1, e2, e3]), f7, hlI, las_eqv hxe f9, las_eqv hxe f10, f11, f12, f13⟩⟩) (Nat.le_of_ble_eq_true rfl) (Nat.le_of_ble_eq_true rfl)
      · skip
        refine r_aload_n cx dX3_forget_85 rfl rfl ?_
        refine gf_X3_26 cx dX3_forget_86 8 rfl rfl ?_
        refine r_iload cx dX3_forget_89 rfl ?_
        refine r_aload_n cx dX3_forget_91 rfl rfl ?_
        refine r_iload cx dX3_forget_92 rfl ?_
        refine k_X3_98 cx (c_drawLines l g _ (ad 8) (ad 7) (lN (thS (goN (N 1) (B 0) (A 1) x1) (N 1))) (N 1) ia _ (fiS A) (nI i) (iv_of i2 rfl hlI hI5)) dX3_forget_94 8 rfl ⟨Nat.le_of_ble_eq_true rfl, Nat.le_of_ble_eq_true rfl⟩ ⟨Nat.le_of_ble_eq_true rfl, Nat.le_of_ble_eq_true rfl⟩ rfl rfl (Nat.le_of_ble_eq_true rfl) (fun r w hp => ?_)
        obtain ⟨rfl, rfl⟩ := hp
        first | refine r_iastN cx 3 0 dX3_forget_97 rfl rfl (by omega) (by omega) ?_ | refine r_iast cx 3 0 dX3_forget_97 rfl rfl (by omega) ?_
        refine r_iincN (j := 1) cx dX3_forget_98 rfl rfl (by decide) rfl ?_
        refine r_goto (tgt := 79) cx dX3_forget_101 (by decide) ?_
        exact r_lv (q_pk [1, 2, 0] rfl) (ih (i + 1, upd kl2 i (drw (fun i => hasB (lN (thS (goN (N 1) (B 0) (A 1) x1) (N 1))) (lN (2 ^ i))) (fiS A) (N 1) (nI i))) ⟨by omega, fun w hw => by
    show upd kl2 i _ w = _
    by_cases e9 : w = i
    · rw [e9, pk_us]
    · rw [pk_un e9]
      exact hy2 w (by omega)⟩ (by show 4 - (i + 1) < 4 - i; omega))
    · skip
      refine r_aload_n cx dX3_forget_54 rfl rfl ?_
      refine gf_X3_16 cx dX3_forget_55 8 rfl rfl ?_
      refine r_iload cx dX3_forget_58 rfl ?_
      refine k_X3_108 cx (c_lget l g _ (ad 6) (N 2) i ra hls h_51) dX3_forget_60 6 rfl ⟨Nat.le_of_ble_eq_true rfl, Nat.le_of_ble_eq_true rfl⟩ ⟨Nat.le_of_ble_eq_true rfl, Nat.le_of_ble_eq_true rfl⟩ rfl rfl (Nat.le_of_ble_eq_true rfl) (fun r w hp => ?_)
      obtain ⟨rfl, rfl⟩ := hp
      refine r_eqv (y := .ref (ra i)) rfl ?_
      obtain ⟨qr, hqr⟩ := pl_getZ (Z := iF g ad mc el (fun k => N (k + 1)) (lN (thS (goN (N 1) (B 0) (A 1) x1) (N 1))) (nI (num (drL (A 0) (N 0)))) (nI (N 0)) ro kl kn row) (wm := wm) (f6 i h_51).1 (hx3 i (Nat.le_refl _) h_51)
      refine r_cast (ci := 2) cx tb_263 dX3_forget_63 qr rfl rfl hqr ?_
      refine r_lload_n cx dX3_forget_66 rfl rfl ?_
      refine r_D (fun hD => ?_)
      have hnd := P_nodup hD
      refine r_perm (out_ob (f6 i h_51).1) ?_
      rw [hx3 i (Nat.le_refl _) h_51]
      refine k_X3_195 cx (c_restNoMoreOn l g _ (ra i) (nI (soF A i)) (toI (toF A i)) (nI (beF A i)) (A 10 i) (A 11 i) (A 12 i) (L 0 i) (B 1 i) (lN (fgS (B 0) (A 1) x1 (N 1)))) dX3_forget_67 0 rfl ⟨Nat.le_of_ble_eq_true rfl, Nat.le_of_ble_eq_true rfl⟩ ⟨Nat.le_of_ble_eq_true rfl, Nat.le_of_ble_eq_true rfl⟩ rfl rfl (Nat.le_of_ble_eq_true rfl) (fun w hp => ?_)
      subst hp
      rw [grN_eq (j9 i), faN_eq (j9 i) (j8 i)]
      refine r_perm (in_ob hnd (f6 i h_51).1) ?_
      refine r_iincN (j := 1) cx dX3_forget_70 rfl rfl (by decide) rfl ?_
      refine r_goto (tgt := 42) cx dX3_forget_73 (by decide) ?_
      exact r_lv (q_pk [1, 2, 0] rfl) (ih (i + 1, va_up fk (ra i) (oR (nI (soF A i)) (toI (toF A i)) (nI (beF A i)) (A 10 i) (A 11 i) (A 12 i) (grN (L 0) (fgS (B 0) (A 1) x1 (N 1)) i) (faN (L 0) (B 1) (fgS (B 0) (A 1) x1 (N 1)) i))) ⟨by omega, fun r hr => by
    show va_up fk (ra i) _ (ra r) = _
    by_cases e9 : r = i
    · subst e9; exact va_up_self _ _ _
    · rw [va_up_ne _ _ (fun z => e9 (f7 r i (by omega) h_51 z))]
      exact hx2 r (by omega), fun r h1 hr => by
    show va_up fk (ra i) _ (ra r) = _
    rw [va_up_ne _ _ (fun z => by have := f7 r i hr h_51 z; omega)]
    exact hx3 r (by omega) hr, fun b hb => by
    show va_up fk (ra i) _ b = _
    rw [va_up_ne _ _ (hb i h_51)]
    exact hx4 b hb⟩ (by show N 2 - (i + 1) < N 2 - i; omega))
  · skip
    exact th_IO cx "no such informant" 187 hl htab dX3_forget_9 dX3_forget_12 dX3_forget_13 dX3_forget_15 dX3_forget_18 (by decide) ⟨Nat.le_of_ble_eq_true rfl, Nat.le_of_ble_eq_true rfl, Nat.le_of_ble_eq_true rfl, Nat.le_of_ble_eq_true rfl⟩ ⟨Nat.le_of_ble_eq_true rfl, Nat.le_of_ble_eq_true rfl⟩ (⟨⟨rfl, by simp [kc, h_6]⟩, rfl⟩)
