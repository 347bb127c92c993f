def iR0 (g : q_G) (ad : Nat → Nat) (mc : Nat → Int32) (el sz : Nat → Nat) (th : Int64) (dr dl : Int32) (ro kl : Nat → Int32) (kn : Nat → Int64) (row : Nat → Int32) : va_W := [(ad 0, .inl (q_cI g, 9, .inl row)), (ad 1, .inr (3, [.ref (ad 0)])), (ad 2, .inl (q_cJ g, 3, .inr (.inl kn))), (ad 3, .inl (q_cI g, 4, .inl kl)), (ad 4, .inl (q_cI g, 4, .inl ro)), (ad 5, .inr (0, [.int (mc 2), .ref (el 2), .int (nI (sz 2))])), (ad 6, .inr (0, [.int (mc 1), .ref (el 1), .int (nI (sz 1))])), (ad 8, .inr (4, [.ref (ad 7), .ref (ad 6), .ref (ad 5), .ref (ad 4), .ref (ad 3), .ref (ad 2), .ref (ad 1), .long th, .int dr, .int dl]))]
theorem iF_o0 {g : q_G} {ad : Nat → Nat} {mc : Nat → Int32} {el sz : Nat → Nat} {th : Int64} {dr dl : Int32} {ro kl : Nat → Int32} {kn : Nat → Int64} {row : Nat → Int32} (Y : va_W) : (iF g ad mc el sz th dr dl ro kl kn row ++ Y).Perm ((ad 7, .inr (0, [.int (mc 0), .ref (el 0), .int (nI (sz 0))])) :: (iR0 g ad mc el sz th dr dl ro kl kn row ++ Y)) := List.perm_middle (l₁ := ([(ad 0, .inl (q_cI g, 9, .inl row)), (ad 1, .inr (3, [.ref (ad 0)])), (ad 2, .inl (q_cJ g, 3, .inr (.inl kn))), (ad 3, .inl (q_cI g, 4, .inl kl)), (ad 4, .inl (q_cI g, 4, .inl ro)), (ad 5, .inr (0, [.int (mc 2), .ref (el 2), .int (nI (sz 2))])), (ad 6, .inr (0, [.int (mc 1), .ref (el 1), .int (nI (sz 1))]))] : va_W)) (l₂ := ((ad 8, .inr (4, [.ref (ad 7), .ref (ad 6), .ref (ad 5), .ref (ad 4), .ref (ad 3), .ref (ad 2), .ref (ad 1), .long th, .int dr, .int dl])) :: Y : va_W)) (a := ((ad 7, .inr (0, [.int (mc 0), .ref (el 0), .int (nI (sz 0))])) : Nat × va_E))
theorem out0 {g : q_G} {ad : Nat → Nat} {mc : Nat → Int32} {el sz : Nat → Nat} {th : Int64} {dr dl : Int32} {ro kl : Nat → Int32} {kn : Nat → Int64} {row : Nat → Int32} (wm Y : va_W) : (iF g ad mc el sz th dr dl ro kl kn row ++ (wm ++ Y)).Perm ((ad 7, .inr (0, [.int (mc 0), .ref (el 0), .int (nI (sz 0))])) :: ((iR0 g ad mc el sz th dr dl ro kl kn row ++ wm) ++ Y)) := by
  have h := iF_o0 (g := g) (ad := ad) (mc := mc) (el := el) (sz := sz) (th := th) (dr := dr) (dl := dl) (ro := ro) (kl := kl) (kn := kn) (row := row) (wm ++ Y)
  rwa [← List.append_assoc (iR0 g ad mc el sz th dr dl ro kl kn row)] at h
def iR1 (g : q_G) (ad : Nat → Nat) (mc : Nat → Int32) (el sz : Nat → Nat) (th : Int64) (dr dl : Int32) (ro kl : Nat → Int32) (kn : Nat → Int64) (row : Nat → Int32) : va_W := [(ad 0, .inl (q_cI g, 9, .inl row)), (ad 1, .inr (3, [.ref (ad 0)])), (ad 2, .inl (q_cJ g, 3, .inr (.inl kn))), (ad 3, .inl (q_cI g, 4, .inl kl)), (ad 4, .inl (q_cI g, 4, .inl ro)), (ad 5, .inr (0, [.int (mc 2), .ref (el 2), .int (nI (sz 2))])), (ad 7, .inr (0, [.int (mc 0), .ref (el 0), .int (nI (sz 0))])), (ad 8, .inr (4, [.ref (ad 7), .ref (ad 6), .ref (ad 5), .ref (ad 4), .ref (ad 3), .ref (ad 2), .ref (ad 1), .long th, .int dr, .int dl]))]
theorem iF_o1 {g : q_G} {ad : Nat → Nat} {mc : Nat → Int32} {el sz : Nat → Nat} {th : Int64} {dr dl : Int32} {ro kl : Nat → Int32} {kn : Nat → Int64} {row : Nat → Int32} (Y : va_W) : (iF g ad mc el sz th dr dl ro kl kn row ++ Y).Perm ((ad 6, .inr (0, [.int (mc 1), .ref (el 1), .int (nI (sz 1))])) :: (iR1 g ad mc el sz th dr dl ro kl kn row ++ Y)) := List.perm_middle (l₁ := ([(ad 0, .inl (q_cI g, 9, .inl row)), (ad 1, .inr (3, [.ref (ad 0)])), (ad 2, .inl (q_cJ g, 3, .inr (.inl kn))), (ad 3, .inl (q_cI g, 4, .inl kl)), (ad 4, .inl (q_cI g, 4, .inl ro)), (ad 5, .inr (0, [.int (mc 2), .ref (el 2), .int (nI (sz 2))]))] : va_W)) (l₂ := ((ad 7, .inr (0, [.int (mc 0), .ref (el 0), .int (nI (sz 0))])) :: (ad 8, .inr (4, [.ref (ad 7), .ref (ad 6), .ref (ad 5), .ref (ad 4), .ref (ad 3), .ref (ad 2), .ref (ad 1), .long th, .int dr, .int dl])) :: Y : va_W)) (a := ((ad 6, .inr (0, [.int (mc 1), .ref (el 1), .int (nI (sz 1))])) : Nat × va_E))
theorem out1 {g : q_G} {ad : Nat → Nat} {mc : Nat → Int32} {el sz : Nat → Nat} {th : Int64} {dr dl : Int32} {ro kl : Nat → Int32} {kn : Nat → Int64} {row : Nat → Int32} (wm Y : va_W) : (iF g ad mc el sz th dr dl ro kl kn row ++ (wm ++ Y)).Perm ((ad 6, .inr (0, [.int (mc 1), .ref (el 1), .int (nI (sz 1))])) :: ((iR1 g ad mc el sz th dr dl ro kl kn row ++ wm) ++ Y)) := by
  have h := iF_o1 (g := g) (ad := ad) (mc := mc) (el := el) (sz := sz) (th := th) (dr := dr) (dl := dl) (ro := ro) (kl := kl) (kn := kn) (row := row) (wm ++ Y)
  rwa [← List.append_assoc (iR1 g ad mc el sz th dr dl ro kl kn row)] at h
def iR2 (g : q_G) (ad : Nat → Nat) (mc : Nat → Int32) (el sz : Nat → Nat) (th : Int64) (dr dl : Int32) (ro kl : Nat → Int32) (kn : Nat → Int64) (row : Nat → Int32) : va_W := [(ad 0, .inl (q_cI g, 9, .inl row)), (ad 1, .inr (3, [.ref (ad 0)])), (ad 2, .inl (q_cJ g, 3, .inr (.inl kn))), (ad 3, .inl (q_cI g, 4, .inl kl)), (ad 4, .inl (q_cI g, 4, .inl ro)), (ad 6, .inr (0, [.int (mc 1), .ref (el 1), .int (nI (sz 1))])), (ad 7, .inr (0, [.int (mc 0), .ref (el 0), .int (nI (sz 0))])), (ad 8, .inr (4, [.ref (ad 7), .ref (ad 6), .ref (ad 5), .ref (ad 4), .ref (ad 3), .ref (ad 2), .ref (ad 1), .long th, .int dr, .int dl]))]
theorem iF_o2 {g : q_G} {ad : Nat → Nat} {mc : Nat → Int32} {el sz : Nat → Nat} {th : Int64} {dr dl : Int32} {ro kl : Nat → Int32} {kn : Nat → Int64} {row : Nat → Int32} (Y : va_W) : (iF g ad mc el sz th dr dl ro kl kn row ++ Y).Perm ((ad 5, .inr (0, [.int (mc 2), .ref (el 2), .int (nI (sz 2))])) :: (iR2 g ad mc el sz th dr dl ro kl kn row ++ Y)) := List.perm_middle (l₁ := ([(ad 0, .inl (q_cI g, 9, .inl row)), (ad 1, .inr (3, [.ref (ad 0)])), (ad 2, .inl (q_cJ g, 3, .inr (.inl kn))), (ad 3, .inl (q_cI g, 4, .inl kl)), (ad 4, .inl (q_cI g, 4, .inl ro))] : va_W)) (l₂ := ((ad 6, .inr (0, [.int (mc 1), .ref (el 1), .int (nI (sz 1))])) :: (ad 7, .inr (0, [.int (mc 0), .ref (el 0), .int (nI (sz 0))])) :: (ad 8, .inr (4, [.ref (ad 7), .ref (ad 6), .ref (ad 5), .ref (ad 4), .ref (ad 3), .ref (ad 2), .ref (ad 1), .long th, .int dr, .int dl])) :: Y : va_W)) (a := ((ad 5, .inr (0, [.int (mc 2), .ref (el 2), .int (nI (sz 2))])) : Nat × va_E))
theorem out2 {g : q_G} {ad : Nat → Nat} {mc : Nat → Int32} {el sz : Nat → Nat} {th : Int64} {dr dl : Int32} {ro kl : Nat → Int32} {kn : Nat → Int64} {row : Nat → Int32} (wm Y : va_W) : (iF g ad mc el sz th dr dl ro kl kn row ++ (wm ++ Y)).Perm ((ad 5, .inr (0, [.int (mc 2), .ref (el 2), .int (nI (sz 2))])) :: ((iR2 g ad mc el sz th dr dl ro kl kn row ++ wm) ++ Y)) := by
  have h := iF_o2 (g := g) (ad := ad) (mc := mc) (el := el) (sz := sz) (th := th) (dr := dr) (dl := dl) (ro := ro) (kl := kl) (kn := kn) (row := row) (wm ++ Y)
  rwa [← List.append_assoc (iR2 g ad mc el sz th dr dl ro kl kn row)] at h
theorem new_out {Z wm : va_W} {q : Nat} {e : va_E} {P : List Nat} {f : Nat → va_E} (hq : q ∉ P) : ((q, e) :: (Z ++ (wm ++ va_pl P f))).Perm (Z ++ (wm ++ va_pl (q :: P) (va_up f q e))) := by
  rw [← List.append_assoc, ← List.append_assoc]
  exact pl_newX hq
theorem new_fresh {A : Nat → Prop} {Z wm : va_W} {q : Nat} {e : va_E} {P : List Nat} {f : Nat → va_E} (h : va_D A ((q, e) :: (Z ++ (wm ++ va_pl P f)))) : q ∉ P := by
  rw [← List.append_assoc] at h
  exact fresh_hd h
theorem P_in_A {A : Nat → Prop} {Z wm : va_W} {P : List Nat} {f : Nat → va_E} (h : va_D A (Z ++ (wm ++ va_pl P f))) {b : Nat} (hb : b ∈ P) : A b := by
  rw [← List.append_assoc] at h
  obtain ⟨k, hk⟩ := va_pl_get (X := Z ++ wm) (f := f) hb
  exact h.2 k _ hk
theorem eD_out {g : q_G} {p : Program} {m : MethodId} {c : Code} {cc : ByteArray} {nL : Nat} {s : State} {args : Array Value} {own : String} {meth : Method} (cx : q_cx g p m c cc nL s args own meth) : ¬ q_A g g.2.2.2.1 := by
  obtain ⟨cell, -, -, -, -, -, -, h⟩ := cx.2.1.2.2.2.2.2.2.2.2.1
  exact h
theorem las_tr {g : q_G} {el n : Nat} {a : Nat → Nat} {P L2 : List Nat} {f f2 : Nat → va_E} (h : laS g el n a P f) (tr : el ∈ P → 0 < n → el ∈ L2 ∧ f2 el = f el) : laS g el n a L2 f2 := by
  rcases h with h | ⟨h0, cap, hh, h1, h2, h3⟩
  · exact Or.inl h
  · obtain ⟨t1, t2⟩ := tr h1 h0
    exact Or.inr ⟨h0, cap, hh, t1, t2.trans h2, h3⟩
theorem las_in {g : q_G} {el n : Nat} {a : Nat → Nat} {P : List Nat} {f : Nat → va_E} (h : laS g el n a P f) (hn : 0 < n) : el ∈ P ∧ ∃ x, f el = .inl x := by
  rcases h with ⟨h, -⟩ | ⟨h0, cap, hh, h1, h2, h3⟩
  · omega
  · exact ⟨h1, _, h2⟩
theorem las_eD {g : q_G} {el n : Nat} {a : Nat → Nat} {P : List Nat} {f : Nat → va_E} (h : laS g el n a P f) (hn : n = 0) : el = g.2.2.2.1 := by
  rcases h with ⟨-, h⟩ | ⟨h0, -⟩
  · exact h
  · omega
theorem las_cong {g : q_G} {el n : Nat} {a b : Nat → Nat} {P : List Nat} {f : Nat → va_E} (h : laS g el n a P f) (e : ∀ i, i < n → a i = b i) : laS g el n b P f := by
  rcases h with h | ⟨h0, cap, hh, h1, h2, h3, h4, h5, h6⟩
  · exact Or.inl h
  · exact Or.inr ⟨h0, cap, hh, h1, h2, h3, h4, h5, fun i hi => by rw [← e i hi]; exact h6 i hi⟩
theorem las_push {g : q_G} {el n q : Nat} {e : va_E} {a : Nat → Nat} {P : List Nat} {f : Nat → va_E} (hq : q ∉ P) (h : laS g el n a P f) : laS g el n a (q :: P) (va_up f q e) := las_tr h (fun hp _ => ⟨List.mem_cons_of_mem _ hp, va_up_ne _ _ (fun z => by rw [z] at hp; exact hq hp)⟩)
/-- an object of the pool isn't a list's array -/
theorem ob_ne {g : q_G} {el n b : Nat} {a : Nat → Nat} {P : List Nat} {f : Nat → va_E} (heD : g.2.2.2.1 ∉ P) (h : laS g el n a P f) (hb : b ∈ P) (hf : ∃ x, f b = .inr x) : b ≠ el := fun z => by
  subst z
  rcases Nat.eq_zero_or_pos n with h0 | h0
  · rw [las_eD h h0] at hb
    exact heD hb
  · obtain ⟨-, x, hx⟩ := las_in h h0
    obtain ⟨y, hy⟩ := hf
    rw [hx] at hy
    cases hy
theorem ls3_grow {g : q_G} {ex ey ez nx ny nz ex2 : Nat} {ax ay az : Nat → Nat} {P L2 : List Nat} {f f2 : Nat → va_E} (heD : g.2.2.2.1 ∉ P) (hx : laS g ex nx ax P f) (hy : laS g ey ny ay P f) (hz : laS g ez nz az P f) (dxy : 0 < nx → 0 < ny → ex ≠ ey) (dxz : 0 < nx → 0 < nz → ex ≠ ez) (g1 : ∀ b, b ∈ P → b ≠ ex → b ∈ L2 ∧ f2 b = f b) (g5 : ex2 = ex ∨ ex2 ∉ P) : laS g ey ny ay L2 f2 ∧ laS g ez nz az L2 f2 ∧ (0 < ny → ex2 ≠ ey) ∧ (0 < nz → ex2 ≠ ez) := by
  have key : ∀ {eu nu : Nat} {au : Nat → Nat}, laS g eu nu au P f → (0 < nx → 0 < nu → ex ≠ eu) → 0 < nu → ex ≠ eu := by
    intro eu nu au hu du h0
    rcases Nat.eq_zero_or_pos nx with hn | hn
    · intro z
      have h1 := (las_in hu h0).1
      rw [← z, las_eD hx hn] at h1
      exact heD h1
    · exact du hn h0
  have k2 : ∀ {eu nu : Nat} {au : Nat → Nat}, laS g eu nu au P f → (0 < nx → 0 < nu → ex ≠ eu) → 0 < nu → ex2 ≠ eu := by
    intro eu nu au hu du h0 z
    rcases g5 with e | e
    · exact key hu du h0 (e ▸ z)
    · exact e (z ▸ (las_in hu h0).1)
  exact ⟨las_tr hy (fun hp h0 => g1 _ hp (fun z => key hy dxy h0 z.symm)), las_tr hz (fun hp h0 => g1 _ hp (fun z => key hz dxz h0 z.symm)), k2 hy dxy, k2 hz dxz⟩
theorem drw_new {A : Nat → Nat → Int32} {B : Nat → Nat → Bool} {n : Nat} {w x4 : Int32} {A2 : Nat → Nat → Int32} (h : ∀ i, i < n → A2 2 i = A 2 i ∧ A2 4 i = A 4 i ∧ A2 5 i = A 5 i) (h4 : A2 4 n = x4) (hw : w ≠ x4) : drw (hrS B) (fiS A2) (n + 1) w = drw (hrS B) (fiS A) n w := by
  have hz : ∀ p, mtc (hrS B) (fiS A2) w p n = false := fun p => by
    show (!B 0 n && (decide (A2 4 n = w) && decide (A2 2 n = p))) = false
    rw [h4, decide_eq_false (fun z => hw z.symm)]
    simp
  have hm : ∀ p, mst (hrS B) (fiS A2) (n + 1) w p = mst (hrS B) (fiS A2) n w p := fun p => by
    have hc : ∀ f, cntF (hrS B) (fiS A2) w p f (n + 1) = cntF (hrS B) (fiS A2) w p f n := fun f => cntF_no (by rw [hz]; rfl)
    have hk : ∀ k, mstF (hrS B) (fiS A2) (n + 1) w p k = mstF (hrS B) (fiS A2) n w p k := fun k => by
      induction k with
      | zero => rfl
      | succ k ih => rw [mstF, mstF, ih, hc]
    show (mstF (hrS B) (fiS A2) (n + 1) w p (n + 1)).1 = _
    rw [mstF_no (by rw [hz]; rfl), hk]
    rfl
  have e1 : drw (hrS B) (fiS A2) (n + 1) w = drw (hrS B) (fiS A2) n w := by
    unfold drw
    congr 1
    funext k
    exact hm (nI k)
  rw [e1]
  exact drw_A (fun i hi => h i hi)
theorem iv_of {g : q_G} {n : Nat} {A : Nat → Nat → Int32} {ad el ia sz : Nat → Nat} {mc : Nat → Int32} {th : Int64} {dr dl : Int32} {ro kl : Nat → Int32} {kn : Nat → Int64} {row : Nat → Int32} {P : List Nat} {f : Nat → va_E} {wm : va_W} (hn : n ≤ 40) (hs : sz 0 = n) (h8 : laS g (el 0) n ia P f) (h5 : ∀ i, i < n → ia i ∈ P ∧ f (ia i) = oI (lN (2 ^ i)) (A 1 i) (A 2 i) (A 3 i) (A 4 i) (A 5 i)) : ivV g (iF g ad mc el sz th dr dl ro kl kn row ++ (wm ++ va_pl P f)) (ad 8) (ad 7) th n ia (fun i => lN (2 ^ i)) (fiS A) := by
  subst hs
  refine ⟨⟨8, _, _, _, _, _, _, _, _, rfl⟩, ?_, hn, fun i hi => ?_⟩
  · rw [← List.append_assoc]
    refine las_lsV (ql := 7) (mc := mc 0) h8 hn ?_
    rw [List.append_assoc]
    rfl
  · obtain ⟨k, hk⟩ := pl_getX (X := iF g ad mc el sz th dr dl ro kl kn row ++ wm) (h5 i hi).1 (h5 i hi).2
    rw [List.append_assoc] at hk
    exact ⟨k, hk⟩
def ivA (A : Nat → Nat → Int32) (n : Nat) (x1 x2 x3 x4 fo : Int32) : Nat → Nat → Int32 := va_up (va_up (va_up (va_up (va_up A 1 (upd (A 1) n x1)) 2 (upd (A 2) n x2)) 3 (upd (A 3) n x3)) 4 (upd (A 4) n x4)) 5 (upd (A 5) n fo)
def rlA (A : Nat → Nat → Int32) (n : Nat) (x1 x2 x3 x4 x5 x6 : Int32) : Nat → Nat → Int32 := va_up (va_up (va_up (va_up (va_up (va_up A 7 (upd (A 7) n x1)) 8 (upd (A 8) n x2)) 9 (upd (A 9) n x3)) 10 (upd (A 10) n x4)) 11 (upd (A 11) n x5)) 12 (upd (A 12) n x6)
set_option maxHeartbeats 4000000 in
set_option maxRecDepth 100000 in
theorem c_quote (l : Launch) (hl : l.stackTraces = false) (g : q_G) (N : Nat → Nat) (A : Nat → Nat → Int32) (B : Nat → Nat → Bool) (L : Nat → Nat → Int64) (wm ws : va_W) (a0 : Nat) (hI : inv N A B L) (hR : cR g a0 N A B L wm ws) (x1 : Int32) : MetX l g yX3_quote cX3_quote 4 (some .int) ({ frames := 7, cells := 4, slots := 250, locals := 200 } : Room) [.ref a0, .int x1] (ws) (q_Qi g (fun r w => (kc (!inR x1 (N 1)) (B 0 (c32 x1) || decide (N 3 = 20)) false) = 0 ∧ r = nI (N 3) ∧ cR g a0 (va_up N 3 (N 3 + 1)) (va_up A 13 (upd (A 13) (N 3) x1)) B (L) wm w)) (peS (kc (!inR x1 (N 1)) (B 0 (c32 x1) || decide (N 3 = 20)) false) ws) := by
  refine q_metX (own := RX3) (by decide +kernel) rfl (Nat.le_of_ble_eq_true rfl) (fun p e s m args below meth c cx hr htab => ?_)
  obtain ⟨ad, mc, el, ia, ra, th, dr, dl, ro, kl, kn, row, P, f, rfl, rfl, hF⟩ := hR
  have hiv := cF_iv (ad := ad) (mc := mc) (row := row) (wm := wm) hI hF
  have hrl := cF_rl (ad := ad) (mc := mc) (row := row) (wm := wm) hI hF
  have hqu := cF_qu (ad := ad) (mc := mc) (row := row) (wm := wm) hI hF
  obtain ⟨⟨rfl, rfl, rfl⟩, f2, f3, f4, f5, f6, f7, f8, f9, f10, f11, f12, f13⟩ := id hF
  obtain ⟨⟨i1, i2, i3, i4⟩, j2, j3, j4, j5, j6, j7, j8, j9, j10, j11⟩ := id hI
  refine r_lv (lv2 := [(0, .ref (ad 8)), (1, .int x1)]) (q_pk [0, 1] rfl) ?_
  refine r_iload_n cx dX3_quote_0 rfl rfl ?_
  refine r_aload_n cx dX3_quote_1 rfl rfl ?_
  refine gf_X3_10 cx dX3_quote_2 8 rfl rfl ?_
  refine k_X3_80 cx (c_lsize l g _ (ad 7) (N 1) ia hiv.2.1) dX3_quote_5 7 rfl ⟨Nat.le_of_ble_eq_true rfl, Nat.le_of_ble_eq_true rfl⟩ ⟨Nat.le_of_ble_eq_true rfl, Nat.le_of_ble_eq_true rfl⟩ rfl rfl (Nat.le_of_ble_eq_true rfl) (fun r w hp => ?_)
  obtain ⟨rfl, rfl⟩ := hp
  refine k_X3_57 cx (c_isOutside l g _ x1 (N 1) (by omega)) dX3_quote_8 ⟨Nat.le_of_ble_eq_true rfl, Nat.le_of_ble_eq_true rfl⟩ ⟨Nat.le_of_ble_eq_true rfl, Nat.le_of_ble_eq_true rfl⟩ rfl rfl (Nat.le_of_ble_eq_true rfl) (fun r w hp => ?_)
  obtain ⟨rfl, rfl⟩ := hp
  refine r_ifeqb (tgt := 24) cx dX3_quote_11 (by decide) (fun h_11 => ?_) (fun h_11 => ?_)
  · skip
    obtain ⟨j, hj, rfl, hcj⟩ := inR_ix (x := x1) (n := N 1) (by simpa using h_11) (by omega)
    refine r_aload_n cx dX3_quote_24 rfl rfl ?_
    refine gf_X3_10 cx dX3_quote_25 8 rfl rfl ?_
    refine r_iload_n cx dX3_quote_28 rfl rfl ?_
    refine k_X3_108 cx (c_lget l g _ (ad 7) (N 1) j ia hiv.2.1 hj) dX3_quote_29 7 rfl ⟨Nat.le_of_ble_eq_true rfl, Nat.le_of_ble_eq_true rfl⟩ ⟨Nat.le_of_ble_eq_true rfl, Nat.le_of_ble_eq_true rfl⟩ rfl rfl (Nat.le_of_ble_eq_true rfl) (fun r w hp => ?_)
    obtain ⟨rfl, rfl⟩ := hp
    obtain ⟨qi, hqi⟩ := hiv.2.2.2 j hj
    refine r_eqv (y := .ref (ia j)) rfl ?_
    refine r_cast (ci := 1) cx tb_219 dX3_quote_32 qi rfl rfl hqi ?_
    refine r_astore_n cx dX3_quote_35 rfl (by decide) rfl ?_
    refine r_aload_n cx dX3_quote_36 rfl rfl ?_
    refine gf_X3_19 cx dX3_quote_37 8 rfl rfl ?_
    refine k_X3_80 cx (c_lsize l g _ (ad 5) (N 3) (fun k => ia (c32 (A 13 k))) hqu) dX3_quote_40 5 rfl ⟨Nat.le_of_ble_eq_true rfl, Nat.le_of_ble_eq_true rfl⟩ ⟨Nat.le_of_ble_eq_true rfl, Nat.le_of_ble_eq_true rfl⟩ rfl rfl (Nat.le_of_ble_eq_true rfl) (fun r w hp => ?_)
    obtain ⟨rfl, rfl⟩ := hp
    refine r_istore_n cx dX3_quote_43 rfl (by decide) rfl ?_
    refine r_aload_n cx dX3_quote_44 rfl rfl ?_
    refine r_aload_n cx dX3_quote_45 rfl rfl ?_
    refine k_X3_139 cx (c_isThere l g _ 8 qi _ _ _ _ _ _ _ _ _ _ _ _ _ _ _ _ _ _ rfl hqi) dX3_quote_46 8 rfl ⟨Nat.le_of_ble_eq_true rfl, Nat.le_of_ble_eq_true rfl⟩ ⟨Nat.le_of_ble_eq_true rfl, Nat.le_of_ble_eq_true rfl⟩ rfl rfl (Nat.le_of_ble_eq_true rfl) (fun r w hp => ?_)
    obtain ⟨rfl, rfl⟩ := hp
    refine r_ifeqb (tgt := 58) cx dX3_quote_49 (by decide) (fun h_49 => ?_) (fun h_49 => ?_)
    · skip
      rw [hr_th i2 hj] at h_49
      exact th_IS cx "the interview is forgotten, or there are 20 quotes" 201 hl htab dX3_quote_58 dX3_quote_61 dX3_quote_62 dX3_quote_64 dX3_quote_67 (by decide) ⟨Nat.le_of_ble_eq_true rfl, Nat.le_of_ble_eq_true rfl, Nat.le_of_ble_eq_true rfl, Nat.le_of_ble_eq_true rfl⟩ ⟨Nat.le_of_ble_eq_true rfl, Nat.le_of_ble_eq_true rfl⟩ (⟨Or.inr ⟨rfl, by rw [hcj]; simp at h_11 h_49; simp [kc, h_11, h_49]⟩, rfl⟩)
    · skip
      rw [hr_th i2 hj] at h_49
      refine r_iload_n cx dX3_quote_52 rfl rfl ?_
      refine r_bipush (v := nI 20) cx dX3_quote_53 (by decide) ?_
      refine r_icmpltN (tgt := 68) cx (by omega) (by omega) dX3_quote_55 (by decide) (fun h_55 => ?_) (fun h_55 => ?_)
      · skip
        refine r_aload_n cx dX3_quote_68 rfl rfl ?_
        refine gf_X3_19 cx dX3_quote_69 8 rfl rfl ?_
        refine r_aload_n cx dX3_quote_72 rfl rfl ?_
        refine r_D (fun hD => ?_)
        have heD : g.2.2.2.1 ∉ P := fun z => eD_out cx (P_in_A hD z)
        refine r_perm (out2 wm (va_pl P f)) ?_
        refine add_front (ci := 1) cx dX3_quote_73 rfl tn_560 f10 (show N 3 ≤ 40 by omega) (fun i hi => ⟨(f5 _ (j11 i hi).1).1, _, (f5 _ (j11 i hi).1).2⟩) (f5 j hj).1 ⟨_, (f5 j hj).2⟩ ⟨by decide, by decide, Nat.le_of_ble_eq_true rfl, Nat.le_of_ble_eq_true rfl⟩ (Nat.le_of_ble_eq_true rfl) (fun r mc2 el2 L2 f2' g1 g2 g3 g4 g5 => ?_)
        refine r_perm (out2 (el := va_up el 2 el2) (mc := va_up mc 2 mc2) (sz := fun k => (va_up N 3 (N 3 + 1)) (k + 1)) wm (va_pl L2 f2')).symm ?_
        obtain ⟨t1, t2, t3, t4⟩ := ls3_grow heD f10 f8 f9 (fun a b => (f12 b a).symm) (fun a b => (f13 b a).symm) g1 g5
        have tI : ∀ b, b ∈ P → (∃ x, f b = .inr x) → b ∈ L2 ∧ f2' b = f b := fun b hb hf => g1 b hb (ob_ne heD f10 hb hf)
        refine r_pop cx dX3_quote_76 rfl ?_
        refine r_iload_n cx dX3_quote_77 rfl rfl ?_
        exact x_iret cx dX3_quote_78 hr (⟨by rw [hcj, decide_eq_false (by omega : ¬ N 3 = 20)]; simp at h_11 h_49; simp [kc, h_11, h_49], rfl, ⟨ad, _, _, ia, ra, _, _, _, ro, kl, kn, row, L2, f2', rfl, rfl, ⟨rfl, rfl, rfl⟩, f2, (fun w hw => (f3 w hw).trans (drw_A (fun i _ => ⟨rfl, rfl, rfl⟩))), f4, (fun i hi => ⟨(tI _ (f5 i hi).1 ⟨_, (f5 i hi).2⟩).1, (tI _ (f5 i hi).1 ⟨_, (f5 i hi).2⟩).2.trans (f5 i hi).2⟩), (fun r hr => ⟨(tI _ (f6 r hr).1 ⟨_, (f6 r hr).2⟩).1, (tI _ (f6 r hr).1 ⟨_, (f6 r hr).2⟩).2.trans (f6 r hr).2⟩), f7, t1, t2, las_cong g2 (fun i hi => by
    show va_up (fun k => ia (c32 (A 13 k))) (N 3) (ia j) i = ia (c32 (upd (A 13) (N 3) (nI j) i))
    by_cases e9 : i = N 3
    · rw [e9, va_up_self, pk_us, hcj]
    · rw [va_up_ne _ _ e9, pk_un e9]), f11, (fun a _ => (t3 a).symm), (fun a _ => (t4 a).symm)⟩⟩) (Nat.le_of_ble_eq_true rfl) (Nat.le_of_ble_eq_true rfl)
      · skip
        exact th_IS cx "the interview is forgotten, or there are 20 quotes" 201 hl htab dX3_quote_58 dX3_quote_61 dX3_quote_62 dX3_quote_64 dX3_quote_67 (by decide) ⟨Nat.le_of_ble_eq_true rfl, Nat.le_of_ble_eq_true rfl, Nat.le_of_ble_eq_true rfl, Nat.le_of_ble_eq_true rfl⟩ ⟨Nat.le_of_ble_eq_true rfl, Nat.le_of_ble_eq_true rfl⟩ (⟨Or.inr ⟨rfl, by rw [hcj, decide_eq_true (by omega : N 3 = 20)]; simp at h_11; simp [kc, h_11]⟩, rfl⟩)
  · skip
    exact th_IO cx "no such interview" 106 hl htab dX3_quote_14 dX3_quote_17 dX3_quote_18 dX3_quote_20 dX3_quote_23 (by decide) ⟨Nat.le_of_ble_eq_true rfl, Nat.le_of_ble_eq_true rfl, Nat.le_of_ble_eq_true rfl, Nat.le_of_ble_eq_true rfl⟩ ⟨Nat.le_of_ble_eq_true rfl, Nat.le_of_ble_eq_true rfl⟩ (⟨Or.inl ⟨rfl, by simp [kc, h_11]⟩, rfl⟩)
set_option maxHeartbeats 4000000 in
set_option maxRecDepth 100000 in
theorem c_rule (l : Launch) (hl : l.stackTraces = false) (g : q_G) (N : Nat → Nat) (A : Nat → Nat → Int32) (B : Nat → Nat → Bool) (L : Nat → Nat → Int64) (wm ws : va_W) (a0 : Nat) (hI : inv N A B L) (hR : cR g a0 N A B L wm ws) (x1 : Int32) (x2 : Int32) (x3 : Int32) (x4 : Int32) (x5 : Int32) (x6 : Int32) : MetX l g yX3_rule cX3_rule 8 (some .int) ({ frames := 7, cells := 4, slots := 250, locals := 200 } : Room) [.ref a0, .int x1, .int x2, .int x3, .int x4, .int x5, .int x6] (ws) (q_Qi g (fun r w => (kc (!(inR x1 8 && (inR x4 10 && inR x5 10))) (decide (x2 = x1) || !(decide (x2 = -1) || inR x2 8) || !inR x3 10 || decide (x5 < x4) || !inR x6 301) (decide (N 2 = 20))) = 0 ∧ r = nI (N 2) ∧ cR g a0 (va_up N 2 (N 2 + 1)) (rlA A (N 2) x1 x2 x3 x4 x5 x6) B (L) wm w)) (pe3 (kc (!(inR x1 8 && (inR x4 10 && inR x5 10))) (decide (x2 = x1) || !(decide (x2 = -1) || inR x2 8) || !inR x3 10 || decide (x5 < x4) || !inR x6 301) (decide (N 2 = 20))) ws) := by
  refine q_metX (own := RX3) (by decide +kernel) rfl (Nat.le_of_ble_eq_true rfl) (fun p e s m args below meth c cx hr htab => ?_)
  obtain ⟨ad, mc, el, ia, ra, th, dr, dl, ro, kl, kn, row, P, f, rfl, rfl, hF⟩ := hR
  have hiv := cF_iv (ad := ad) (mc := mc) (row := row) (wm := wm) hI hF
  have hrl := cF_rl (ad := ad) (mc := mc) (row := row) (wm := wm) hI hF
  have hqu := cF_qu (ad := ad) (mc := mc) (row := row) (wm := wm) hI hF
  obtain ⟨⟨rfl, rfl, rfl⟩, f2, f3, f4, f5, f6, f7, f8, f9, f10, f11, f12, f13⟩ := id hF
  obtain ⟨⟨i1, i2, i3, i4⟩, j2, j3, j4, j5, j6, j7, j8, j9, j10, j11⟩ := id hI
  refine r_lv (lv2 := [(0, .ref (ad 8)), (1, .int x1), (2, .int x2), (3, .int x3), (4, .int x4), (5, .int x5), (6, .int x6)]) (q_pk [0, 1, 2, 3, 4, 5, 6] rfl) ?_
  refine r_iload_n cx dX3_rule_0 rfl rfl ?_
  refine r_bipush (v := nI 8) cx dX3_rule_1 (by decide) ?_
  refine k_X3_57 cx (c_isOutside l g _ x1 (8) (by omega)) dX3_rule_3 ⟨Nat.le_of_ble_eq_true rfl, Nat.le_of_ble_eq_true rfl⟩ ⟨Nat.le_of_ble_eq_true rfl, Nat.le_of_ble_eq_true rfl⟩ rfl rfl (Nat.le_of_ble_eq_true rfl) (fun r w hp => ?_)
  obtain ⟨rfl, rfl⟩ := hp
  refine r_ifneb (tgt := 29) cx dX3_rule_6 (by decide) (fun h_6 => ?_) (fun h_6 => ?_)
  · skip
    exact th_IO cx "no such sound, or no such place" 116 hl htab dX3_rule_29 dX3_rule_32 dX3_rule_33 dX3_rule_35 dX3_rule_38 (by decide) ⟨Nat.le_of_ble_eq_true rfl, Nat.le_of_ble_eq_true rfl, Nat.le_of_ble_eq_true rfl, Nat.le_of_ble_eq_true rfl⟩ ⟨Nat.le_of_ble_eq_true rfl, Nat.le_of_ble_eq_true rfl⟩ (⟨Or.inl ⟨rfl, by first | (simp [kc, h_6]; done) | (simp [kc, h_16]; done) | (simp [kc, h_26]; done)⟩, rfl⟩)
  · skip
    refine r_iload cx dX3_rule_9 rfl ?_
    refine r_bipush (v := nI 10) cx dX3_rule_11 (by decide) ?_
    refine k_X3_57 cx (c_isOutside l g _ x4 (10) (by omega)) dX3_rule_13 ⟨Nat.le_of_ble_eq_true rfl, Nat.le_of_ble_eq_true rfl⟩ ⟨Nat.le_of_ble_eq_true rfl, Nat.le_of_ble_eq_true rfl⟩ rfl rfl (Nat.le_of_ble_eq_true rfl) (fun r w hp => ?_)
    obtain ⟨rfl, rfl⟩ := hp
    refine r_ifneb (tgt := 29) cx dX3_rule_16 (by decide) (fun h_16 => ?_) (fun h_16 => ?_)
    · skip
      exact th_IO cx "no such sound, or no such place" 116 hl htab dX3_rule_29 dX3_rule_32 dX3_rule_33 dX3_rule_35 dX3_rule_38 (by decide) ⟨Nat.le_of_ble_eq_true rfl, Nat.le_of_ble_eq_true rfl, Nat.le_of_ble_eq_true rfl, Nat.le_of_ble_eq_true rfl⟩ ⟨Nat.le_of_ble_eq_true rfl, Nat.le_of_ble_eq_true rfl⟩ (⟨Or.inl ⟨rfl, by first | (simp [kc, h_6]; done) | (simp [kc, h_16]; done) | (simp [kc, h_26]; done)⟩, rfl⟩)
    · skip
      refine r_iload cx dX3_rule_19 rfl ?_
      refine r_bipush (v := nI 10) cx dX3_rule_21 (by decide) ?_
      refine k_X3_57 cx (c_isOutside l g _ x5 (10) (by omega)) dX3_rule_23 ⟨Nat.le_of_ble_eq_true rfl, Nat.le_of_ble_eq_true rfl⟩ ⟨Nat.le_of_ble_eq_true rfl, Nat.le_of_ble_eq_true rfl⟩ rfl rfl (Nat.le_of_ble_eq_true rfl) (fun r w hp => ?_)
      obtain ⟨rfl, rfl⟩ := hp
      refine r_ifeqb (tgt := 39) cx dX3_rule_26 (by decide) (fun h_26 => ?_) (fun h_26 => ?_)
      · skip
        refine r_iload_n cx dX3_rule_39 rfl rfl ?_
        refine r_iload_n cx dX3_rule_40 rfl rfl ?_
        refine r_icmpeq (tgt := 65) cx dX3_rule_41 (by decide) (fun h_41 => ?_) (fun h_41 => ?_)
        · skip
          exact th_IA cx "the sound cannot become that, or not before that" 122 hl htab dX3_rule_65 dX3_rule_68 dX3_rule_69 dX3_rule_71 dX3_rule_74 (by decide) ⟨Nat.le_of_ble_eq_true rfl, Nat.le_of_ble_eq_true rfl, Nat.le_of_ble_eq_true rfl, Nat.le_of_ble_eq_true rfl⟩ ⟨Nat.le_of_ble_eq_true rfl, Nat.le_of_ble_eq_true rfl⟩ (⟨Or.inr (Or.inl ⟨rfl, by simp at h_6 h_16 h_26; simp [kc, h_6, h_16, h_26, h_41]⟩), rfl⟩)
        · skip
          refine r_iload_n cx dX3_rule_44 rfl rfl ?_
          refine r_iconst (v := -1) cx dX3_rule_45 (by decide) ?_
          refine r_icmpeq (tgt := 58) cx dX3_rule_46 (by decide) (fun h_46 => ?_) (fun h_46 => ?_)
          · skip
            refine r_iload_n cx dX3_rule_58 rfl rfl ?_
            refine k_X3_118 cx (c_canStandBehind l g _ x3) dX3_rule_59 ⟨Nat.le_of_ble_eq_true rfl, Nat.le_of_ble_eq_true rfl⟩ ⟨Nat.le_of_ble_eq_true rfl, Nat.le_of_ble_eq_true rfl⟩ rfl rfl (Nat.le_of_ble_eq_true rfl) (fun r w hp => ?_)
            obtain ⟨rfl, rfl⟩ := hp
            refine r_ifneb (tgt := 75) cx dX3_rule_62 (by decide) (fun h_62 => ?_) (fun h_62 => ?_)
            · skip
              refine r_iload cx dX3_rule_75 rfl ?_
              refine r_iload cx dX3_rule_77 rfl ?_
              refine r_icmplt (tgt := 93) cx dX3_rule_79 (by decide) (fun h_79 => ?_) (fun h_79 => ?_)
              · skip
                exact th_IA cx "no such range of places, or no such year" 124 hl htab dX3_rule_93 dX3_rule_96 dX3_rule_97 dX3_rule_99 dX3_rule_102 (by decide) ⟨Nat.le_of_ble_eq_true rfl, Nat.le_of_ble_eq_true rfl, Nat.le_of_ble_eq_true rfl, Nat.le_of_ble_eq_true rfl⟩ ⟨Nat.le_of_ble_eq_true rfl, Nat.le_of_ble_eq_true rfl⟩ (⟨Or.inr (Or.inl ⟨rfl, by simp at h_6 h_16 h_26; simp [kc, h_6, h_16, h_26, h_79]⟩), rfl⟩)
              · skip
                refine r_iload cx dX3_rule_82 rfl ?_
                refine r_sipush (v := nI 301) cx dX3_rule_84 (by decide) ?_
                refine k_X3_57 cx (c_isOutside l g _ x6 (301) (by omega)) dX3_rule_87 ⟨Nat.le_of_ble_eq_true rfl, Nat.le_of_ble_eq_true rfl⟩ ⟨Nat.le_of_ble_eq_true rfl, Nat.le_of_ble_eq_true rfl⟩ rfl rfl (Nat.le_of_ble_eq_true rfl) (fun r w hp => ?_)
                obtain ⟨rfl, rfl⟩ := hp
                refine r_ifeqb (tgt := 103) cx dX3_rule_90 (by decide) (fun h_90 => ?_) (fun h_90 => ?_)
                · skip
                  refine r_aload_n cx dX3_rule_103 rfl rfl ?_
                  refine gf_X3_16 cx dX3_rule_104 8 rfl rfl ?_
                  refine k_X3_80 cx (c_lsize l g _ (ad 6) (N 2) ra hrl.2.1) dX3_rule_107 6 rfl ⟨Nat.le_of_ble_eq_true rfl, Nat.le_of_ble_eq_true rfl⟩ ⟨Nat.le_of_ble_eq_true rfl, Nat.le_of_ble_eq_true rfl⟩ rfl rfl (Nat.le_of_ble_eq_true rfl) (fun r w hp => ?_)
                  obtain ⟨rfl, rfl⟩ := hp
                  refine r_istore cx dX3_rule_110 (by decide) rfl ?_
                  refine r_iload cx dX3_rule_112 rfl ?_
                  refine r_bipush (v := nI 20) cx dX3_rule_114 (by decide) ?_
                  refine r_icmpltN (tgt := 129) cx (by omega) (by omega) dX3_rule_116 (by decide) (fun h_116 => ?_) (fun h_116 => ?_)
                  · skip
                    refine r_aload_n cx dX3_rule_129 rfl rfl ?_
                    refine gf_X3_16 cx dX3_rule_130 8 rfl rfl ?_
                    refine nw_X3_128 cx dX3_rule_133 (Nat.le_of_ble_eq_true rfl) (Nat.le_of_ble_eq_true rfl) (fun q => ?_)
                    refine r_perm (List.perm_append_singleton _ _) ?_
                    refine r_dup cx dX3_rule_136 rfl ?_
                    refine r_iload_n cx dX3_rule_137 rfl rfl ?_
                    refine r_iload_n cx dX3_rule_138 rfl rfl ?_
                    refine r_iload_n cx dX3_rule_139 rfl rfl ?_
                    refine r_iload cx dX3_rule_140 rfl ?_
                    refine r_iload cx dX3_rule_142 rfl ?_
                    refine r_iload cx dX3_rule_144 rfl ?_
                    refine k_X3_130 cx (c_Rule l g _ q x1 x2 x3 x4 x5 x6) dX3_rule_146 ⟨Nat.le_of_ble_eq_true rfl, Nat.le_of_ble_eq_true rfl⟩ ⟨Nat.le_of_ble_eq_true rfl, Nat.le_of_ble_eq_true rfl⟩ rfl rfl (Nat.le_of_ble_eq_true rfl) (fun w hp => ?_)
                    subst hp
                    refine r_D (fun hD => ?_)
                    have hq := new_fresh hD
                    have hDr := q_D_perm (new_out hq) hD
                    have heD : g.2.2.2.1 ∉ q :: P := fun z => eD_out cx (P_in_A hDr z)
                    refine r_perm ((new_out hq).trans (out1 wm (va_pl (q :: P) _))) ?_
                    refine add_front (ci := 2) cx dX3_rule_149 rfl tn_561 (las_push hq f9) (show N 2 ≤ 40 by omega) (fun i hi => ⟨List.mem_cons_of_mem _ (f6 i hi).1, _, (va_up_ne _ _ (fun z => by have z2 := (f6 i hi).1; rw [z] at z2; exact hq z2)).trans (f6 i hi).2⟩) List.mem_cons_self ⟨_, va_up_self _ _ _⟩ ⟨by decide, by decide, Nat.le_of_ble_eq_true rfl, Nat.le_of_ble_eq_true rfl⟩ (Nat.le_of_ble_eq_true rfl) (fun r mc2 el2 L2 f2' g1 g2 g3 g4 g5 => ?_)
                    refine r_perm (out1 (el := va_up el 1 el2) (mc := va_up mc 1 mc2) (sz := fun k => (va_up N 2 (N 2 + 1)) (k + 1)) wm (va_pl L2 f2')).symm ?_
                    obtain ⟨t1, t2, t3, t4⟩ := ls3_grow heD (las_push hq f9) (las_push (e := oR x1 x2 x3 x4 x5 x6 0 false) hq f8) (las_push hq f10) (fun a b => (f11 b a).symm) f13 g1 g5
                    have tI : ∀ b, b ∈ P → (∃ x, f b = .inr x) → b ∈ L2 ∧ f2' b = f b := fun b hb hf => by
                      have hbq : b ≠ q := fun z => hq (z ▸ hb)
                      obtain ⟨u1, u2⟩ := g1 b (List.mem_cons_of_mem _ hb) (ob_ne heD (las_push (e := oR x1 x2 x3 x4 x5 x6 0 false) hq f9) (List.mem_cons_of_mem _ hb) (hf.elim (fun x hx => ⟨x, (va_up_ne _ _ hbq).trans hx⟩)))
                      exact ⟨u1, u2.trans (va_up_ne _ _ hbq)⟩
                    have tq := g1 q List.mem_cons_self (ob_ne heD (las_push (e := oR x1 x2 x3 x4 x5 x6 0 false) hq f9) List.mem_cons_self ⟨_, va_up_self _ _ _⟩)
                    refine r_pop cx dX3_rule_152 rfl ?_
                    refine r_iload cx dX3_rule_153 rfl ?_
                    exact x_iret cx dX3_rule_155 hr (⟨by rw [decide_eq_false (by omega : ¬ N 2 = 20)]; simp at h_6 h_16 h_26 h_90; rw [h_46] at h_41; simp [kc, h_6, h_16, h_26, h_41, h_46, h_62, h_79, h_90], rfl, ⟨ad, _, _, ia, va_up ra (N 2) q, _, _, _, ro, kl, kn, row, L2, f2', rfl, rfl, ⟨rfl, rfl, rfl⟩, f2, (fun w hw => (f3 w hw).trans (drw_A (fun i _ => ⟨rfl, rfl, rfl⟩))), f4, (fun i hi => ⟨(tI _ (f5 i hi).1 ⟨_, (f5 i hi).2⟩).1, (tI _ (f5 i hi).1 ⟨_, (f5 i hi).2⟩).2.trans (f5 i hi).2⟩), (fun r hr => by
    by_cases e9 : r = N 2
    · subst e9
      rw [va_up_self]
      refine ⟨tq.1, tq.2.trans ((va_up_self _ _ _).trans ?_)⟩
      show _ = oR (upd (A 7) (N 2) x1 (N 2)) (upd (A 8) (N 2) x2 (N 2)) (upd (A 9) (N 2) x3 (N 2)) (upd (A 10) (N 2) x4 (N 2)) (upd (A 11) (N 2) x5 (N 2)) (upd (A 12) (N 2) x6 (N 2)) (L 0 (N 2)) (B 1 (N 2))
      rw [pk_us, pk_us, pk_us, pk_us, pk_us, pk_us, (j7 _ (Nat.le_refl _)).1, (j7 _ (Nat.le_refl _)).2]
    · have hr2 : r < N 2 := by have : r < N 2 + 1 := hr; omega
      rw [va_up_ne _ _ e9]
      refine ⟨(tI _ (f6 r hr2).1 ⟨_, (f6 r hr2).2⟩).1, ((tI _ (f6 r hr2).1 ⟨_, (f6 r hr2).2⟩).2.trans (f6 r hr2).2).trans ?_⟩
      show _ = oR (upd (A 7) (N 2) x1 r) (upd (A 8) (N 2) x2 r) (upd (A 9) (N 2) x3 r) (upd (A 10) (N 2) x4 r) (upd (A 11) (N 2) x5 r) (upd (A 12) (N 2) x6 r) (L 0 r) (B 1 r)
      rw [pk_un e9, pk_un e9, pk_un e9, pk_un e9, pk_un e9, pk_un e9]), (fun r r2 hr hr2 e => by
    have h1 : r < N 2 + 1 := hr
    have h2 : r2 < N 2 + 1 := hr2
    by_cases e1 : r = N 2 <;> by_cases e2 : r2 = N 2
    · omega
    · rw [e1, va_up_self, va_up_ne _ _ e2] at e
      exact absurd (e ▸ (f6 r2 (by omega)).1) hq
    · rw [e2, va_up_self, va_up_ne _ _ e1] at e
      exact absurd (e ▸ (f6 r (by omega)).1) hq
    · rw [va_up_ne _ _ e1, va_up_ne _ _ e2] at e
      exact f7 r r2 (by omega) (by omega) e), t1, g2, t2, (fun a _ => (t3 a).symm), f12, (fun _ b => t4 b)⟩⟩) (Nat.le_of_ble_eq_true rfl) (Nat.le_of_ble_eq_true rfl)
                  · skip
                    exact th_IS cx "there are 20 rules" 126 hl htab dX3_rule_119 dX3_rule_122 dX3_rule_123 dX3_rule_125 dX3_rule_128 (by decide) ⟨Nat.le_of_ble_eq_true rfl, Nat.le_of_ble_eq_true rfl, Nat.le_of_ble_eq_true rfl, Nat.le_of_ble_eq_true rfl⟩ ⟨Nat.le_of_ble_eq_true rfl, Nat.le_of_ble_eq_true rfl⟩ (⟨Or.inr (Or.inr ⟨rfl, by rw [decide_eq_true (by omega : N 2 = 20)]; simp at h_6 h_16 h_26 h_90; rw [h_46] at h_41; simp [kc, h_6, h_16, h_26, h_41, h_46, h_62, h_79, h_90]⟩), rfl⟩)
                · skip
                  exact th_IA cx "no such range of places, or no such year" 124 hl htab dX3_rule_93 dX3_rule_96 dX3_rule_97 dX3_rule_99 dX3_rule_102 (by decide) ⟨Nat.le_of_ble_eq_true rfl, Nat.le_of_ble_eq_true rfl, Nat.le_of_ble_eq_true rfl, Nat.le_of_ble_eq_true rfl⟩ ⟨Nat.le_of_ble_eq_true rfl, Nat.le_of_ble_eq_true rfl⟩ (⟨Or.inr (Or.inl ⟨rfl, by simp at h_6 h_16 h_26; simp at h_90; simp [kc, h_6, h_16, h_26, h_90]⟩), rfl⟩)
            · skip
              exact th_IA cx "the sound cannot become that, or not before that" 122 hl htab dX3_rule_65 dX3_rule_68 dX3_rule_69 dX3_rule_71 dX3_rule_74 (by decide) ⟨Nat.le_of_ble_eq_true rfl, Nat.le_of_ble_eq_true rfl, Nat.le_of_ble_eq_true rfl, Nat.le_of_ble_eq_true rfl⟩ ⟨Nat.le_of_ble_eq_true rfl, Nat.le_of_ble_eq_true rfl⟩ (⟨Or.inr (Or.inl ⟨rfl, by simp at h_6 h_16 h_26; simp [kc, h_6, h_16, h_26, h_62]⟩), rfl⟩)
          · skip
            refine r_iload_n cx dX3_rule_49 rfl rfl ?_
            refine r_bipush (v := nI 8) cx dX3_rule_50 (by decide) ?_
            refine k_X3_57 cx (c_isOutside l g _ x2 (8) (by omega)) dX3_rule_52 ⟨Nat.le_of_ble_eq_true rfl, Nat.le_of_ble_eq_true rfl⟩ ⟨Nat.le_of_ble_eq_true rfl, Nat.le_of_ble_eq_true rfl⟩ rfl rfl (Nat.le_of_ble_eq_true rfl) (fun r w hp => ?_)
            obtain ⟨rfl, rfl⟩ := hp
            refine r_ifneb (tgt := 65) cx dX3_rule_55 (by decide) (fun h_55 => ?_) (fun h_55 => ?_)
            · skip
              exact th_IA cx "the sound cannot become that, or not before that" 122 hl htab dX3_rule_65 dX3_rule_68 dX3_rule_69 dX3_rule_71 dX3_rule_74 (by decide) ⟨Nat.le_of_ble_eq_true rfl, Nat.le_of_ble_eq_true rfl, Nat.le_of_ble_eq_true rfl, Nat.le_of_ble_eq_true rfl⟩ ⟨Nat.le_of_ble_eq_true rfl, Nat.le_of_ble_eq_true rfl⟩ (⟨Or.inr (Or.inl ⟨rfl, by simp at h_6 h_16 h_26; simp at h_55; simp [kc, h_6, h_16, h_26, h_41, h_46, h_55]⟩), rfl⟩)
            · skip
              refine r_iload_n cx dX3_rule_58 rfl rfl ?_
              refine k_X3_118 cx (c_canStandBehind l g _ x3) dX3_rule_59 ⟨Nat.le_of_ble_eq_true rfl, Nat.le_of_ble_eq_true rfl⟩ ⟨Nat.le_of_ble_eq_true rfl, Nat.le_of_ble_eq_true rfl⟩ rfl rfl (Nat.le_of_ble_eq_true rfl) (fun r w hp => ?_)
              obtain ⟨rfl, rfl⟩ := hp
              refine r_ifneb (tgt := 75) cx dX3_rule_62 (by decide) (fun h_62 => ?_) (fun h_62 => ?_)
              · skip
                refine r_iload cx dX3_rule_75 rfl ?_
                refine r_iload cx dX3_rule_77 rfl ?_
                refine r_icmplt (tgt := 93) cx dX3_rule_79 (by decide) (fun h_79 => ?_) (fun h_79 => ?_)
                · skip
                  exact th_IA cx "no such range of places, or no such year" 124 hl htab dX3_rule_93 dX3_rule_96 dX3_rule_97 dX3_rule_99 dX3_rule_102 (by decide) ⟨Nat.le_of_ble_eq_true rfl, Nat.le_of_ble_eq_true rfl, Nat.le_of_ble_eq_true rfl, Nat.le_of_ble_eq_true rfl⟩ ⟨Nat.le_of_ble_eq_true rfl, Nat.le_of_ble_eq_true rfl⟩ (⟨Or.inr (Or.inl ⟨rfl, by simp at h_6 h_16 h_26; simp [kc, h_6, h_16, h_26, h_79]⟩), rfl⟩)
                · skip
                  refine r_iload cx dX3_rule_82 rfl ?_
                  refine r_sipush (v := nI 301) cx dX3_rule_84 (by decide) ?_
                  refine k_X3_57 cx (c_isOutside l g _ x6 (301) (by omega)) dX3_rule_87 ⟨Nat.le_of_ble_eq_true rfl, Nat.le_of_ble_eq_true rfl⟩ ⟨Nat.le_of_ble_eq_true rfl, Nat.le_of_ble_eq_true rfl⟩ rfl rfl (Nat.le_of_ble_eq_true rfl) (fun r w hp => ?_)
                  obtain ⟨rfl, rfl⟩ := hp
                  refine r_ifeqb (tgt := 103) cx dX3_rule_90 (by decide) (fun h_90 => ?_) (fun h_90 => ?_)
                  · skip
                    refine r_aload_n cx dX3_rule_103 rfl rfl ?_
                    refine gf_X3_16 cx dX3_rule_104 8 rfl rfl ?_
                    refine k_X3_80 cx (c_lsize l g _ (ad 6) (N 2) ra hrl.2.1) dX3_rule_107 6 rfl ⟨Nat.le_of_ble_eq_true rfl, Nat.le_of_ble_eq_true rfl⟩ ⟨Nat.le_of_ble_eq_true rfl, Nat.le_of_ble_eq_true rfl⟩ rfl rfl (Nat.le_of_ble_eq_true rfl) (fun r w hp => ?_)
                    obtain ⟨rfl, rfl⟩ := hp
                    refine r_istore cx dX3_rule_110 (by decide) rfl ?_
                    refine r_iload cx dX3_rule_112 rfl ?_
                    refine r_bipush (v := nI 20) cx dX3_rule_114 (by decide) ?_
                    refine r_icmpltN (tgt := 129) cx (by omega) (by omega) dX3_rule_116 (by decide) (fun h_116 => ?_) (fun h_116 => ?_)
                    · skip
                      refine r_aload_n cx dX3_rule_129 rfl rfl ?_
                      refine gf_X3_16 cx dX3_rule_130 8 rfl rfl ?_
                      refine nw_X3_128 cx dX3_rule_133 (Nat.le_of_ble_eq_true rfl) (Nat.le_of_ble_eq_true rfl) (fun q => ?_)
                      refine r_perm (List.perm_append_singleton _ _) ?_
                      refine r_dup cx dX3_rule_136 rfl ?_
                      refine r_iload_n cx dX3_rule_137 rfl rfl ?_
                      refine r_iload_n cx dX3_rule_138 rfl rfl ?_
                      refine r_iload_n cx dX3_rule_139 rfl rfl ?_
                      refine r_iload cx dX3_rule_140 rfl ?_
                      refine r_iload cx dX3_rule_142 rfl ?_
                      refine r_iload cx dX3_rule_144 rfl ?_
                      refine k_X3_130 cx (c_Rule l g _ q x1 x2 x3 x4 x5 x6) dX3_rule_146 ⟨Nat.le_of_ble_eq_true rfl, Nat.le_of_ble_eq_true rfl⟩ ⟨Nat.le_of_ble_eq_true rfl, Nat.le_of_ble_eq_true rfl⟩ rfl rfl (Nat.le_of_ble_eq_true rfl) (fun w hp => ?_)
                      subst hp
                      refine r_D (fun hD => ?_)
                      have hq := new_fresh hD
                      have hDr := q_D_perm (new_out hq) hD
                      have heD : g.2.2.2.1 ∉ q :: P := fun z => eD_out cx (P_in_A hDr z)
                      refine r_perm ((new_out hq).trans (out1 wm (va_pl (q :: P) _))) ?_
                      refine add_front (ci := 2) cx dX3_rule_149 rfl tn_561 (las_push hq f9) (show N 2 ≤ 40 by omega) (fun i hi => ⟨List.mem_cons_of_mem _ (f6 i hi).1, _, (va_up_ne _ _ (fun z => by have z2 := (f6 i hi).1; rw [z] at z2; exact hq z2)).trans (f6 i hi).2⟩) List.mem_cons_self ⟨_, va_up_self _ _ _⟩ ⟨by decide, by decide, Nat.le_of_ble_eq_true rfl, Nat.le_of_ble_eq_true rfl⟩ (Nat.le_of_ble_eq_true rfl) (fun r mc2 el2 L2 f2' g1 g2 g3 g4 g5 => ?_)
                      refine r_perm (out1 (el := va_up el 1 el2) (mc := va_up mc 1 mc2) (sz := fun k => (va_up N 2 (N 2 + 1)) (k + 1)) wm (va_pl L2 f2')).symm ?_
                      obtain ⟨t1, t2, t3, t4⟩ := ls3_grow heD (las_push hq f9) (las_push (e := oR x1 x2 x3 x4 x5 x6 0 false) hq f8) (las_push hq f10) (fun a b => (f11 b a).symm) f13 g1 g5
                      have tI : ∀ b, b ∈ P → (∃ x, f b = .inr x) → b ∈ L2 ∧ f2' b = f b := fun b hb hf => by
                        have hbq : b ≠ q := fun z => hq (z ▸ hb)
                        obtain ⟨u1, u2⟩ := g1 b (List.mem_cons_of_mem _ hb) (ob_ne heD (las_push (e := oR x1 x2 x3 x4 x5 x6 0 false) hq f9) (List.mem_cons_of_mem _ hb) (hf.elim (fun x hx => ⟨x, (va_up_ne _ _ hbq).trans hx⟩)))
                        exact ⟨u1, u2.trans (va_up_ne _ _ hbq)⟩
                      have tq := g1 q List.mem_cons_self (ob_ne heD (las_push (e := oR x1 x2 x3 x4 x5 x6 0 false) hq f9) List.mem_cons_self ⟨_, va_up_self _ _ _⟩)
                      refine r_pop cx dX3_rule_152 rfl ?_
                      refine r_iload cx dX3_rule_153 rfl ?_
                      exact x_iret cx dX3_rule_155 hr (⟨by rw [decide_eq_false (by omega : ¬ N 2 = 20)]; simp at h_6 h_16 h_26 h_90; simp at h_55; simp [kc, h_6, h_16, h_26, h_41, h_46, h_55, h_62, h_79, h_90], rfl, ⟨ad, _, _, ia, va_up ra (N 2) q, _, _, _, ro, kl, kn, row, L2, f2', rfl, rfl, ⟨rfl, rfl, rfl⟩, f2, (fun w hw => (f3 w hw).trans (drw_A (fun i _ => ⟨rfl, rfl, rfl⟩))), f4, (fun i hi => ⟨(tI _ (f5 i hi).1 ⟨_, (f5 i hi).2⟩).1, (tI _ (f5 i hi).1 ⟨_, (f5 i hi).2⟩).2.trans (f5 i hi).2⟩), (fun r hr => by
    by_cases e9 : r = N 2
    · subst e9
      rw [va_up_self]
      refine ⟨tq.1, tq.2.trans ((va_up_self _ _ _).trans ?_)⟩
      show _ = oR (upd (A 7) (N 2) x1 (N 2)) (upd (A 8) (N 2) x2 (N 2)) (upd (A 9) (N 2) x3 (N 2)) (upd (A 10) (N 2) x4 (N 2)) (upd (A 11) (N 2) x5 (N 2)) (upd (A 12) (N 2) x6 (N 2)) (L 0 (N 2)) (B 1 (N 2))
      rw [pk_us, pk_us, pk_us, pk_us, pk_us, pk_us, (j7 _ (Nat.le_refl _)).1, (j7 _ (Nat.le_refl _)).2]
    · have hr2 : r < N 2 := by have : r < N 2 + 1 := hr; omega
      rw [va_up_ne _ _ e9]
      refine ⟨(tI _ (f6 r hr2).1 ⟨_, (f6 r hr2).2⟩).1, ((tI _ (f6 r hr2).1 ⟨_, (f6 r hr2).2⟩).2.trans (f6 r hr2).2).trans ?_⟩
      show _ = oR (upd (A 7) (N 2) x1 r) (upd (A 8) (N 2) x2 r) (upd (A 9) (N 2) x3 r) (upd (A 10) (N 2) x4 r) (upd (A 11) (N 2) x5 r) (upd (A 12) (N 2) x6 r) (L 0 r) (B 1 r)
      rw [pk_un e9, pk_un e9, pk_un e9, pk_un e9, pk_un e9, pk_un e9]), (fun r r2 hr hr2 e => by
    have h1 : r < N 2 + 1 := hr
    have h2 : r2 < N 2 + 1 := hr2
    by_cases e1 : r = N 2 <;> by_cases e2 : r2 = N 2
    · omega
    · rw [e1, va_up_self, va_up_ne _ _ e2] at e
      exact absurd (e ▸ (f6 r2 (by omega)).1) hq
    · rw [e2, va_up_self, va_up_ne _ _ e1] at e
      exact absurd (e ▸ (f6 r (by omega)).1) hq
    · rw [va_up_ne _ _ e1, va_up_ne _ _ e2] at e
      exact f7 r r2 (by omega) (by omega) e), t1, g2, t2, (fun a _ => (t3 a).symm), f12, (fun _ b => t4 b)⟩⟩) (Nat.le_of_ble_eq_true rfl) (Nat.le_of_ble_eq_true rfl)
                    · skip
                      exact th_IS cx "there are 20 rules" 126 hl htab dX3_rule_119 dX3_rule_122 dX3_rule_123 dX3_rule_125 dX3_rule_128 (by decide) ⟨Nat.le_of_ble_eq_true rfl, Nat.le_of_ble_eq_true rfl, Nat.le_of_ble_eq_true rfl, Nat.le_of_ble_eq_true rfl⟩ ⟨Nat.le_of_ble_eq_true rfl, Nat.le_of_ble_eq_true rfl⟩ (⟨Or.inr (Or.inr ⟨rfl, by rw [decide_eq_true (by omega : N 2 = 20)]; simp at h_6 h_16 h_26 h_90; simp at h_55; simp [kc, h_6, h_16, h_26, h_41, h_46, h_55, h_62, h_79, h_90]⟩), rfl⟩)
                  · skip
                    exact th_IA cx "no such range of places, or no such year" 124 hl htab dX3_rule_93 dX3_rule_96 dX3_rule_97 dX3_rule_99 dX3_rule_102 (by decide) ⟨Nat.le_of_ble_eq_true rfl, Nat.le_of_ble_eq_true rfl, Nat.le_of_ble_eq_true rfl, Nat.le_of_ble_eq_true rfl⟩ ⟨Nat.le_of_ble_eq_true rfl, Nat.le_of_ble_eq_true rfl⟩ (⟨Or.inr (Or.inl ⟨rfl, by simp at h_6 h_16 h_26; simp at h_90; simp [kc, h_6, h_16, h_26, h_90]⟩), rfl⟩)
              · skip
                exact th_IA cx "the sound cannot become that, or not before that" 122 hl htab dX3_rule_65 dX3_rule_68 dX3_rule_69 dX3_rule_71 dX3_rule_74 (by decide) ⟨Nat.le_of_ble_eq_true rfl, Nat.le_of_ble_eq_true rfl, Nat.le_of_ble_eq_true rfl, Nat.le_of_ble_eq_true rfl⟩ ⟨Nat.le_of_ble_eq_true rfl, Nat.le_of_ble_eq_true rfl⟩ (⟨Or.inr (Or.inl ⟨rfl, by simp at h_6 h_16 h_26; simp [kc, h_6, h_16, h_26, h_62]⟩), rfl⟩)
      · skip
        exact th_IO cx "no such sound, or no such place" 116 hl htab dX3_rule_29 dX3_rule_32 dX3_rule_33 dX3_rule_35 dX3_rule_38 (by decide) ⟨Nat.le_of_ble_eq_true rfl, Nat.le_of_ble_eq_true rfl, Nat.le_of_ble_eq_true rfl, Nat.le_of_ble_eq_true rfl⟩ ⟨Nat.le_of_ble_eq_true rfl, Nat.le_of_ble_eq_true rfl⟩ (⟨Or.inl ⟨rfl, by first | (simp [kc, h_6]; done) | (simp [kc, h_16]; done) | (simp [kc, h_26]; done)⟩, rfl⟩)
