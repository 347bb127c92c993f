/-! the pool of the class's objects, and how a list grows in it -/
def laS (g : q_G) (el n : Nat) (a : Nat → Nat) (L : List Nat) (f : Nat → va_E) : Prop :=
  (n = 0 ∧ el = g.2.2.2.1) ∨ 0 < n ∧ ∃ (cap : Nat) (h : Nat → Option Nat), el ∈ L ∧ f el = .inl (q_cO g, cap, .inr (.inr (.inr (.inr (h))))) ∧ n ≤ cap ∧ 2 ≤ cap ∧ cap ≤ 60 ∧ ∀ i, i < n → h i = some (a i)
theorem pl_fst (L : List Nat) (f : Nat → va_E) : (va_pl L f).map Prod.fst = L := by
  rw [va_pl, List.map_map]
  exact (List.map_congr_left (fun _ _ => rfl)).trans (List.map_id L)
theorem pl_nodup {A : Nat → Prop} {X : va_W} {L : List Nat} {f : Nat → va_E} (h : va_D A (X ++ va_pl L f)) : L.Nodup := by
  have h1 := (q_D_nd.mp h).1
  rw [List.map_append] at h1
  have h2 := (List.nodup_append.mp h1).2.1
  rwa [pl_fst] at h2
theorem pl_out {L : List Nat} {f : Nat → va_E} {a : Nat} (h : a ∈ L) : (va_pl L f).Perm ((a, f a) :: va_pl (L.erase a) f) := (List.perm_cons_erase h).map _
theorem pl_cong {L : List Nat} {f f2 : Nat → va_E} (h : ∀ b ∈ L, f b = f2 b) : va_pl L f = va_pl L f2 := List.map_congr_left (fun b hb => by rw [h b hb])
theorem pl_in {L : List Nat} {f : Nat → va_E} {a : Nat} {e : va_E} (hn : L.Nodup) (h : a ∈ L) : ((a, e) :: va_pl (L.erase a) f).Perm (va_pl L (va_up f a e)) := by
  have h1 := pl_out (f := va_up f a e) h
  rw [va_up_self, pl_cong (L := L.erase a) (f := va_up f a e) (f2 := f) (fun b hb => va_up_ne _ _ (fun z => by subst z; exact (List.Nodup.mem_erase_iff hn).mp hb |>.1 rfl))] at h1
  exact h1.symm
theorem pl_new {L : List Nat} {f : Nat → va_E} {a : Nat} {e : va_E} (h : a ∉ L) : (a, e) :: va_pl L f = va_pl (a :: L) (va_up f a e) := by
  show _ = (a, va_up f a e a) :: va_pl L (va_up f a e)
  rw [va_up_self, pl_cong (L := L) (f := va_up f a e) (f2 := f) (fun b hb => va_up_ne _ _ (fun z => by subst z; exact h hb))]
theorem pl_outX {X : va_W} {L : List Nat} {f : Nat → va_E} {a : Nat} (h : a ∈ L) : (X ++ va_pl L f).Perm ((a, f a) :: (X ++ va_pl (L.erase a) f)) := ((pl_out h).append_left X).trans List.perm_middle
theorem pl_inX {X : va_W} {L : List Nat} {f : Nat → va_E} {a : Nat} {e : va_E} (hn : L.Nodup) (h : a ∈ L) : ((a, e) :: (X ++ va_pl (L.erase a) f)).Perm (X ++ va_pl L (va_up f a e)) := List.perm_middle.symm.trans ((pl_in hn h).append_left X)
theorem pl_newX {X : va_W} {L : List Nat} {f : Nat → va_E} {a : Nat} {e : va_E} (h : a ∉ L) : ((a, e) :: (X ++ va_pl L f)).Perm (X ++ va_pl (a :: L) (va_up f a e)) := by
  rw [← pl_new h]
  exact List.perm_middle.symm
theorem pl_getX {X : va_W} {L : List Nat} {f : Nat → va_E} {a : Nat} {e : va_E} (h : a ∈ L) (he : f a = e) : ∃ k : Nat, (X ++ va_pl L f)[k]? = some (a, e) := by
  subst he
  exact va_pl_get h
theorem fresh_hd {A : Nat → Prop} {X : va_W} {L : List Nat} {f : Nat → va_E} {a : Nat} {e : va_E} (h : va_D A ((a, e) :: (X ++ va_pl L f))) : a ∉ L := fun z => by
  have h1 := (q_D_nd.mp h).1
  rw [List.map_cons, List.map_append] at h1
  have h2 := (List.nodup_cons.mp h1).1
  apply h2
  rw [List.mem_append]
  right
  rwa [pl_fst]
section PROWS
variable {p : Program} {l : Launch} {e : Env} {R : Room} {s : State} {m : MethodId} {args : Array Value} {below : List Frame} {meth : Method} {c : Code} {g : q_G} {nL : Nat} {Q : State → Prop} {cl sl : Nat} {cc : ByteArray} {own : String} {pc : Nat} {lv : List (Nat × Value)} {st : List Value} {ws : va_W}
theorem r_D (k : va_D (q_A g) ws → AT p l e R s m args below meth c g nL Q cl sl pc lv st ws) : AT p l e R s m args below meth c g nL Q cl sl pc lv st ws := fun H locs ls hP hD hS hl => k hD H locs ls hP hD hS hl
/-- list.add(v) from the class -/
theorem add_front (cx : q_cx g p m c cc nL s args RX3 meth) (hd : decode cc pc = .ok (.invokevirtual 94, 3)) {rest : va_W} {L : List Nat} {f : Nat → va_E} {li el n v ci : Nat} {mc : Int32} {a : Nat → Nat} {cq : vw_C} (hc : vwCl[ci]? = some cq) (hca : Cond.castable cq.1 "java/lang/Object" ∈ NGW) (hla : laS g el n a L f) (hn : n ≤ 40) (hel : ∀ i, i < n → a i ∈ L ∧ ∃ fs, f (a i) = .inr (ci, fs)) (hv : v ∈ L) (hvf : ∃ fs, f v = .inr (ci, fs))
    (hR : 7 ≤ R.frames ∧ 191 ≤ R.locals ∧ cl + 1 ≤ R.cells ∧ sl + 100 ≤ R.slots) (hW : (st.map fun v => v.category).sum ≤ 8)
    (kk : ∀ (r : Int32) (mc2 : Int32) (el2 : Nat) (L2 : List Nat) (f2 : Nat → va_E), (∀ b, b ∈ L → b ≠ el → b ∈ L2 ∧ f2 b = f b) → laS g el2 (n + 1) (va_up a n v) L2 f2 → el2 ∈ L2 → ((∃ fs, f2 el2 = .inl fs)) → (el2 = el ∨ el2 ∉ L) → AT p l e R s m args below meth c g nL Q (cl + 1) (sl + 100) (pc + 3) lv (.int r :: st) ((li, .inr (0, [.int mc2, .ref el2, .int (nI (n + 1))])) :: (rest ++ va_pl L2 f2))) :
    AT p l e R s m args below meth c g nL Q cl sl pc lv (.ref v :: .ref li :: st) ((li, .inr (0, [.int mc, .ref el, .int (nI n)])) :: (rest ++ va_pl L f)) := by
  obtain ⟨vs, hvs⟩ := hvf
  rcases hla with ⟨rfl, rfl⟩ | ⟨hn0, cap, h, hL, hf, hnc, hc2, hc60, hh⟩
  · obtain ⟨qv, hqv⟩ := pl_getX (X := rest) hv hvs
    refine k_X3_94 cx (c_adde l g (rest ++ va_pl L f) li mc ci cq hc hca v qv vs hqv) hd 0 rfl ⟨Nat.le_trans (by decide) hR.1, Nat.le_trans (by decide) hR.2.1⟩ hR.2.2 rfl rfl hW (fun r w hp => ?_)
    obtain ⟨q, rfl⟩ := hp
    refine r_D (fun hD => ?_)
    have hq : q ∉ L := by
      have h2 := (q_D_nd.mp hD).1
      rw [List.map_cons] at h2
      exact fresh_hd (q_D_nd.mpr ⟨(List.nodup_cons.mp h2).2, fun z hz => (q_D_nd.mp hD).2 z (List.mem_cons_of_mem _ hz)⟩)
    refine r_perm (List.Perm.cons _ (pl_newX hq)) ?_
    refine kk r _ q (q :: L) (va_up f q (.inl (q_cO g, 10, .inr (.inr (.inr (.inr (va_up (fun _ => none) 0 (some v)))))))) (fun b hb _ => ⟨List.mem_cons_of_mem _ hb, va_up_ne _ _ (fun z => by subst z; exact hq hb)⟩) (Or.inr ⟨by omega, 10, _, List.mem_cons_self, va_up_self _ _ _, by omega, by omega, by omega, fun i hi => ?_⟩) List.mem_cons_self ⟨_, va_up_self _ _ _⟩ (Or.inr hq)
    obtain rfl : i = 0 := by omega
    rw [va_up_self, va_up_self]
  · have hve : v ≠ el := fun z => by subst z; rw [hvs] at hf; cases hf
    have hvE : v ∈ L.erase el := (List.mem_erase_of_ne hve).mpr hv
    obtain ⟨qv, hqv⟩ := pl_getX (X := rest) hvE hvs
    refine r_D (fun hD0 => ?_)
    have hnd : L.Nodup := pl_nodup (X := (li, .inr (0, [.int mc, .ref el, .int (nI n)])) :: rest) hD0
    refine r_perm (List.Perm.cons _ (pl_outX (X := rest) hL)) ?_
    rw [hf]
    rcases Nat.lt_or_ge n cap with hlt | hge
    · refine k_X3_94 cx (c_addr l g (rest ++ va_pl (L.erase el) f) li el n cap mc h hlt (by omega) ci cq hc hca v qv vs hqv) hd 0 rfl ⟨Nat.le_trans (by decide) hR.1, Nat.le_trans (by decide) hR.2.1⟩ hR.2.2 rfl rfl hW (fun r w hp => ?_)
      subst hp
      refine r_perm (List.Perm.cons _ (pl_inX (X := rest) hnd hL)) ?_
      refine kk r _ el L (va_up f el (.inl (q_cO g, cap, .inr (.inr (.inr (.inr (va_up h n (some v)))))))) (fun b hb hz => ⟨hb, va_up_ne _ _ hz⟩) (Or.inr ⟨by omega, cap, _, hL, va_up_self _ _ _, by omega, hc2, hc60, fun i hi => ?_⟩) hL ⟨_, va_up_self _ _ _⟩ (Or.inl rfl)
      · by_cases e9 : i = n
        · rw [e9, va_up_self, va_up_self]
        · rw [va_up_ne _ _ e9, va_up_ne _ _ e9]
          exact hh i (by omega)
    · obtain rfl : n = cap := by omega
      refine k_X3_94 cx (c_addf l g (rest ++ va_pl (L.erase el) f) li el n mc h hc2 hc60 ci cq hc hca (fun i hi y hy => ?_) v qv vs hqv) hd 0 rfl ⟨Nat.le_trans (by decide) hR.1, Nat.le_trans (by decide) hR.2.1⟩ hR.2.2 rfl rfl hW (fun r w hp => ?_)
      · rw [hh i hi] at hy
        cases hy
        obtain ⟨h1, fs, h2⟩ := hel i hi
        obtain ⟨k, hk⟩ := pl_getX (X := rest) ((List.mem_erase_of_ne (fun z => by rw [z, hf] at h2; cases h2)).mpr h1) h2
        exact ⟨k, fs, hk⟩
      · obtain ⟨q, rfl⟩ := hp
        refine r_D (fun hD => ?_)
        have hq : q ∉ L.erase el := by
          have h2 := (q_D_nd.mp hD).1
          rw [List.map_cons] at h2
          exact fresh_hd (q_D_nd.mpr ⟨(List.nodup_cons.mp h2).2, fun z hz => (q_D_nd.mp hD).2 z (List.mem_cons_of_mem _ hz)⟩)
        refine r_perm (List.Perm.cons _ (pl_newX hq)) ?_
        refine kk r _ q (q :: L.erase el) (va_up f q (.inl (q_cO g, n + n / 2, .inr (.inr (.inr (.inr (va_up (va_cpy h (fun _ => none) 0 0 n) n (some v)))))))) (fun b hb hz => ?_) (Or.inr ⟨by omega, n + n / 2, _, List.mem_cons_self, va_up_self _ _ _, by omega, by omega, by omega, fun i hi => ?_⟩) List.mem_cons_self ⟨_, va_up_self _ _ _⟩ ?_
        · have hbe : b ∈ L.erase el := (List.mem_erase_of_ne hz).mpr hb
          exact ⟨List.mem_cons_of_mem _ hbe, va_up_ne _ _ (fun z => by subst z; exact hq hbe)⟩
        · by_cases e9 : i = n
          · rw [e9, va_up_self, va_up_self]
          · rw [va_up_ne _ _ e9, va_up_ne _ _ e9, pk_cpy_in (Nat.zero_le _) (by omega), Nat.zero_add, Nat.sub_zero]
            exact hh i (by omega)
        · by_cases e9 : q = el
          · exact Or.inl e9
          · exact Or.inr (fun z => hq ((List.mem_erase_of_ne e9).mpr z))
end PROWS
