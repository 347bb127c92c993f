/-! the law's calls of the class: a code, and what the call answers in a cell -/
theorem q_metH {g : q_G} {l : Launch} {own : String} {ws : va_W} {y : MethodName} {bytes : ByteArray} {maxL : Nat} {ret : Option FieldType} {hh : List (Nat × Nat × Nat × Nat)} {rm : Room} {av : List Value} {Qc : Array Value → State → Outcome → State → Prop} (hy : plainName y.cls = true) (hown : y.cls = own) (hlen : (lg_sl av).length ≤ maxL)
    (body : ∀ (p : Program) (e : Env) (s : State) (m : MethodId) (args : Array Value) (below : List Frame) (meth : Method) (c : Code), q_cx g p m c bytes maxL s args own meth → meth.sig.returnType = ret → (c.exceptionTable.toList = tableOf hh) → AT p l e rm s m args below meth c g maxL (MQ below Qc args s rm.cells rm.slots (q_A g)) 0 0 0 (lv_args 0 av) [] ws) : MetH l g y bytes maxL ret hh rm av ws Qc := by
  refine MetFree.of_bodyS (code := bytes) (maxLocals := maxL) (ret := ret) hy ?_ ?_
  · intro args s m h hn
    obtain ⟨m9, meth, c, hn9, h1, h2, h3, h4, -, h5, h6, -⟩ := Cond.codeWith_spec (atoms_spec (ws := Cond.codeWith y bytes maxL ret hh :: WS) h _ List.mem_cons_self)
    cases hn.symm.trans hn9
    exact ⟨meth, c, h1, h2, h3, h4, h5, h6⟩
  · intro p e s m args below meth c s₁ B hml hP _
    have hh0 : s₁.heap = s.heap := by rw [B.state]; rfl
    have hts := atoms_spec (ws := Cond.codeWith y bytes maxL ret hh :: WS) B.pre
    have htab := vx_table (x := y) B (hts _ List.mem_cons_self)
    have hb : W p l e (headSpec (Cond.codeWith y bytes maxL ret hh :: WS) rm).room s m args below meth c s.heap [] 0 0 (MQ below Qc args s rm.cells rm.slots (q_A g)) (entryFrame m args maxL) := by
      obtain ⟨rfl, hE, hI⟩ := hP
      rw [lg_entry_eq]
      exact body p e s m _ below meth c ⟨⟨B.exec, B.bytes, hml, hown ▸ findClass_of_methodNamed B.named, fun w hw => hts w (List.mem_cons_of_mem _ hw)⟩, hE, B.notSynchronized⟩ B.returns htab s.heap [] _ hI.1 hI.2 va_S.rf (lv_entry av hlen)
    obtain ⟨t, a1, oc, b1, b2, b3⟩ := hb s₁ hh0 (Stand.of_body B)
    exact ⟨t, oc, a1, b1, b2, ⟨b3.1, b3.2⟩⟩
section CRX
variable {g : q_G} {a0 o : Nat} {N : Nat → Nat} {A : Nat → Nat → Int32} {B : Nat → Nat → Bool} {L : Nat → Nat → Int64} {wr wm w : va_W} {e0 : va_E}
theorem cR_this (h : cR g a0 N A B L wm w) : ∃ fs, w[8]? = some (a0, .inr (4, fs)) := by
  obtain ⟨ad, mc, el, ia, ra, th, dr, dl, ro, kl, kn, row, P, f, rfl, rfl, -⟩ := h
  exact ⟨_, rfl⟩
theorem cR_out (h : cR g a0 N A B L ((o, e0) :: wr) w) : w[9]? = some (o, e0) ∧ ∀ e1, cR g a0 N A B L ((o, e1) :: wr) (w.set 9 (o, e1)) := by
  obtain ⟨ad, mc, el, ia, ra, th, dr, dl, ro, kl, kn, row, P, f, rfl, rfl, hF⟩ := h
  exact ⟨rfl, fun e1 => ⟨ad, mc, el, ia, ra, th, dr, dl, ro, kl, kn, row, P, f, rfl, rfl, hF⟩⟩
theorem cR_swap {X : va_W} (h : cR g a0 N A B L ((o, e0) :: X) w) : ∃ Y, w.Perm (X ++ Y) ∧ ∀ X2, ∃ w2, (X2 ++ Y).Perm w2 ∧ cR g a0 N A B L ((o, e0) :: X2) w2 := by
  obtain ⟨ad, mc, el, ia, ra, th, dr, dl, ro, kl, kn, row, P, f, rfl, rfl, hF⟩ := h
  have e (Z : va_W) (X3 : va_W) : Z ++ (((o, e0) :: X3) ++ va_pl P f) = (Z ++ [(o, e0)]) ++ (X3 ++ va_pl P f) := by simp
  refine ⟨(iF g ad mc el (fun k => N (k + 1)) th dr dl ro kl kn row ++ [(o, e0)]) ++ va_pl P f, ?_, fun X2 => ⟨_, ?_, ad, mc, el, ia, ra, th, dr, dl, ro, kl, kn, row, P, f, rfl, rfl, hF⟩⟩
  · rw [e]
    exact List.perm_append_comm_assoc _ _ _
  · rw [e]
    exact List.perm_append_comm_assoc _ _ _
end CRX
def lP (g : q_G) (a0 o : Nat) (wr : va_W) (k : Nat) (v : Int32) (N2 : Nat → Nat) (A2 : Nat → Nat → Int32) (B2 : Nat → Nat → Bool) (L2 : Nat → Nat → Int64) (N : Nat → Nat) (A : Nat → Nat → Int32) (B : Nat → Nat → Bool) (L : Nat → Nat → Int64) (r : Int32) (w : va_W) : Prop :=
  r = nI k ∧ ∃ f2 : Nat → Int64, (k = 0 ∧ f2 0 = v.toInt64 ∧ cR g a0 N2 A2 B2 L2 ((o, .inl (q_cJ g, 1, .inr (.inl f2))) :: wr) w) ∨ (k ≠ 0 ∧ cR g a0 N A B L ((o, .inl (q_cJ g, 1, .inr (.inl f2))) :: wr) w)
set_option maxHeartbeats 4000000 in
set_option maxRecDepth 100000 in
theorem c_Lsound (l : Launch) (g : q_G) (hl : l.stackTraces = false) (N : Nat → Nat) (A : Nat → Nat → Int32) (B : Nat → Nat → Bool) (L : Nat → Nat → Int64) (wr ws : va_W) (a0 ao : Nat) (f0 : Nat → Int64) (hI : inv N A B L) (hR : cR g a0 N A B L ((ao, .inl (q_cJ g, 1, .inr (.inl f0))) :: wr) ws) (x1 : Int32) : MetH l g yL_sound cL_sound 4 (some .int) [(0, 9, 12, 13), (0, 9, 15, 15)] ({ frames := 7, cells := 4, slots := 250, locals := 111 } : Room) [.ref a0, .int x1, .ref ao] (ws) (q_Qi g (fun r w => lP g a0 ao wr (kc (!inR x1 8) (decide (N 0 = 8)) false) (nI (N 0 + 1)) (va_up N 0 (N 0 + 1)) (va_up A 0 (upd (A 0) (N 0) x1)) B L N A B L r w)) := by
  refine q_metH (own := RL) (by decide +kernel) rfl (Nat.le_of_ble_eq_true rfl) (fun p e s m args below meth c cx hr htab => ?_)
  obtain ⟨fs, hth⟩ := cR_this hR
  refine r_lv (lv2 := [(0, .ref a0), (1, .int x1), (2, .ref ao)]) (q_pk [0, 1, 2] rfl) ?_
  refine r_aload_n cx dL_sound_0 rfl rfl ?_
  refine r_iconst (v := nI 0) cx dL_sound_1 (by decide) ?_
  refine r_aload_n cx dL_sound_2 rfl rfl ?_
  refine r_iload_n cx dL_sound_3 rfl rfl ?_
  refine k_L_7 cx (c_sound l hl g N A B L _ ws a0 hI hR x1) dL_sound_4 8 hth ⟨Nat.le_of_ble_eq_true rfl, Nat.le_of_ble_eq_true rfl⟩ ⟨Nat.le_of_ble_eq_true rfl, Nat.le_of_ble_eq_true rfl⟩ rfl rfl (Nat.le_of_ble_eq_true rfl) (fun E u hp9 H9 locs9 ls9 q9 ce9 hP9 hD9 hS9 hl9 hc9 hv9 hcl9 => ?_) (fun r u hp => ?_)
  · obtain ⟨(⟨rfl, hk⟩ | ⟨rfl, hk⟩), rfl⟩ := hp9
    · exact vx_catch cx.1.2.2.2.1 [] ⟨0, 9, 12, 13⟩ [⟨0, 9, 15, 15⟩] htab (fun z hz => nomatch hz) rfl (by decide) (cx.ok tb_105) (cx.nok tn_116) hc9 hv9 hcl9 ((r_astore_n cx dL_sound_12 rfl (by decide) rfl (r_iconst (v := nI 1) cx dL_sound_13 (by decide) (r_iret cx dL_sound_14 hr ⟨by rw [hk], _, Or.inr ⟨by rw [hk]; decide, hR⟩⟩ (Nat.le_of_ble_eq_true rfl) (Nat.le_of_ble_eq_true rfl)))) H9 locs9 ls9 hP9 hD9 hS9 hl9)
    · exact vx_catch cx.1.2.2.2.1 [⟨0, 9, 12, 13⟩] ⟨0, 9, 15, 15⟩ [] htab (fun z hz => by
        obtain rfl := List.mem_singleton.mp hz
        exact Or.inr ⟨by decide, _, cx.ok tb_105, cx.2.1.2.2.2.2.1 ("java/lang/IllegalStateException", "java/lang/IndexOutOfBoundsException") (by simp [NCP])⟩) rfl (by decide) (cx.ok tb_106) (cx.nok tn_184) hc9 hv9 hcl9 ((r_astore_n cx dL_sound_15 rfl (by decide) rfl (r_iconst (v := nI 2) cx dL_sound_16 (by decide) (r_iret cx dL_sound_17 hr ⟨by rw [hk], _, Or.inr ⟨by rw [hk]; decide, hR⟩⟩ (Nat.le_of_ble_eq_true rfl) (Nat.le_of_ble_eq_true rfl)))) H9 locs9 ls9 hP9 hD9 hS9 hl9)
  obtain ⟨hk, rfl, hR2⟩ := hp
  refine r_i2l cx dL_sound_7 rfl ?_
  refine r_lastN cx 9 1 dL_sound_8 (cR_out hR2).1 rfl (by decide) (by decide) ?_
  refine r_goto (tgt := 18) cx dL_sound_9 (by decide) ?_
  refine r_iconst (v := nI 0) cx dL_sound_18 (by decide) ?_
  exact r_iret cx dL_sound_19 hr (⟨by rw [hk], _, Or.inl ⟨hk, pk_uLs, (cR_out hR2).2 _⟩⟩) (Nat.le_of_ble_eq_true rfl) (Nat.le_of_ble_eq_true rfl)
set_option maxHeartbeats 4000000 in
set_option maxRecDepth 100000 in
theorem c_Linterview (l : Launch) (g : q_G) (hl : l.stackTraces = false) (N : Nat → Nat) (A : Nat → Nat → Int32) (B : Nat → Nat → Bool) (L : Nat → Nat → Int64) (wr ws : va_W) (a0 ao : Nat) (f0 : Nat → Int64) (hI : inv N A B L) (hR : cR g a0 N A B L ((ao, .inl (q_cJ g, 1, .inr (.inl f0))) :: wr) ws) (x1 : Int32) (x2 : Int32) (x3 : Int32) (x4 : Int32) : MetH l g yL_interview cL_interview 7 (some .int) [(0, 14, 17, 13), (0, 14, 21, 21), (0, 14, 25, 15)] ({ frames := 8, cells := 4, slots := 250, locals := 227 } : Room) [.ref a0, .int x1, .int x2, .int x3, .int x4, .ref ao] (ws) (q_Qi g (fun r w => lP g a0 ao wr (kc (!(inR x1 8 && inR x2 10 && inR x4 4)) (!inR x3 301) (decide (N 0 = 0) || decide (N 1 = 40))) (nI (N 1)) (va_up (va_up N 1 (N 1 + 1)) 0 0) (ivA A (N 1) x1 x2 x3 x4 (nI (num (drL (A 0) (N 0))))) B L N A B L r w)) := by
  refine q_metH (own := RL) (by decide +kernel) rfl (Nat.le_of_ble_eq_true rfl) (fun p e s m args below meth c cx hr htab => ?_)
  obtain ⟨fs, hth⟩ := cR_this hR
  refine r_lv (lv2 := [(0, .ref a0), (1, .int x1), (2, .int x2), (3, .int x3), (4, .int x4), (5, .ref ao)]) (q_pk [0, 1, 2, 3, 4, 5] rfl) ?_
  refine r_aload cx dL_interview_0 rfl ?_
  refine r_iconst (v := nI 0) cx dL_interview_2 (by decide) ?_
  refine r_aload_n cx dL_interview_3 rfl rfl ?_
  refine r_iload_n cx dL_interview_4 rfl rfl ?_
  refine r_iload_n cx dL_interview_5 rfl rfl ?_
  refine r_iload_n cx dL_interview_6 rfl rfl ?_
  refine r_iload cx dL_interview_7 rfl ?_
  refine k_L_17 cx (c_interview l hl g N A B L _ ws a0 hI hR x1 x2 x3 x4) dL_interview_9 8 hth ⟨Nat.le_of_ble_eq_true rfl, Nat.le_of_ble_eq_true rfl⟩ ⟨Nat.le_of_ble_eq_true rfl, Nat.le_of_ble_eq_true rfl⟩ rfl rfl (Nat.le_of_ble_eq_true rfl) (fun E u hp9 H9 locs9 ls9 q9 ce9 hP9 hD9 hS9 hl9 hc9 hv9 hcl9 => ?_) (fun r u hp => ?_)
  · obtain ⟨(⟨rfl, hk⟩ | ⟨rfl, hk⟩ | ⟨rfl, hk⟩), rfl⟩ := hp9
    · exact vx_catch cx.1.2.2.2.1 [] ⟨0, 14, 17, 13⟩ [⟨0, 14, 21, 21⟩, ⟨0, 14, 25, 15⟩] htab (fun z hz => nomatch hz) rfl (by decide) (cx.ok tb_105) (cx.nok tn_116) hc9 hv9 hcl9 ((r_astore cx dL_interview_17 (by decide) rfl (r_iconst (v := nI 1) cx dL_interview_19 (by decide) (r_iret cx dL_interview_20 hr ⟨by rw [hk], _, Or.inr ⟨by rw [hk]; decide, hR⟩⟩ (Nat.le_of_ble_eq_true rfl) (Nat.le_of_ble_eq_true rfl)))) H9 locs9 ls9 hP9 hD9 hS9 hl9)
    · exact vx_catch cx.1.2.2.2.1 [⟨0, 14, 17, 13⟩] ⟨0, 14, 21, 21⟩ [⟨0, 14, 25, 15⟩] htab (fun z hz => by
        obtain rfl := List.mem_singleton.mp hz
        exact Or.inr ⟨by decide, _, cx.ok tb_105, cx.2.1.2.2.2.2.1 ("java/lang/IllegalArgumentException", "java/lang/IndexOutOfBoundsException") (by simp [NCP])⟩) rfl (by decide) (cx.ok tb_201) (cx.nok tn_209) hc9 hv9 hcl9 ((r_astore cx dL_interview_21 (by decide) rfl (r_iconst (v := nI 2) cx dL_interview_23 (by decide) (r_iret cx dL_interview_24 hr ⟨by rw [hk], _, Or.inr ⟨by rw [hk]; decide, hR⟩⟩ (Nat.le_of_ble_eq_true rfl) (Nat.le_of_ble_eq_true rfl)))) H9 locs9 ls9 hP9 hD9 hS9 hl9)
    · exact vx_catch cx.1.2.2.2.1 [⟨0, 14, 17, 13⟩, ⟨0, 14, 21, 21⟩] ⟨0, 14, 25, 15⟩ [] htab (fun z hz => by
        rcases List.mem_cons.mp hz with rfl | hz
        · exact Or.inr ⟨by decide, _, cx.ok tb_105, cx.2.1.2.2.2.2.1 ("java/lang/IllegalStateException", "java/lang/IndexOutOfBoundsException") (by simp [NCP])⟩
        · obtain rfl := List.mem_singleton.mp hz
          exact Or.inr ⟨by decide, _, cx.ok tb_201, cx.2.1.2.2.2.2.1 ("java/lang/IllegalStateException", "java/lang/IllegalArgumentException") (by simp [NCP])⟩) rfl (by decide) (cx.ok tb_106) (cx.nok tn_184) hc9 hv9 hcl9 ((r_astore cx dL_interview_25 (by decide) rfl (r_iconst (v := nI 3) cx dL_interview_27 (by decide) (r_iret cx dL_interview_28 hr ⟨by rw [hk], _, Or.inr ⟨by rw [hk]; decide, hR⟩⟩ (Nat.le_of_ble_eq_true rfl) (Nat.le_of_ble_eq_true rfl)))) H9 locs9 ls9 hP9 hD9 hS9 hl9)
  obtain ⟨hk, rfl, hR2⟩ := hp
  refine r_i2l cx dL_interview_12 rfl ?_
  refine r_lastN cx 9 1 dL_interview_13 (cR_out hR2).1 rfl (by decide) (by decide) ?_
  refine r_goto (tgt := 29) cx dL_interview_14 (by decide) ?_
  refine r_iconst (v := nI 0) cx dL_interview_29 (by decide) ?_
  exact r_iret cx dL_interview_30 hr (⟨by rw [hk], _, Or.inl ⟨hk, pk_uLs, (cR_out hR2).2 _⟩⟩) (Nat.le_of_ble_eq_true rfl) (Nat.le_of_ble_eq_true rfl)
set_option maxHeartbeats 4000000 in
set_option maxRecDepth 100000 in
theorem c_LsetRoot (l : Launch) (g : q_G) (hl : l.stackTraces = false) (N : Nat → Nat) (A : Nat → Nat → Int32) (B : Nat → Nat → Bool) (L : Nat → Nat → Int64) (wr ws : va_W) (a0 ao : Nat) (f0 : Nat → Int64) (hI : inv N A B L) (hR : cR g a0 N A B L ((ao, .inl (q_cJ g, 1, .inr (.inl f0))) :: wr) ws) (x1 : Int32) : MetH l g yL_setRoot cL_setRoot 4 (some .int) [(0, 9, 12, 13), (0, 9, 15, 15)] ({ frames := 7, cells := 4, slots := 250, locals := 112 } : Room) [.ref a0, .int x1, .ref ao] (ws) (q_Qi g (fun r w => lP g a0 ao wr (kc (!inR x1 4) (decide (N 0 = 0)) false) (A 6 (c32 x1)) (va_up N 0 0) (va_up A 6 (upd (A 6) (c32 x1) (nI (num (drL (A 0) (N 0)))))) B L N A B L r w)) := by
  refine q_metH (own := RL) (by decide +kernel) rfl (Nat.le_of_ble_eq_true rfl) (fun p e s m args below meth c cx hr htab => ?_)
  obtain ⟨fs, hth⟩ := cR_this hR
  refine r_lv (lv2 := [(0, .ref a0), (1, .int x1), (2, .ref ao)]) (q_pk [0, 1, 2] rfl) ?_
  refine r_aload_n cx dL_setRoot_0 rfl rfl ?_
  refine r_iconst (v := nI 0) cx dL_setRoot_1 (by decide) ?_
  refine r_aload_n cx dL_setRoot_2 rfl rfl ?_
  refine r_iload_n cx dL_setRoot_3 rfl rfl ?_
  refine k_L_23 cx (c_setRoot l hl g N A B L _ ws a0 hI hR x1) dL_setRoot_4 8 hth ⟨Nat.le_of_ble_eq_true rfl, Nat.le_of_ble_eq_true rfl⟩ ⟨Nat.le_of_ble_eq_true rfl, Nat.le_of_ble_eq_true rfl⟩ rfl rfl (Nat.le_of_ble_eq_true rfl) (fun E u hp9 H9 locs9 ls9 q9 ce9 hP9 hD9 hS9 hl9 hc9 hv9 hcl9 => ?_) (fun r u hp => ?_)
  · obtain ⟨(⟨rfl, hk⟩ | ⟨rfl, hk⟩), rfl⟩ := hp9
    · exact vx_catch cx.1.2.2.2.1 [] ⟨0, 9, 12, 13⟩ [⟨0, 9, 15, 15⟩] htab (fun z hz => nomatch hz) rfl (by decide) (cx.ok tb_105) (cx.nok tn_116) hc9 hv9 hcl9 ((r_astore_n cx dL_setRoot_12 rfl (by decide) rfl (r_iconst (v := nI 1) cx dL_setRoot_13 (by decide) (r_iret cx dL_setRoot_14 hr ⟨by rw [hk], _, Or.inr ⟨by rw [hk]; decide, hR⟩⟩ (Nat.le_of_ble_eq_true rfl) (Nat.le_of_ble_eq_true rfl)))) H9 locs9 ls9 hP9 hD9 hS9 hl9)
    · exact vx_catch cx.1.2.2.2.1 [⟨0, 9, 12, 13⟩] ⟨0, 9, 15, 15⟩ [] htab (fun z hz => by
        obtain rfl := List.mem_singleton.mp hz
        exact Or.inr ⟨by decide, _, cx.ok tb_105, cx.2.1.2.2.2.2.1 ("java/lang/IllegalStateException", "java/lang/IndexOutOfBoundsException") (by simp [NCP])⟩) rfl (by decide) (cx.ok tb_106) (cx.nok tn_184) hc9 hv9 hcl9 ((r_astore_n cx dL_setRoot_15 rfl (by decide) rfl (r_iconst (v := nI 2) cx dL_setRoot_16 (by decide) (r_iret cx dL_setRoot_17 hr ⟨by rw [hk], _, Or.inr ⟨by rw [hk]; decide, hR⟩⟩ (Nat.le_of_ble_eq_true rfl) (Nat.le_of_ble_eq_true rfl)))) H9 locs9 ls9 hP9 hD9 hS9 hl9)
  obtain ⟨hk, rfl, hR2⟩ := hp
  refine r_i2l cx dL_setRoot_7 rfl ?_
  refine r_lastN cx 9 1 dL_setRoot_8 (cR_out hR2).1 rfl (by decide) (by decide) ?_
  refine r_goto (tgt := 18) cx dL_setRoot_9 (by decide) ?_
  refine r_iconst (v := nI 0) cx dL_setRoot_18 (by decide) ?_
  exact r_iret cx dL_setRoot_19 hr (⟨by rw [hk], _, Or.inl ⟨hk, pk_uLs, (cR_out hR2).2 _⟩⟩) (Nat.le_of_ble_eq_true rfl) (Nat.le_of_ble_eq_true rfl)
set_option maxHeartbeats 4000000 in
set_option maxRecDepth 100000 in
theorem c_Lform (l : Launch) (g : q_G) (hl : l.stackTraces = false) (N : Nat → Nat) (A : Nat → Nat → Int32) (B : Nat → Nat → Bool) (L : Nat → Nat → Int64) (wr ws : va_W) (a0 ao : Nat) (f0 : Nat → Int64) (hI : inv N A B L) (hR : cR g a0 N A B L ((ao, .inl (q_cJ g, 1, .inr (.inl f0))) :: wr) ws) (x1 : Int32) : MetH l g yL_form cL_form 4 (some .int) [(0, 9, 12, 13)] ({ frames := 7, cells := 4, slots := 250, locals := 111 } : Room) [.ref a0, .int x1, .ref ao] (ws) (q_Qi g (fun r w => lP g a0 ao wr (kc (!inR x1 (N 1)) false false) ((if B 0 (c32 x1) then -1 else A 5 (c32 x1))) N A B L N A B L r w)) := by
  refine q_metH (own := RL) (by decide +kernel) rfl (Nat.le_of_ble_eq_true rfl) (fun p e s m args below meth c cx hr htab => ?_)
  obtain ⟨fs, hth⟩ := cR_this hR
  refine r_lv (lv2 := [(0, .ref a0), (1, .int x1), (2, .ref ao)]) (q_pk [0, 1, 2] rfl) ?_
  refine r_aload_n cx dL_form_0 rfl rfl ?_
  refine r_iconst (v := nI 0) cx dL_form_1 (by decide) ?_
  refine r_aload_n cx dL_form_2 rfl rfl ?_
  refine r_iload_n cx dL_form_3 rfl rfl ?_
  refine k_L_26 cx (c_form l hl g N A B L _ ws a0 hI hR x1) dL_form_4 8 hth ⟨Nat.le_of_ble_eq_true rfl, Nat.le_of_ble_eq_true rfl⟩ ⟨Nat.le_of_ble_eq_true rfl, Nat.le_of_ble_eq_true rfl⟩ rfl rfl (Nat.le_of_ble_eq_true rfl) (fun E u hp9 H9 locs9 ls9 q9 ce9 hP9 hD9 hS9 hl9 hc9 hv9 hcl9 => ?_) (fun r u hp => ?_)
  · obtain ⟨⟨rfl, hk⟩, rfl⟩ := hp9
    · exact vx_catch cx.1.2.2.2.1 [] ⟨0, 9, 12, 13⟩ [] htab (fun z hz => nomatch hz) rfl (by decide) (cx.ok tb_105) (cx.nok tn_116) hc9 hv9 hcl9 ((r_astore_n cx dL_form_12 rfl (by decide) rfl (r_iconst (v := nI 1) cx dL_form_13 (by decide) (r_iret cx dL_form_14 hr ⟨by rw [hk], _, Or.inr ⟨by rw [hk]; decide, hR⟩⟩ (Nat.le_of_ble_eq_true rfl) (Nat.le_of_ble_eq_true rfl)))) H9 locs9 ls9 hP9 hD9 hS9 hl9)
  obtain ⟨hk, rfl, rfl⟩ := hp
  have hR2 := hR
  refine r_i2l cx dL_form_7 rfl ?_
  refine r_lastN cx 9 1 dL_form_8 (cR_out hR2).1 rfl (by decide) (by decide) ?_
  refine r_goto (tgt := 15) cx dL_form_9 (by decide) ?_
  refine r_iconst (v := nI 0) cx dL_form_15 (by decide) ?_
  exact r_iret cx dL_form_16 hr (⟨by rw [hk], _, Or.inl ⟨hk, pk_uLs, (cR_out hR2).2 _⟩⟩) (Nat.le_of_ble_eq_true rfl) (Nat.le_of_ble_eq_true rfl)
set_option maxHeartbeats 4000000 in
set_option maxRecDepth 100000 in
theorem c_Lrule (l : Launch) (g : q_G) (hl : l.stackTraces = false) (N : Nat → Nat) (A : Nat → Nat → Int32) (B : Nat → Nat → Bool) (L : Nat → Nat → Int64) (wr ws : va_W) (a0 ao : Nat) (f0 : Nat → Int64) (hI : inv N A B L) (hR : cR g a0 N A B L ((ao, .inl (q_cJ g, 1, .inr (.inl f0))) :: wr) ws) (x1 : Int32) (x2 : Int32) (x3 : Int32) (x4 : Int32) (x5 : Int32) (x6 : Int32) : MetH l g yL_rule cL_rule 9 (some .int) [(0, 18, 21, 13), (0, 18, 25, 21), (0, 18, 29, 15)] ({ frames := 8, cells := 4, slots := 250, locals := 227 } : Room) [.ref a0, .int x1, .int x2, .int x3, .int x4, .int x5, .int x6, .ref ao] (ws) (q_Qi g (fun r w => lP g a0 ao wr (kc (!(inR x1 8 && (inR x4 10 && inR x5 10))) (decide (x2 = x1) || !(decide (x2 = -1) || inR x2 8) || !inR x3 10 || decide (x5 < x4) || !inR x6 301) (decide (N 2 = 20))) (nI (N 2)) (va_up N 2 (N 2 + 1)) (rlA A (N 2) x1 x2 x3 x4 x5 x6) B L N A B L r w)) := by
  refine q_metH (own := RL) (by decide +kernel) rfl (Nat.le_of_ble_eq_true rfl) (fun p e s m args below meth c cx hr htab => ?_)
  obtain ⟨fs, hth⟩ := cR_this hR
  refine r_lv (lv2 := [(0, .ref a0), (1, .int x1), (2, .int x2), (3, .int x3), (4, .int x4), (5, .int x5), (6, .int x6), (7, .ref ao)]) (q_pk [0, 1, 2, 3, 4, 5, 6, 7] rfl) ?_
  refine r_aload cx dL_rule_0 rfl ?_
  refine r_iconst (v := nI 0) cx dL_rule_2 (by decide) ?_
  refine r_aload_n cx dL_rule_3 rfl rfl ?_
  refine r_iload_n cx dL_rule_4 rfl rfl ?_
  refine r_iload_n cx dL_rule_5 rfl rfl ?_
  refine r_iload_n cx dL_rule_6 rfl rfl ?_
  refine r_iload cx dL_rule_7 rfl ?_
  refine r_iload cx dL_rule_9 rfl ?_
  refine r_iload cx dL_rule_11 rfl ?_
  refine k_L_29 cx (c_rule l hl g N A B L _ ws a0 hI hR x1 x2 x3 x4 x5 x6) dL_rule_13 8 hth ⟨Nat.le_of_ble_eq_true rfl, Nat.le_of_ble_eq_true rfl⟩ ⟨Nat.le_of_ble_eq_true rfl, Nat.le_of_ble_eq_true rfl⟩ rfl rfl (Nat.le_of_ble_eq_true rfl) (fun E u hp9 H9 locs9 ls9 q9 ce9 hP9 hD9 hS9 hl9 hc9 hv9 hcl9 => ?_) (fun r u hp => ?_)
  · obtain ⟨(⟨rfl, hk⟩ | ⟨rfl, hk⟩ | ⟨rfl, hk⟩), rfl⟩ := hp9
    · exact vx_catch cx.1.2.2.2.1 [] ⟨0, 18, 21, 13⟩ [⟨0, 18, 25, 21⟩, ⟨0, 18, 29, 15⟩] htab (fun z hz => nomatch hz) rfl (by decide) (cx.ok tb_105) (cx.nok tn_116) hc9 hv9 hcl9 ((r_astore cx dL_rule_21 (by decide) rfl (r_iconst (v := nI 1) cx dL_rule_23 (by decide) (r_iret cx dL_rule_24 hr ⟨by rw [hk], _, Or.inr ⟨by rw [hk]; decide, hR⟩⟩ (Nat.le_of_ble_eq_true rfl) (Nat.le_of_ble_eq_true rfl)))) H9 locs9 ls9 hP9 hD9 hS9 hl9)
    · exact vx_catch cx.1.2.2.2.1 [⟨0, 18, 21, 13⟩] ⟨0, 18, 25, 21⟩ [⟨0, 18, 29, 15⟩] htab (fun z hz => by
        obtain rfl := List.mem_singleton.mp hz
        exact Or.inr ⟨by decide, _, cx.ok tb_105, cx.2.1.2.2.2.2.1 ("java/lang/IllegalArgumentException", "java/lang/IndexOutOfBoundsException") (by simp [NCP])⟩) rfl (by decide) (cx.ok tb_201) (cx.nok tn_209) hc9 hv9 hcl9 ((r_astore cx dL_rule_25 (by decide) rfl (r_iconst (v := nI 2) cx dL_rule_27 (by decide) (r_iret cx dL_rule_28 hr ⟨by rw [hk], _, Or.inr ⟨by rw [hk]; decide, hR⟩⟩ (Nat.le_of_ble_eq_true rfl) (Nat.le_of_ble_eq_true rfl)))) H9 locs9 ls9 hP9 hD9 hS9 hl9)
    · exact vx_catch cx.1.2.2.2.1 [⟨0, 18, 21, 13⟩, ⟨0, 18, 25, 21⟩] ⟨0, 18, 29, 15⟩ [] htab (fun z hz => by
        rcases List.mem_cons.mp hz with rfl | hz
        · exact Or.inr ⟨by decide, _, cx.ok tb_105, cx.2.1.2.2.2.2.1 ("java/lang/IllegalStateException", "java/lang/IndexOutOfBoundsException") (by simp [NCP])⟩
        · obtain rfl := List.mem_singleton.mp hz
          exact Or.inr ⟨by decide, _, cx.ok tb_201, cx.2.1.2.2.2.2.1 ("java/lang/IllegalStateException", "java/lang/IllegalArgumentException") (by simp [NCP])⟩) rfl (by decide) (cx.ok tb_106) (cx.nok tn_184) hc9 hv9 hcl9 ((r_astore cx dL_rule_29 (by decide) rfl (r_iconst (v := nI 3) cx dL_rule_31 (by decide) (r_iret cx dL_rule_32 hr ⟨by rw [hk], _, Or.inr ⟨by rw [hk]; decide, hR⟩⟩ (Nat.le_of_ble_eq_true rfl) (Nat.le_of_ble_eq_true rfl)))) H9 locs9 ls9 hP9 hD9 hS9 hl9)
  obtain ⟨hk, rfl, hR2⟩ := hp
  refine r_i2l cx dL_rule_16 rfl ?_
  refine r_lastN cx 9 1 dL_rule_17 (cR_out hR2).1 rfl (by decide) (by decide) ?_
  refine r_goto (tgt := 33) cx dL_rule_18 (by decide) ?_
  refine r_iconst (v := nI 0) cx dL_rule_33 (by decide) ?_
  exact r_iret cx dL_rule_34 hr (⟨by rw [hk], _, Or.inl ⟨hk, pk_uLs, (cR_out hR2).2 _⟩⟩) (Nat.le_of_ble_eq_true rfl) (Nat.le_of_ble_eq_true rfl)
set_option maxHeartbeats 4000000 in
set_option maxRecDepth 100000 in
theorem c_Lrest (l : Launch) (g : q_G) (hl : l.stackTraces = false) (N : Nat → Nat) (A : Nat → Nat → Int32) (B : Nat → Nat → Bool) (L : Nat → Nat → Int64) (wr ws : va_W) (a0 ao : Nat) (f0 : Nat → Int64) (hI : inv N A B L) (hR : cR g a0 N A B L ((ao, .inl (q_cJ g, 1, .inr (.inl f0))) :: wr) ws) (x1 : Int32) (x2 : Int32) : MetH l g yL_rest cL_rest 5 (some .int) [(0, 10, 13, 13), (0, 10, 17, 15)] ({ frames := 7, cells := 4, slots := 250, locals := 114 } : Room) [.ref a0, .int x1, .int x2, .ref ao] (ws) (q_Qi g (fun r w => lP g a0 ao wr (kc (!(inR x1 (N 2) && inR x2 (N 1))) (B 1 (c32 x1) || B 0 (c32 x2) || hasB (L 0 (c32 x1)) (lN (2 ^ c32 x2))) false) (nI (bcL (L 0 (c32 x1) ||| lN (2 ^ c32 x2)))) N A B (va_up L 0 (vp_updL (L 0) (c32 x1) (L 0 (c32 x1) ||| lN (2 ^ c32 x2)))) N A B L r w)) := by
  refine q_metH (own := RL) (by decide +kernel) rfl (Nat.le_of_ble_eq_true rfl) (fun p e s m args below meth c cx hr htab => ?_)
  obtain ⟨fs, hth⟩ := cR_this hR
  refine r_lv (lv2 := [(0, .ref a0), (1, .int x1), (2, .int x2), (3, .ref ao)]) (q_pk [0, 1, 2, 3] rfl) ?_
  refine r_aload_n cx dL_rest_0 rfl rfl ?_
  refine r_iconst (v := nI 0) cx dL_rest_1 (by decide) ?_
  refine r_aload_n cx dL_rest_2 rfl rfl ?_
  refine r_iload_n cx dL_rest_3 rfl rfl ?_
  refine r_iload_n cx dL_rest_4 rfl rfl ?_
  refine k_L_33 cx (c_rest l hl g N A B L _ ws a0 hI hR x1 x2) dL_rest_5 8 hth ⟨Nat.le_of_ble_eq_true rfl, Nat.le_of_ble_eq_true rfl⟩ ⟨Nat.le_of_ble_eq_true rfl, Nat.le_of_ble_eq_true rfl⟩ rfl rfl (Nat.le_of_ble_eq_true rfl) (fun E u hp9 H9 locs9 ls9 q9 ce9 hP9 hD9 hS9 hl9 hc9 hv9 hcl9 => ?_) (fun r u hp => ?_)
  · obtain ⟨(⟨rfl, hk⟩ | ⟨rfl, hk⟩), rfl⟩ := hp9
    · exact vx_catch cx.1.2.2.2.1 [] ⟨0, 10, 13, 13⟩ [⟨0, 10, 17, 15⟩] htab (fun z hz => nomatch hz) rfl (by decide) (cx.ok tb_105) (cx.nok tn_116) hc9 hv9 hcl9 ((r_astore cx dL_rest_13 (by decide) rfl (r_iconst (v := nI 1) cx dL_rest_15 (by decide) (r_iret cx dL_rest_16 hr ⟨by rw [hk], _, Or.inr ⟨by rw [hk]; decide, hR⟩⟩ (Nat.le_of_ble_eq_true rfl) (Nat.le_of_ble_eq_true rfl)))) H9 locs9 ls9 hP9 hD9 hS9 hl9)
    · exact vx_catch cx.1.2.2.2.1 [⟨0, 10, 13, 13⟩] ⟨0, 10, 17, 15⟩ [] htab (fun z hz => by
        obtain rfl := List.mem_singleton.mp hz
        exact Or.inr ⟨by decide, _, cx.ok tb_105, cx.2.1.2.2.2.2.1 ("java/lang/IllegalStateException", "java/lang/IndexOutOfBoundsException") (by simp [NCP])⟩) rfl (by decide) (cx.ok tb_106) (cx.nok tn_184) hc9 hv9 hcl9 ((r_astore cx dL_rest_17 (by decide) rfl (r_iconst (v := nI 2) cx dL_rest_19 (by decide) (r_iret cx dL_rest_20 hr ⟨by rw [hk], _, Or.inr ⟨by rw [hk]; decide, hR⟩⟩ (Nat.le_of_ble_eq_true rfl) (Nat.le_of_ble_eq_true rfl)))) H9 locs9 ls9 hP9 hD9 hS9 hl9)
  obtain ⟨hk, rfl, hR2⟩ := hp
  refine r_i2l cx dL_rest_8 rfl ?_
  refine r_lastN cx 9 1 dL_rest_9 (cR_out hR2).1 rfl (by decide) (by decide) ?_
  refine r_goto (tgt := 21) cx dL_rest_10 (by decide) ?_
  refine r_iconst (v := nI 0) cx dL_rest_21 (by decide) ?_
  exact r_iret cx dL_rest_22 hr (⟨by rw [hk], _, Or.inl ⟨hk, pk_uLs, (cR_out hR2).2 _⟩⟩) (Nat.le_of_ble_eq_true rfl) (Nat.le_of_ble_eq_true rfl)
set_option maxHeartbeats 4000000 in
set_option maxRecDepth 100000 in
theorem c_Lstands (l : Launch) (g : q_G) (hl : l.stackTraces = false) (N : Nat → Nat) (A : Nat → Nat → Int32) (B : Nat → Nat → Bool) (L : Nat → Nat → Int64) (wr ws : va_W) (a0 ao : Nat) (f0 : Nat → Int64) (hI : inv N A B L) (hR : cR g a0 N A B L ((ao, .inl (q_cJ g, 1, .inr (.inl f0))) :: wr) ws) (x1 : Int32) : MetH l g yL_stands cL_stands 4 (some .int) [(0, 16, 19, 13)] ({ frames := 7, cells := 4, slots := 250, locals := 111 } : Room) [.ref a0, .int x1, .ref ao] (ws) (q_Qi g (fun r w => lP g a0 ao wr (kc (!inR x1 (N 2)) false false) (bI (!B 1 (c32 x1))) N A B L N A B L r w)) := by
  refine q_metH (own := RL) (by decide +kernel) rfl (Nat.le_of_ble_eq_true rfl) (fun p e s m args below meth c cx hr htab => ?_)
  obtain ⟨fs, hth⟩ := cR_this hR
  refine r_lv (lv2 := [(0, .ref a0), (1, .int x1), (2, .ref ao)]) (q_pk [0, 1, 2] rfl) ?_
  refine r_aload_n cx dL_stands_0 rfl rfl ?_
  refine r_iconst (v := nI 0) cx dL_stands_1 (by decide) ?_
  refine r_aload_n cx dL_stands_2 rfl rfl ?_
  refine r_iload_n cx dL_stands_3 rfl rfl ?_
  refine k_L_37 cx (c_stands l hl g N A B L _ ws a0 hI hR x1) dL_stands_4 8 hth ⟨Nat.le_of_ble_eq_true rfl, Nat.le_of_ble_eq_true rfl⟩ ⟨Nat.le_of_ble_eq_true rfl, Nat.le_of_ble_eq_true rfl⟩ rfl rfl (Nat.le_of_ble_eq_true rfl) (fun E u hp9 H9 locs9 ls9 q9 ce9 hP9 hD9 hS9 hl9 hc9 hv9 hcl9 => ?_) (fun r u hp => ?_)
  · obtain ⟨⟨rfl, hk⟩, rfl⟩ := hp9
    · exact vx_catch cx.1.2.2.2.1 [] ⟨0, 16, 19, 13⟩ [] htab (fun z hz => nomatch hz) rfl (by decide) (cx.ok tb_105) (cx.nok tn_116) hc9 hv9 hcl9 ((r_astore_n cx dL_stands_19 rfl (by decide) rfl (r_iconst (v := nI 1) cx dL_stands_20 (by decide) (r_iret cx dL_stands_21 hr ⟨by rw [hk], _, Or.inr ⟨by rw [hk]; decide, hR⟩⟩ (Nat.le_of_ble_eq_true rfl) (Nat.le_of_ble_eq_true rfl)))) H9 locs9 ls9 hP9 hD9 hS9 hl9)
  obtain ⟨hk, rfl, rfl⟩ := hp
  have hR2 := hR
  refine r_ifeqb (tgt := 14) cx dL_stands_7 (by decide) (fun h_7 => ?_) (fun h_7 => ?_)
  · skip
    refine r_lconst (v := 0) cx dL_stands_14 rfl ?_
    refine r_lastN cx 9 1 dL_stands_15 (cR_out hR2).1 rfl (by decide) (by decide) ?_
    refine r_goto (tgt := 22) cx dL_stands_16 (by decide) ?_
    refine r_iconst (v := nI 0) cx dL_stands_22 (by decide) ?_
    exact r_iret cx dL_stands_23 hr (⟨by rw [hk], _, Or.inl ⟨hk, by rw [h_7]; exact pk_uLs, (cR_out hR2).2 _⟩⟩) (Nat.le_of_ble_eq_true rfl) (Nat.le_of_ble_eq_true rfl)
  · skip
    refine r_lconst (v := 1) cx dL_stands_10 rfl ?_
    refine r_goto (tgt := 15) cx dL_stands_11 (by decide) ?_
    refine r_lastN cx 9 1 dL_stands_15 (cR_out hR2).1 rfl (by decide) (by decide) ?_
    refine r_goto (tgt := 22) cx dL_stands_16 (by decide) ?_
    refine r_iconst (v := nI 0) cx dL_stands_22 (by decide) ?_
    exact r_iret cx dL_stands_23 hr (⟨by rw [hk], _, Or.inl ⟨hk, by rw [h_7]; exact pk_uLs, (cR_out hR2).2 _⟩⟩) (Nat.le_of_ble_eq_true rfl) (Nat.le_of_ble_eq_true rfl)
set_option maxHeartbeats 4000000 in
set_option maxRecDepth 100000 in
theorem c_Lexpected (l : Launch) (g : q_G) (hl : l.stackTraces = false) (N : Nat → Nat) (A : Nat → Nat → Int32) (B : Nat → Nat → Bool) (L : Nat → Nat → Int64) (wr ws : va_W) (a0 ao : Nat) (f0 : Nat → Int64) (hI : inv N A B L) (hR : cR g a0 N A B L ((ao, .inl (q_cJ g, 1, .inr (.inl f0))) :: wr) ws) (x1 : Int32) (x2 : Int32) (x3 : Int32) : MetH l g yL_expected cL_expected 6 (some .int) [(0, 12, 15, 13), (0, 12, 19, 21)] ({ frames := 7, cells := 4, slots := 250, locals := 113 } : Room) [.ref a0, .int x1, .int x2, .int x3, .ref ao] (ws) (q_Qi g (fun r w => lP g a0 ao wr (kc (!(inR x1 4 && inR x2 10)) (!inR x3 301) false) (expV N A B (c32 x1) x2 x3) N A B L N A B L r w)) := by
  refine q_metH (own := RL) (by decide +kernel) rfl (Nat.le_of_ble_eq_true rfl) (fun p e s m args below meth c cx hr htab => ?_)
  obtain ⟨fs, hth⟩ := cR_this hR
  refine r_lv (lv2 := [(0, .ref a0), (1, .int x1), (2, .int x2), (3, .int x3), (4, .ref ao)]) (q_pk [0, 1, 2, 3, 4] rfl) ?_
  refine r_aload cx dL_expected_0 rfl ?_
  refine r_iconst (v := nI 0) cx dL_expected_2 (by decide) ?_
  refine r_aload_n cx dL_expected_3 rfl rfl ?_
  refine r_iload_n cx dL_expected_4 rfl rfl ?_
  refine r_iload_n cx dL_expected_5 rfl rfl ?_
  refine r_iload_n cx dL_expected_6 rfl rfl ?_
  refine k_L_41 cx (c_expected l hl g N A B L _ ws a0 hI hR x1 x2 x3) dL_expected_7 8 hth ⟨Nat.le_of_ble_eq_true rfl, Nat.le_of_ble_eq_true rfl⟩ ⟨Nat.le_of_ble_eq_true rfl, Nat.le_of_ble_eq_true rfl⟩ rfl rfl (Nat.le_of_ble_eq_true rfl) (fun E u hp9 H9 locs9 ls9 q9 ce9 hP9 hD9 hS9 hl9 hc9 hv9 hcl9 => ?_) (fun r u hp => ?_)
  · obtain ⟨(⟨rfl, hk⟩ | ⟨rfl, hk⟩), rfl⟩ := hp9
    · exact vx_catch cx.1.2.2.2.1 [] ⟨0, 12, 15, 13⟩ [⟨0, 12, 19, 21⟩] htab (fun z hz => nomatch hz) rfl (by decide) (cx.ok tb_105) (cx.nok tn_116) hc9 hv9 hcl9 ((r_astore cx dL_expected_15 (by decide) rfl (r_iconst (v := nI 1) cx dL_expected_17 (by decide) (r_iret cx dL_expected_18 hr ⟨by rw [hk], _, Or.inr ⟨by rw [hk]; decide, hR⟩⟩ (Nat.le_of_ble_eq_true rfl) (Nat.le_of_ble_eq_true rfl)))) H9 locs9 ls9 hP9 hD9 hS9 hl9)
    · exact vx_catch cx.1.2.2.2.1 [⟨0, 12, 15, 13⟩] ⟨0, 12, 19, 21⟩ [] htab (fun z hz => by
        obtain rfl := List.mem_singleton.mp hz
        exact Or.inr ⟨by decide, _, cx.ok tb_105, cx.2.1.2.2.2.2.1 ("java/lang/IllegalArgumentException", "java/lang/IndexOutOfBoundsException") (by simp [NCP])⟩) rfl (by decide) (cx.ok tb_201) (cx.nok tn_209) hc9 hv9 hcl9 ((r_astore cx dL_expected_19 (by decide) rfl (r_iconst (v := nI 2) cx dL_expected_21 (by decide) (r_iret cx dL_expected_22 hr ⟨by rw [hk], _, Or.inr ⟨by rw [hk]; decide, hR⟩⟩ (Nat.le_of_ble_eq_true rfl) (Nat.le_of_ble_eq_true rfl)))) H9 locs9 ls9 hP9 hD9 hS9 hl9)
  obtain ⟨hk, rfl, rfl⟩ := hp
  have hR2 := hR
  refine r_i2l cx dL_expected_10 rfl ?_
  refine r_lastN cx 9 1 dL_expected_11 (cR_out hR2).1 rfl (by decide) (by decide) ?_
  refine r_goto (tgt := 23) cx dL_expected_12 (by decide) ?_
  refine r_iconst (v := nI 0) cx dL_expected_23 (by decide) ?_
  exact r_iret cx dL_expected_24 hr (⟨by rw [hk], _, Or.inl ⟨hk, pk_uLs, (cR_out hR2).2 _⟩⟩) (Nat.le_of_ble_eq_true rfl) (Nat.le_of_ble_eq_true rfl)
set_option maxHeartbeats 4000000 in
set_option maxRecDepth 100000 in
theorem c_Lfar (l : Launch) (g : q_G) (hl : l.stackTraces = false) (N : Nat → Nat) (A : Nat → Nat → Int32) (B : Nat → Nat → Bool) (L : Nat → Nat → Int64) (wr ws : va_W) (a0 ao : Nat) (f0 : Nat → Int64) (hI : inv N A B L) (hR : cR g a0 N A B L ((ao, .inl (q_cJ g, 1, .inr (.inl f0))) :: wr) ws) (x1 : Int32) : MetH l g yL_far cL_far 4 (some .int) [(0, 9, 12, 13)] ({ frames := 7, cells := 4, slots := 250, locals := 113 } : Room) [.ref a0, .int x1, .ref ao] (ws) (q_Qi g (fun r w => lP g a0 ao wr (kc (!inR x1 (N 1)) false false) (farV N A B (c32 x1)) N A B L N A B L r w)) := by
  refine q_metH (own := RL) (by decide +kernel) rfl (Nat.le_of_ble_eq_true rfl) (fun p e s m args below meth c cx hr htab => ?_)
  obtain ⟨fs, hth⟩ := cR_this hR
  refine r_lv (lv2 := [(0, .ref a0), (1, .int x1), (2, .ref ao)]) (q_pk [0, 1, 2] rfl) ?_
  refine r_aload_n cx dL_far_0 rfl rfl ?_
  refine r_iconst (v := nI 0) cx dL_far_1 (by decide) ?_
  refine r_aload_n cx dL_far_2 rfl rfl ?_
  refine r_iload_n cx dL_far_3 rfl rfl ?_
  refine k_L_45 cx (c_far l hl g N A B L _ ws a0 hI hR x1) dL_far_4 8 hth ⟨Nat.le_of_ble_eq_true rfl, Nat.le_of_ble_eq_true rfl⟩ ⟨Nat.le_of_ble_eq_true rfl, Nat.le_of_ble_eq_true rfl⟩ rfl rfl (Nat.le_of_ble_eq_true rfl) (fun E u hp9 H9 locs9 ls9 q9 ce9 hP9 hD9 hS9 hl9 hc9 hv9 hcl9 => ?_) (fun r u hp => ?_)
  · obtain ⟨⟨rfl, hk⟩, rfl⟩ := hp9
    · exact vx_catch cx.1.2.2.2.1 [] ⟨0, 9, 12, 13⟩ [] htab (fun z hz => nomatch hz) rfl (by decide) (cx.ok tb_105) (cx.nok tn_116) hc9 hv9 hcl9 ((r_astore_n cx dL_far_12 rfl (by decide) rfl (r_iconst (v := nI 1) cx dL_far_13 (by decide) (r_iret cx dL_far_14 hr ⟨by rw [hk], _, Or.inr ⟨by rw [hk]; decide, hR⟩⟩ (Nat.le_of_ble_eq_true rfl) (Nat.le_of_ble_eq_true rfl)))) H9 locs9 ls9 hP9 hD9 hS9 hl9)
  obtain ⟨hk, rfl, hR2⟩ := hp
  refine r_i2l cx dL_far_7 rfl ?_
  refine r_lastN cx 9 1 dL_far_8 (cR_out hR2).1 rfl (by decide) (by decide) ?_
  refine r_goto (tgt := 15) cx dL_far_9 (by decide) ?_
  refine r_iconst (v := nI 0) cx dL_far_15 (by decide) ?_
  exact r_iret cx dL_far_16 hr (⟨by rw [hk], _, Or.inl ⟨hk, pk_uLs, (cR_out hR2).2 _⟩⟩) (Nat.le_of_ble_eq_true rfl) (Nat.le_of_ble_eq_true rfl)
set_option maxHeartbeats 4000000 in
set_option maxRecDepth 100000 in
theorem c_LformAt (l : Launch) (g : q_G) (hl : l.stackTraces = false) (N : Nat → Nat) (A : Nat → Nat → Int32) (B : Nat → Nat → Bool) (L : Nat → Nat → Int64) (wr ws : va_W) (a0 ao : Nat) (f0 : Nat → Int64) (hI : inv N A B L) (hR : cR g a0 N A B L ((ao, .inl (q_cJ g, 1, .inr (.inl f0))) :: wr) ws) (x1 : Int32) (x2 : Int32) : MetH l g yL_formAt cL_formAt 5 (some .int) [(0, 10, 13, 13)] ({ frames := 7, cells := 4, slots := 250, locals := 137 } : Room) [.ref a0, .int x1, .int x2, .ref ao] (ws) (q_Qi g (fun r w => lP g a0 ao wr (kc (!(inR x1 4 && inR x2 10)) false false) (mst (hrS B) (fiS A) (N 1) x1 x2) N A B L N A B L r w)) := by
  refine q_metH (own := RL) (by decide +kernel) rfl (Nat.le_of_ble_eq_true rfl) (fun p e s m args below meth c cx hr htab => ?_)
  obtain ⟨fs, hth⟩ := cR_this hR
  refine r_lv (lv2 := [(0, .ref a0), (1, .int x1), (2, .int x2), (3, .ref ao)]) (q_pk [0, 1, 2, 3] rfl) ?_
  refine r_aload_n cx dL_formAt_0 rfl rfl ?_
  refine r_iconst (v := nI 0) cx dL_formAt_1 (by decide) ?_
  refine r_aload_n cx dL_formAt_2 rfl rfl ?_
  refine r_iload_n cx dL_formAt_3 rfl rfl ?_
  refine r_iload_n cx dL_formAt_4 rfl rfl ?_
  refine k_L_48 cx (c_formAt l hl g N A B L _ ws a0 hI hR x1 x2) dL_formAt_5 8 hth ⟨Nat.le_of_ble_eq_true rfl, Nat.le_of_ble_eq_true rfl⟩ ⟨Nat.le_of_ble_eq_true rfl, Nat.le_of_ble_eq_true rfl⟩ rfl rfl (Nat.le_of_ble_eq_true rfl) (fun E u hp9 H9 locs9 ls9 q9 ce9 hP9 hD9 hS9 hl9 hc9 hv9 hcl9 => ?_) (fun r u hp => ?_)
  · obtain ⟨⟨rfl, hk⟩, rfl⟩ := hp9
    · exact vx_catch cx.1.2.2.2.1 [] ⟨0, 10, 13, 13⟩ [] htab (fun z hz => nomatch hz) rfl (by decide) (cx.ok tb_105) (cx.nok tn_116) hc9 hv9 hcl9 ((r_astore cx dL_formAt_13 (by decide) rfl (r_iconst (v := nI 1) cx dL_formAt_15 (by decide) (r_iret cx dL_formAt_16 hr ⟨by rw [hk], _, Or.inr ⟨by rw [hk]; decide, hR⟩⟩ (Nat.le_of_ble_eq_true rfl) (Nat.le_of_ble_eq_true rfl)))) H9 locs9 ls9 hP9 hD9 hS9 hl9)
  obtain ⟨hk, rfl, rfl⟩ := hp
  have hR2 := hR
  refine r_i2l cx dL_formAt_8 rfl ?_
  refine r_lastN cx 9 1 dL_formAt_9 (cR_out hR2).1 rfl (by decide) (by decide) ?_
  refine r_goto (tgt := 17) cx dL_formAt_10 (by decide) ?_
  refine r_iconst (v := nI 0) cx dL_formAt_17 (by decide) ?_
  exact r_iret cx dL_formAt_18 hr (⟨by rw [hk], _, Or.inl ⟨hk, pk_uLs, (cR_out hR2).2 _⟩⟩) (Nat.le_of_ble_eq_true rfl) (Nat.le_of_ble_eq_true rfl)
set_option maxHeartbeats 4000000 in
set_option maxRecDepth 100000 in
theorem c_Llines (l : Launch) (g : q_G) (hl : l.stackTraces = false) (N : Nat → Nat) (A : Nat → Nat → Int32) (B : Nat → Nat → Bool) (L : Nat → Nat → Int64) (wr ws : va_W) (a0 ao : Nat) (f0 : Nat → Int64) (hI : inv N A B L) (hR : cR g a0 N A B L ((ao, .inl (q_cJ g, 1, .inr (.inl f0))) :: wr) ws) (x1 : Int32) : MetH l g yL_lines cL_lines 4 (some .int) [(0, 9, 12, 13)] ({ frames := 7, cells := 4, slots := 250, locals := 111 } : Room) [.ref a0, .int x1, .ref ao] (ws) (q_Qi g (fun r w => lP g a0 ao wr (kc (!inR x1 4) false false) (drw (hrS B) (fiS A) (N 1) x1) N A B L N A B L r w)) := by
  refine q_metH (own := RL) (by decide +kernel) rfl (Nat.le_of_ble_eq_true rfl) (fun p e s m args below meth c cx hr htab => ?_)
  obtain ⟨fs, hth⟩ := cR_this hR
  refine r_lv (lv2 := [(0, .ref a0), (1, .int x1), (2, .ref ao)]) (q_pk [0, 1, 2] rfl) ?_
  refine r_aload_n cx dL_lines_0 rfl rfl ?_
  refine r_iconst (v := nI 0) cx dL_lines_1 (by decide) ?_
  refine r_aload_n cx dL_lines_2 rfl rfl ?_
  refine r_iload_n cx dL_lines_3 rfl rfl ?_
  refine k_L_51 cx (c_lines l hl g N A B L _ ws a0 hI hR x1) dL_lines_4 8 hth ⟨Nat.le_of_ble_eq_true rfl, Nat.le_of_ble_eq_true rfl⟩ ⟨Nat.le_of_ble_eq_true rfl, Nat.le_of_ble_eq_true rfl⟩ rfl rfl (Nat.le_of_ble_eq_true rfl) (fun E u hp9 H9 locs9 ls9 q9 ce9 hP9 hD9 hS9 hl9 hc9 hv9 hcl9 => ?_) (fun r u hp => ?_)
  · obtain ⟨⟨rfl, hk⟩, rfl⟩ := hp9
    · exact vx_catch cx.1.2.2.2.1 [] ⟨0, 9, 12, 13⟩ [] htab (fun z hz => nomatch hz) rfl (by decide) (cx.ok tb_105) (cx.nok tn_116) hc9 hv9 hcl9 ((r_astore_n cx dL_lines_12 rfl (by decide) rfl (r_iconst (v := nI 1) cx dL_lines_13 (by decide) (r_iret cx dL_lines_14 hr ⟨by rw [hk], _, Or.inr ⟨by rw [hk]; decide, hR⟩⟩ (Nat.le_of_ble_eq_true rfl) (Nat.le_of_ble_eq_true rfl)))) H9 locs9 ls9 hP9 hD9 hS9 hl9)
  obtain ⟨hk, rfl, rfl⟩ := hp
  have hR2 := hR
  refine r_i2l cx dL_lines_7 rfl ?_
  refine r_lastN cx 9 1 dL_lines_8 (cR_out hR2).1 rfl (by decide) (by decide) ?_
  refine r_goto (tgt := 15) cx dL_lines_9 (by decide) ?_
  refine r_iconst (v := nI 0) cx dL_lines_15 (by decide) ?_
  exact r_iret cx dL_lines_16 hr (⟨by rw [hk], _, Or.inl ⟨hk, pk_uLs, (cR_out hR2).2 _⟩⟩) (Nat.le_of_ble_eq_true rfl) (Nat.le_of_ble_eq_true rfl)
set_option maxHeartbeats 4000000 in
set_option maxRecDepth 100000 in
theorem c_LlinesByForms (l : Launch) (g : q_G) (hl : l.stackTraces = false) (N : Nat → Nat) (A : Nat → Nat → Int32) (B : Nat → Nat → Bool) (L : Nat → Nat → Int64) (wr ws : va_W) (a0 ao : Nat) (f0 : Nat → Int64) (hI : inv N A B L) (hR : cR g a0 N A B L ((ao, .inl (q_cJ g, 1, .inr (.inl f0))) :: wr) ws) (x1 : Int32) : MetH l g yL_linesByForms cL_linesByForms 4 (some .int) [(0, 9, 12, 13)] ({ frames := 7, cells := 4, slots := 250, locals := 161 } : Room) [.ref a0, .int x1, .ref ao] (ws) (q_Qi g (fun r w => lP g a0 ao wr (kc (!inR x1 4) false false) (drw (hrS B) (fiS A) (N 1) x1) N A B L N A B L r w)) := by
  refine q_metH (own := RL) (by decide +kernel) rfl (Nat.le_of_ble_eq_true rfl) (fun p e s m args below meth c cx hr htab => ?_)
  obtain ⟨fs, hth⟩ := cR_this hR
  refine r_lv (lv2 := [(0, .ref a0), (1, .int x1), (2, .ref ao)]) (q_pk [0, 1, 2] rfl) ?_
  refine r_aload_n cx dL_linesByForms_0 rfl rfl ?_
  refine r_iconst (v := nI 0) cx dL_linesByForms_1 (by decide) ?_
  refine r_aload_n cx dL_linesByForms_2 rfl rfl ?_
  refine r_iload_n cx dL_linesByForms_3 rfl rfl ?_
  refine k_L_54 cx (c_linesByForms l hl g N A B L _ ws a0 hI hR x1) dL_linesByForms_4 8 hth ⟨Nat.le_of_ble_eq_true rfl, Nat.le_of_ble_eq_true rfl⟩ ⟨Nat.le_of_ble_eq_true rfl, Nat.le_of_ble_eq_true rfl⟩ rfl rfl (Nat.le_of_ble_eq_true rfl) (fun E u hp9 H9 locs9 ls9 q9 ce9 hP9 hD9 hS9 hl9 hc9 hv9 hcl9 => ?_) (fun r u hp => ?_)
  · obtain ⟨⟨rfl, hk⟩, rfl⟩ := hp9
    · exact vx_catch cx.1.2.2.2.1 [] ⟨0, 9, 12, 13⟩ [] htab (fun z hz => nomatch hz) rfl (by decide) (cx.ok tb_105) (cx.nok tn_116) hc9 hv9 hcl9 ((r_astore_n cx dL_linesByForms_12 rfl (by decide) rfl (r_iconst (v := nI 1) cx dL_linesByForms_13 (by decide) (r_iret cx dL_linesByForms_14 hr ⟨by rw [hk], _, Or.inr ⟨by rw [hk]; decide, hR⟩⟩ (Nat.le_of_ble_eq_true rfl) (Nat.le_of_ble_eq_true rfl)))) H9 locs9 ls9 hP9 hD9 hS9 hl9)
  obtain ⟨hk, rfl, rfl⟩ := hp
  have hR2 := hR
  refine r_i2l cx dL_linesByForms_7 rfl ?_
  refine r_lastN cx 9 1 dL_linesByForms_8 (cR_out hR2).1 rfl (by decide) (by decide) ?_
  refine r_goto (tgt := 15) cx dL_linesByForms_9 (by decide) ?_
  refine r_iconst (v := nI 0) cx dL_linesByForms_15 (by decide) ?_
  exact r_iret cx dL_linesByForms_16 hr (⟨by rw [hk], _, Or.inl ⟨hk, pk_uLs, (cR_out hR2).2 _⟩⟩) (Nat.le_of_ble_eq_true rfl) (Nat.le_of_ble_eq_true rfl)
set_option maxHeartbeats 4000000 in
set_option maxRecDepth 100000 in
theorem c_Lforget (l : Launch) (g : q_G) (hl : l.stackTraces = false) (N : Nat → Nat) (A : Nat → Nat → Int32) (B : Nat → Nat → Bool) (L : Nat → Nat → Int64) (wr ws : va_W) (a0 ao : Nat) (f0 : Nat → Int64) (hI : inv N A B L) (hR : cR g a0 N A B L ((ao, .inl (q_cJ g, 1, .inr (.inl f0))) :: wr) ws) (x1 : Int32) : MetH l g yL_forget cL_forget 4 (some .int) [(0, 9, 12, 13)] ({ frames := 7, cells := 4, slots := 250, locals := 164 } : Room) [.ref a0, .int x1, .ref ao] (ws) (q_Qi g (fun r w => lP g a0 ao wr (kc (!inR x1 8) false false) (nI (bcL (lN (fgS (B 0) (A 1) x1 (N 1))))) N A (va_up (va_up B 0 (goN (N 1) (B 0) (A 1) x1)) 1 (faN (L 0) (B 1) (fgS (B 0) (A 1) x1 (N 1)))) (va_up L 0 (grN (L 0) (fgS (B 0) (A 1) x1 (N 1)))) N A B L r w)) := by
  refine q_metH (own := RL) (by decide +kernel) rfl (Nat.le_of_ble_eq_true rfl) (fun p e s m args below meth c cx hr htab => ?_)
  obtain ⟨fs, hth⟩ := cR_this hR
  refine r_lv (lv2 := [(0, .ref a0), (1, .int x1), (2, .ref ao)]) (q_pk [0, 1, 2] rfl) ?_
  refine r_aload_n cx dL_forget_0 rfl rfl ?_
  refine r_iconst (v := nI 0) cx dL_forget_1 (by decide) ?_
  refine r_aload_n cx dL_forget_2 rfl rfl ?_
  refine r_iload_n cx dL_forget_3 rfl rfl ?_
  refine k_L_57 cx (c_forget l hl g N A B L _ ws a0 hI hR x1) dL_forget_4 8 hth ⟨Nat.le_of_ble_eq_true rfl, Nat.le_of_ble_eq_true rfl⟩ ⟨Nat.le_of_ble_eq_true rfl, Nat.le_of_ble_eq_true rfl⟩ rfl rfl (Nat.le_of_ble_eq_true rfl) (fun E u hp9 H9 locs9 ls9 q9 ce9 hP9 hD9 hS9 hl9 hc9 hv9 hcl9 => ?_) (fun r u hp => ?_)
  · obtain ⟨⟨rfl, hk⟩, rfl⟩ := hp9
    · exact vx_catch cx.1.2.2.2.1 [] ⟨0, 9, 12, 13⟩ [] htab (fun z hz => nomatch hz) rfl (by decide) (cx.ok tb_105) (cx.nok tn_116) hc9 hv9 hcl9 ((r_astore_n cx dL_forget_12 rfl (by decide) rfl (r_iconst (v := nI 1) cx dL_forget_13 (by decide) (r_iret cx dL_forget_14 hr ⟨by rw [hk], _, Or.inr ⟨by rw [hk]; decide, hR⟩⟩ (Nat.le_of_ble_eq_true rfl) (Nat.le_of_ble_eq_true rfl)))) H9 locs9 ls9 hP9 hD9 hS9 hl9)
  obtain ⟨hk, rfl, hR2⟩ := hp
  refine r_i2l cx dL_forget_7 rfl ?_
  refine r_lastN cx 9 1 dL_forget_8 (cR_out hR2).1 rfl (by decide) (by decide) ?_
  refine r_goto (tgt := 15) cx dL_forget_9 (by decide) ?_
  refine r_iconst (v := nI 0) cx dL_forget_15 (by decide) ?_
  exact r_iret cx dL_forget_16 hr (⟨by rw [hk], _, Or.inl ⟨hk, pk_uLs, (cR_out hR2).2 _⟩⟩) (Nat.le_of_ble_eq_true rfl) (Nat.le_of_ble_eq_true rfl)
set_option maxHeartbeats 4000000 in
set_option maxRecDepth 100000 in
theorem c_Lcopy (l : Launch) (g : q_G) (hl : l.stackTraces = false) (N : Nat → Nat) (A : Nat → Nat → Int32) (B : Nat → Nat → Bool) (L : Nat → Nat → Int64) (wr ws : va_W) (a0 ao : Nat) (f0 : Nat → Int64) (hI : inv N A B L) (hR : cR g a0 N A B L ((ao, .inl (q_cJ g, 1, .inr (.inl f0))) :: wr) ws) (x1 : Int32) : MetH l g yL_copy cL_copy 4 (some .int) [(0, 9, 12, 13)] ({ frames := 7, cells := 4, slots := 250, locals := 111 } : Room) [.ref a0, .int x1, .ref ao] (ws) (q_Qi g (fun r w => lP g a0 ao wr (kc (!inR x1 3) false false) (nI (bcL (lN (thS (B 0) (N 1))))) N A B (va_up L 1 (vp_updL (L 1) (c32 x1) (lN (thS (B 0) (N 1))))) N A B L r w)) := by
  refine q_metH (own := RL) (by decide +kernel) rfl (Nat.le_of_ble_eq_true rfl) (fun p e s m args below meth c cx hr htab => ?_)
  obtain ⟨fs, hth⟩ := cR_this hR
  refine r_lv (lv2 := [(0, .ref a0), (1, .int x1), (2, .ref ao)]) (q_pk [0, 1, 2] rfl) ?_
  refine r_aload_n cx dL_copy_0 rfl rfl ?_
  refine r_iconst (v := nI 0) cx dL_copy_1 (by decide) ?_
  refine r_aload_n cx dL_copy_2 rfl rfl ?_
  refine r_iload_n cx dL_copy_3 rfl rfl ?_
  refine k_L_60 cx (c_copy l hl g N A B L _ ws a0 hI hR x1) dL_copy_4 8 hth ⟨Nat.le_of_ble_eq_true rfl, Nat.le_of_ble_eq_true rfl⟩ ⟨Nat.le_of_ble_eq_true rfl, Nat.le_of_ble_eq_true rfl⟩ rfl rfl (Nat.le_of_ble_eq_true rfl) (fun E u hp9 H9 locs9 ls9 q9 ce9 hP9 hD9 hS9 hl9 hc9 hv9 hcl9 => ?_) (fun r u hp => ?_)
  · obtain ⟨⟨rfl, hk⟩, rfl⟩ := hp9
    · exact vx_catch cx.1.2.2.2.1 [] ⟨0, 9, 12, 13⟩ [] htab (fun z hz => nomatch hz) rfl (by decide) (cx.ok tb_105) (cx.nok tn_116) hc9 hv9 hcl9 ((r_astore_n cx dL_copy_12 rfl (by decide) rfl (r_iconst (v := nI 1) cx dL_copy_13 (by decide) (r_iret cx dL_copy_14 hr ⟨by rw [hk], _, Or.inr ⟨by rw [hk]; decide, hR⟩⟩ (Nat.le_of_ble_eq_true rfl) (Nat.le_of_ble_eq_true rfl)))) H9 locs9 ls9 hP9 hD9 hS9 hl9)
  obtain ⟨hk, rfl, hR2⟩ := hp
  refine r_i2l cx dL_copy_7 rfl ?_
  refine r_lastN cx 9 1 dL_copy_8 (cR_out hR2).1 rfl (by decide) (by decide) ?_
  refine r_goto (tgt := 15) cx dL_copy_9 (by decide) ?_
  refine r_iconst (v := nI 0) cx dL_copy_15 (by decide) ?_
  exact r_iret cx dL_copy_16 hr (⟨by rw [hk], _, Or.inl ⟨hk, pk_uLs, (cR_out hR2).2 _⟩⟩) (Nat.le_of_ble_eq_true rfl) (Nat.le_of_ble_eq_true rfl)
set_option maxHeartbeats 4000000 in
set_option maxRecDepth 100000 in
theorem c_Ltell (l : Launch) (g : q_G) (hl : l.stackTraces = false) (N : Nat → Nat) (A : Nat → Nat → Int32) (B : Nat → Nat → Bool) (L : Nat → Nat → Int64) (wr ws : va_W) (a0 ao : Nat) (f0 : Nat → Int64) (hI : inv N A B L) (hR : cR g a0 N A B L ((ao, .inl (q_cJ g, 1, .inr (.inl f0))) :: wr) ws) (x1 : Int32) : MetH l g yL_tell cL_tell 4 (some .int) [(0, 9, 12, 13)] ({ frames := 7, cells := 4, slots := 250, locals := 113 } : Room) [.ref a0, .int x1, .ref ao] (ws) (q_Qi g (fun r w => lP g a0 ao wr (kc (!inR x1 3) false false) (nI (bcL (L 1 (c32 x1) &&& (lN (thS (B 0) (N 1)) ^^^ (-1))))) N A B (va_up L 1 (vp_updL (L 1) (c32 x1) (L 1 (c32 x1) &&& lN (thS (B 0) (N 1))))) N A B L r w)) := by
  refine q_metH (own := RL) (by decide +kernel) rfl (Nat.le_of_ble_eq_true rfl) (fun p e s m args below meth c cx hr htab => ?_)
  obtain ⟨fs, hth⟩ := cR_this hR
  refine r_lv (lv2 := [(0, .ref a0), (1, .int x1), (2, .ref ao)]) (q_pk [0, 1, 2] rfl) ?_
  refine r_aload_n cx dL_tell_0 rfl rfl ?_
  refine r_iconst (v := nI 0) cx dL_tell_1 (by decide) ?_
  refine r_aload_n cx dL_tell_2 rfl rfl ?_
  refine r_iload_n cx dL_tell_3 rfl rfl ?_
  refine k_L_63 cx (c_tell l hl g N A B L _ ws a0 hI hR x1) dL_tell_4 8 hth ⟨Nat.le_of_ble_eq_true rfl, Nat.le_of_ble_eq_true rfl⟩ ⟨Nat.le_of_ble_eq_true rfl, Nat.le_of_ble_eq_true rfl⟩ rfl rfl (Nat.le_of_ble_eq_true rfl) (fun E u hp9 H9 locs9 ls9 q9 ce9 hP9 hD9 hS9 hl9 hc9 hv9 hcl9 => ?_) (fun r u hp => ?_)
  · obtain ⟨⟨rfl, hk⟩, rfl⟩ := hp9
    · exact vx_catch cx.1.2.2.2.1 [] ⟨0, 9, 12, 13⟩ [] htab (fun z hz => nomatch hz) rfl (by decide) (cx.ok tb_105) (cx.nok tn_116) hc9 hv9 hcl9 ((r_astore_n cx dL_tell_12 rfl (by decide) rfl (r_iconst (v := nI 1) cx dL_tell_13 (by decide) (r_iret cx dL_tell_14 hr ⟨by rw [hk], _, Or.inr ⟨by rw [hk]; decide, hR⟩⟩ (Nat.le_of_ble_eq_true rfl) (Nat.le_of_ble_eq_true rfl)))) H9 locs9 ls9 hP9 hD9 hS9 hl9)
  obtain ⟨hk, rfl, hR2⟩ := hp
  refine r_i2l cx dL_tell_7 rfl ?_
  refine r_lastN cx 9 1 dL_tell_8 (cR_out hR2).1 rfl (by decide) (by decide) ?_
  refine r_goto (tgt := 15) cx dL_tell_9 (by decide) ?_
  refine r_iconst (v := nI 0) cx dL_tell_15 (by decide) ?_
  exact r_iret cx dL_tell_16 hr (⟨by rw [hk], _, Or.inl ⟨hk, pk_uLs, (cR_out hR2).2 _⟩⟩) (Nat.le_of_ble_eq_true rfl) (Nat.le_of_ble_eq_true rfl)
set_option maxHeartbeats 4000000 in
set_option maxRecDepth 100000 in
theorem c_Lowed (l : Launch) (g : q_G) (hl : l.stackTraces = false) (N : Nat → Nat) (A : Nat → Nat → Int32) (B : Nat → Nat → Bool) (L : Nat → Nat → Int64) (wr ws : va_W) (a0 ao : Nat) (f0 : Nat → Int64) (hI : inv N A B L) (hR : cR g a0 N A B L ((ao, .inl (q_cJ g, 1, .inr (.inl f0))) :: wr) ws) (x1 : Int32) : MetH l g yL_owed cL_owed 4 (some .int) [(0, 9, 12, 13)] ({ frames := 7, cells := 4, slots := 250, locals := 111 } : Room) [.ref a0, .int x1, .ref ao] (ws) (q_Qi g (fun r w => lP g a0 ao wr (kc (!inR x1 3) false false) (nI (bcL (L 1 (c32 x1) &&& (lN (thS (B 0) (N 1)) ^^^ (-1))))) N A B L N A B L r w)) := by
  refine q_metH (own := RL) (by decide +kernel) rfl (Nat.le_of_ble_eq_true rfl) (fun p e s m args below meth c cx hr htab => ?_)
  obtain ⟨fs, hth⟩ := cR_this hR
  refine r_lv (lv2 := [(0, .ref a0), (1, .int x1), (2, .ref ao)]) (q_pk [0, 1, 2] rfl) ?_
  refine r_aload_n cx dL_owed_0 rfl rfl ?_
  refine r_iconst (v := nI 0) cx dL_owed_1 (by decide) ?_
  refine r_aload_n cx dL_owed_2 rfl rfl ?_
  refine r_iload_n cx dL_owed_3 rfl rfl ?_
  refine k_L_66 cx (c_owed l hl g N A B L _ ws a0 hI hR x1) dL_owed_4 8 hth ⟨Nat.le_of_ble_eq_true rfl, Nat.le_of_ble_eq_true rfl⟩ ⟨Nat.le_of_ble_eq_true rfl, Nat.le_of_ble_eq_true rfl⟩ rfl rfl (Nat.le_of_ble_eq_true rfl) (fun E u hp9 H9 locs9 ls9 q9 ce9 hP9 hD9 hS9 hl9 hc9 hv9 hcl9 => ?_) (fun r u hp => ?_)
  · obtain ⟨⟨rfl, hk⟩, rfl⟩ := hp9
    · exact vx_catch cx.1.2.2.2.1 [] ⟨0, 9, 12, 13⟩ [] htab (fun z hz => nomatch hz) rfl (by decide) (cx.ok tb_105) (cx.nok tn_116) hc9 hv9 hcl9 ((r_astore_n cx dL_owed_12 rfl (by decide) rfl (r_iconst (v := nI 1) cx dL_owed_13 (by decide) (r_iret cx dL_owed_14 hr ⟨by rw [hk], _, Or.inr ⟨by rw [hk]; decide, hR⟩⟩ (Nat.le_of_ble_eq_true rfl) (Nat.le_of_ble_eq_true rfl)))) H9 locs9 ls9 hP9 hD9 hS9 hl9)
  obtain ⟨hk, rfl, rfl⟩ := hp
  have hR2 := hR
  refine r_i2l cx dL_owed_7 rfl ?_
  refine r_lastN cx 9 1 dL_owed_8 (cR_out hR2).1 rfl (by decide) (by decide) ?_
  refine r_goto (tgt := 15) cx dL_owed_9 (by decide) ?_
  refine r_iconst (v := nI 0) cx dL_owed_15 (by decide) ?_
  exact r_iret cx dL_owed_16 hr (⟨by rw [hk], _, Or.inl ⟨hk, pk_uLs, (cR_out hR2).2 _⟩⟩) (Nat.le_of_ble_eq_true rfl) (Nat.le_of_ble_eq_true rfl)
set_option maxHeartbeats 4000000 in
set_option maxRecDepth 100000 in
theorem c_Lquote (l : Launch) (g : q_G) (hl : l.stackTraces = false) (N : Nat → Nat) (A : Nat → Nat → Int32) (B : Nat → Nat → Bool) (L : Nat → Nat → Int64) (wr ws : va_W) (a0 ao : Nat) (f0 : Nat → Int64) (hI : inv N A B L) (hR : cR g a0 N A B L ((ao, .inl (q_cJ g, 1, .inr (.inl f0))) :: wr) ws) (x1 : Int32) : MetH l g yL_quote cL_quote 4 (some .int) [(0, 9, 12, 13), (0, 9, 15, 15)] ({ frames := 8, cells := 4, slots := 250, locals := 223 } : Room) [.ref a0, .int x1, .ref ao] (ws) (q_Qi g (fun r w => lP g a0 ao wr (kc (!inR x1 (N 1)) (B 0 (c32 x1) || decide (N 3 = 20)) false) (nI (N 3)) (va_up N 3 (N 3 + 1)) (va_up A 13 (upd (A 13) (N 3) x1)) B L N A B L r w)) := by
  refine q_metH (own := RL) (by decide +kernel) rfl (Nat.le_of_ble_eq_true rfl) (fun p e s m args below meth c cx hr htab => ?_)
  obtain ⟨fs, hth⟩ := cR_this hR
  refine r_lv (lv2 := [(0, .ref a0), (1, .int x1), (2, .ref ao)]) (q_pk [0, 1, 2] rfl) ?_
  refine r_aload_n cx dL_quote_0 rfl rfl ?_
  refine r_iconst (v := nI 0) cx dL_quote_1 (by decide) ?_
  refine r_aload_n cx dL_quote_2 rfl rfl ?_
  refine r_iload_n cx dL_quote_3 rfl rfl ?_
  refine k_L_69 cx (c_quote l hl g N A B L _ ws a0 hI hR x1) dL_quote_4 8 hth ⟨Nat.le_of_ble_eq_true rfl, Nat.le_of_ble_eq_true rfl⟩ ⟨Nat.le_of_ble_eq_true rfl, Nat.le_of_ble_eq_true rfl⟩ rfl rfl (Nat.le_of_ble_eq_true rfl) (fun E u hp9 H9 locs9 ls9 q9 ce9 hP9 hD9 hS9 hl9 hc9 hv9 hcl9 => ?_) (fun r u hp => ?_)
  · obtain ⟨(⟨rfl, hk⟩ | ⟨rfl, hk⟩), rfl⟩ := hp9
    · exact vx_catch cx.1.2.2.2.1 [] ⟨0, 9, 12, 13⟩ [⟨0, 9, 15, 15⟩] htab (fun z hz => nomatch hz) rfl (by decide) (cx.ok tb_105) (cx.nok tn_116) hc9 hv9 hcl9 ((r_astore_n cx dL_quote_12 rfl (by decide) rfl (r_iconst (v := nI 1) cx dL_quote_13 (by decide) (r_iret cx dL_quote_14 hr ⟨by rw [hk], _, Or.inr ⟨by rw [hk]; decide, hR⟩⟩ (Nat.le_of_ble_eq_true rfl) (Nat.le_of_ble_eq_true rfl)))) H9 locs9 ls9 hP9 hD9 hS9 hl9)
    · exact vx_catch cx.1.2.2.2.1 [⟨0, 9, 12, 13⟩] ⟨0, 9, 15, 15⟩ [] htab (fun z hz => by
        obtain rfl := List.mem_singleton.mp hz
        exact Or.inr ⟨by decide, _, cx.ok tb_105, cx.2.1.2.2.2.2.1 ("java/lang/IllegalStateException", "java/lang/IndexOutOfBoundsException") (by simp [NCP])⟩) rfl (by decide) (cx.ok tb_106) (cx.nok tn_184) hc9 hv9 hcl9 ((r_astore_n cx dL_quote_15 rfl (by decide) rfl (r_iconst (v := nI 2) cx dL_quote_16 (by decide) (r_iret cx dL_quote_17 hr ⟨by rw [hk], _, Or.inr ⟨by rw [hk]; decide, hR⟩⟩ (Nat.le_of_ble_eq_true rfl) (Nat.le_of_ble_eq_true rfl)))) H9 locs9 ls9 hP9 hD9 hS9 hl9)
  obtain ⟨hk, rfl, hR2⟩ := hp
  refine r_i2l cx dL_quote_7 rfl ?_
  refine r_lastN cx 9 1 dL_quote_8 (cR_out hR2).1 rfl (by decide) (by decide) ?_
  refine r_goto (tgt := 18) cx dL_quote_9 (by decide) ?_
  refine r_iconst (v := nI 0) cx dL_quote_18 (by decide) ?_
  exact r_iret cx dL_quote_19 hr (⟨by rw [hk], _, Or.inl ⟨hk, pk_uLs, (cR_out hR2).2 _⟩⟩) (Nat.le_of_ble_eq_true rfl) (Nat.le_of_ble_eq_true rfl)
set_option maxHeartbeats 4000000 in
set_option maxRecDepth 100000 in
theorem c_Lquoted (l : Launch) (g : q_G) (hl : l.stackTraces = false) (N : Nat → Nat) (A : Nat → Nat → Int32) (B : Nat → Nat → Bool) (L : Nat → Nat → Int64) (wr ws : va_W) (a0 ao : Nat) (f0 : Nat → Int64) (hI : inv N A B L) (hR : cR g a0 N A B L ((ao, .inl (q_cJ g, 1, .inr (.inl f0))) :: wr) ws) (x1 : Int32) : MetH l g yL_quoted cL_quoted 4 (some .int) [(0, 9, 12, 13)] ({ frames := 7, cells := 4, slots := 250, locals := 111 } : Room) [.ref a0, .int x1, .ref ao] (ws) (q_Qi g (fun r w => lP g a0 ao wr (kc (!inR x1 (N 3)) false false) ((if B 0 (c32 (A 13 (c32 x1))) then -1 else A 5 (c32 (A 13 (c32 x1))))) N A B L N A B L r w)) := by
  refine q_metH (own := RL) (by decide +kernel) rfl (Nat.le_of_ble_eq_true rfl) (fun p e s m args below meth c cx hr htab => ?_)
  obtain ⟨fs, hth⟩ := cR_this hR
  refine r_lv (lv2 := [(0, .ref a0), (1, .int x1), (2, .ref ao)]) (q_pk [0, 1, 2] rfl) ?_
  refine r_aload_n cx dL_quoted_0 rfl rfl ?_
  refine r_iconst (v := nI 0) cx dL_quoted_1 (by decide) ?_
  refine r_aload_n cx dL_quoted_2 rfl rfl ?_
  refine r_iload_n cx dL_quoted_3 rfl rfl ?_
  refine k_L_72 cx (c_quoted l hl g N A B L _ ws a0 hI hR x1) dL_quoted_4 8 hth ⟨Nat.le_of_ble_eq_true rfl, Nat.le_of_ble_eq_true rfl⟩ ⟨Nat.le_of_ble_eq_true rfl, Nat.le_of_ble_eq_true rfl⟩ rfl rfl (Nat.le_of_ble_eq_true rfl) (fun E u hp9 H9 locs9 ls9 q9 ce9 hP9 hD9 hS9 hl9 hc9 hv9 hcl9 => ?_) (fun r u hp => ?_)
  · obtain ⟨⟨rfl, hk⟩, rfl⟩ := hp9
    · exact vx_catch cx.1.2.2.2.1 [] ⟨0, 9, 12, 13⟩ [] htab (fun z hz => nomatch hz) rfl (by decide) (cx.ok tb_105) (cx.nok tn_116) hc9 hv9 hcl9 ((r_astore_n cx dL_quoted_12 rfl (by decide) rfl (r_iconst (v := nI 1) cx dL_quoted_13 (by decide) (r_iret cx dL_quoted_14 hr ⟨by rw [hk], _, Or.inr ⟨by rw [hk]; decide, hR⟩⟩ (Nat.le_of_ble_eq_true rfl) (Nat.le_of_ble_eq_true rfl)))) H9 locs9 ls9 hP9 hD9 hS9 hl9)
  obtain ⟨hk, rfl, rfl⟩ := hp
  have hR2 := hR
  refine r_i2l cx dL_quoted_7 rfl ?_
  refine r_lastN cx 9 1 dL_quoted_8 (cR_out hR2).1 rfl (by decide) (by decide) ?_
  refine r_goto (tgt := 15) cx dL_quoted_9 (by decide) ?_
  refine r_iconst (v := nI 0) cx dL_quoted_15 (by decide) ?_
  exact r_iret cx dL_quoted_16 hr (⟨by rw [hk], _, Or.inl ⟨hk, pk_uLs, (cR_out hR2).2 _⟩⟩) (Nat.le_of_ble_eq_true rfl) (Nat.le_of_ble_eq_true rfl)
