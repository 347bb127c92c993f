theorem q_metH {g : q_G} {l : Launch} {own : String} {ws : va_W} {y : MethodName} {bytes : ByteArray} {maxL : Nat} {ret : Option FieldType} {hh : List (Nat × Nat × Nat × Nat)} {rm : Room} {av : List Value} {Qc : Array Value → State → Outcome → State → Prop} (hy : plainName y.cls = true) (hown : y.cls = own) (hlen : (lg_sl av).length ≤ maxL)
    (body : ∀ (p : Program) (e : Env) (s : State) (m : MethodId) (args : Array Value) (below : List Frame) (meth : Method) (c : Code), q_cx g p m c bytes maxL s args own meth → meth.sig.returnType = ret → (c.exceptionTable.toList = tableOf hh) → AT p l e rm s m args below meth c g maxL (MQ below Qc args s rm.cells rm.slots (q_A g)) 0 0 0 (lv_args 0 av) [] ws) : MetH l g y bytes maxL ret hh rm av ws Qc := by
  refine MetFree.of_bodyS (code := bytes) (maxLocals := maxL) (ret := ret) hy ?_ ?_
  · intro args s m h hn
    obtain ⟨m9, meth, c, hn9, h1, h2, h3, h4, -, h5, h6, -⟩ := Cond.codeWith_spec (atoms_spec (ws := Cond.codeWith y bytes maxL ret hh :: WS) h _ List.mem_cons_self)
    cases hn.symm.trans hn9
    exact ⟨meth, c, h1, h2, h3, h4, h5, h6⟩
  · intro p e s m args below meth c s₁ B hml hP _
    have hh0 : s₁.heap = s.heap := by rw [B.state]; rfl
    have hts := atoms_spec (ws := Cond.codeWith y bytes maxL ret hh :: WS) B.pre
    have htab := vx_table (x := y) B (hts _ List.mem_cons_self)
    have hb : W p l e (headSpec (Cond.codeWith y bytes maxL ret hh :: WS) rm).room s m args below meth c s.heap [] 0 0 (MQ below Qc args s rm.cells rm.slots (q_A g)) (entryFrame m args maxL) := by
      obtain ⟨rfl, hE, hI⟩ := hP
      rw [lg_entry_eq]
      exact body p e s m _ below meth c ⟨⟨B.exec, B.bytes, hml, hown ▸ findClass_of_methodNamed B.named, fun w hw => hts w (List.mem_cons_of_mem _ hw)⟩, hE, B.notSynchronized⟩ B.returns htab s.heap [] _ hI.1 hI.2 va_S.rf (lv_entry av hlen)
    obtain ⟨t, a1, oc, b1, b2, b3⟩ := hb s₁ hh0 (Stand.of_body B)
    exact ⟨t, oc, a1, b1, b2, ⟨b3.1, b3.2⟩⟩
set_option maxHeartbeats 4000000 in
set_option maxRecDepth 100000 in
theorem c_Csound (l : Launch) (g : q_G) (hl : l.stackTraces = false) (N : Nat → Nat) (A : Nat → Nat → Int32) (B : Nat → Nat → Bool) (L : Nat → Nat → Int64) (wm ws : va_W) (a0 : Nat) (hI : inv N A B L) (hR : cR g a0 N A B L wm ws) (x1 x2 x3 x4 : Int32) (hk1 : (kc (!inR x1 8) (decide (N 0 = 8)) false) ≠ 1)  : MetH l g yL_calls cL_calls 7 (some .int) [(0, 62, 63, 30)] ({ frames := 7, cells := 4, slots := 250, locals := 111 } : Room) [.ref a0, .int (nI 0), .int x1, .int x2, .int x3, .int x4] (ws) (q_Qi g (fun r w => ((kc (!inR x1 8) (decide (N 0 = 8)) false) = 0 ∧ r = nI (N 0 + 1) ∧ cR g a0 (va_up N 0 (N 0 + 1)) (va_up A 0 (upd (A 0) (N 0) x1)) B (L) wm w) ∨ ((kc (!inR x1 8) (decide (N 0 = 8)) false) ≠ 0 ∧ r = -3 ∧ cR g a0 N A B L wm w))) := by
  refine q_metH (own := RL) (by decide +kernel) rfl (Nat.le_of_ble_eq_true rfl) (fun p e s m args below meth c cx hr htab => ?_)
  obtain ⟨fs, hth⟩ := cR_this hR
  refine r_lv (lv2 := [(0, .ref a0), (1, .int (nI 0)), (2, .int x1), (3, .int x2), (4, .int x3), (5, .int x4)]) (q_pk [0, 1, 2, 3, 4, 5] rfl) ?_
  refine r_iload_n cx dL_calls_0 rfl rfl ?_
  refine r_ifneN (tgt := 12) cx (by omega) dL_calls_1 (by decide) (fun h_1 => ?_) (fun h_1 => ?_)
  · exact absurd rfl h_1
  · skip
    refine r_aload_n cx dL_calls_4 rfl rfl ?_
    refine r_iload_n cx dL_calls_5 rfl rfl ?_
    refine k_L_10 cx (c_sound l hl g N A B L _ ws a0 hI hR x1) dL_calls_6 8 hth ⟨Nat.le_of_ble_eq_true rfl, Nat.le_of_ble_eq_true rfl⟩ ⟨Nat.le_of_ble_eq_true rfl, Nat.le_of_ble_eq_true rfl⟩ rfl rfl (Nat.le_of_ble_eq_true rfl) (fun E u hp9 H9 locs9 ls9 q9 ce9 hP9 hD9 hS9 hl9 hc9 hv9 hcl9 => ?_) (fun r u hp => ?_)
    · obtain ⟨(⟨rfl, hk⟩ | ⟨rfl, hk⟩), rfl⟩ := hp9
      · exact absurd hk hk1
      · exact vx_catch cx.1.2.2.2.1 [] ⟨0, 62, 63, 30⟩ [] htab (fun z hz => nomatch hz) rfl (by decide) (cx.ok tb_351) (cx.nok tn_359) hc9 hv9 hcl9 ((r_astore cx dL_calls_63 (by decide) rfl (r_bipush (v := -3) cx dL_calls_65 (by decide) (r_iret cx dL_calls_67 hr (Or.inr ⟨by rw [hk]; decide, rfl, hR⟩) (Nat.le_of_ble_eq_true rfl) (Nat.le_of_ble_eq_true rfl)))) H9 locs9 ls9 hP9 hD9 hS9 hl9)
    obtain ⟨hk, rfl, hR2⟩ := hp
    refine r_goto (tgt := 62) cx dL_calls_9 (by decide) ?_
    exact r_iret cx dL_calls_62 hr (Or.inl ⟨hk, rfl, hR2⟩) (Nat.le_of_ble_eq_true rfl) (Nat.le_of_ble_eq_true rfl)
set_option maxHeartbeats 4000000 in
set_option maxRecDepth 100000 in
theorem c_Cinterview (l : Launch) (g : q_G) (hl : l.stackTraces = false) (N : Nat → Nat) (A : Nat → Nat → Int32) (B : Nat → Nat → Bool) (L : Nat → Nat → Int64) (wm ws : va_W) (a0 : Nat) (hI : inv N A B L) (hR : cR g a0 N A B L wm ws) (x1 x2 x3 x4 : Int32) (hk1 : (kc (!(inR x1 8 && inR x2 10 && inR x4 4)) (!inR x3 301) (decide (N 0 = 0) || decide (N 1 = 40))) ≠ 1) (hk2 : (kc (!(inR x1 8 && inR x2 10 && inR x4 4)) (!inR x3 301) (decide (N 0 = 0) || decide (N 1 = 40))) ≠ 2)  : MetH l g yL_calls cL_calls 7 (some .int) [(0, 62, 63, 30)] ({ frames := 8, cells := 4, slots := 250, locals := 227 } : Room) [.ref a0, .int (nI 1), .int x1, .int x2, .int x3, .int x4] (ws) (q_Qi g (fun r w => ((kc (!(inR x1 8 && inR x2 10 && inR x4 4)) (!inR x3 301) (decide (N 0 = 0) || decide (N 1 = 40))) = 0 ∧ r = nI (N 1) ∧ cR g a0 (va_up (va_up N 1 (N 1 + 1)) 0 0) (ivA A (N 1) x1 x2 x3 x4 (nI (num (drL (A 0) (N 0))))) B (L) wm w) ∨ ((kc (!(inR x1 8 && inR x2 10 && inR x4 4)) (!inR x3 301) (decide (N 0 = 0) || decide (N 1 = 40))) ≠ 0 ∧ r = -3 ∧ cR g a0 N A B L wm w))) := by
  refine q_metH (own := RL) (by decide +kernel) rfl (Nat.le_of_ble_eq_true rfl) (fun p e s m args below meth c cx hr htab => ?_)
  obtain ⟨fs, hth⟩ := cR_this hR
  refine r_lv (lv2 := [(0, .ref a0), (1, .int (nI 1)), (2, .int x1), (3, .int x2), (4, .int x3), (5, .int x4)]) (q_pk [0, 1, 2, 3, 4, 5] rfl) ?_
  refine r_iload_n cx dL_calls_0 rfl rfl ?_
  refine r_ifneN (tgt := 12) cx (by omega) dL_calls_1 (by decide) (fun h_1 => ?_) (fun h_1 => ?_)
  · skip
    refine r_iload_n cx dL_calls_12 rfl rfl ?_
    refine r_iconst (v := nI 1) cx dL_calls_13 (by decide) ?_
    refine r_icmpneN (tgt := 30) cx (by omega) (by omega) dL_calls_14 (by decide) (fun h_14 => ?_) (fun h_14 => ?_)
    · exact absurd rfl h_14
    · skip
      refine r_aload_n cx dL_calls_17 rfl rfl ?_
      refine r_iload_n cx dL_calls_18 rfl rfl ?_
      refine r_iload_n cx dL_calls_19 rfl rfl ?_
      refine r_iload cx dL_calls_20 rfl ?_
      refine r_iload cx dL_calls_22 rfl ?_
      refine k_L_16 cx (c_interview l hl g N A B L _ ws a0 hI hR x1 x2 x3 x4) dL_calls_24 8 hth ⟨Nat.le_of_ble_eq_true rfl, Nat.le_of_ble_eq_true rfl⟩ ⟨Nat.le_of_ble_eq_true rfl, Nat.le_of_ble_eq_true rfl⟩ rfl rfl (Nat.le_of_ble_eq_true rfl) (fun E u hp9 H9 locs9 ls9 q9 ce9 hP9 hD9 hS9 hl9 hc9 hv9 hcl9 => ?_) (fun r u hp => ?_)
      · obtain ⟨(⟨rfl, hk⟩ | ⟨rfl, hk⟩ | ⟨rfl, hk⟩), rfl⟩ := hp9
        · exact absurd hk hk1
        · exact absurd hk hk2
        · exact vx_catch cx.1.2.2.2.1 [] ⟨0, 62, 63, 30⟩ [] htab (fun z hz => nomatch hz) rfl (by decide) (cx.ok tb_351) (cx.nok tn_359) hc9 hv9 hcl9 ((r_astore cx dL_calls_63 (by decide) rfl (r_bipush (v := -3) cx dL_calls_65 (by decide) (r_iret cx dL_calls_67 hr (Or.inr ⟨by rw [hk]; decide, rfl, hR⟩) (Nat.le_of_ble_eq_true rfl) (Nat.le_of_ble_eq_true rfl)))) H9 locs9 ls9 hP9 hD9 hS9 hl9)
      obtain ⟨hk, rfl, hR2⟩ := hp
      refine r_goto (tgt := 62) cx dL_calls_27 (by decide) ?_
      exact r_iret cx dL_calls_62 hr (Or.inl ⟨hk, rfl, hR2⟩) (Nat.le_of_ble_eq_true rfl) (Nat.le_of_ble_eq_true rfl)
  · exact absurd h_1 (by decide)
set_option maxHeartbeats 4000000 in
set_option maxRecDepth 100000 in
theorem c_CsetRoot (l : Launch) (g : q_G) (hl : l.stackTraces = false) (N : Nat → Nat) (A : Nat → Nat → Int32) (B : Nat → Nat → Bool) (L : Nat → Nat → Int64) (wm ws : va_W) (a0 : Nat) (hI : inv N A B L) (hR : cR g a0 N A B L wm ws) (x1 x2 x3 x4 : Int32) (hk1 : (kc (!inR x1 4) (decide (N 0 = 0)) false) ≠ 1)  : MetH l g yL_calls cL_calls 7 (some .int) [(0, 62, 63, 30)] ({ frames := 7, cells := 4, slots := 250, locals := 112 } : Room) [.ref a0, .int (nI 2), .int x1, .int x2, .int x3, .int x4] (ws) (q_Qi g (fun r w => ((kc (!inR x1 4) (decide (N 0 = 0)) false) = 0 ∧ r = A 6 (c32 x1) ∧ cR g a0 (va_up N 0 0) (va_up A 6 (upd (A 6) (c32 x1) (nI (num (drL (A 0) (N 0)))))) B (L) wm w) ∨ ((kc (!inR x1 4) (decide (N 0 = 0)) false) ≠ 0 ∧ r = -3 ∧ cR g a0 N A B L wm w))) := by
  refine q_metH (own := RL) (by decide +kernel) rfl (Nat.le_of_ble_eq_true rfl) (fun p e s m args below meth c cx hr htab => ?_)
  obtain ⟨fs, hth⟩ := cR_this hR
  refine r_lv (lv2 := [(0, .ref a0), (1, .int (nI 2)), (2, .int x1), (3, .int x2), (4, .int x3), (5, .int x4)]) (q_pk [0, 1, 2, 3, 4, 5] rfl) ?_
  refine r_iload_n cx dL_calls_0 rfl rfl ?_
  refine r_ifneN (tgt := 12) cx (by omega) dL_calls_1 (by decide) (fun h_1 => ?_) (fun h_1 => ?_)
  · skip
    refine r_iload_n cx dL_calls_12 rfl rfl ?_
    refine r_iconst (v := nI 1) cx dL_calls_13 (by decide) ?_
    refine r_icmpneN (tgt := 30) cx (by omega) (by omega) dL_calls_14 (by decide) (fun h_14 => ?_) (fun h_14 => ?_)
    · skip
      refine r_iload_n cx dL_calls_30 rfl rfl ?_
      refine r_iconst (v := nI 2) cx dL_calls_31 (by decide) ?_
      refine r_icmpneN (tgt := 43) cx (by omega) (by omega) dL_calls_32 (by decide) (fun h_32 => ?_) (fun h_32 => ?_)
      · exact absurd rfl h_32
      · skip
        refine r_aload_n cx dL_calls_35 rfl rfl ?_
        refine r_iload_n cx dL_calls_36 rfl rfl ?_
        refine k_L_20 cx (c_setRoot l hl g N A B L _ ws a0 hI hR x1) dL_calls_37 8 hth ⟨Nat.le_of_ble_eq_true rfl, Nat.le_of_ble_eq_true rfl⟩ ⟨Nat.le_of_ble_eq_true rfl, Nat.le_of_ble_eq_true rfl⟩ rfl rfl (Nat.le_of_ble_eq_true rfl) (fun E u hp9 H9 locs9 ls9 q9 ce9 hP9 hD9 hS9 hl9 hc9 hv9 hcl9 => ?_) (fun r u hp => ?_)
        · obtain ⟨(⟨rfl, hk⟩ | ⟨rfl, hk⟩), rfl⟩ := hp9
          · exact absurd hk hk1
          · exact vx_catch cx.1.2.2.2.1 [] ⟨0, 62, 63, 30⟩ [] htab (fun z hz => nomatch hz) rfl (by decide) (cx.ok tb_351) (cx.nok tn_359) hc9 hv9 hcl9 ((r_astore cx dL_calls_63 (by decide) rfl (r_bipush (v := -3) cx dL_calls_65 (by decide) (r_iret cx dL_calls_67 hr (Or.inr ⟨by rw [hk]; decide, rfl, hR⟩) (Nat.le_of_ble_eq_true rfl) (Nat.le_of_ble_eq_true rfl)))) H9 locs9 ls9 hP9 hD9 hS9 hl9)
        obtain ⟨hk, rfl, hR2⟩ := hp
        refine r_goto (tgt := 62) cx dL_calls_40 (by decide) ?_
        exact r_iret cx dL_calls_62 hr (Or.inl ⟨hk, rfl, hR2⟩) (Nat.le_of_ble_eq_true rfl) (Nat.le_of_ble_eq_true rfl)
    · exact absurd h_14 (by decide)
  · exact absurd h_1 (by decide)
set_option maxHeartbeats 4000000 in
set_option maxRecDepth 100000 in
theorem c_Crest (l : Launch) (g : q_G) (hl : l.stackTraces = false) (N : Nat → Nat) (A : Nat → Nat → Int32) (B : Nat → Nat → Bool) (L : Nat → Nat → Int64) (wm ws : va_W) (a0 : Nat) (hI : inv N A B L) (hR : cR g a0 N A B L wm ws) (x1 x2 x3 x4 : Int32) (hk1 : (kc (!(inR x1 (N 2) && inR x2 (N 1))) (B 1 (c32 x1) || B 0 (c32 x2) || hasB (L 0 (c32 x1)) (lN (2 ^ c32 x2))) false) ≠ 1)  : MetH l g yL_calls cL_calls 7 (some .int) [(0, 62, 63, 30)] ({ frames := 7, cells := 4, slots := 250, locals := 114 } : Room) [.ref a0, .int (nI 3), .int x1, .int x2, .int x3, .int x4] (ws) (q_Qi g (fun r w => ((kc (!(inR x1 (N 2) && inR x2 (N 1))) (B 1 (c32 x1) || B 0 (c32 x2) || hasB (L 0 (c32 x1)) (lN (2 ^ c32 x2))) false) = 0 ∧ r = nI (bcL (L 0 (c32 x1) ||| lN (2 ^ c32 x2))) ∧ cR g a0 (N) (A) B (va_up L 0 (vp_updL (L 0) (c32 x1) (L 0 (c32 x1) ||| lN (2 ^ c32 x2)))) wm w) ∨ ((kc (!(inR x1 (N 2) && inR x2 (N 1))) (B 1 (c32 x1) || B 0 (c32 x2) || hasB (L 0 (c32 x1)) (lN (2 ^ c32 x2))) false) ≠ 0 ∧ r = -3 ∧ cR g a0 N A B L wm w))) := by
  refine q_metH (own := RL) (by decide +kernel) rfl (Nat.le_of_ble_eq_true rfl) (fun p e s m args below meth c cx hr htab => ?_)
  obtain ⟨fs, hth⟩ := cR_this hR
  refine r_lv (lv2 := [(0, .ref a0), (1, .int (nI 3)), (2, .int x1), (3, .int x2), (4, .int x3), (5, .int x4)]) (q_pk [0, 1, 2, 3, 4, 5] rfl) ?_
  refine r_iload_n cx dL_calls_0 rfl rfl ?_
  refine r_ifneN (tgt := 12) cx (by omega) dL_calls_1 (by decide) (fun h_1 => ?_) (fun h_1 => ?_)
  · skip
    refine r_iload_n cx dL_calls_12 rfl rfl ?_
    refine r_iconst (v := nI 1) cx dL_calls_13 (by decide) ?_
    refine r_icmpneN (tgt := 30) cx (by omega) (by omega) dL_calls_14 (by decide) (fun h_14 => ?_) (fun h_14 => ?_)
    · skip
      refine r_iload_n cx dL_calls_30 rfl rfl ?_
      refine r_iconst (v := nI 2) cx dL_calls_31 (by decide) ?_
      refine r_icmpneN (tgt := 43) cx (by omega) (by omega) dL_calls_32 (by decide) (fun h_32 => ?_) (fun h_32 => ?_)
      · skip
        refine r_iload_n cx dL_calls_43 rfl rfl ?_
        refine r_iconst (v := nI 3) cx dL_calls_44 (by decide) ?_
        refine r_icmpneN (tgt := 57) cx (by omega) (by omega) dL_calls_45 (by decide) (fun h_45 => ?_) (fun h_45 => ?_)
        · exact absurd rfl h_45
        · skip
          refine r_aload_n cx dL_calls_48 rfl rfl ?_
          refine r_iload_n cx dL_calls_49 rfl rfl ?_
          refine r_iload_n cx dL_calls_50 rfl rfl ?_
          refine k_L_23 cx (c_rest l hl g N A B L _ ws a0 hI hR x1 x2) dL_calls_51 8 hth ⟨Nat.le_of_ble_eq_true rfl, Nat.le_of_ble_eq_true rfl⟩ ⟨Nat.le_of_ble_eq_true rfl, Nat.le_of_ble_eq_true rfl⟩ rfl rfl (Nat.le_of_ble_eq_true rfl) (fun E u hp9 H9 locs9 ls9 q9 ce9 hP9 hD9 hS9 hl9 hc9 hv9 hcl9 => ?_) (fun r u hp => ?_)
          · obtain ⟨(⟨rfl, hk⟩ | ⟨rfl, hk⟩), rfl⟩ := hp9
            · exact absurd hk hk1
            · exact vx_catch cx.1.2.2.2.1 [] ⟨0, 62, 63, 30⟩ [] htab (fun z hz => nomatch hz) rfl (by decide) (cx.ok tb_351) (cx.nok tn_359) hc9 hv9 hcl9 ((r_astore cx dL_calls_63 (by decide) rfl (r_bipush (v := -3) cx dL_calls_65 (by decide) (r_iret cx dL_calls_67 hr (Or.inr ⟨by rw [hk]; decide, rfl, hR⟩) (Nat.le_of_ble_eq_true rfl) (Nat.le_of_ble_eq_true rfl)))) H9 locs9 ls9 hP9 hD9 hS9 hl9)
          obtain ⟨hk, rfl, hR2⟩ := hp
          refine r_goto (tgt := 62) cx dL_calls_54 (by decide) ?_
          exact r_iret cx dL_calls_62 hr (Or.inl ⟨hk, rfl, hR2⟩) (Nat.le_of_ble_eq_true rfl) (Nat.le_of_ble_eq_true rfl)
      · exact absurd h_32 (by decide)
    · exact absurd h_14 (by decide)
  · exact absurd h_1 (by decide)
set_option maxHeartbeats 4000000 in
set_option maxRecDepth 100000 in
theorem c_Cquote (l : Launch) (g : q_G) (hl : l.stackTraces = false) (N : Nat → Nat) (A : Nat → Nat → Int32) (B : Nat → Nat → Bool) (L : Nat → Nat → Int64) (wm ws : va_W) (a0 : Nat) (hI : inv N A B L) (hR : cR g a0 N A B L wm ws) (x1 x2 x3 x4 : Int32) (hk1 : (kc (!inR x1 (N 1)) (B 0 (c32 x1) || decide (N 3 = 20)) false) ≠ 1)  : MetH l g yL_calls cL_calls 7 (some .int) [(0, 62, 63, 30)] ({ frames := 8, cells := 4, slots := 250, locals := 223 } : Room) [.ref a0, .int (nI 4), .int x1, .int x2, .int x3, .int x4] (ws) (q_Qi g (fun r w => ((kc (!inR x1 (N 1)) (B 0 (c32 x1) || decide (N 3 = 20)) false) = 0 ∧ r = nI (N 3) ∧ cR g a0 (va_up N 3 (N 3 + 1)) (va_up A 13 (upd (A 13) (N 3) x1)) B (L) wm w) ∨ ((kc (!inR x1 (N 1)) (B 0 (c32 x1) || decide (N 3 = 20)) false) ≠ 0 ∧ r = -3 ∧ cR g a0 N A B L wm w))) := by
  refine q_metH (own := RL) (by decide +kernel) rfl (Nat.le_of_ble_eq_true rfl) (fun p e s m args below meth c cx hr htab => ?_)
  obtain ⟨fs, hth⟩ := cR_this hR
  refine r_lv (lv2 := [(0, .ref a0), (1, .int (nI 4)), (2, .int x1), (3, .int x2), (4, .int x3), (5, .int x4)]) (q_pk [0, 1, 2, 3, 4, 5] rfl) ?_
  refine r_iload_n cx dL_calls_0 rfl rfl ?_
  refine r_ifneN (tgt := 12) cx (by omega) dL_calls_1 (by decide) (fun h_1 => ?_) (fun h_1 => ?_)
  · skip
    refine r_iload_n cx dL_calls_12 rfl rfl ?_
    refine r_iconst (v := nI 1) cx dL_calls_13 (by decide) ?_
    refine r_icmpneN (tgt := 30) cx (by omega) (by omega) dL_calls_14 (by decide) (fun h_14 => ?_) (fun h_14 => ?_)
    · skip
      refine r_iload_n cx dL_calls_30 rfl rfl ?_
      refine r_iconst (v := nI 2) cx dL_calls_31 (by decide) ?_
      refine r_icmpneN (tgt := 43) cx (by omega) (by omega) dL_calls_32 (by decide) (fun h_32 => ?_) (fun h_32 => ?_)
      · skip
        refine r_iload_n cx dL_calls_43 rfl rfl ?_
        refine r_iconst (v := nI 3) cx dL_calls_44 (by decide) ?_
        refine r_icmpneN (tgt := 57) cx (by omega) (by omega) dL_calls_45 (by decide) (fun h_45 => ?_) (fun h_45 => ?_)
        · skip
          refine r_aload_n cx dL_calls_57 rfl rfl ?_
          refine r_iload_n cx dL_calls_58 rfl rfl ?_
          refine k_L_27 cx (c_quote l hl g N A B L _ ws a0 hI hR x1) dL_calls_59 8 hth ⟨Nat.le_of_ble_eq_true rfl, Nat.le_of_ble_eq_true rfl⟩ ⟨Nat.le_of_ble_eq_true rfl, Nat.le_of_ble_eq_true rfl⟩ rfl rfl (Nat.le_of_ble_eq_true rfl) (fun E u hp9 H9 locs9 ls9 q9 ce9 hP9 hD9 hS9 hl9 hc9 hv9 hcl9 => ?_) (fun r u hp => ?_)
          · obtain ⟨(⟨rfl, hk⟩ | ⟨rfl, hk⟩), rfl⟩ := hp9
            · exact absurd hk hk1
            · exact vx_catch cx.1.2.2.2.1 [] ⟨0, 62, 63, 30⟩ [] htab (fun z hz => nomatch hz) rfl (by decide) (cx.ok tb_351) (cx.nok tn_359) hc9 hv9 hcl9 ((r_astore cx dL_calls_63 (by decide) rfl (r_bipush (v := -3) cx dL_calls_65 (by decide) (r_iret cx dL_calls_67 hr (Or.inr ⟨by rw [hk]; decide, rfl, hR⟩) (Nat.le_of_ble_eq_true rfl) (Nat.le_of_ble_eq_true rfl)))) H9 locs9 ls9 hP9 hD9 hS9 hl9)
          obtain ⟨hk, rfl, hR2⟩ := hp
          exact r_iret cx dL_calls_62 hr (Or.inl ⟨hk, rfl, hR2⟩) (Nat.le_of_ble_eq_true rfl) (Nat.le_of_ble_eq_true rfl)
        · exact absurd h_45 (by decide)
      · exact absurd h_32 (by decide)
    · exact absurd h_14 (by decide)
  · exact absurd h_1 (by decide)
