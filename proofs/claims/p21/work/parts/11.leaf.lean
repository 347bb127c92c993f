set_option maxHeartbeats 4000000 in
set_option maxRecDepth 100000 in
theorem c_isOutside (l : Launch) (g : q_G) (ws : va_W) (x : Int32) (n : Nat) (hn : n < 2147483648) : MetW l g yX3_isOutside cX3_isOutside 2 (some .boolean) ({ frames := 0, cells := 0, slots := 0, locals := 0 } : Room) [.int x, .int (nI n)] (ws) (q_Qi g (fun r w => r = bI (!inR x n) ∧ w = ws)) := by
  refine q_met (own := RX3) (by decide +kernel) rfl (Nat.le_of_ble_eq_true rfl) (fun p e s m args below meth c cx hr hnm => ?_)
  refine r_lv (lv2 := [(0, .int x), (1, .int (nI n))]) (q_pk [0, 1] rfl) ?_
  refine r_iload_n cx dX3_isOutside_0 rfl rfl ?_
  refine r_iflt (tgt := 9) cx dX3_isOutside_1 (by decide) (fun h_1 => ?_) (fun h_1 => ?_)
  · skip
    refine r_iconst (v := nI 1) cx dX3_isOutside_9 (by decide) ?_
    refine r_goto (tgt := 14) cx dX3_isOutside_10 (by decide) ?_
    exact r_zret cx dX3_isOutside_14 hr rfl (⟨by first | (rw [inR_f1 h_1]; rfl) | (rw [inR_f2 hn h_6]; rfl) | (rw [inR_t hn h_1 h_6]; rfl), rfl⟩) (Nat.le_of_ble_eq_true rfl) (Nat.le_of_ble_eq_true rfl)
  · skip
    refine r_iload_n cx dX3_isOutside_4 rfl rfl ?_
    refine r_iload_n cx dX3_isOutside_5 rfl rfl ?_
    refine r_icmplt (tgt := 13) cx dX3_isOutside_6 (by decide) (fun h_6 => ?_) (fun h_6 => ?_)
    · skip
      refine r_iconst (v := nI 0) cx dX3_isOutside_13 (by decide) ?_
      exact r_zret cx dX3_isOutside_14 hr rfl (⟨by first | (rw [inR_f1 h_1]; rfl) | (rw [inR_f2 hn h_6]; rfl) | (rw [inR_t hn h_1 h_6]; rfl), rfl⟩) (Nat.le_of_ble_eq_true rfl) (Nat.le_of_ble_eq_true rfl)
    · skip
      refine r_iconst (v := nI 1) cx dX3_isOutside_9 (by decide) ?_
      refine r_goto (tgt := 14) cx dX3_isOutside_10 (by decide) ?_
      exact r_zret cx dX3_isOutside_14 hr rfl (⟨by first | (rw [inR_f1 h_1]; rfl) | (rw [inR_f2 hn h_6]; rfl) | (rw [inR_t hn h_1 h_6]; rfl), rfl⟩) (Nat.le_of_ble_eq_true rfl) (Nat.le_of_ble_eq_true rfl)
set_option maxHeartbeats 4000000 in
set_option maxRecDepth 100000 in
theorem c_canStandBehind (l : Launch) (g : q_G) (ws : va_W) (x : Int32) : MetW l g yX3_canStandBehind cX3_canStandBehind 1 (some .boolean) ({ frames := 1, cells := 0, slots := 0, locals := 21 } : Room) [.int x] (ws) (q_Qi g (fun r w => r = bI (inR x 10) ∧ w = ws)) := by
  refine q_met (own := RX3) (by decide +kernel) rfl (Nat.le_of_ble_eq_true rfl) (fun p e s m args below meth c cx hr hnm => ?_)
  refine r_lv (lv2 := [(0, .int x)]) (q_pk [0] rfl) ?_
  refine r_iload_n cx dX3_canStandBehind_0 rfl rfl ?_
  refine r_bipush (v := nI 8) cx dX3_canStandBehind_1 (by decide) ?_
  refine r_icmpeq (tgt := 21) cx dX3_canStandBehind_3 (by decide) (fun h_3 => ?_) (fun h_3 => ?_)
  · skip
    refine r_iconst (v := nI 1) cx dX3_canStandBehind_21 (by decide) ?_
    refine r_goto (tgt := 26) cx dX3_canStandBehind_22 (by decide) ?_
    exact r_zret cx dX3_canStandBehind_26 hr rfl (⟨by first | (rw [inR_10a h_3]; rfl) | (rw [inR_10b h_9]; rfl) | (rw [inR_10c h_3 h_9, (by simpa using h_18 : inR x 8 = true)]; rfl) | (rw [inR_10c h_3 h_9, (by simpa using h_18 : inR x 8 = false)]; rfl), rfl⟩) (Nat.le_of_ble_eq_true rfl) (Nat.le_of_ble_eq_true rfl)
  · skip
    refine r_iload_n cx dX3_canStandBehind_6 rfl rfl ?_
    refine r_bipush (v := nI 9) cx dX3_canStandBehind_7 (by decide) ?_
    refine r_icmpeq (tgt := 21) cx dX3_canStandBehind_9 (by decide) (fun h_9 => ?_) (fun h_9 => ?_)
    · skip
      refine r_iconst (v := nI 1) cx dX3_canStandBehind_21 (by decide) ?_
      refine r_goto (tgt := 26) cx dX3_canStandBehind_22 (by decide) ?_
      exact r_zret cx dX3_canStandBehind_26 hr rfl (⟨by first | (rw [inR_10a h_3]; rfl) | (rw [inR_10b h_9]; rfl) | (rw [inR_10c h_3 h_9, (by simpa using h_18 : inR x 8 = true)]; rfl) | (rw [inR_10c h_3 h_9, (by simpa using h_18 : inR x 8 = false)]; rfl), rfl⟩) (Nat.le_of_ble_eq_true rfl) (Nat.le_of_ble_eq_true rfl)
    · skip
      refine r_iload_n cx dX3_canStandBehind_12 rfl rfl ?_
      refine r_bipush (v := nI 8) cx dX3_canStandBehind_13 (by decide) ?_
      refine k_X3_57 cx (c_isOutside l g _ x 8 (by decide)) dX3_canStandBehind_15 ⟨Nat.le_of_ble_eq_true rfl, Nat.le_of_ble_eq_true rfl⟩ ⟨Nat.le_of_ble_eq_true rfl, Nat.le_of_ble_eq_true rfl⟩ rfl rfl (Nat.le_of_ble_eq_true rfl) (fun r w hp => ?_)
      obtain ⟨rfl, rfl⟩ := hp
      refine r_ifneb (tgt := 25) cx dX3_canStandBehind_18 (by decide) (fun h_18 => ?_) (fun h_18 => ?_)
      · skip
        refine r_iconst (v := nI 0) cx dX3_canStandBehind_25 (by decide) ?_
        exact r_zret cx dX3_canStandBehind_26 hr rfl (⟨by first | (rw [inR_10a h_3]; rfl) | (rw [inR_10b h_9]; rfl) | (rw [inR_10c h_3 h_9, (by simpa using h_18 : inR x 8 = true)]; rfl) | (rw [inR_10c h_3 h_9, (by simpa using h_18 : inR x 8 = false)]; rfl), rfl⟩) (Nat.le_of_ble_eq_true rfl) (Nat.le_of_ble_eq_true rfl)
      · skip
        refine r_iconst (v := nI 1) cx dX3_canStandBehind_21 (by decide) ?_
        refine r_goto (tgt := 26) cx dX3_canStandBehind_22 (by decide) ?_
        exact r_zret cx dX3_canStandBehind_26 hr rfl (⟨by first | (rw [inR_10a h_3]; rfl) | (rw [inR_10b h_9]; rfl) | (rw [inR_10c h_3 h_9, (by simpa using h_18 : inR x 8 = true)]; rfl) | (rw [inR_10c h_3 h_9, (by simpa using h_18 : inR x 8 = false)]; rfl), rfl⟩) (Nat.le_of_ble_eq_true rfl) (Nat.le_of_ble_eq_true rfl)
set_option maxHeartbeats 4000000 in
set_option maxRecDepth 100000 in
theorem c_takeDraft (l : Launch) (g : q_G) (wr : va_W) (a0 : Nat) (r0 r1 r2 r3 r4 r5 r6 : Value) (th : Int64) (dr dl : Int32) : MetW l g yX3_takeDraft cX3_takeDraft 2 (some .int) ({ frames := 0, cells := 0, slots := 0, locals := 0 } : Room) [.ref a0] ((a0, .inr (4, [r0, r1, r2, r3, r4, r5, r6, .long th, .int dr, .int dl])) :: wr) (q_Qi g (fun r w => r = dr ∧ w = (a0, .inr (4, [r0, r1, r2, r3, r4, r5, r6, .long th, .int 0, .int 0])) :: wr)) := by
  refine q_met (own := RX3) (by decide +kernel) rfl (Nat.le_of_ble_eq_true rfl) (fun p e s m args below meth c cx hr hnm => ?_)
  refine r_lv (lv2 := [(0, .ref a0)]) (q_pk [0] rfl) ?_
  refine r_aload_n cx dX3_takeDraft_0 rfl rfl ?_
  refine gf_X3_44 cx dX3_takeDraft_1 0 rfl rfl ?_
  refine r_istore_n cx dX3_takeDraft_4 rfl (by decide) rfl ?_
  refine r_aload_n cx dX3_takeDraft_5 rfl rfl ?_
  refine r_iconst (v := 0) cx dX3_takeDraft_6 (by decide) ?_
  refine pf_X3_44 cx dX3_takeDraft_7 0 rfl (Nat.le_of_ble_eq_true rfl) ?_
  refine r_aload_n cx dX3_takeDraft_10 rfl rfl ?_
  refine r_iconst (v := 0) cx dX3_takeDraft_11 (by decide) ?_
  refine pf_X3_48 cx dX3_takeDraft_12 0 rfl (Nat.le_of_ble_eq_true rfl) ?_
  refine r_iload_n cx dX3_takeDraft_15 rfl rfl ?_
  exact r_iret cx dX3_takeDraft_16 hr (⟨rfl, rfl⟩) (Nat.le_of_ble_eq_true rfl) (Nat.le_of_ble_eq_true rfl)
set_option maxHeartbeats 4000000 in
set_option maxRecDepth 100000 in
theorem c_isThere (l : Launch) (g : q_G) (ws : va_W) (q0 q1 a0 a1 : Nat) (r0 r1 r2 r3 r4 r5 r6 : Value) (th : Int64) (dr dl : Int32) (bt : Int64) (inf pl yr wd fo : Int32) (h0 : ws[q0]? = some (a0, .inr (4, [r0, r1, r2, r3, r4, r5, r6, .long th, .int dr, .int dl]))) (h1 : ws[q1]? = some (a1, oI bt inf pl yr wd fo)) : MetW l g yX3_isThere cX3_isThere 2 (some .boolean) ({ frames := 0, cells := 0, slots := 0, locals := 0 } : Room) [.ref a0, .ref a1] (ws) (q_Qi g (fun r w => r = bI (hasB th bt) ∧ w = ws)) := by
  refine q_met (own := RX3) (by decide +kernel) rfl (Nat.le_of_ble_eq_true rfl) (fun p e s m args below meth c cx hr hnm => ?_)
  refine r_lv (lv2 := [(0, .ref a0), (1, .ref a1)]) (q_pk [0, 1] rfl) ?_
  refine r_aload_n cx dX3_isThere_0 rfl rfl ?_
  refine gf_X3_40 cx dX3_isThere_1 q0 h0 rfl ?_
  refine r_aload_n cx dX3_isThere_4 rfl rfl ?_
  refine gf_X3_151 cx dX3_isThere_5 q1 h1 rfl ?_
  refine r_land cx dX3_isThere_8 ?_
  refine r_lconst (v := 0) cx dX3_isThere_9 rfl ?_
  refine r_lcmp cx dX3_isThere_10 ?_
  refine r_ifeq (tgt := 18) cx dX3_isThere_11 (by decide) (fun h_11 => ?_) (fun h_11 => ?_)
  · skip
    refine r_iconst (v := nI 0) cx dX3_isThere_18 (by decide) ?_
    exact r_zret cx dX3_isThere_19 hr rfl (⟨by first | (rw [hasB_f h_11]; rfl) | (rw [hasB_t h_11]; rfl), rfl⟩) (Nat.le_of_ble_eq_true rfl) (Nat.le_of_ble_eq_true rfl)
  · skip
    refine r_iconst (v := nI 1) cx dX3_isThere_14 (by decide) ?_
    refine r_goto (tgt := 19) cx dX3_isThere_15 (by decide) ?_
    exact r_zret cx dX3_isThere_19 hr rfl (⟨by first | (rw [hasB_f h_11]; rfl) | (rw [hasB_t h_11]; rfl), rfl⟩) (Nat.le_of_ble_eq_true rfl) (Nat.le_of_ble_eq_true rfl)
set_option maxHeartbeats 4000000 in
set_option maxRecDepth 100000 in
theorem c_formIfThere (l : Launch) (g : q_G) (ws : va_W) (q0 q1 a0 a1 : Nat) (r0 r1 r2 r3 r4 r5 r6 : Value) (th : Int64) (dr dl : Int32) (bt : Int64) (inf pl yr wd fo : Int32) (h0 : ws[q0]? = some (a0, .inr (4, [r0, r1, r2, r3, r4, r5, r6, .long th, .int dr, .int dl]))) (h1 : ws[q1]? = some (a1, oI bt inf pl yr wd fo)) : MetW l g yX3_formIfThere cX3_formIfThere 2 (some .int) ({ frames := 1, cells := 0, slots := 0, locals := 21 } : Room) [.ref a0, .ref a1] (ws) (q_Qi g (fun r w => r = (if hasB th bt then fo else -1) ∧ w = ws)) := by
  refine q_met (own := RX3) (by decide +kernel) rfl (Nat.le_of_ble_eq_true rfl) (fun p e s m args below meth c cx hr hnm => ?_)
  refine r_lv (lv2 := [(0, .ref a0), (1, .ref a1)]) (q_pk [0, 1] rfl) ?_
  refine r_aload_n cx dX3_formIfThere_0 rfl rfl ?_
  refine r_aload_n cx dX3_formIfThere_1 rfl rfl ?_
  refine k_X3_139 cx (c_isThere l g ws q0 q1 a0 a1 r0 r1 r2 r3 r4 r5 r6 th dr dl bt inf pl yr wd fo h0 h1) dX3_formIfThere_2 q0 h0 ⟨Nat.le_of_ble_eq_true rfl, Nat.le_of_ble_eq_true rfl⟩ ⟨Nat.le_of_ble_eq_true rfl, Nat.le_of_ble_eq_true rfl⟩ rfl rfl (Nat.le_of_ble_eq_true rfl) (fun r w hp => ?_)
  obtain ⟨rfl, rfl⟩ := hp
  refine r_ifeqb (tgt := 15) cx dX3_formIfThere_5 (by decide) (fun h_5 => ?_) (fun h_5 => ?_)
  · skip
    refine r_iconst (v := -1) cx dX3_formIfThere_15 (by decide) ?_
    exact r_iret cx dX3_formIfThere_16 hr (⟨by rw [h_5]; rfl, rfl⟩) (Nat.le_of_ble_eq_true rfl) (Nat.le_of_ble_eq_true rfl)
  · skip
    refine r_aload_n cx dX3_formIfThere_8 rfl rfl ?_
    refine gf_X3_171 cx dX3_formIfThere_9 q1 h1 rfl ?_
    refine r_goto (tgt := 16) cx dX3_formIfThere_12 (by decide) ?_
    exact r_iret cx dX3_formIfThere_16 hr (⟨by rw [h_5]; rfl, rfl⟩) (Nat.le_of_ble_eq_true rfl) (Nat.le_of_ble_eq_true rfl)
set_option maxHeartbeats 4000000 in
set_option maxRecDepth 100000 in
theorem c_isFor (l : Launch) (g : q_G) (ws : va_W) (q1 a1 : Nat) (bt : Int64) (inf pl yr wd fo : Int32) (w0 p0 : Int32) (h1 : ws[q1]? = some (a1, oI bt inf pl yr wd fo)) : MetW l g yX0_isFor cX0_isFor 3 (some .boolean) ({ frames := 0, cells := 0, slots := 0, locals := 0 } : Room) [.ref a1, .int w0, .int p0] (ws) (q_Qi g (fun r w => r = bI (decide (wd = w0) && decide (pl = p0)) ∧ w = ws)) := by
  refine q_met (own := RX0) (by decide +kernel) rfl (Nat.le_of_ble_eq_true rfl) (fun p e s m args below meth c cx hr hnm => ?_)
  refine r_lv (lv2 := [(0, .ref a1), (1, .int w0), (2, .int p0)]) (q_pk [0, 1, 2] rfl) ?_
  refine r_aload_n cx dX0_isFor_0 rfl rfl ?_
  refine gf_X0_23 cx dX0_isFor_1 q1 h1 rfl ?_
  refine r_iload_n cx dX0_isFor_4 rfl rfl ?_
  refine r_icmpne (tgt := 20) cx dX0_isFor_5 (by decide) (fun h_5 => ?_) (fun h_5 => ?_)
  · skip
    refine r_iconst (v := nI 0) cx dX0_isFor_20 (by decide) ?_
    exact r_zret cx dX0_isFor_21 hr rfl (⟨by first | (rw [decide_eq_false h_5]; rfl) | (rw [decide_eq_true h_5, decide_eq_false h_13]; rfl) | (rw [decide_eq_true h_5, decide_eq_true h_13]; rfl), rfl⟩) (Nat.le_of_ble_eq_true rfl) (Nat.le_of_ble_eq_true rfl)
  · skip
    refine r_aload_n cx dX0_isFor_8 rfl rfl ?_
    refine gf_X0_17 cx dX0_isFor_9 q1 h1 rfl ?_
    refine r_iload_n cx dX0_isFor_12 rfl rfl ?_
    refine r_icmpne (tgt := 20) cx dX0_isFor_13 (by decide) (fun h_13 => ?_) (fun h_13 => ?_)
    · skip
      refine r_iconst (v := nI 0) cx dX0_isFor_20 (by decide) ?_
      exact r_zret cx dX0_isFor_21 hr rfl (⟨by first | (rw [decide_eq_false h_5]; rfl) | (rw [decide_eq_true h_5, decide_eq_false h_13]; rfl) | (rw [decide_eq_true h_5, decide_eq_true h_13]; rfl), rfl⟩) (Nat.le_of_ble_eq_true rfl) (Nat.le_of_ble_eq_true rfl)
    · skip
      refine r_iconst (v := nI 1) cx dX0_isFor_16 (by decide) ?_
      refine r_goto (tgt := 21) cx dX0_isFor_17 (by decide) ?_
      exact r_zret cx dX0_isFor_21 hr rfl (⟨by first | (rw [decide_eq_false h_5]; rfl) | (rw [decide_eq_true h_5, decide_eq_false h_13]; rfl) | (rw [decide_eq_true h_5, decide_eq_true h_13]; rfl), rfl⟩) (Nat.le_of_ble_eq_true rfl) (Nat.le_of_ble_eq_true rfl)
set_option maxHeartbeats 4000000 in
set_option maxRecDepth 100000 in
theorem c_Interview (l : Launch) (g : q_G) (wr : va_W) (a0 : Nat) (bt : Int64) (inf pl yr wd fo : Int32) : MetW l g yX0_init cX0_init 8 none ({ frames := 1, cells := 0, slots := 0, locals := 20 } : Room) [.ref a0, .long bt, .int inf, .int pl, .int yr, .int wd, .int fo] ((a0, .inr (1, [.long 0, .int 0, .int 0, .int 0, .int 0, .int 0])) :: wr) (q_Qv g (fun w => w = (a0, oI bt inf pl yr wd fo) :: wr)) := by
  refine q_met (own := RX0) (by decide +kernel) rfl (Nat.le_of_ble_eq_true rfl) (fun p e s m args below meth c cx hr hnm => ?_)
  refine r_lv (lv2 := [(0, .ref a0), (1, .long bt), (3, .int inf), (4, .int pl), (5, .int yr), (6, .int wd), (7, .int fo)]) (q_pk [0, 1, 2, 3, 4, 5, 6] rfl) ?_
  refine r_aload_n cx dX0_init_0 rfl rfl ?_
  refine r_objInit cx tb_386 tb_27 tb_28 dX0_init_1 (Nat.le_of_ble_eq_true rfl) (Nat.le_of_ble_eq_true rfl) ?_
  refine r_aload_n cx dX0_init_4 rfl rfl ?_
  refine r_lload_n cx dX0_init_5 rfl rfl ?_
  refine pf_X0_7 cx hnm dX0_init_6 0 rfl (Nat.le_of_ble_eq_true rfl) ?_
  refine r_aload_n cx dX0_init_9 rfl rfl ?_
  refine r_iload_n cx dX0_init_10 rfl rfl ?_
  refine pf_X0_13 cx hnm dX0_init_11 0 rfl (Nat.le_of_ble_eq_true rfl) ?_
  refine r_aload_n cx dX0_init_14 rfl rfl ?_
  refine r_iload cx dX0_init_15 rfl ?_
  refine pf_X0_17 cx hnm dX0_init_17 0 rfl (Nat.le_of_ble_eq_true rfl) ?_
  refine r_aload_n cx dX0_init_20 rfl rfl ?_
  refine r_iload cx dX0_init_21 rfl ?_
  refine pf_X0_20 cx hnm dX0_init_23 0 rfl (Nat.le_of_ble_eq_true rfl) ?_
  refine r_aload_n cx dX0_init_26 rfl rfl ?_
  refine r_iload cx dX0_init_27 rfl ?_
  refine pf_X0_23 cx hnm dX0_init_29 0 rfl (Nat.le_of_ble_eq_true rfl) ?_
  refine r_aload_n cx dX0_init_32 rfl rfl ?_
  refine r_iload cx dX0_init_33 rfl ?_
  refine pf_X0_26 cx hnm dX0_init_35 0 rfl (Nat.le_of_ble_eq_true rfl) ?_
  exact r_vret cx dX0_init_38 hr (rfl) (Nat.le_of_ble_eq_true rfl) (Nat.le_of_ble_eq_true rfl)
set_option maxHeartbeats 4000000 in
set_option maxRecDepth 100000 in
theorem c_Rule (l : Launch) (g : q_G) (wr : va_W) (a0 : Nat) (so to be fi la yr : Int32) : MetW l g yX1_init cX1_init 7 none ({ frames := 1, cells := 0, slots := 0, locals := 20 } : Room) [.ref a0, .int so, .int to, .int be, .int fi, .int la, .int yr] ((a0, .inr (2, [.int 0, .int 0, .int 0, .int 0, .int 0, .int 0, .long 0, .int 0])) :: wr) (q_Qv g (fun w => w = (a0, oR so to be fi la yr 0 false) :: wr)) := by
  refine q_met (own := RX1) (by decide +kernel) rfl (Nat.le_of_ble_eq_true rfl) (fun p e s m args below meth c cx hr hnm => ?_)
  refine r_lv (lv2 := [(0, .ref a0), (1, .int so), (2, .int to), (3, .int be), (4, .int fi), (5, .int la), (6, .int yr)]) (q_pk [0, 1, 2, 3, 4, 5, 6] rfl) ?_
  refine r_aload_n cx dX1_init_0 rfl rfl ?_
  refine r_objInit cx tb_503 tb_27 tb_28 dX1_init_1 (Nat.le_of_ble_eq_true rfl) (Nat.le_of_ble_eq_true rfl) ?_
  refine r_aload_n cx dX1_init_4 rfl rfl ?_
  refine r_lconst (v := 0) cx dX1_init_5 rfl ?_
  refine pf_X1_9 cx dX1_init_6 0 rfl (Nat.le_of_ble_eq_true rfl) ?_
  refine r_aload_n cx dX1_init_9 rfl rfl ?_
  refine r_iconst (v := bI false) cx dX1_init_10 (by decide) ?_
  refine pf_X1_15 cx dX1_init_11 0 rfl (Nat.le_of_ble_eq_true rfl) ?_
  refine r_aload_n cx dX1_init_14 rfl rfl ?_
  refine r_iload_n cx dX1_init_15 rfl rfl ?_
  refine pf_X1_19 cx hnm dX1_init_16 0 rfl (Nat.le_of_ble_eq_true rfl) ?_
  refine r_aload_n cx dX1_init_19 rfl rfl ?_
  refine r_iload_n cx dX1_init_20 rfl rfl ?_
  refine pf_X1_23 cx hnm dX1_init_21 0 rfl (Nat.le_of_ble_eq_true rfl) ?_
  refine r_aload_n cx dX1_init_24 rfl rfl ?_
  refine r_iload_n cx dX1_init_25 rfl rfl ?_
  refine pf_X1_26 cx hnm dX1_init_26 0 rfl (Nat.le_of_ble_eq_true rfl) ?_
  refine r_aload_n cx dX1_init_29 rfl rfl ?_
  refine r_iload cx dX1_init_30 rfl ?_
  refine pf_X1_29 cx hnm dX1_init_32 0 rfl (Nat.le_of_ble_eq_true rfl) ?_
  refine r_aload_n cx dX1_init_35 rfl rfl ?_
  refine r_iload cx dX1_init_36 rfl ?_
  refine pf_X1_32 cx hnm dX1_init_38 0 rfl (Nat.le_of_ble_eq_true rfl) ?_
  refine r_aload_n cx dX1_init_41 rfl rfl ?_
  refine r_iload cx dX1_init_42 rfl ?_
  refine pf_X1_35 cx hnm dX1_init_44 0 rfl (Nat.le_of_ble_eq_true rfl) ?_
  exact r_vret cx dX1_init_47 hr (rfl) (Nat.le_of_ble_eq_true rfl) (Nat.le_of_ble_eq_true rfl)
set_option maxHeartbeats 4000000 in
set_option maxRecDepth 100000 in
theorem c_restsOn (l : Launch) (g : q_G) (ws : va_W) (q0 q1 a0 a1 : Nat) (so to be fi la yr : Int32) (gr : Int64) (fa : Bool) (bt : Int64) (inf pl iy wd fo : Int32) (h0 : ws[q0]? = some (a0, oR so to be fi la yr gr fa)) (h1 : ws[q1]? = some (a1, oI bt inf pl iy wd fo)) : MetW l g yX1_restsOn cX1_restsOn 2 (some .boolean) ({ frames := 0, cells := 0, slots := 0, locals := 0 } : Room) [.ref a0, .ref a1] (ws) (q_Qi g (fun r w => r = bI (hasB gr bt) ∧ w = ws)) := by
  refine q_met (own := RX1) (by decide +kernel) rfl (Nat.le_of_ble_eq_true rfl) (fun p e s m args below meth c cx hr hnm => ?_)
  refine r_lv (lv2 := [(0, .ref a0), (1, .ref a1)]) (q_pk [0, 1] rfl) ?_
  refine r_aload_n cx dX1_restsOn_0 rfl rfl ?_
  refine gf_X1_9 cx dX1_restsOn_1 q0 h0 rfl ?_
  refine r_aload_n cx dX1_restsOn_4 rfl rfl ?_
  refine gf_X1_38 cx dX1_restsOn_5 q1 h1 rfl ?_
  refine r_land cx dX1_restsOn_8 ?_
  refine r_lconst (v := 0) cx dX1_restsOn_9 rfl ?_
  refine r_lcmp cx dX1_restsOn_10 ?_
  refine r_ifeq (tgt := 18) cx dX1_restsOn_11 (by decide) (fun h_11 => ?_) (fun h_11 => ?_)
  · skip
    refine r_iconst (v := nI 0) cx dX1_restsOn_18 (by decide) ?_
    exact r_zret cx dX1_restsOn_19 hr rfl (⟨by first | (rw [hasB_f h_11]; rfl) | (rw [hasB_t h_11]; rfl), rfl⟩) (Nat.le_of_ble_eq_true rfl) (Nat.le_of_ble_eq_true rfl)
  · skip
    refine r_iconst (v := nI 1) cx dX1_restsOn_14 (by decide) ?_
    refine r_goto (tgt := 19) cx dX1_restsOn_15 (by decide) ?_
    exact r_zret cx dX1_restsOn_19 hr rfl (⟨by first | (rw [hasB_f h_11]; rfl) | (rw [hasB_t h_11]; rfl), rfl⟩) (Nat.le_of_ble_eq_true rfl) (Nat.le_of_ble_eq_true rfl)
set_option maxHeartbeats 4000000 in
set_option maxRecDepth 100000 in
theorem c_restNoMoreOn (l : Launch) (g : q_G) (wr : va_W) (a0 : Nat) (so to be fi la yr : Int32) (gr : Int64) (fa : Bool) (fg : Int64) : MetW l g yX1_restNoMoreOn cX1_restNoMoreOn 3 none ({ frames := 0, cells := 0, slots := 0, locals := 0 } : Room) [.ref a0, .long fg] ((a0, oR so to be fi la yr gr fa) :: wr) (q_Qv g (fun w => w = (a0, oR so to be fi la yr (if hasB gr fg then gr &&& (fg ^^^ (-1)) else gr) (if hasB gr fg then decide (gr &&& (fg ^^^ (-1)) = 0) else fa)) :: wr)) := by
  refine q_met (own := RX1) (by decide +kernel) rfl (Nat.le_of_ble_eq_true rfl) (fun p e s m args below meth c cx hr hnm => ?_)
  refine r_lv (lv2 := [(0, .ref a0), (1, .long fg)]) (q_pk [0, 1] rfl) ?_
  refine r_aload_n cx dX1_restNoMoreOn_0 rfl rfl ?_
  refine gf_X1_9 cx dX1_restNoMoreOn_1 0 rfl rfl ?_
  refine r_lload_n cx dX1_restNoMoreOn_4 rfl rfl ?_
  refine r_land cx dX1_restNoMoreOn_5 ?_
  refine r_lconst (v := 0) cx dX1_restNoMoreOn_6 rfl ?_
  refine r_lcmp cx dX1_restNoMoreOn_7 ?_
  refine r_ifeq (tgt := 43) cx dX1_restNoMoreOn_8 (by decide) (fun h_8 => ?_) (fun h_8 => ?_)
  · skip
    exact r_vret cx dX1_restNoMoreOn_43 hr (by first | (rw [hasB_f h_8]; rfl) | (rw [hasB_t h_8, decide_eq_true ((lcmp_z _ _).mp (Classical.not_not.mp h_32))]; rfl) | (rw [hasB_t h_8, decide_eq_true ((lcmp_z _ _).mp h_32)]; rfl) | (rw [hasB_t h_8, decide_eq_false (fun z => h_32 ((lcmp_z _ _).mpr z))]; rfl)) (Nat.le_of_ble_eq_true rfl) (Nat.le_of_ble_eq_true rfl)
  · skip
    refine r_aload_n cx dX1_restNoMoreOn_11 rfl rfl ?_
    refine r_dup cx dX1_restNoMoreOn_12 rfl ?_
    refine gf_X1_9 cx dX1_restNoMoreOn_13 0 rfl rfl ?_
    refine r_lload_n cx dX1_restNoMoreOn_16 rfl rfl ?_
    refine r_ldc2 cx dX1_restNoMoreOn_17 tb_544 ?_
    refine r_lxor cx dX1_restNoMoreOn_20 ?_
    refine r_land cx dX1_restNoMoreOn_21 ?_
    refine pf_X1_9 cx dX1_restNoMoreOn_22 0 rfl (Nat.le_of_ble_eq_true rfl) ?_
    refine r_aload_n cx dX1_restNoMoreOn_25 rfl rfl ?_
    refine r_aload_n cx dX1_restNoMoreOn_26 rfl rfl ?_
    refine gf_X1_9 cx dX1_restNoMoreOn_27 0 rfl rfl ?_
    refine r_lconst (v := 0) cx dX1_restNoMoreOn_30 rfl ?_
    refine r_lcmp cx dX1_restNoMoreOn_31 ?_
    refine r_ifne (tgt := 39) cx dX1_restNoMoreOn_32 (by decide) (fun h_32 => ?_) (fun h_32 => ?_)
    · skip
      refine r_iconst (v := bI false) cx dX1_restNoMoreOn_39 (by decide) ?_
      refine pf_X1_15 cx dX1_restNoMoreOn_40 0 rfl (Nat.le_of_ble_eq_true rfl) ?_
      exact r_vret cx dX1_restNoMoreOn_43 hr (by first | (rw [hasB_f h_8]; rfl) | (rw [hasB_t h_8, decide_eq_true ((lcmp_z _ _).mp (Classical.not_not.mp h_32))]; rfl) | (rw [hasB_t h_8, decide_eq_true ((lcmp_z _ _).mp h_32)]; rfl) | (rw [hasB_t h_8, decide_eq_false (fun z => h_32 ((lcmp_z _ _).mpr z))]; rfl)) (Nat.le_of_ble_eq_true rfl) (Nat.le_of_ble_eq_true rfl)
    · skip
      refine r_iconst (v := bI true) cx dX1_restNoMoreOn_35 (by decide) ?_
      refine r_goto (tgt := 40) cx dX1_restNoMoreOn_36 (by decide) ?_
      refine pf_X1_15 cx dX1_restNoMoreOn_40 0 rfl (Nat.le_of_ble_eq_true rfl) ?_
      exact r_vret cx dX1_restNoMoreOn_43 hr (by first | (rw [hasB_f h_8]; rfl) | (rw [hasB_t h_8, decide_eq_true ((lcmp_z _ _).mp (Classical.not_not.mp h_32))]; rfl) | (rw [hasB_t h_8, decide_eq_true ((lcmp_z _ _).mp h_32)]; rfl) | (rw [hasB_t h_8, decide_eq_false (fun z => h_32 ((lcmp_z _ _).mpr z))]; rfl)) (Nat.le_of_ble_eq_true rfl) (Nat.le_of_ble_eq_true rfl)
set_option maxHeartbeats 4000000 in
set_option maxRecDepth 100000 in
theorem c_goesAt (l : Launch) (g : q_G) (ws : va_W) (q0 a0 : Nat) (so to be fi la yr : Int32) (gr : Int64) (fa : Bool) (p0 y0 : Int32) (h0 : ws[q0]? = some (a0, oR so to be fi la yr gr fa)) : MetW l g yX1_goesAt cX1_goesAt 3 (some .boolean) ({ frames := 0, cells := 0, slots := 0, locals := 0 } : Room) [.ref a0, .int p0, .int y0] (ws) (q_Qi g (fun r w => r = bI (!fa && decide (fi ≤ p0) && decide (p0 ≤ la) && decide (yr ≤ y0)) ∧ w = ws)) := by
  refine q_met (own := RX1) (by decide +kernel) rfl (Nat.le_of_ble_eq_true rfl) (fun p e s m args below meth c cx hr hnm => ?_)
  refine r_lv (lv2 := [(0, .ref a0), (1, .int p0), (2, .int y0)]) (q_pk [0, 1, 2] rfl) ?_
  refine r_aload_n cx dX1_goesAt_0 rfl rfl ?_
  refine gf_X1_15 cx dX1_goesAt_1 q0 h0 rfl ?_
  refine r_ifneb (tgt := 35) cx dX1_goesAt_4 (by decide) (fun h_4 => ?_) (fun h_4 => ?_)
  · skip
    refine r_iconst (v := nI 0) cx dX1_goesAt_35 (by decide) ?_
    exact r_zret cx dX1_goesAt_36 hr rfl (⟨by first | (rw [h_4]; rfl) | (rw [h_4, decide_eq_false (Int32.not_le.mpr h_12)]; rfl) | (rw [h_4, decide_eq_true (Int32.not_lt.mp h_12), decide_eq_false (Int32.not_le.mpr h_20)]; rfl) | (rw [h_4, decide_eq_true (Int32.not_lt.mp h_12), decide_eq_true (Int32.not_lt.mp h_20), decide_eq_false (Int32.not_le.mpr h_28)]; rfl) | (rw [h_4, decide_eq_true (Int32.not_lt.mp h_12), decide_eq_true (Int32.not_lt.mp h_20), decide_eq_true (Int32.not_lt.mp h_28)]; rfl), rfl⟩) (Nat.le_of_ble_eq_true rfl) (Nat.le_of_ble_eq_true rfl)
  · skip
    refine r_aload_n cx dX1_goesAt_7 rfl rfl ?_
    refine gf_X1_29 cx dX1_goesAt_8 q0 h0 rfl ?_
    refine r_iload_n cx dX1_goesAt_11 rfl rfl ?_
    refine r_icmpgt (tgt := 35) cx dX1_goesAt_12 (by decide) (fun h_12 => ?_) (fun h_12 => ?_)
    · skip
      refine r_iconst (v := nI 0) cx dX1_goesAt_35 (by decide) ?_
      exact r_zret cx dX1_goesAt_36 hr rfl (⟨by first | (rw [h_4]; rfl) | (rw [h_4, decide_eq_false (Int32.not_le.mpr h_12)]; rfl) | (rw [h_4, decide_eq_true (Int32.not_lt.mp h_12), decide_eq_false (Int32.not_le.mpr h_20)]; rfl) | (rw [h_4, decide_eq_true (Int32.not_lt.mp h_12), decide_eq_true (Int32.not_lt.mp h_20), decide_eq_false (Int32.not_le.mpr h_28)]; rfl) | (rw [h_4, decide_eq_true (Int32.not_lt.mp h_12), decide_eq_true (Int32.not_lt.mp h_20), decide_eq_true (Int32.not_lt.mp h_28)]; rfl), rfl⟩) (Nat.le_of_ble_eq_true rfl) (Nat.le_of_ble_eq_true rfl)
    · skip
      refine r_iload_n cx dX1_goesAt_15 rfl rfl ?_
      refine r_aload_n cx dX1_goesAt_16 rfl rfl ?_
      refine gf_X1_32 cx dX1_goesAt_17 q0 h0 rfl ?_
      refine r_icmpgt (tgt := 35) cx dX1_goesAt_20 (by decide) (fun h_20 => ?_) (fun h_20 => ?_)
      · skip
        refine r_iconst (v := nI 0) cx dX1_goesAt_35 (by decide) ?_
        exact r_zret cx dX1_goesAt_36 hr rfl (⟨by first | (rw [h_4]; rfl) | (rw [h_4, decide_eq_false (Int32.not_le.mpr h_12)]; rfl) | (rw [h_4, decide_eq_true (Int32.not_lt.mp h_12), decide_eq_false (Int32.not_le.mpr h_20)]; rfl) | (rw [h_4, decide_eq_true (Int32.not_lt.mp h_12), decide_eq_true (Int32.not_lt.mp h_20), decide_eq_false (Int32.not_le.mpr h_28)]; rfl) | (rw [h_4, decide_eq_true (Int32.not_lt.mp h_12), decide_eq_true (Int32.not_lt.mp h_20), decide_eq_true (Int32.not_lt.mp h_28)]; rfl), rfl⟩) (Nat.le_of_ble_eq_true rfl) (Nat.le_of_ble_eq_true rfl)
      · skip
        refine r_aload_n cx dX1_goesAt_23 rfl rfl ?_
        refine gf_X1_35 cx dX1_goesAt_24 q0 h0 rfl ?_
        refine r_iload_n cx dX1_goesAt_27 rfl rfl ?_
        refine r_icmpgt (tgt := 35) cx dX1_goesAt_28 (by decide) (fun h_28 => ?_) (fun h_28 => ?_)
        · skip
          refine r_iconst (v := nI 0) cx dX1_goesAt_35 (by decide) ?_
          exact r_zret cx dX1_goesAt_36 hr rfl (⟨by first | (rw [h_4]; rfl) | (rw [h_4, decide_eq_false (Int32.not_le.mpr h_12)]; rfl) | (rw [h_4, decide_eq_true (Int32.not_lt.mp h_12), decide_eq_false (Int32.not_le.mpr h_20)]; rfl) | (rw [h_4, decide_eq_true (Int32.not_lt.mp h_12), decide_eq_true (Int32.not_lt.mp h_20), decide_eq_false (Int32.not_le.mpr h_28)]; rfl) | (rw [h_4, decide_eq_true (Int32.not_lt.mp h_12), decide_eq_true (Int32.not_lt.mp h_20), decide_eq_true (Int32.not_lt.mp h_28)]; rfl), rfl⟩) (Nat.le_of_ble_eq_true rfl) (Nat.le_of_ble_eq_true rfl)
        · skip
          refine r_iconst (v := nI 1) cx dX1_goesAt_31 (by decide) ?_
          refine r_goto (tgt := 36) cx dX1_goesAt_32 (by decide) ?_
          exact r_zret cx dX1_goesAt_36 hr rfl (⟨by first | (rw [h_4]; rfl) | (rw [h_4, decide_eq_false (Int32.not_le.mpr h_12)]; rfl) | (rw [h_4, decide_eq_true (Int32.not_lt.mp h_12), decide_eq_false (Int32.not_le.mpr h_20)]; rfl) | (rw [h_4, decide_eq_true (Int32.not_lt.mp h_12), decide_eq_true (Int32.not_lt.mp h_20), decide_eq_false (Int32.not_le.mpr h_28)]; rfl) | (rw [h_4, decide_eq_true (Int32.not_lt.mp h_12), decide_eq_true (Int32.not_lt.mp h_20), decide_eq_true (Int32.not_lt.mp h_28)]; rfl), rfl⟩) (Nat.le_of_ble_eq_true rfl) (Nat.le_of_ble_eq_true rfl)
set_option maxHeartbeats 4000000 in
set_option maxRecDepth 100000 in
theorem c_changes (l : Launch) (g : q_G) (ws : va_W) (q0 a0 : Nat) (so to be fi la yr : Int32) (gr : Int64) (fa : Bool) (x f : Int32) (h0 : ws[q0]? = some (a0, oR so to be fi la yr gr fa)) : MetW l g yX1_changes cX1_changes 3 (some .boolean) ({ frames := 0, cells := 0, slots := 0, locals := 0 } : Room) [.ref a0, .int x, .int f] (ws) (q_Qi g (fun r w => r = bI (decide (x = so) && (decide (be = nI 9) || decide (be = f))) ∧ w = ws)) := by
  refine q_met (own := RX1) (by decide +kernel) rfl (Nat.le_of_ble_eq_true rfl) (fun p e s m args below meth c cx hr hnm => ?_)
  refine r_lv (lv2 := [(0, .ref a0), (1, .int x), (2, .int f)]) (q_pk [0, 1, 2] rfl) ?_
  refine r_iload_n cx dX1_changes_0 rfl rfl ?_
  refine r_aload_n cx dX1_changes_1 rfl rfl ?_
  refine gf_X1_19 cx dX1_changes_2 q0 h0 rfl ?_
  refine r_icmpne (tgt := 29) cx dX1_changes_5 (by decide) (fun h_5 => ?_) (fun h_5 => ?_)
  · skip
    refine r_iconst (v := nI 0) cx dX1_changes_29 (by decide) ?_
    exact r_zret cx dX1_changes_30 hr rfl (⟨by first | (rw [decide_eq_false h_5]; rfl) | (rw [decide_eq_true h_5, decide_eq_true h_14]; rfl) | (rw [decide_eq_true h_5, decide_eq_false h_14, decide_eq_true h_22]; rfl) | (rw [decide_eq_true h_5, decide_eq_false h_14, decide_eq_false h_22]; rfl), rfl⟩) (Nat.le_of_ble_eq_true rfl) (Nat.le_of_ble_eq_true rfl)
  · skip
    refine r_aload_n cx dX1_changes_8 rfl rfl ?_
    refine gf_X1_26 cx dX1_changes_9 q0 h0 rfl ?_
    refine r_bipush (v := nI 9) cx dX1_changes_12 (by decide) ?_
    refine r_icmpeq (tgt := 25) cx dX1_changes_14 (by decide) (fun h_14 => ?_) (fun h_14 => ?_)
    · skip
      refine r_iconst (v := nI 1) cx dX1_changes_25 (by decide) ?_
      refine r_goto (tgt := 30) cx dX1_changes_26 (by decide) ?_
      exact r_zret cx dX1_changes_30 hr rfl (⟨by first | (rw [decide_eq_false h_5]; rfl) | (rw [decide_eq_true h_5, decide_eq_true h_14]; rfl) | (rw [decide_eq_true h_5, decide_eq_false h_14, decide_eq_true h_22]; rfl) | (rw [decide_eq_true h_5, decide_eq_false h_14, decide_eq_false h_22]; rfl), rfl⟩) (Nat.le_of_ble_eq_true rfl) (Nat.le_of_ble_eq_true rfl)
    · skip
      refine r_aload_n cx dX1_changes_17 rfl rfl ?_
      refine gf_X1_26 cx dX1_changes_18 q0 h0 rfl ?_
      refine r_iload_n cx dX1_changes_21 rfl rfl ?_
      refine r_icmpne (tgt := 29) cx dX1_changes_22 (by decide) (fun h_22 => ?_) (fun h_22 => ?_)
      · skip
        refine r_iconst (v := nI 0) cx dX1_changes_29 (by decide) ?_
        exact r_zret cx dX1_changes_30 hr rfl (⟨by first | (rw [decide_eq_false h_5]; rfl) | (rw [decide_eq_true h_5, decide_eq_true h_14]; rfl) | (rw [decide_eq_true h_5, decide_eq_false h_14, decide_eq_true h_22]; rfl) | (rw [decide_eq_true h_5, decide_eq_false h_14, decide_eq_false h_22]; rfl), rfl⟩) (Nat.le_of_ble_eq_true rfl) (Nat.le_of_ble_eq_true rfl)
      · skip
        refine r_iconst (v := nI 1) cx dX1_changes_25 (by decide) ?_
        refine r_goto (tgt := 30) cx dX1_changes_26 (by decide) ?_
        exact r_zret cx dX1_changes_30 hr rfl (⟨by first | (rw [decide_eq_false h_5]; rfl) | (rw [decide_eq_true h_5, decide_eq_true h_14]; rfl) | (rw [decide_eq_true h_5, decide_eq_false h_14, decide_eq_true h_22]; rfl) | (rw [decide_eq_true h_5, decide_eq_false h_14, decide_eq_false h_22]; rfl), rfl⟩) (Nat.le_of_ble_eq_true rfl) (Nat.le_of_ble_eq_true rfl)
