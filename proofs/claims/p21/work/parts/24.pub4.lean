theorem callBack9 {R : Room} {p : Program} {l : Launch} {e : Env} {below : List Frame} {s : State} {args : Array Value} {own : String} {index maxL n mc ms : Nat} {y : MethodName} {bytes : ByteArray} {ret : Option FieldType} {ws : List Cond} {rm : Room} {Pc : Array Value → State → Prop} {Qc : Array Value → State → Outcome → State → Prop} {free : Addr → Prop} (cb : CallB R s args own index y bytes maxL ret ws rm mc ms n) (hM : Met l y ws rm Pc Qc mc ms free) (hbl : FrameBlind Pc) (hlo : 16 + (maxL + 11) + rm.locals ≤ R.locals) : Back l R p e below s args y 3 16 (PreOf R mc ms Pc) (PostOf Qc mc ms free) := by
  obtain ⟨hrc, hrs, hfr, -, hws, hcw, -, hini, -⟩ := cb
  exact back_of (bytes := bytes) (maxL := maxL) (ret := ret) hM hbl hrc hrs hfr hlo hws hcw (fun a' U hW => word_at hW (Or.inl (by first | rfl | simp [Cond.onTables, Cond.keeps, Cond.steady])) hini)
section DEEP
variable {p : Program} {l : Launch} {e : Env} {R : Room} {s : State} {m : MethodId} {args : Array Value} {below : List Frame} {meth : Method} {c : Code} {H : Heap} {locs : List Loc} {cells slots : Nat} {Q : State → Prop} {y : MethodName} {bytes cc : ByteArray} {maxL nL mc ms n index : Nat} {ret : Option FieldType} {ws : List Cond} {rm : Room} {Pc : Array Value → State → Prop} {Qc : Array Value → State → Outcome → State → Prop} {free : Addr → Prop} {Ts : List Cond} {own C : String} {b : Addr} {As rest : List Value} {g : JFrame}
theorem runV9 (S : CallFix p m c cc nL s args Ts own) (hM : Met l y ws rm Pc Qc mc ms free) (cw : CallW R s args own C index y bytes maxL ret ws rm mc ms n) (hlo : 16 + (maxL + 11) + rm.locals ≤ R.locals) (hp : PreV s H C b Pc As)
    (hg : g.method = m) (hn : As.length = n) (hsize : g.locals.size = nL) (hstack : g.stack = As.reverse ++ .ref b :: rest) (hW : 2 * g.monitorRoom + (rest.map fun v => v.category).sum ≤ 16) (hdg : decode cc g.pc = .ok (.invokevirtual index, 3)) (hf : cells + mc ≤ R.cells ∧ slots + ms ≤ R.slots) :
    va_Run p l e R s m args below meth c H locs cells slots mc ms g rest (Qc (Value.ref b :: As).toArray) (free) := by
  have hK : Back l R p e below s args y 3 16 (PreOf R mc ms Pc) (PostOf Qc mc ms free) := callBack9 cw.1 hM hp.1 hlo
  obtain ⟨⟨-, -, -, -, -, -, hcode, -, hy, hlen, hl⟩, hin, hse⟩ := cw
  obtain ⟨hx, hb, hml, ho, -⟩ := S
  obtain ⟨-, ⟨cellB, hcB, hoB, hclB⟩, hPc⟩ := hp
  intro T hT X
  obtain ⟨v, vm₁, ⟨U', l2, c2, s2⟩, hW₁, X', ⟨g', mk, t, L, e1, e2, hq, h1, hL, h2, h3⟩, st⟩ := callV X hx (C := C) (bytes := bytes) (maxL := maxL) (ret := ret) ho hl hin hse hcode hy hK (by rw [hT]; exact hcB) hoB hclB hg (hsize.trans hml.symm) (argsL := As) (rest := rest) (fun sig h => hn.trans (hlen sig h)) hstack hW (by rw [hb]; exact hdg)
    (fun vm₁ hW₁ => ⟨hf.1, hf.2, hPc (T.setVm vm₁) hT hW₁⟩)
  dsimp only [Pt.U, Pt.locs, Pt.cells, Pt.slots] at X' e1 e2 h1 h2 h3 st
  subst h1; subst h2; subst h3
  exact ⟨v, (T.setVm vm₁).calling g' mk (Value.ref b :: As).toArray, t, U', L, hT, X', hL, e1, e2, hq, st⟩
end DEEP
section DEEP2
variable {p : Program} {l : Launch} {e : Env} {R : Room} {s : State} {m : MethodId} {args : Array Value} {below : List Frame} {meth : Method} {c : Code} {g : q_G} {nL : Nat} {Q : State → Prop} {cl sl : Nat} {cc : ByteArray} {pc : Nat} {lv : List (Nat × Value)} {st st0 : List Value} {ws : va_W} {rm : Room} {As : List Value} {b : Nat}
theorem k9_X3_88 (cx : q_cx g p m c cc nL s args RX3 meth) {post : Int32 → va_W → Prop} (hM : MetW l g yX3_takeDraft cX3_takeDraft 2 (some .int) rm (.ref b :: As) ws (q_Qi g post)) (hd : decode cc pc = .ok (.invokevirtual 88, 3)) (q0 : Nat) {fs : List Value} (he : ws[q0]? = some (b, .inr (4, fs))) (hR : rm.frames + 1 ≤ R.frames ∧ 16 + (2 + 11) + rm.locals ≤ R.locals) (hroom : cl + rm.cells ≤ R.cells ∧ sl + rm.slots ≤ R.slots) (hst : st0 = As.reverse ++ .ref b :: st) (hn : As.length = 0) (hW : (st.map fun v => v.category).sum ≤ 16) (kk : ∀ (r : Int32) (u : va_W), post r u → AT p l e R s m args below meth c g nL Q (cl + rm.cells) (sl + rm.slots) (pc + 3) lv (.int r :: st) u) : AT p l e R s m args below meth c g nL Q cl sl pc lv st0 ws := fun H locs ls hP hD hS hl =>
  va_calli (runV9 (As := As) (rest := st) cx.1 hM (cwV (C := RX3) 0 cx.1.2.2.2.2 (gi_V tb_379 tb_381 ts_13 tb_1 tb_382) rfl rfl rfl ⟨rfl, by decide +kernel, by decide +kernel, by decide +kernel⟩ ⟨hR.1, by have := hR.2; omega⟩) hR.2 ⟨q_Pc.blind, va_recv cx.2.1.2.1 hP (show vwCl[4]? = some (RX3, TX3, 10) from rfl) he, fun U hU hW => ⟨rfl, q_env.go cx.2.1 hU hW hS, by rw [q_in, hU]; exact ⟨hP, hD⟩⟩⟩ rfl hn hl.1 hst (by have h0 : (F0 m pc ls st0).monitorRoom = 0 := rfl; rw [h0]; omega) hd hroom) hS (fun q _ h => h) (fun q h => h) (fun r u t H1 locs1 ht hvm hw hB hz1 hk1 hS => by subst ht; exact kk r u hw _ locs1 ls hB.1 hB.2 hS hl)
end DEEP2
set_option maxHeartbeats 4000000 in
set_option maxRecDepth 100000 in
theorem c_interview (l : Launch) (hl : l.stackTraces = false) (g : q_G) (N : Nat → Nat) (A : Nat → Nat → Int32) (B : Nat → Nat → Bool) (L : Nat → Nat → Int64) (wm ws : va_W) (a0 : Nat) (hI : inv N A B L) (hR : cR g a0 N A B L wm ws) (x1 : Int32) (x2 : Int32) (x3 : Int32) (x4 : Int32) : MetX l g yX3_interview cX3_interview 8 (some .int) ({ frames := 7, cells := 4, slots := 250, locals := 200 } : Room) [.ref a0, .int x1, .int x2, .int x3, .int x4] (ws) (q_Qi g (fun r w => (kc (!(inR x1 8 && inR x2 10 && inR x4 4)) (!inR x3 301) (decide (N 0 = 0) || decide (N 1 = 40))) = 0 ∧ r = nI (N 1) ∧ cR g a0 (va_up (va_up N 1 (N 1 + 1)) 0 0) (ivA A (N 1) x1 x2 x3 x4 (nI (num (drL (A 0) (N 0))))) B (L) wm w)) (pe3 (kc (!(inR x1 8 && inR x2 10 && inR x4 4)) (!inR x3 301) (decide (N 0 = 0) || decide (N 1 = 40))) ws) := by
  refine q_metX (own := RX3) (by decide +kernel) rfl (Nat.le_of_ble_eq_true rfl) (fun p e s m args below meth c cx hr htab => ?_)
  obtain ⟨ad, mc, el, ia, ra, th, dr, dl, ro, kl, kn, row, P, f, rfl, rfl, hF⟩ := hR
  have hiv := cF_iv (ad := ad) (mc := mc) (row := row) (wm := wm) hI hF
  have hrl := cF_rl (ad := ad) (mc := mc) (row := row) (wm := wm) hI hF
  have hqu := cF_qu (ad := ad) (mc := mc) (row := row) (wm := wm) hI hF
  obtain ⟨⟨rfl, rfl, rfl⟩, f2, f3, f4, f5, f6, f7, f8, f9, f10, f11, f12, f13⟩ := id hF
  obtain ⟨⟨i1, i2, i3, i4⟩, j2, j3, j4, j5, j6, j7, j8, j9, j10, j11⟩ := id hI
  refine r_lv (lv2 := [(0, .ref (ad 8)), (1, .int x1), (2, .int x2), (3, .int x3), (4, .int x4)]) (q_pk [0, 1, 2, 3, 4] rfl) ?_
  refine r_iload_n cx dX3_interview_0 rfl rfl ?_
  refine r_bipush (v := nI 8) cx dX3_interview_1 (by decide) ?_
  refine k_X3_57 cx (c_isOutside l g _ x1 (8) (by omega)) dX3_interview_3 ⟨Nat.le_of_ble_eq_true rfl, Nat.le_of_ble_eq_true rfl⟩ ⟨Nat.le_of_ble_eq_true rfl, Nat.le_of_ble_eq_true rfl⟩ rfl rfl (Nat.le_of_ble_eq_true rfl) (fun r w hp => ?_)
  obtain ⟨rfl, rfl⟩ := hp
  refine r_ifneb (tgt := 27) cx dX3_interview_6 (by decide) (fun h_6 => ?_) (fun h_6 => ?_)
  · skip
    exact th_IO cx "no such informant, place or word" 73 hl htab dX3_interview_27 dX3_interview_30 dX3_interview_31 dX3_interview_33 dX3_interview_36 (by decide) ⟨Nat.le_of_ble_eq_true rfl, Nat.le_of_ble_eq_true rfl, Nat.le_of_ble_eq_true rfl, Nat.le_of_ble_eq_true rfl⟩ ⟨Nat.le_of_ble_eq_true rfl, Nat.le_of_ble_eq_true rfl⟩ (⟨Or.inl ⟨rfl, by first | (simp [kc, h_6]; done) | (simp [kc, h_15]; done) | (simp [kc, h_24]; done)⟩, rfl⟩)
  · skip
    refine r_iload_n cx dX3_interview_9 rfl rfl ?_
    refine r_bipush (v := nI 10) cx dX3_interview_10 (by decide) ?_
    refine k_X3_57 cx (c_isOutside l g _ x2 (10) (by omega)) dX3_interview_12 ⟨Nat.le_of_ble_eq_true rfl, Nat.le_of_ble_eq_true rfl⟩ ⟨Nat.le_of_ble_eq_true rfl, Nat.le_of_ble_eq_true rfl⟩ rfl rfl (Nat.le_of_ble_eq_true rfl) (fun r w hp => ?_)
    obtain ⟨rfl, rfl⟩ := hp
    refine r_ifneb (tgt := 27) cx dX3_interview_15 (by decide) (fun h_15 => ?_) (fun h_15 => ?_)
    · skip
      exact th_IO cx "no such informant, place or word" 73 hl htab dX3_interview_27 dX3_interview_30 dX3_interview_31 dX3_interview_33 dX3_interview_36 (by decide) ⟨Nat.le_of_ble_eq_true rfl, Nat.le_of_ble_eq_true rfl, Nat.le_of_ble_eq_true rfl, Nat.le_of_ble_eq_true rfl⟩ ⟨Nat.le_of_ble_eq_true rfl, Nat.le_of_ble_eq_true rfl⟩ (⟨Or.inl ⟨rfl, by first | (simp [kc, h_6]; done) | (simp [kc, h_15]; done) | (simp [kc, h_24]; done)⟩, rfl⟩)
    · skip
      refine r_iload cx dX3_interview_18 rfl ?_
      refine r_iconst (v := nI 4) cx dX3_interview_20 (by decide) ?_
      refine k_X3_57 cx (c_isOutside l g _ x4 (4) (by omega)) dX3_interview_21 ⟨Nat.le_of_ble_eq_true rfl, Nat.le_of_ble_eq_true rfl⟩ ⟨Nat.le_of_ble_eq_true rfl, Nat.le_of_ble_eq_true rfl⟩ rfl rfl (Nat.le_of_ble_eq_true rfl) (fun r w hp => ?_)
      obtain ⟨rfl, rfl⟩ := hp
      refine r_ifeqb (tgt := 37) cx dX3_interview_24 (by decide) (fun h_24 => ?_) (fun h_24 => ?_)
      · skip
        refine r_iload_n cx dX3_interview_37 rfl rfl ?_
        refine r_sipush (v := nI 301) cx dX3_interview_38 (by decide) ?_
        refine k_X3_57 cx (c_isOutside l g _ x3 (301) (by omega)) dX3_interview_41 ⟨Nat.le_of_ble_eq_true rfl, Nat.le_of_ble_eq_true rfl⟩ ⟨Nat.le_of_ble_eq_true rfl, Nat.le_of_ble_eq_true rfl⟩ rfl rfl (Nat.le_of_ble_eq_true rfl) (fun r w hp => ?_)
        obtain ⟨rfl, rfl⟩ := hp
        refine r_ifeqb (tgt := 57) cx dX3_interview_44 (by decide) (fun h_44 => ?_) (fun h_44 => ?_)
        · skip
          obtain ⟨jw, hjw, rfl, hcjw⟩ := inR_ix (x := x4) (n := 4) (by simpa using h_24) (by omega)
          refine r_aload_n cx dX3_interview_57 rfl rfl ?_
          refine gf_X3_10 cx dX3_interview_58 8 rfl rfl ?_
          refine k_X3_80 cx (c_lsize l g _ (ad 7) (N 1) ia hiv.2.1) dX3_interview_61 7 rfl ⟨Nat.le_of_ble_eq_true rfl, Nat.le_of_ble_eq_true rfl⟩ ⟨Nat.le_of_ble_eq_true rfl, Nat.le_of_ble_eq_true rfl⟩ rfl rfl (Nat.le_of_ble_eq_true rfl) (fun r w hp => ?_)
          obtain ⟨rfl, rfl⟩ := hp
          refine r_istore cx dX3_interview_64 (by decide) rfl ?_
          refine r_aload_n cx dX3_interview_66 rfl rfl ?_
          refine gf_X3_48 cx dX3_interview_67 8 rfl rfl ?_
          refine r_ifeqN (tgt := 80) cx (by omega) dX3_interview_70 (by decide) (fun h_70 => ?_) (fun h_70 => ?_)
          · skip
            exact th_IS cx "the draft is empty, or there are 40 interviews" 84 hl htab dX3_interview_80 dX3_interview_83 dX3_interview_84 dX3_interview_86 dX3_interview_89 (by decide) ⟨Nat.le_of_ble_eq_true rfl, Nat.le_of_ble_eq_true rfl, Nat.le_of_ble_eq_true rfl, Nat.le_of_ble_eq_true rfl⟩ ⟨Nat.le_of_ble_eq_true rfl, Nat.le_of_ble_eq_true rfl⟩ (⟨Or.inr (Or.inr ⟨rfl, by rw [decide_eq_true h_70]; simp at h_6 h_15 h_24 h_44; simp [kc, h_6, h_15, h_24, h_44]⟩), rfl⟩)
          · skip
            refine r_iload cx dX3_interview_73 rfl ?_
            refine r_bipush (v := nI 40) cx dX3_interview_75 (by decide) ?_
            refine r_icmpltN (tgt := 90) cx (by omega) (by omega) dX3_interview_77 (by decide) (fun h_77 => ?_) (fun h_77 => ?_)
            · skip
              refine r_lconst (v := 1) cx dX3_interview_90 rfl ?_
              refine r_iload cx dX3_interview_91 rfl ?_
              refine r_lshl (v := lN (2 ^ N 1)) cx dX3_interview_93 (by rw [show (1 : Int64) = lN 1 from rfl, wb_shl 1 (by omega), Nat.one_mul]) ?_
              refine r_lstore cx dX3_interview_94 (by decide) rfl ?_
              refine r_aload_n cx dX3_interview_96 rfl rfl ?_
              refine gf_X3_10 cx dX3_interview_97 8 rfl rfl ?_
              refine nw_X3_86 cx dX3_interview_100 (Nat.le_of_ble_eq_true rfl) (Nat.le_of_ble_eq_true rfl) (fun q => ?_)
              refine r_perm (List.perm_append_singleton _ _) ?_
              refine r_dup cx dX3_interview_103 rfl ?_
              refine r_lload cx dX3_interview_104 rfl ?_
              refine r_iload_n cx dX3_interview_106 rfl rfl ?_
              refine r_iload_n cx dX3_interview_107 rfl rfl ?_
              refine r_iload_n cx dX3_interview_108 rfl rfl ?_
              refine r_iload cx dX3_interview_109 rfl ?_
              refine r_aload_n cx dX3_interview_111 rfl rfl ?_
              refine k9_X3_88 cx (c_takeDraft2 l g _ 9 (ad 8) _ _ _ _ _ _ _ _ _ _ rfl) dX3_interview_112 9 rfl ⟨Nat.le_of_ble_eq_true rfl, Nat.le_of_ble_eq_true rfl⟩ ⟨Nat.le_of_ble_eq_true rfl, Nat.le_of_ble_eq_true rfl⟩ rfl rfl (Nat.le_of_ble_eq_true rfl) (fun r w hp => ?_)
              obtain ⟨rfl, rfl⟩ := hp
              refine r_ws (ws2 := (q, .inr (1, [.long 0, .int 0, .int 0, .int 0, .int 0, .int 0])) :: (iF g ad mc el (fun k => N (k + 1)) (lN (thS (B 0) (N 1))) 0 0 ro kl kn row ++ (wm ++ va_pl P f))) rfl ?_
              refine k_X3_91 cx (c_Interview l g _ q (lN (2 ^ N 1)) x1 x2 x3 (nI jw) _) dX3_interview_115 ⟨Nat.le_of_ble_eq_true rfl, Nat.le_of_ble_eq_true rfl⟩ ⟨Nat.le_of_ble_eq_true rfl, Nat.le_of_ble_eq_true rfl⟩ rfl rfl (Nat.le_of_ble_eq_true rfl) (fun w hp => ?_)
              subst hp
              refine r_D (fun hD => ?_)
              have hq := new_fresh hD
              have hDr := q_D_perm (new_out hq) hD
              have heD : g.2.2.2.1 ∉ q :: P := fun z => eD_out cx (P_in_A hDr z)
              refine r_perm ((new_out hq).trans (out0 wm (va_pl (q :: P) _))) ?_
              refine add_front (ci := 1) cx dX3_interview_118 rfl tn_560 (las_push hq f8) (show N 1 ≤ 40 by omega) (fun i hi => ⟨List.mem_cons_of_mem _ (f5 i hi).1, _, (va_up_ne _ _ (fun z => by have z2 := (f5 i hi).1; rw [z] at z2; exact hq z2)).trans (f5 i hi).2⟩) List.mem_cons_self ⟨_, va_up_self _ _ _⟩ ⟨by decide, by decide, Nat.le_of_ble_eq_true rfl, Nat.le_of_ble_eq_true rfl⟩ (Nat.le_of_ble_eq_true rfl) (fun r mc2 el2 L2 f2' g1 g2 g3 g4 g5 => ?_)
              refine r_perm (out0 (el := va_up el 0 el2) (mc := va_up mc 0 mc2) (sz := fun k => (va_up (va_up N 1 (N 1 + 1)) 0 0) (k + 1)) wm (va_pl L2 f2')).symm ?_
              obtain ⟨t1, t2, t3, t4⟩ := ls3_grow heD (las_push (e := (oI (lN (2 ^ N 1)) x1 x2 x3 (nI jw) (nI (num (drL (A 0) (N 0)))))) hq f8) (las_push (e := (oI (lN (2 ^ N 1)) x1 x2 x3 (nI jw) (nI (num (drL (A 0) (N 0)))))) hq f9) (las_push hq f10) f11 f12 g1 g5
              have tI : ∀ b, b ∈ P → (∃ x, f b = .inr x) → b ∈ L2 ∧ f2' b = f b := fun b hb hf => by
                have hbq : b ≠ q := fun z => hq (z ▸ hb)
                obtain ⟨u1, u2⟩ := g1 b (List.mem_cons_of_mem _ hb) (ob_ne heD (las_push (e := (oI (lN (2 ^ N 1)) x1 x2 x3 (nI jw) (nI (num (drL (A 0) (N 0)))))) hq f8) (List.mem_cons_of_mem _ hb) (hf.elim (fun x hx => ⟨x, (va_up_ne _ _ hbq).trans hx⟩)))
                exact ⟨u1, u2.trans (va_up_ne _ _ hbq)⟩
              have tq := g1 q List.mem_cons_self (ob_ne heD (las_push (e := (oI (lN (2 ^ N 1)) x1 x2 x3 (nI jw) (nI (num (drL (A 0) (N 0)))))) hq f8) List.mem_cons_self ⟨_, va_up_self _ _ _⟩)
              have tf : ∀ i, i < N 1 + 1 → (va_up ia (N 1) q) i ∈ L2 ∧ f2' ((va_up ia (N 1) q) i) = oI (lN (2 ^ i)) (upd (A 1) (N 1) x1 i) (upd (A 2) (N 1) x2 i) (upd (A 3) (N 1) x3 i) (upd (A 4) (N 1) (nI jw) i) (upd (A 5) (N 1) (nI (num (drL (A 0) (N 0)))) i) := fun i hi => by
                by_cases e9 : i = N 1
                · subst e9
                  rw [va_up_self, pk_us, pk_us, pk_us, pk_us, pk_us]
                  exact ⟨tq.1, tq.2.trans (va_up_self _ _ _)⟩
                · rw [va_up_ne _ _ e9, pk_un e9, pk_un e9, pk_un e9, pk_un e9, pk_un e9]
                  have u := tI _ (f5 i (by omega)).1 ⟨_, (f5 i (by omega)).2⟩
                  exact ⟨u.1, u.2.trans (f5 i (by omega)).2⟩
              refine r_pop cx dX3_interview_121 rfl ?_
              refine r_aload_n cx dX3_interview_122 rfl rfl ?_
              refine r_dup cx dX3_interview_123 rfl ?_
              refine gf_X3_40 cx dX3_interview_124 8 rfl rfl ?_
              refine r_lload cx dX3_interview_127 rfl ?_
              refine r_lor cx dX3_interview_129 ?_
              refine r_eql (y := lN (thS (B 0) (N 1 + 1))) (by rw [fb_orL, thS, j4 _ (Nat.le_refl _)]; rfl) ?_
              refine pf_X3_40 cx dX3_interview_130 8 rfl (Nat.le_of_ble_eq_true rfl) ?_
              refine r_aload_n cx dX3_interview_133 rfl rfl ?_
              refine gf_X3_26 cx dX3_interview_134 8 rfl rfl ?_
              refine r_iload cx dX3_interview_137 rfl ?_
              refine r_aload_n cx dX3_interview_139 rfl rfl ?_
              refine r_iload cx dX3_interview_140 rfl ?_
              refine k_X3_98 cx (c_drawLines l g _ (ad 8) (ad 7) _ (N 1 + 1) (va_up ia (N 1) q) _ (fiS (ivA A (N 1) x1 x2 x3 (nI jw) (nI (num (drL (A 0) (N 0)))))) (nI jw) (iv_of (el := va_up el 0 el2) (mc := va_up mc 0 mc2) (sz := fun k => (va_up (va_up N 1 (N 1 + 1)) 0 0) (k + 1)) (by omega) rfl g2 tf)) dX3_interview_142 8 rfl ⟨Nat.le_of_ble_eq_true rfl, Nat.le_of_ble_eq_true rfl⟩ ⟨Nat.le_of_ble_eq_true rfl, Nat.le_of_ble_eq_true rfl⟩ rfl rfl (Nat.le_of_ble_eq_true rfl) (fun r w hp => ?_)
              obtain ⟨rfl, rfl⟩ := hp
              first | refine r_iastN cx 3 0 dX3_interview_145 rfl rfl (by omega) (by omega) ?_ | refine r_iast cx 3 0 dX3_interview_145 rfl rfl (by omega) ?_
              refine r_iload cx dX3_interview_146 rfl ?_
              exact x_iret cx dX3_interview_148 hr (⟨by rw [decide_eq_false h_70, decide_eq_false (by omega : ¬ N 1 = 40)]; simp at h_6 h_15 h_24 h_44; simp [kc, h_6, h_15, h_24, h_44], rfl, ⟨ad, _, _, va_up ia (N 1) q, ra, _, _, _, ro, _, kn, row, L2, f2', rfl, rfl, ⟨rfl, rfl, rfl⟩, f2, (fun w hw => by
    show upd kl jw (drw (fun i => hasB (lN (thS (B 0) (N 1 + 1))) (lN (2 ^ i))) _ (N 1 + 1) (nI jw)) w = drw (hrS B) (fiS (ivA A (N 1) x1 x2 x3 (nI jw) (nI (num (drL (A 0) (N 0)))))) (N 1 + 1) (nI w)
    by_cases e9 : w = jw
    · rw [e9, pk_us, drw_th (by omega)]
    · rw [pk_un e9, f3 w hw, drw_new (x4 := nI jw) (fun i hi => ⟨pk_un (by omega), pk_un (by omega), pk_un (by omega)⟩) pk_us (fun z => e9 ((nI_inj (by omega) (by omega)).mp z))]), f4, tf, (fun r hr => ⟨(tI _ (f6 r hr).1 ⟨_, (f6 r hr).2⟩).1, (tI _ (f6 r hr).1 ⟨_, (f6 r hr).2⟩).2.trans (f6 r hr).2⟩), f7, g2, t1, las_cong t2 (fun i hi => (va_up_ne _ _ (fun z => by have := (j11 i hi).1; omega)).symm), (fun _ b => t3 b), (fun _ b => t4 b), f13⟩⟩) (Nat.le_of_ble_eq_true rfl) (Nat.le_of_ble_eq_true rfl)
            · skip
              exact th_IS cx "the draft is empty, or there are 40 interviews" 84 hl htab dX3_interview_80 dX3_interview_83 dX3_interview_84 dX3_interview_86 dX3_interview_89 (by decide) ⟨Nat.le_of_ble_eq_true rfl, Nat.le_of_ble_eq_true rfl, Nat.le_of_ble_eq_true rfl, Nat.le_of_ble_eq_true rfl⟩ ⟨Nat.le_of_ble_eq_true rfl, Nat.le_of_ble_eq_true rfl⟩ (⟨Or.inr (Or.inr ⟨rfl, by rw [decide_eq_true (by omega : N 1 = 40)]; simp at h_6 h_15 h_24 h_44; simp [kc, h_6, h_15, h_24, h_44]⟩), rfl⟩)
        · skip
          exact th_IA cx "no such year" 77 hl htab dX3_interview_47 dX3_interview_50 dX3_interview_51 dX3_interview_53 dX3_interview_56 (by decide) ⟨Nat.le_of_ble_eq_true rfl, Nat.le_of_ble_eq_true rfl, Nat.le_of_ble_eq_true rfl, Nat.le_of_ble_eq_true rfl⟩ ⟨Nat.le_of_ble_eq_true rfl, Nat.le_of_ble_eq_true rfl⟩ (⟨Or.inr (Or.inl ⟨rfl, by simp at h_6 h_15 h_24 h_44; simp [kc, h_6, h_15, h_24, h_44]⟩), rfl⟩)
      · skip
        exact th_IO cx "no such informant, place or word" 73 hl htab dX3_interview_27 dX3_interview_30 dX3_interview_31 dX3_interview_33 dX3_interview_36 (by decide) ⟨Nat.le_of_ble_eq_true rfl, Nat.le_of_ble_eq_true rfl, Nat.le_of_ble_eq_true rfl, Nat.le_of_ble_eq_true rfl⟩ ⟨Nat.le_of_ble_eq_true rfl, Nat.le_of_ble_eq_true rfl⟩ (⟨Or.inl ⟨rfl, by first | (simp [kc, h_6]; done) | (simp [kc, h_15]; done) | (simp [kc, h_24]; done)⟩, rfl⟩)
