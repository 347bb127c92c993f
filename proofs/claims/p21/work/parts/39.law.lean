set_option maxHeartbeats 4000000 in
set_option maxRecDepth 100000 in
theorem w_loop {p : Program} {l : Launch} {e : Env} {s : State} {m : MethodId} {args : Array Value} {below : List Frame} {meth : Method} {c : Code} {g : q_G} {Q : State → Prop} (cx : q_cx g p m c cL_law 15 s args RL meth) (hl : l.stackTraces = false) (hsc : (q_sc g).2.1 ≤ 260) {a0 : Nat} {ld : Nat → Nat} (fin : ∀ (cl sl : Nat) (lv : List (Nat × Value)) (ws : va_W), cl ≤ 904059 → sl ≤ 6389593 → AT p l e room_1 s m args below meth c g 15 Q cl sl 247 lv [.int (nI 1)] ws) : ∀ (k : Nat) {i cl sl : Nat} {ws : va_W}, 100 < i + k → i ≤ 100 → cl ≤ 30 + 4 * i → sl ≤ 400 + 250 * i → lwI g a0 ld ws → AT p l e room_1 s m args below meth c g 15 Q cl sl 85 [(0, .ref (q_sc g).1), (1, .ref a0), (2, .ref (ld 0)), (3, .ref (ld 1)), (4, .ref (ld 2)), (5, .ref (ld 3)), (6, .ref (ld 4)), (7, .ref (ld 5)), (8, .ref (ld 6)), (9, .ref (ld 7)), (10, .ref (ld 8)), (11, .int (nI i))] [] ws
  | 0, i, cl, sl, ws, h, h1, _, _, _ => absurd h (by omega)
  | k + 1, i, cl, sl, ws, h, h1, hcl, hsl, hw => by
    have ih := @w_loop p l e s m args below meth c g Q cx hl hsc a0 ld fin k
    refine r_iload cx dL_law_85 rfl ?_
    refine r_bipush (v := nI 100) cx dL_law_87 (by decide) ?_
    refine r_icmpgeN (tgt := 246) cx (by omega) (by omega) dL_law_89 (by decide) (fun h_89 => ?_) (fun h_89 => ?_)
    · refine r_iconst (v := nI 1) cx dL_law_246 (by decide) ?_
      exact fin cl sl _ ws (by omega) (by omega)
    refine r_aload_n cx dL_law_92 rfl rfl ?_
    refine r_iload cx dL_law_93 rfl ?_
    refine k_L_112 cx (c_Cell l g ws i (by omega) (by omega)) dL_law_95 ⟨Nat.le_of_ble_eq_true rfl, Nat.le_of_ble_eq_true rfl⟩ ⟨(by show cl + 0 ≤ 904059; omega), (by show sl + 0 ≤ 6389593; omega)⟩ rfl rfl (Nat.le_of_ble_eq_true rfl) (fun z0 w hp => ?_)
    subst hp
    refine r_wide (k := cl) (n := sl) (Nat.le_refl _) (Nat.le_refl _) ?_
    refine r_istore cx dL_law_98 (by decide) rfl ?_
    refine r_iload cx dL_law_100 rfl ?_
    refine r_bipush (v := nI 20) cx dL_law_102 (by decide) ?_
    refine k_L_58 cx (c_Low l g _ z0 20 (by decide) (by decide)) dL_law_104 ⟨Nat.le_of_ble_eq_true rfl, Nat.le_of_ble_eq_true rfl⟩ ⟨(by show cl + 0 ≤ 904059; omega), (by show sl + 0 ≤ 6389593; omega)⟩ rfl rfl (Nat.le_of_ble_eq_true rfl) (fun r w hp => ?_)
    obtain ⟨⟨ac, hac, rfl⟩, rfl⟩ := hp
    refine r_wide (k := cl) (n := sl) (Nat.le_refl _) (Nat.le_refl _) ?_
    refine r_istore cx dL_law_107 (by decide) rfl ?_
    have next : ∀ w, lwI g a0 ld w → AT p l e room_1 s m args below meth c g 15 Q (cl + 4) (sl + 250) 240 [(12, .int z0), (0, .ref (q_sc g).1), (1, .ref a0), (2, .ref (ld 0)), (3, .ref (ld 1)), (4, .ref (ld 2)), (5, .ref (ld 3)), (6, .ref (ld 4)), (7, .ref (ld 5)), (8, .ref (ld 6)), (9, .ref (ld 7)), (10, .ref (ld 8)), (11, .int (nI i))] [] w := fun w hw2 => by
      refine r_iincN (j := 1) cx dL_law_240 rfl rfl (by decide) rfl ?_
      refine r_goto (tgt := 85) cx dL_law_243 (by decide) ?_
      exact r_lv (q_pk [2, 3, 4, 5, 6, 7, 8, 9, 10, 11, 12, 0] rfl) (ih (i := i + 1) (cl := cl + 4) (sl := sl + 250) (by omega) (by omega) (by omega) (by omega) hw2)
    have J199 : ∀ w, lwI g a0 ld w → AT p l e room_1 s m args below meth c g 15 Q (cl + 4) (sl + 250) 199 [(12, .int z0), (0, .ref (q_sc g).1), (1, .ref a0), (2, .ref (ld 0)), (3, .ref (ld 1)), (4, .ref (ld 2)), (5, .ref (ld 3)), (6, .ref (ld 4)), (7, .ref (ld 5)), (8, .ref (ld 6)), (9, .ref (ld 7)), (10, .ref (ld 8)), (11, .int (nI i))] [.int (nI 1)] w := fun w hw2 => by
      refine r_istore cx dL_law_199 (by decide) rfl ?_
      refine r_iload cx dL_law_201 rfl ?_
      refine r_ifeqN (tgt := 238) cx (by decide) dL_law_203 (by decide) (fun h_203 => absurd h_203 (by decide)) (fun h_203 => ?_)
      refine r_iload cx dL_law_206 rfl ?_
      refine r_iconst (v := nI 3) cx dL_law_208 (by decide) ?_
      refine r_iremN cx dL_law_209 (by omega) (by omega) (by omega) ?_
      refine r_ifneN (tgt := 240) cx (by omega) dL_law_210 (by decide) (fun h_210 => ?_) (fun h_210 => ?_)
      · exact r_lv (q_pk [1, 2, 3, 4, 5, 6, 7, 8, 9, 10, 11, 12, 13] rfl) (next w hw2)
      refine r_aload_n cx dL_law_213 rfl rfl ?_
      refine r_iload cx dL_law_214 rfl ?_
      refine r_iconst (v := nI 3) cx dL_law_216 (by decide) ?_
      refine r_ishr cx dL_law_217 ?_
      refine r_aload_n cx dL_law_218 rfl rfl ?_
      refine r_aload cx dL_law_219 rfl ?_
      refine r_aload cx dL_law_221 rfl ?_
      refine r_aload cx dL_law_223 rfl ?_
      refine r_aload cx dL_law_225 rfl ?_
      refine r_aload cx dL_law_227 rfl ?_
      refine r_aload cx dL_law_229 rfl ?_
      refine r_aload_n cx dL_law_231 rfl rfl ?_
      obtain ⟨N, A, B, L, Z, hZ, hcR⟩ := hw2
      refine k_L_124 cx (c_LisSo l g N A B L w a0 ld Z hcR hZ _) dL_law_232 ⟨Nat.le_of_ble_eq_true rfl, Nat.le_of_ble_eq_true rfl⟩ ⟨(by show (cl + 4) + 0 ≤ 904059; omega), (by show (sl + 250) + 0 ≤ 6389593; omega)⟩ rfl rfl (Nat.le_of_ble_eq_true rfl) (fun r w2 hp => ?_)
      obtain ⟨rfl, Z2, hZ2, hcR2⟩ := hp
      refine r_wide (k := cl + 4) (n := sl + 250) (Nat.le_refl _) (Nat.le_refl _) ?_
      refine r_ifneN (tgt := 240) cx (by decide) dL_law_235 (by decide) (fun h_235 => ?_) (fun h_235 => absurd h_235 (by decide))
      exact r_lv (q_pk [1, 2, 3, 4, 5, 6, 7, 8, 9, 10, 11, 12, 13] rfl) (next w2 ⟨N, A, B, L, Z2, hZ2, hcR2⟩)
    refine r_iload cx dL_law_109 rfl ?_
    refine r_bipush (v := nI 11) cx dL_law_111 (by decide) ?_
    refine r_icmpgeN (tgt := 156) cx (by omega) (by omega) dL_law_113 (by decide) (fun h_113 => ?_) (fun h_113 => ?_)
    · skip
      refine r_aload_n cx dL_law_156 rfl rfl ?_
      refine at_val (tgt := 184) (fun z => ∃ n, n < 1000 ∧ z = nI n) (fun z hz => ?_) (fun Jv => ?_)
      · obtain ⟨an, han, rfl⟩ := hz
        refine r_iload cx dL_law_184 rfl ?_
        refine r_iconst (v := nI 5) cx dL_law_186 (by decide) ?_
        refine r_ishr cx dL_law_187 ?_
        refine r_aload_n cx dL_law_188 rfl rfl ?_
        refine r_aload cx dL_law_189 rfl ?_
        refine r_aload cx dL_law_191 rfl ?_
        refine r_aload cx dL_law_193 rfl ?_
        refine r_aload_n cx dL_law_195 rfl rfl ?_
        refine k_L_120 cx (c_Lrules l g hl _ a0 ld hw an han _) dL_law_196 ⟨Nat.le_of_ble_eq_true rfl, Nat.le_of_ble_eq_true rfl⟩ ⟨(by show cl + 4 ≤ 904059; omega), (by show sl + 250 ≤ 6389593; omega)⟩ rfl rfl (Nat.le_of_ble_eq_true rfl) (fun r w2 hp => ?_)
        obtain ⟨rfl, hw2⟩ := hp
        refine r_wide (k := cl + 4) (n := sl + 250) (Nat.le_refl _) (Nat.le_refl _) ?_
        exact r_lv (q_pk [1, 2, 3, 4, 5, 6, 7, 8, 9, 10, 11, 12, 13] rfl) (J199 w2 hw2)
      refine r_iload cx dL_law_157 rfl ?_
      refine r_bipush (v := nI 13) cx dL_law_159 (by decide) ?_
      refine r_icmpgeN (tgt := 168) cx (by omega) (by omega) dL_law_161 (by decide) (fun h_161 => ?_) (fun h_161 => ?_)
      · skip
        refine r_iload cx dL_law_168 rfl ?_
        refine r_bipush (v := nI 15) cx dL_law_170 (by decide) ?_
        refine r_icmpgeN (tgt := 179) cx (by omega) (by omega) dL_law_172 (by decide) (fun h_172 => ?_) (fun h_172 => ?_)
        · skip
          refine r_iload cx dL_law_179 rfl ?_
          refine r_bipush (v := nI 12) cx dL_law_181 (by decide) ?_
          refine r_isubN cx dL_law_183 (by omega) ?_
          exact Jv _ ⟨ac - 12, by omega, rfl⟩
        · skip
          refine r_iconst (v := nI 1) cx dL_law_175 (by decide) ?_
          refine r_goto (tgt := 184) cx dL_law_176 (by decide) ?_
          exact Jv _ ⟨1, by decide, rfl⟩
      · skip
        refine r_iconst (v := nI 0) cx dL_law_164 (by decide) ?_
        refine r_goto (tgt := 184) cx dL_law_165 (by decide) ?_
        exact Jv _ ⟨0, by decide, rfl⟩
    · skip
      refine r_aload_n cx dL_law_116 rfl rfl ?_
      refine at_val (tgt := 142) (fun z => ∃ n, n < 1000 ∧ z = nI n) (fun z hz => ?_) (fun Jv => ?_)
      · obtain ⟨an, han, rfl⟩ := hz
        refine r_iload cx dL_law_142 rfl ?_
        refine r_iconst (v := nI 5) cx dL_law_144 (by decide) ?_
        refine r_ishr cx dL_law_145 ?_
        refine r_aload_n cx dL_law_146 rfl rfl ?_
        refine r_aload cx dL_law_147 rfl ?_
        refine r_aload_n cx dL_law_149 rfl rfl ?_
        refine k_L_116 cx (c_Ldrafts l g hl _ a0 ld hw an han _) dL_law_150 ⟨Nat.le_of_ble_eq_true rfl, Nat.le_of_ble_eq_true rfl⟩ ⟨(by show cl + 4 ≤ 904059; omega), (by show sl + 250 ≤ 6389593; omega)⟩ rfl rfl (Nat.le_of_ble_eq_true rfl) (fun r w2 hp => ?_)
        obtain ⟨rfl, hw2⟩ := hp
        refine r_wide (k := cl + 4) (n := sl + 250) (Nat.le_refl _) (Nat.le_refl _) ?_
        refine r_goto (tgt := 199) cx dL_law_153 (by decide) ?_
        exact r_lv (q_pk [1, 2, 3, 4, 5, 6, 7, 8, 9, 10, 11, 12, 13] rfl) (J199 w2 hw2)
      refine r_iload cx dL_law_117 rfl ?_
      refine r_bipush (v := nI 8) cx dL_law_119 (by decide) ?_
      refine r_icmpleN (tgt := 128) cx (by omega) (by omega) dL_law_121 (by decide) (fun h_121 => ?_) (fun h_121 => ?_)
      · skip
        refine r_iload cx dL_law_128 rfl ?_
        refine r_bipush (v := nI 6) cx dL_law_130 (by decide) ?_
        refine r_icmpleN (tgt := 140) cx (by omega) (by omega) dL_law_132 (by decide) (fun h_132 => ?_) (fun h_132 => ?_)
        · skip
          refine r_iload cx dL_law_140 rfl ?_
          exact Jv _ ⟨ac, by omega, rfl⟩
        · skip
          refine r_bipush (v := nI 7) cx dL_law_135 (by decide) ?_
          refine r_goto (tgt := 142) cx dL_law_137 (by decide) ?_
          exact Jv _ ⟨7, by decide, rfl⟩
      · skip
        refine r_iconst (v := nI 5) cx dL_law_124 (by decide) ?_
        refine r_goto (tgt := 142) cx dL_law_125 (by decide) ?_
        exact Jv _ ⟨5, by decide, rfl⟩
set_option maxHeartbeats 4000000 in
set_option maxRecDepth 100000 in
theorem w_begin {p : Program} {l : Launch} {e : Env} {s : State} {m : MethodId} {args : Array Value} {below : List Frame} {meth : Method} {c : Code} {g : q_G} {Q : State → Prop} (cx : q_cx g p m c cL_law 15 s args RL meth) (hl : l.stackTraces = false) (hsc : (q_sc g).2.1 ≤ 260) (fin : ∀ (cl sl : Nat) (lv : List (Nat × Value)) (ws : va_W), cl ≤ 904059 → sl ≤ 6389593 → AT p l e room_1 s m args below meth c g 15 Q cl sl 247 lv [.int (nI 1)] ws) : AT p l e room_1 s m args below meth c g 15 Q 0 0 0 [(0, .ref (q_sc g).1)] [] [] := by
  refine nw_L_11 cx dL_law_0 (Nat.le_of_ble_eq_true rfl) (Nat.le_of_ble_eq_true rfl) (fun q => ?_)
  refine r_dup cx dL_law_3 rfl ?_
  refine r_ws (ws2 := (q, .inr (4, [.null, .null, .null, .null, .null, .null, .null, .long 0, .int 0, .int 0])) :: []) rfl ?_
  refine k_L_111 cx (c_atlas l g [] q) dL_law_4 ⟨Nat.le_of_ble_eq_true rfl, Nat.le_of_ble_eq_true rfl⟩ ⟨Nat.le_of_ble_eq_true rfl, Nat.le_of_ble_eq_true rfl⟩ rfl rfl (Nat.le_of_ble_eq_true rfl) (fun w hp => ?_)
  obtain ⟨ad, ro, rfl, hro, rfl⟩ := hp
  refine r_astore_n cx dL_law_7 rfl (by decide) rfl ?_
  refine r_bipush (v := nI 14) cx dL_law_8 (by decide) ?_
  refine r_newarr (atype := .int) (N := 14) (a0 := (14, .inl (fun _ => 0))) cx 0 tb_65 rfl rfl trivial (fun _ => rfl) (by decide) (by decide) dL_law_10 (Nat.le_of_ble_eq_true rfl) (Nat.le_of_ble_eq_true rfl) (fun q0 => ?_)
  refine r_perm (List.perm_append_singleton _ _) ?_
  refine r_astore_n cx dL_law_12 rfl (by decide) rfl ?_
  refine r_bipush (v := nI 64) cx dL_law_13 (by decide) ?_
  refine r_newarr (atype := .int) (N := 64) (a0 := (64, .inl (fun _ => 0))) cx 0 tb_65 rfl rfl trivial (fun _ => rfl) (by decide) (by decide) dL_law_15 (Nat.le_of_ble_eq_true rfl) (Nat.le_of_ble_eq_true rfl) (fun q1 => ?_)
  refine r_perm (List.perm_append_singleton _ _) ?_
  refine r_astore_n cx dL_law_17 rfl (by decide) rfl ?_
  refine r_bipush (v := nI 16) cx dL_law_18 (by decide) ?_
  refine r_newarr (atype := .int) (N := 16) (a0 := (16, .inl (fun _ => 0))) cx 0 tb_65 rfl rfl trivial (fun _ => rfl) (by decide) (by decide) dL_law_20 (Nat.le_of_ble_eq_true rfl) (Nat.le_of_ble_eq_true rfl) (fun q2 => ?_)
  refine r_perm (List.perm_append_singleton _ _) ?_
  refine r_astore cx dL_law_22 (by decide) rfl ?_
  refine r_bipush (v := nI 48) cx dL_law_24 (by decide) ?_
  refine r_newarr (atype := .int) (N := 48) (a0 := (48, .inl (fun _ => 0))) cx 0 tb_65 rfl rfl trivial (fun _ => rfl) (by decide) (by decide) dL_law_26 (Nat.le_of_ble_eq_true rfl) (Nat.le_of_ble_eq_true rfl) (fun q3 => ?_)
  refine r_perm (List.perm_append_singleton _ _) ?_
  refine r_astore cx dL_law_28 (by decide) rfl ?_
  refine r_bipush (v := nI 8) cx dL_law_30 (by decide) ?_
  refine r_newarr (atype := .int) (N := 8) (a0 := (8, .inl (fun _ => 0))) cx 0 tb_65 rfl rfl trivial (fun _ => rfl) (by decide) (by decide) dL_law_32 (Nat.le_of_ble_eq_true rfl) (Nat.le_of_ble_eq_true rfl) (fun q4 => ?_)
  refine r_perm (List.perm_append_singleton _ _) ?_
  refine r_astore cx dL_law_34 (by decide) rfl ?_
  refine r_bipush (v := nI 6) cx dL_law_36 (by decide) ?_
  refine r_newarr (atype := .int) (N := 6) (a0 := (6, .inl (fun _ => 0))) cx 0 tb_65 rfl rfl trivial (fun _ => rfl) (by decide) (by decide) dL_law_38 (Nat.le_of_ble_eq_true rfl) (Nat.le_of_ble_eq_true rfl) (fun q5 => ?_)
  refine r_perm (List.perm_append_singleton _ _) ?_
  refine r_astore cx dL_law_40 (by decide) rfl ?_
  refine r_bipush (v := nI 8) cx dL_law_42 (by decide) ?_
  refine r_newarr (atype := .int) (N := 8) (a0 := (8, .inl (fun _ => 0))) cx 0 tb_65 rfl rfl trivial (fun _ => rfl) (by decide) (by decide) dL_law_44 (Nat.le_of_ble_eq_true rfl) (Nat.le_of_ble_eq_true rfl) (fun q6 => ?_)
  refine r_perm (List.perm_append_singleton _ _) ?_
  refine r_astore cx dL_law_46 (by decide) rfl ?_
  refine r_bipush (v := nI 8) cx dL_law_48 (by decide) ?_
  refine r_newarr (atype := .int) (N := 8) (a0 := (8, .inl (fun _ => 0))) cx 0 tb_65 rfl rfl trivial (fun _ => rfl) (by decide) (by decide) dL_law_50 (Nat.le_of_ble_eq_true rfl) (Nat.le_of_ble_eq_true rfl) (fun q7 => ?_)
  refine r_perm (List.perm_append_singleton _ _) ?_
  refine r_astore cx dL_law_52 (by decide) rfl ?_
  refine r_bipush (v := nI 9) cx dL_law_54 (by decide) ?_
  refine r_newarr (atype := .int) (N := 9) (a0 := (9, .inl (fun _ => 0))) cx 0 tb_65 rfl rfl trivial (fun _ => rfl) (by decide) (by decide) dL_law_56 (Nat.le_of_ble_eq_true rfl) (Nat.le_of_ble_eq_true rfl) (fun q8 => ?_)
  refine r_perm (List.perm_append_singleton _ _) ?_
  refine r_astore cx dL_law_58 (by decide) rfl ?_
  refine r_perm (ws2 := iF g ad (fun _ => 0) (fun _ => g.2.2.2.1) (fun _ => 0) 0 0 0 ro (fun _ => 0) (fun _ => 0) (fun _ => 0) ++ lF g (fun k => if k = 0 then q0 else if k = 1 then q1 else if k = 2 then q2 else if k = 3 then q3 else if k = 4 then q4 else if k = 5 then q5 else if k = 6 then q6 else if k = 7 then q7 else q8) (fun _ _ => 0)) (by
    rw [List.append_nil]
    exact List.perm_append_comm (l₁ := lF g (fun k => if k = 0 then q0 else if k = 1 then q1 else if k = 2 then q2 else if k = 3 then q3 else if k = 4 then q4 else if k = 5 then q5 else if k = 6 then q6 else if k = 7 then q7 else q8) (fun _ _ => 0)) (l₂ := iF g ad (fun _ => 0) (fun _ => g.2.2.2.1) (fun _ => 0) 0 0 0 ro (fun _ => 0) (fun _ => 0) (fun _ => 0))) ?_
  obtain ⟨ld, hld⟩ : ∃ ld : Nat → Nat, ld = (fun k => if k = 0 then q0 else if k = 1 then q1 else if k = 2 then q2 else if k = 3 then q3 else if k = 4 then q4 else if k = 5 then q5 else if k = 6 then q6 else if k = 7 then q7 else q8) := ⟨_, rfl⟩
  have hw := cR_start g ad ro ro (lF g ld (fun _ _ => 0)) hro hro
  refine r_bipush (v := nI 10) cx dL_law_60 (by decide) ?_
  refine r_istore cx dL_law_62 (by decide) rfl ?_
  refine r_lv (lv2 := [(0, .ref (q_sc g).1), (1, .ref (ad 8)), (2, .ref (ld 0)), (3, .ref (ld 1)), (4, .ref (ld 2)), (5, .ref (ld 3)), (6, .ref (ld 4)), (7, .ref (ld 5)), (8, .ref (ld 6)), (9, .ref (ld 7)), (10, .ref (ld 8)), (11, .int (nI 10))]) (by subst hld; exact q_pk [11, 10, 9, 8, 7, 6, 5, 4, 3, 2, 1, 0] rfl) ?_
  refine at_loop (fun (x : Nat × ((Nat → Int32) × va_W)) => (10 ≤ x.1 ∧ x.1 ≤ 14) ∧ (∀ j, j < 10 → x.2.1 j = nI 0) ∧ (∀ j, 10 ≤ j → j < x.1 → x.2.1 j = -1) ∧ cR g (ad 8) (fun _ => 0) (fun k => if k = 6 then ro else fun _ => 0) (fun _ _ => false) (fun _ _ => 0) (lF g ld (va_up (fun _ _ => 0) 0 x.2.1)) x.2.2) (fun x => [(0, .ref (q_sc g).1), (1, .ref (ad 8)), (2, .ref (ld 0)), (3, .ref (ld 1)), (4, .ref (ld 2)), (5, .ref (ld 3)), (6, .ref (ld 4)), (7, .ref (ld 5)), (8, .ref (ld 6)), (9, .ref (ld 7)), (10, .ref (ld 8)), (11, .int (nI x.1))]) (fun x => x.2.2) (fun x => 14 - x.1) (10, (fun _ => 0, _)) ⟨⟨(show 10 ≤ 10 from Nat.le_refl 10), (show 10 ≤ 14 from by decide)⟩, fun j _ => nI_0.symm, fun j h1 h2 => absurd h2 (Nat.not_lt.mpr h1), hw⟩ (q_pk [0, 1, 2, 3, 4, 5, 6, 7, 8, 9, 10, 11] rfl) (by subst hld; rfl) (fun x hx ih => ?_)
  obtain ⟨k, ⟨f, w⟩⟩ := x
  try dsimp only at hx ⊢
  clear hw
  obtain ⟨⟨hx1, hx2⟩, h0, hm, hw⟩ := hx
  refine r_iload cx dL_law_64 rfl ?_
  refine r_bipush (v := nI 14) cx dL_law_66 (by decide) ?_
  refine r_icmpgeN (tgt := 82) cx (by omega) (by omega) dL_law_68 (by decide) (fun h_68 => ?_) (fun h_68 => ?_)
  · skip
    refine r_iconst (v := nI 0) cx dL_law_82 (by decide) ?_
    refine r_istore cx dL_law_83 (by decide) rfl ?_
    obtain rfl : k = 14 := by omega
    exact r_lv (q_pk [1, 2, 3, 4, 5, 6, 7, 8, 9, 10, 11, 0] rfl) (w_loop cx hl hsc fin 101 (i := 0) (by decide) (by decide) (Nat.le_of_ble_eq_true rfl) (Nat.le_of_ble_eq_true rfl) (lwI_mk hw (lR_start hro h0 (fun j hj => hm (10 + j) (by omega) (by omega)) (fun j _ => nI_0.symm))))
  · skip
    refine r_aload_n cx dL_law_71 rfl rfl ?_
    refine r_iload cx dL_law_72 rfl ?_
    refine r_iconst (v := -1) cx dL_law_74 (by decide) ?_
    refine ls_0 cx dL_law_75 hw (by omega) (fun w2 hw2 => ?_)
    refine r_iincN (j := 1) cx dL_law_76 rfl rfl (by decide) rfl ?_
    refine r_goto (tgt := 64) cx dL_law_79 (by decide) ?_
    exact r_lv (q_pk [1, 2, 3, 4, 5, 6, 7, 8, 9, 10, 11, 0] rfl) (ih (k + 1, (upd f k (-1), w2)) ⟨⟨by show 10 ≤ k + 1; omega, by show k + 1 ≤ 14; omega⟩, fun j hj => (show upd f k (-1) j = nI 0 from (pk_un (by omega)).trans (h0 j hj)), fun j h1 h2 => by
        have h2 : j < k + 1 := h2
        show upd f k (-1) j = -1
        by_cases e9 : j = k
        · rw [e9, pk_us]
        · rw [pk_un e9]
          exact hm j h1 (by omega), hw2⟩ (by show 14 - (k + 1) < 14 - k; omega))
