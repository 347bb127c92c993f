set_option maxHeartbeats 4000000 in
set_option maxRecDepth 100000 in
theorem c_mThrown (l : Launch) (g : q_G) (md : Nat → Nat) (wr : va_W) (t : Int32) (N : Nat → Nat) (A : Nat → Nat → Int32) (B : Nat → Nat → Bool) (L : Nat → Nat → Int64) (S : Nat → Nat → Int32) : MetW l g yX4_thrown cX4_thrown 1 (some .int) ({ frames := 0, cells := 0, slots := 0, locals := 0 } : Room) [.ref (md 22)] (mF g md t N A B L S ++ wr) (q_Qi g (fun r w => r = t ∧ w = mF g md t N A B L S ++ wr)) := by
  refine q_met (own := RX4) (by decide +kernel) rfl (Nat.le_of_ble_eq_true rfl) (fun p e s m args below meth c cx hr hnm => ?_)
  refine r_lv (lv2 := [(0, .ref (md 22))]) (q_pk [0] rfl) ?_
  refine r_aload_n cx dX4_thrown_0 rfl rfl ?_
  refine gf_X4_78 cx dX4_thrown_1 22 rfl rfl ?_
  exact r_iret cx dX4_thrown_4 hr (⟨rfl, rfl⟩) (Nat.le_of_ble_eq_true rfl) (Nat.le_of_ble_eq_true rfl)
section LAWR
variable {p : Program} {l : Launch} {e : Env} {R : Room} {s : State} {m : MethodId} {args : Array Value} {below : List Frame} {meth : Method} {c : Code} {g : q_G} {nL : Nat} {Q : State → Prop} {cl sl : Nat} {cc : ByteArray} {own : String} {pc : Nat} {lv : List (Nat × Value)} {st : List Value} {ws : va_W}
theorem r_sld (cx : q_cx g p m c cc nL s args own meth) {b n : Nat} {xs : Nat → Int32} (hX : va_X b n xs s s.heap) (hbl : b < s.heap.size) (hbA : ¬ q_A g b) {j : Nat} (hj : j < n) (hn : n < 2147483648) (hd : decode cc pc = .ok (.iaload, 1)) (k : AT p l e R s m args below meth c g nL Q cl sl (pc + 1) lv (.int (xs j) :: st) ws) : AT p l e R s m args below meth c g nL Q cl sl pc lv (.int (nI j) :: .ref b :: st) ws := fun H locs ls hP hD hS hl =>
  va_sld cx.1.1 cx.1.2.1 hX hbl hbA hS (vp_in_nI hj hn) hd (by rw [nI_clamp (Nat.lt_trans hj hn)]; exact k H locs ls hP hD hS hl)
theorem r_slen (cx : q_cx g p m c cc nL s args own meth) {b n : Nat} {xs : Nat → Int32} (hX : va_X b n xs s s.heap) (hbl : b < s.heap.size) (hbA : ¬ q_A g b) (hd : decode cc pc = .ok (.arraylength, 1)) (k : AT p l e R s m args below meth c g nL Q cl sl (pc + 1) lv (.int (nI n) :: st) ws) : AT p l e R s m args below meth c g nL Q cl sl pc lv (.ref b :: st) ws := fun H locs ls hP hD hS hl =>
  va_slen cx.1.1 cx.1.2.1 hX hbl hbA hS hd (k H locs ls hP hD hS hl)
end LAWR
theorem kc_nz {a b d : Bool} (h : kc a b d ≠ 0) : ¬ nI (kc a b d) = 0 := by
  cases a <;> cases b <;> cases d <;> first | exact absurd rfl h | decide
def lwI (g : q_G) (a0 ao : Nat) (md : Nat → Nat) (w : va_W) : Prop := ∃ (t : Int32) (N : Nat → Nat) (A : Nat → Nat → Int32) (B : Nat → Nat → Bool) (L : Nat → Nat → Int64) (S : Nat → Nat → Int32) (f : Nat → Int64), inv N A B L ∧ cR g a0 N A B L ((ao, .inl (q_cJ g, 1, .inr (.inl f))) :: mF g md t N A B L S) w
theorem r_eql2 {p : Program} {l : Launch} {e : Env} {R : Room} {s : State} {m : MethodId} {args : Array Value} {below : List Frame} {meth : Method} {c : Code} {g : q_G} {nL : Nat} {Q : State → Prop} {cl sl : Nat} {pc : Nat} {lv : List (Nat × Value)} {st : List Value} {ws : va_W} {a x y : Int64} (h : x = y) (k : AT p l e R s m args below meth c g nL Q cl sl pc lv (.long a :: .long y :: st) ws) : AT p l e R s m args below meth c g nL Q cl sl pc lv (.long a :: .long x :: st) ws := h ▸ k
set_option maxHeartbeats 4000000 in
set_option maxRecDepth 100000 in
theorem w_sound {p : Program} {l : Launch} {e : Env} {s : State} {m : MethodId} {args : Array Value} {below : List Frame} {meth : Method} {c : Code} {g : q_G} {Q : State → Prop} {cl sl : Nat} (cx : q_cx g p m c cL_law 7 s args RL meth) (hl : l.stackTraces = false) {b n i : Nat} {xs : Nat → Int32} (hX : va_X b n xs s s.heap) (hbl : b < s.heap.size) (hbA : ¬ q_A g b) (hi : i + 7 ≤ n) (hn : n ≤ 3584) (hcl : cl + 4 ≤ 601024) (hsl : sl + 250 ≤ 7293034) {a0 ao : Nat} {md : Nat → Nat} {ws : va_W} (hw : lwI g a0 ao md ws)
    (kk : ∀ w, lwI g a0 ao md w → AT p l e room_1 s m args below meth c g 7 Q (cl + 4) (sl + 250) 1289 [(0, .ref b), (1, .ref a0), (2, .ref (md 22)), (3, .ref ao), (4, .int (nI i))] [] w) : AT p l e room_1 s m args below meth c g 7 Q cl sl 128 [(0, .ref b), (1, .ref a0), (2, .ref (md 22)), (3, .ref ao), (4, .int (nI i))] [] ws := by
  obtain ⟨t, N, A, B, L, S, f, hI, hR⟩ := hw
  refine r_aload_n cx dL_law_128 rfl rfl ?_
  refine r_aload_n cx dL_law_129 rfl rfl ?_
  refine r_iload cx dL_law_130 rfl ?_
  refine r_iconst (v := nI 1) cx dL_law_132 (by decide) ?_
  refine r_iaddN cx dL_law_133 ?_
  refine r_sld cx hX hbl hbA (by omega) (by omega) dL_law_134 ?_
  refine r_aload_n cx dL_law_135 rfl rfl ?_
  refine k_L_79 cx (c_Lsound l g hl N A B L _ ws a0 ao f hI hR (xs (i + 1))) dL_law_136 ⟨Nat.le_of_ble_eq_true rfl, Nat.le_of_ble_eq_true rfl⟩ ⟨hcl, hsl⟩ rfl rfl (Nat.le_of_ble_eq_true rfl) (fun r u hp => ?_)
  obtain ⟨rfl, f2, (⟨hk, hf2, hR2⟩ | ⟨hk, hR2⟩)⟩ := hp
  · skip
    obtain ⟨Y, hY, hback⟩ := cR_swap hR2
    refine r_istore cx dL_law_139 (by decide) rfl ?_
    refine r_aload_n cx dL_law_141 rfl rfl ?_
    refine r_aload_n cx dL_law_142 rfl rfl ?_
    refine r_iload cx dL_law_143 rfl ?_
    refine r_iconst (v := nI 1) cx dL_law_145 (by decide) ?_
    refine r_iaddN cx dL_law_146 ?_
    refine r_sld cx hX hbl hbA (by omega) (by omega) dL_law_147 ?_
    refine r_perm hY ?_
    refine k_L_84 cx (c_mSound l g md Y t N A B L S hI (xs (i + 1))) dL_law_148 22 rfl ⟨Nat.le_of_ble_eq_true rfl, Nat.le_of_ble_eq_true rfl⟩ ⟨hcl, hsl⟩ rfl rfl (Nat.le_of_ble_eq_true rfl) (fun r2 u2 hp2 => ?_)
    obtain ⟨S2, ⟨-, rfl, rfl⟩ | ⟨hk2, -⟩⟩ := hp2
    rotate_left
    · exact absurd hk hk2
    refine r_istore cx dL_law_151 (by decide) rfl ?_
    refine r_aload_n cx dL_law_153 rfl rfl ?_
    refine k_L_85 cx (c_mThrown l g md Y (nI 0) (va_up N 0 (N 0 + 1)) (va_up A 0 (upd (A 0) (N 0) (xs (i + 1)))) B L S2) dL_law_154 22 rfl ⟨Nat.le_of_ble_eq_true rfl, Nat.le_of_ble_eq_true rfl⟩ ⟨hcl, hsl⟩ rfl rfl (Nat.le_of_ble_eq_true rfl) (fun r3 u3 hp3 => ?_)
    obtain ⟨rfl, rfl⟩ := hp3
    obtain ⟨w2, hw2, hR3⟩ := hback (mF g md (nI 0) (va_up N 0 (N 0 + 1)) (va_up A 0 (upd (A 0) (N 0) (xs (i + 1)))) B L S2)
    refine r_perm hw2 ?_
    rw [hk]
    refine r_iload cx dL_law_157 rfl ?_
    refine r_icmpeq (tgt := 164) cx dL_law_159 (by decide) (fun h_1 => ?_) (fun h_1 => absurd rfl h_1)
    refine r_iload cx dL_law_164 rfl ?_
    refine r_ifne (tgt := 181) cx dL_law_166 (by decide) (fun h_2 => absurd rfl h_2) (fun h_2 => ?_)
    refine r_aload_n cx dL_law_169 rfl rfl ?_
    refine r_iconst (v := nI 0) cx dL_law_170 (by decide) ?_
    refine r_laldN cx 9 1 dL_law_171 (cR_out hR3).1 rfl (by decide) (by decide) ?_
    refine r_eql hf2 ?_
    refine r_iload cx dL_law_172 rfl ?_
    refine r_i2l cx dL_law_174 rfl ?_
    refine r_lcmp cx dL_law_175 ?_
    refine r_ifeq (tgt := 181) cx dL_law_176 (by decide) (fun h_3 => ?_) (fun h_3 => absurd ((lcmp_z _ _).mpr rfl) h_3)
    refine r_goto (tgt := 1289) cx dL_law_181 (by decide) ?_
    exact r_lv (q_pk [2, 3, 4, 5, 6] rfl) (kk _ ⟨_, _, _, _, _, _, _, (inv_sound hI hk), hR3⟩)
  · skip
    obtain ⟨Y, hY, hback⟩ := cR_swap hR2
    refine r_istore cx dL_law_139 (by decide) rfl ?_
    refine r_aload_n cx dL_law_141 rfl rfl ?_
    refine r_aload_n cx dL_law_142 rfl rfl ?_
    refine r_iload cx dL_law_143 rfl ?_
    refine r_iconst (v := nI 1) cx dL_law_145 (by decide) ?_
    refine r_iaddN cx dL_law_146 ?_
    refine r_sld cx hX hbl hbA (by omega) (by omega) dL_law_147 ?_
    refine r_perm hY ?_
    refine k_L_84 cx (c_mSound l g md Y t N A B L S hI (xs (i + 1))) dL_law_148 22 rfl ⟨Nat.le_of_ble_eq_true rfl, Nat.le_of_ble_eq_true rfl⟩ ⟨hcl, hsl⟩ rfl rfl (Nat.le_of_ble_eq_true rfl) (fun r2 u2 hp2 => ?_)
    obtain ⟨S2, ⟨hk2, -⟩ | ⟨-, rfl⟩⟩ := hp2
    · exact absurd hk2 hk
    refine r_istore cx dL_law_151 (by decide) rfl ?_
    refine r_aload_n cx dL_law_153 rfl rfl ?_
    refine k_L_85 cx (c_mThrown l g md Y (nI (kc (!inR (xs (i + 1)) 8) (decide (N 0 = 8)) false)) N A B L S2) dL_law_154 22 rfl ⟨Nat.le_of_ble_eq_true rfl, Nat.le_of_ble_eq_true rfl⟩ ⟨hcl, hsl⟩ rfl rfl (Nat.le_of_ble_eq_true rfl) (fun r3 u3 hp3 => ?_)
    obtain ⟨rfl, rfl⟩ := hp3
    obtain ⟨w2, hw2, hR3⟩ := hback (mF g md (nI (kc (!inR (xs (i + 1)) 8) (decide (N 0 = 8)) false)) N A B L S2)
    refine r_perm hw2 ?_
    refine r_iload cx dL_law_157 rfl ?_
    refine r_icmpeq (tgt := 164) cx dL_law_159 (by decide) (fun h_1 => ?_) (fun h_1 => absurd rfl h_1)
    refine r_iload cx dL_law_164 rfl ?_
    refine r_ifne (tgt := 181) cx dL_law_166 (by decide) (fun h_2 => ?_) (fun h_2 => absurd h_2 (kc_nz hk))
    refine r_goto (tgt := 1289) cx dL_law_181 (by decide) ?_
    exact r_lv (q_pk [2, 3, 4, 5, 6] rfl) (kk _ ⟨_, _, _, _, _, _, _, hI, hR3⟩)
set_option maxHeartbeats 4000000 in
set_option maxRecDepth 100000 in
theorem w_interview {p : Program} {l : Launch} {e : Env} {s : State} {m : MethodId} {args : Array Value} {below : List Frame} {meth : Method} {c : Code} {g : q_G} {Q : State → Prop} {cl sl : Nat} (cx : q_cx g p m c cL_law 7 s args RL meth) (hl : l.stackTraces = false) {b n i : Nat} {xs : Nat → Int32} (hX : va_X b n xs s s.heap) (hbl : b < s.heap.size) (hbA : ¬ q_A g b) (hi : i + 7 ≤ n) (hn : n ≤ 3584) (hcl : cl + 4 ≤ 601024) (hsl : sl + 250 ≤ 7293034) {a0 ao : Nat} {md : Nat → Nat} {ws : va_W} (hw : lwI g a0 ao md ws)
    (kk : ∀ w, lwI g a0 ao md w → AT p l e room_1 s m args below meth c g 7 Q (cl + 4) (sl + 250) 1289 [(0, .ref b), (1, .ref a0), (2, .ref (md 22)), (3, .ref ao), (4, .int (nI i))] [] w) : AT p l e room_1 s m args below meth c g 7 Q cl sl 184 [(0, .ref b), (1, .ref a0), (2, .ref (md 22)), (3, .ref ao), (4, .int (nI i))] [] ws := by
  obtain ⟨t, N, A, B, L, S, f, hI, hR⟩ := hw
  refine r_aload_n cx dL_law_184 rfl rfl ?_
  refine r_aload_n cx dL_law_185 rfl rfl ?_
  refine r_iload cx dL_law_186 rfl ?_
  refine r_iconst (v := nI 1) cx dL_law_188 (by decide) ?_
  refine r_iaddN cx dL_law_189 ?_
  refine r_sld cx hX hbl hbA (by omega) (by omega) dL_law_190 ?_
  refine r_aload_n cx dL_law_191 rfl rfl ?_
  refine r_iload cx dL_law_192 rfl ?_
  refine r_iconst (v := nI 2) cx dL_law_194 (by decide) ?_
  refine r_iaddN cx dL_law_195 ?_
  refine r_sld cx hX hbl hbA (by omega) (by omega) dL_law_196 ?_
  refine r_aload_n cx dL_law_197 rfl rfl ?_
  refine r_iload cx dL_law_198 rfl ?_
  refine r_iconst (v := nI 3) cx dL_law_200 (by decide) ?_
  refine r_iaddN cx dL_law_201 ?_
  refine r_sld cx hX hbl hbA (by omega) (by omega) dL_law_202 ?_
  refine r_aload_n cx dL_law_203 rfl rfl ?_
  refine r_iload cx dL_law_204 rfl ?_
  refine r_iconst (v := nI 4) cx dL_law_206 (by decide) ?_
  refine r_iaddN cx dL_law_207 ?_
  refine r_sld cx hX hbl hbA (by omega) (by omega) dL_law_208 ?_
  refine r_aload_n cx dL_law_209 rfl rfl ?_
  refine k_L_89 cx (c_Linterview l g hl N A B L _ ws a0 ao f hI hR (xs (i + 1)) (xs (i + 2)) (xs (i + 3)) (xs (i + 4))) dL_law_210 ⟨Nat.le_of_ble_eq_true rfl, Nat.le_of_ble_eq_true rfl⟩ ⟨hcl, hsl⟩ rfl rfl (Nat.le_of_ble_eq_true rfl) (fun r u hp => ?_)
  obtain ⟨rfl, f2, (⟨hk, hf2, hR2⟩ | ⟨hk, hR2⟩)⟩ := hp
  · skip
    obtain ⟨Y, hY, hback⟩ := cR_swap hR2
    refine r_istore cx dL_law_213 (by decide) rfl ?_
    refine r_aload_n cx dL_law_215 rfl rfl ?_
    refine r_aload_n cx dL_law_216 rfl rfl ?_
    refine r_iload cx dL_law_217 rfl ?_
    refine r_iconst (v := nI 1) cx dL_law_219 (by decide) ?_
    refine r_iaddN cx dL_law_220 ?_
    refine r_sld cx hX hbl hbA (by omega) (by omega) dL_law_221 ?_
    refine r_aload_n cx dL_law_222 rfl rfl ?_
    refine r_iload cx dL_law_223 rfl ?_
    refine r_iconst (v := nI 2) cx dL_law_225 (by decide) ?_
    refine r_iaddN cx dL_law_226 ?_
    refine r_sld cx hX hbl hbA (by omega) (by omega) dL_law_227 ?_
    refine r_aload_n cx dL_law_228 rfl rfl ?_
    refine r_iload cx dL_law_229 rfl ?_
    refine r_iconst (v := nI 3) cx dL_law_231 (by decide) ?_
    refine r_iaddN cx dL_law_232 ?_
    refine r_sld cx hX hbl hbA (by omega) (by omega) dL_law_233 ?_
    refine r_aload_n cx dL_law_234 rfl rfl ?_
    refine r_iload cx dL_law_235 rfl ?_
    refine r_iconst (v := nI 4) cx dL_law_237 (by decide) ?_
    refine r_iaddN cx dL_law_238 ?_
    refine r_sld cx hX hbl hbA (by omega) (by omega) dL_law_239 ?_
    refine r_perm hY ?_
    refine k_L_92 cx (c_mInterview l g md Y t N A B L S hI (xs (i + 1)) (xs (i + 2)) (xs (i + 3)) (xs (i + 4))) dL_law_240 22 rfl ⟨Nat.le_of_ble_eq_true rfl, Nat.le_of_ble_eq_true rfl⟩ ⟨hcl, hsl⟩ rfl rfl (Nat.le_of_ble_eq_true rfl) (fun r2 u2 hp2 => ?_)
    obtain ⟨S2, ⟨-, rfl, rfl⟩ | ⟨hk2, -⟩⟩ := hp2
    rotate_left
    · exact absurd hk hk2
    refine r_istore cx dL_law_243 (by decide) rfl ?_
    refine r_aload_n cx dL_law_245 rfl rfl ?_
    refine k_L_85 cx (c_mThrown l g md Y (nI 0) (va_up (va_up N 1 (N 1 + 1)) 0 0) (ivA A (N 1) (xs (i + 1)) (xs (i + 2)) (xs (i + 3)) (xs (i + 4)) (nI (num (drL (A 0) (N 0))))) B L S2) dL_law_246 22 rfl ⟨Nat.le_of_ble_eq_true rfl, Nat.le_of_ble_eq_true rfl⟩ ⟨hcl, hsl⟩ rfl rfl (Nat.le_of_ble_eq_true rfl) (fun r3 u3 hp3 => ?_)
    obtain ⟨rfl, rfl⟩ := hp3
    obtain ⟨w2, hw2, hR3⟩ := hback (mF g md (nI 0) (va_up (va_up N 1 (N 1 + 1)) 0 0) (ivA A (N 1) (xs (i + 1)) (xs (i + 2)) (xs (i + 3)) (xs (i + 4)) (nI (num (drL (A 0) (N 0))))) B L S2)
    refine r_perm hw2 ?_
    rw [hk]
    refine r_iload cx dL_law_249 rfl ?_
    refine r_icmpeq (tgt := 256) cx dL_law_251 (by decide) (fun h_1 => ?_) (fun h_1 => absurd rfl h_1)
    refine r_iload cx dL_law_256 rfl ?_
    refine r_ifne (tgt := 273) cx dL_law_258 (by decide) (fun h_2 => absurd rfl h_2) (fun h_2 => ?_)
    refine r_aload_n cx dL_law_261 rfl rfl ?_
    refine r_iconst (v := nI 0) cx dL_law_262 (by decide) ?_
    refine r_laldN cx 9 1 dL_law_263 (cR_out hR3).1 rfl (by decide) (by decide) ?_
    refine r_eql hf2 ?_
    refine r_iload cx dL_law_264 rfl ?_
    refine r_i2l cx dL_law_266 rfl ?_
    refine r_lcmp cx dL_law_267 ?_
    refine r_ifeq (tgt := 273) cx dL_law_268 (by decide) (fun h_3 => ?_) (fun h_3 => absurd ((lcmp_z _ _).mpr rfl) h_3)
    refine r_goto (tgt := 1289) cx dL_law_273 (by decide) ?_
    exact r_lv (q_pk [2, 3, 4, 5, 6] rfl) (kk _ ⟨_, _, _, _, _, _, _, (inv_interview hI hk), hR3⟩)
  · skip
    obtain ⟨Y, hY, hback⟩ := cR_swap hR2
    refine r_istore cx dL_law_213 (by decide) rfl ?_
    refine r_aload_n cx dL_law_215 rfl rfl ?_
    refine r_aload_n cx dL_law_216 rfl rfl ?_
    refine r_iload cx dL_law_217 rfl ?_
    refine r_iconst (v := nI 1) cx dL_law_219 (by decide) ?_
    refine r_iaddN cx dL_law_220 ?_
    refine r_sld cx hX hbl hbA (by omega) (by omega) dL_law_221 ?_
    refine r_aload_n cx dL_law_222 rfl rfl ?_
    refine r_iload cx dL_law_223 rfl ?_
    refine r_iconst (v := nI 2) cx dL_law_225 (by decide) ?_
    refine r_iaddN cx dL_law_226 ?_
    refine r_sld cx hX hbl hbA (by omega) (by omega) dL_law_227 ?_
    refine r_aload_n cx dL_law_228 rfl rfl ?_
    refine r_iload cx dL_law_229 rfl ?_
    refine r_iconst (v := nI 3) cx dL_law_231 (by decide) ?_
    refine r_iaddN cx dL_law_232 ?_
    refine r_sld cx hX hbl hbA (by omega) (by omega) dL_law_233 ?_
    refine r_aload_n cx dL_law_234 rfl rfl ?_
    refine r_iload cx dL_law_235 rfl ?_
    refine r_iconst (v := nI 4) cx dL_law_237 (by decide) ?_
    refine r_iaddN cx dL_law_238 ?_
    refine r_sld cx hX hbl hbA (by omega) (by omega) dL_law_239 ?_
    refine r_perm hY ?_
    refine k_L_92 cx (c_mInterview l g md Y t N A B L S hI (xs (i + 1)) (xs (i + 2)) (xs (i + 3)) (xs (i + 4))) dL_law_240 22 rfl ⟨Nat.le_of_ble_eq_true rfl, Nat.le_of_ble_eq_true rfl⟩ ⟨hcl, hsl⟩ rfl rfl (Nat.le_of_ble_eq_true rfl) (fun r2 u2 hp2 => ?_)
    obtain ⟨S2, ⟨hk2, -⟩ | ⟨-, rfl⟩⟩ := hp2
    · exact absurd hk2 hk
    refine r_istore cx dL_law_243 (by decide) rfl ?_
    refine r_aload_n cx dL_law_245 rfl rfl ?_
    refine k_L_85 cx (c_mThrown l g md Y (nI (kc (!(inR (xs (i + 1)) 8 && inR (xs (i + 2)) 10 && inR (xs (i + 4)) 4)) (!inR (xs (i + 3)) 301) (decide (N 0 = 0) || decide (N 1 = 40)))) N A B L S2) dL_law_246 22 rfl ⟨Nat.le_of_ble_eq_true rfl, Nat.le_of_ble_eq_true rfl⟩ ⟨hcl, hsl⟩ rfl rfl (Nat.le_of_ble_eq_true rfl) (fun r3 u3 hp3 => ?_)
    obtain ⟨rfl, rfl⟩ := hp3
    obtain ⟨w2, hw2, hR3⟩ := hback (mF g md (nI (kc (!(inR (xs (i + 1)) 8 && inR (xs (i + 2)) 10 && inR (xs (i + 4)) 4)) (!inR (xs (i + 3)) 301) (decide (N 0 = 0) || decide (N 1 = 40)))) N A B L S2)
    refine r_perm hw2 ?_
    refine r_iload cx dL_law_249 rfl ?_
    refine r_icmpeq (tgt := 256) cx dL_law_251 (by decide) (fun h_1 => ?_) (fun h_1 => absurd rfl h_1)
    refine r_iload cx dL_law_256 rfl ?_
    refine r_ifne (tgt := 273) cx dL_law_258 (by decide) (fun h_2 => ?_) (fun h_2 => absurd h_2 (kc_nz hk))
    refine r_goto (tgt := 1289) cx dL_law_273 (by decide) ?_
    exact r_lv (q_pk [2, 3, 4, 5, 6] rfl) (kk _ ⟨_, _, _, _, _, _, _, hI, hR3⟩)
set_option maxHeartbeats 4000000 in
set_option maxRecDepth 100000 in
theorem w_setRoot {p : Program} {l : Launch} {e : Env} {s : State} {m : MethodId} {args : Array Value} {below : List Frame} {meth : Method} {c : Code} {g : q_G} {Q : State → Prop} {cl sl : Nat} (cx : q_cx g p m c cL_law 7 s args RL meth) (hl : l.stackTraces = false) {b n i : Nat} {xs : Nat → Int32} (hX : va_X b n xs s s.heap) (hbl : b < s.heap.size) (hbA : ¬ q_A g b) (hi : i + 7 ≤ n) (hn : n ≤ 3584) (hcl : cl + 4 ≤ 601024) (hsl : sl + 250 ≤ 7293034) {a0 ao : Nat} {md : Nat → Nat} {ws : va_W} (hw : lwI g a0 ao md ws)
    (kk : ∀ w, lwI g a0 ao md w → AT p l e room_1 s m args below meth c g 7 Q (cl + 4) (sl + 250) 1289 [(0, .ref b), (1, .ref a0), (2, .ref (md 22)), (3, .ref ao), (4, .int (nI i))] [] w) : AT p l e room_1 s m args below meth c g 7 Q cl sl 276 [(0, .ref b), (1, .ref a0), (2, .ref (md 22)), (3, .ref ao), (4, .int (nI i))] [] ws := by
  obtain ⟨t, N, A, B, L, S, f, hI, hR⟩ := hw
  refine r_aload_n cx dL_law_276 rfl rfl ?_
  refine r_aload_n cx dL_law_277 rfl rfl ?_
  refine r_iload cx dL_law_278 rfl ?_
  refine r_iconst (v := nI 1) cx dL_law_280 (by decide) ?_
  refine r_iaddN cx dL_law_281 ?_
  refine r_sld cx hX hbl hbA (by omega) (by omega) dL_law_282 ?_
  refine r_aload_n cx dL_law_283 rfl rfl ?_
  refine k_L_93 cx (c_LsetRoot l g hl N A B L _ ws a0 ao f hI hR (xs (i + 1))) dL_law_284 ⟨Nat.le_of_ble_eq_true rfl, Nat.le_of_ble_eq_true rfl⟩ ⟨hcl, hsl⟩ rfl rfl (Nat.le_of_ble_eq_true rfl) (fun r u hp => ?_)
  obtain ⟨rfl, f2, (⟨hk, hf2, hR2⟩ | ⟨hk, hR2⟩)⟩ := hp
  · skip
    obtain ⟨Y, hY, hback⟩ := cR_swap hR2
    refine r_istore cx dL_law_287 (by decide) rfl ?_
    refine r_aload_n cx dL_law_289 rfl rfl ?_
    refine r_aload_n cx dL_law_290 rfl rfl ?_
    refine r_iload cx dL_law_291 rfl ?_
    refine r_iconst (v := nI 1) cx dL_law_293 (by decide) ?_
    refine r_iaddN cx dL_law_294 ?_
    refine r_sld cx hX hbl hbA (by omega) (by omega) dL_law_295 ?_
    refine r_perm hY ?_
    refine k_L_95 cx (c_mSetRoot l g md Y t N A B L S hI (xs (i + 1))) dL_law_296 22 rfl ⟨Nat.le_of_ble_eq_true rfl, Nat.le_of_ble_eq_true rfl⟩ ⟨hcl, hsl⟩ rfl rfl (Nat.le_of_ble_eq_true rfl) (fun r2 u2 hp2 => ?_)
    obtain ⟨S2, ⟨-, rfl, rfl⟩ | ⟨hk2, -⟩⟩ := hp2
    rotate_left
    · exact absurd hk hk2
    refine r_istore cx dL_law_299 (by decide) rfl ?_
    refine r_aload_n cx dL_law_301 rfl rfl ?_
    refine k_L_85 cx (c_mThrown l g md Y (nI 0) (va_up N 0 0) (va_up A 6 (upd (A 6) (c32 (xs (i + 1))) (nI (num (drL (A 0) (N 0)))))) B L S2) dL_law_302 22 rfl ⟨Nat.le_of_ble_eq_true rfl, Nat.le_of_ble_eq_true rfl⟩ ⟨hcl, hsl⟩ rfl rfl (Nat.le_of_ble_eq_true rfl) (fun r3 u3 hp3 => ?_)
    obtain ⟨rfl, rfl⟩ := hp3
    obtain ⟨w2, hw2, hR3⟩ := hback (mF g md (nI 0) (va_up N 0 0) (va_up A 6 (upd (A 6) (c32 (xs (i + 1))) (nI (num (drL (A 0) (N 0)))))) B L S2)
    refine r_perm hw2 ?_
    rw [hk]
    refine r_iload cx dL_law_305 rfl ?_
    refine r_icmpeq (tgt := 312) cx dL_law_307 (by decide) (fun h_1 => ?_) (fun h_1 => absurd rfl h_1)
    refine r_iload cx dL_law_312 rfl ?_
    refine r_ifne (tgt := 329) cx dL_law_314 (by decide) (fun h_2 => absurd rfl h_2) (fun h_2 => ?_)
    refine r_aload_n cx dL_law_317 rfl rfl ?_
    refine r_iconst (v := nI 0) cx dL_law_318 (by decide) ?_
    refine r_laldN cx 9 1 dL_law_319 (cR_out hR3).1 rfl (by decide) (by decide) ?_
    refine r_eql hf2 ?_
    refine r_iload cx dL_law_320 rfl ?_
    refine r_i2l cx dL_law_322 rfl ?_
    refine r_lcmp cx dL_law_323 ?_
    refine r_ifeq (tgt := 329) cx dL_law_324 (by decide) (fun h_3 => ?_) (fun h_3 => absurd ((lcmp_z _ _).mpr rfl) h_3)
    refine r_goto (tgt := 1289) cx dL_law_329 (by decide) ?_
    exact r_lv (q_pk [2, 3, 4, 5, 6] rfl) (kk _ ⟨_, _, _, _, _, _, _, (inv_setRoot hI hk), hR3⟩)
  · skip
    obtain ⟨Y, hY, hback⟩ := cR_swap hR2
    refine r_istore cx dL_law_287 (by decide) rfl ?_
    refine r_aload_n cx dL_law_289 rfl rfl ?_
    refine r_aload_n cx dL_law_290 rfl rfl ?_
    refine r_iload cx dL_law_291 rfl ?_
    refine r_iconst (v := nI 1) cx dL_law_293 (by decide) ?_
    refine r_iaddN cx dL_law_294 ?_
    refine r_sld cx hX hbl hbA (by omega) (by omega) dL_law_295 ?_
    refine r_perm hY ?_
    refine k_L_95 cx (c_mSetRoot l g md Y t N A B L S hI (xs (i + 1))) dL_law_296 22 rfl ⟨Nat.le_of_ble_eq_true rfl, Nat.le_of_ble_eq_true rfl⟩ ⟨hcl, hsl⟩ rfl rfl (Nat.le_of_ble_eq_true rfl) (fun r2 u2 hp2 => ?_)
    obtain ⟨S2, ⟨hk2, -⟩ | ⟨-, rfl⟩⟩ := hp2
    · exact absurd hk2 hk
    refine r_istore cx dL_law_299 (by decide) rfl ?_
    refine r_aload_n cx dL_law_301 rfl rfl ?_
    refine k_L_85 cx (c_mThrown l g md Y (nI (kc (!inR (xs (i + 1)) 4) (decide (N 0 = 0)) false)) N A B L S2) dL_law_302 22 rfl ⟨Nat.le_of_ble_eq_true rfl, Nat.le_of_ble_eq_true rfl⟩ ⟨hcl, hsl⟩ rfl rfl (Nat.le_of_ble_eq_true rfl) (fun r3 u3 hp3 => ?_)
    obtain ⟨rfl, rfl⟩ := hp3
    obtain ⟨w2, hw2, hR3⟩ := hback (mF g md (nI (kc (!inR (xs (i + 1)) 4) (decide (N 0 = 0)) false)) N A B L S2)
    refine r_perm hw2 ?_
    refine r_iload cx dL_law_305 rfl ?_
    refine r_icmpeq (tgt := 312) cx dL_law_307 (by decide) (fun h_1 => ?_) (fun h_1 => absurd rfl h_1)
    refine r_iload cx dL_law_312 rfl ?_
    refine r_ifne (tgt := 329) cx dL_law_314 (by decide) (fun h_2 => ?_) (fun h_2 => absurd h_2 (kc_nz hk))
    refine r_goto (tgt := 1289) cx dL_law_329 (by decide) ?_
    exact r_lv (q_pk [2, 3, 4, 5, 6] rfl) (kk _ ⟨_, _, _, _, _, _, _, hI, hR3⟩)
set_option maxHeartbeats 4000000 in
set_option maxRecDepth 100000 in
theorem w_form {p : Program} {l : Launch} {e : Env} {s : State} {m : MethodId} {args : Array Value} {below : List Frame} {meth : Method} {c : Code} {g : q_G} {Q : State → Prop} {cl sl : Nat} (cx : q_cx g p m c cL_law 7 s args RL meth) (hl : l.stackTraces = false) {b n i : Nat} {xs : Nat → Int32} (hX : va_X b n xs s s.heap) (hbl : b < s.heap.size) (hbA : ¬ q_A g b) (hi : i + 7 ≤ n) (hn : n ≤ 3584) (hcl : cl + 4 ≤ 601024) (hsl : sl + 250 ≤ 7293034) {a0 ao : Nat} {md : Nat → Nat} {ws : va_W} (hw : lwI g a0 ao md ws)
    (kk : ∀ w, lwI g a0 ao md w → AT p l e room_1 s m args below meth c g 7 Q (cl + 4) (sl + 250) 1289 [(0, .ref b), (1, .ref a0), (2, .ref (md 22)), (3, .ref ao), (4, .int (nI i))] [] w) : AT p l e room_1 s m args below meth c g 7 Q cl sl 332 [(0, .ref b), (1, .ref a0), (2, .ref (md 22)), (3, .ref ao), (4, .int (nI i))] [] ws := by
  obtain ⟨t, N, A, B, L, S, f, hI, hR⟩ := hw
  refine r_aload_n cx dL_law_332 rfl rfl ?_
  refine r_aload_n cx dL_law_333 rfl rfl ?_
  refine r_iload cx dL_law_334 rfl ?_
  refine r_iconst (v := nI 1) cx dL_law_336 (by decide) ?_
  refine r_iaddN cx dL_law_337 ?_
  refine r_sld cx hX hbl hbA (by omega) (by omega) dL_law_338 ?_
  refine r_aload_n cx dL_law_339 rfl rfl ?_
  refine k_L_96 cx (c_Lform l g hl N A B L _ ws a0 ao f hI hR (xs (i + 1))) dL_law_340 ⟨Nat.le_of_ble_eq_true rfl, Nat.le_of_ble_eq_true rfl⟩ ⟨hcl, hsl⟩ rfl rfl (Nat.le_of_ble_eq_true rfl) (fun r u hp => ?_)
  obtain ⟨rfl, f2, (⟨hk, hf2, hR2⟩ | ⟨hk, hR2⟩)⟩ := hp
  · skip
    obtain ⟨Y, hY, hback⟩ := cR_swap hR2
    refine r_istore cx dL_law_343 (by decide) rfl ?_
    refine r_aload_n cx dL_law_345 rfl rfl ?_
    refine r_aload_n cx dL_law_346 rfl rfl ?_
    refine r_iload cx dL_law_347 rfl ?_
    refine r_iconst (v := nI 1) cx dL_law_349 (by decide) ?_
    refine r_iaddN cx dL_law_350 ?_
    refine r_sld cx hX hbl hbA (by omega) (by omega) dL_law_351 ?_
    refine r_perm hY ?_
    refine k_L_98 cx (c_mForm l g md Y t N A B L S hI (xs (i + 1))) dL_law_352 22 rfl ⟨Nat.le_of_ble_eq_true rfl, Nat.le_of_ble_eq_true rfl⟩ ⟨hcl, hsl⟩ rfl rfl (Nat.le_of_ble_eq_true rfl) (fun r2 u2 hp2 => ?_)
    obtain ⟨S2, ⟨-, rfl, rfl⟩ | ⟨hk2, -⟩⟩ := hp2
    rotate_left
    · exact absurd hk hk2
    refine r_istore cx dL_law_355 (by decide) rfl ?_
    refine r_aload_n cx dL_law_357 rfl rfl ?_
    refine k_L_85 cx (c_mThrown l g md Y (nI 0) N A B L S2) dL_law_358 22 rfl ⟨Nat.le_of_ble_eq_true rfl, Nat.le_of_ble_eq_true rfl⟩ ⟨hcl, hsl⟩ rfl rfl (Nat.le_of_ble_eq_true rfl) (fun r3 u3 hp3 => ?_)
    obtain ⟨rfl, rfl⟩ := hp3
    obtain ⟨w2, hw2, hR3⟩ := hback (mF g md (nI 0) N A B L S2)
    refine r_perm hw2 ?_
    rw [hk]
    refine r_iload cx dL_law_361 rfl ?_
    refine r_icmpeq (tgt := 368) cx dL_law_363 (by decide) (fun h_1 => ?_) (fun h_1 => absurd rfl h_1)
    refine r_iload cx dL_law_368 rfl ?_
    refine r_ifne (tgt := 385) cx dL_law_370 (by decide) (fun h_2 => absurd rfl h_2) (fun h_2 => ?_)
    refine r_aload_n cx dL_law_373 rfl rfl ?_
    refine r_iconst (v := nI 0) cx dL_law_374 (by decide) ?_
    refine r_laldN cx 9 1 dL_law_375 (cR_out hR3).1 rfl (by decide) (by decide) ?_
    refine r_eql hf2 ?_
    refine r_iload cx dL_law_376 rfl ?_
    refine r_i2l cx dL_law_378 rfl ?_
    refine r_lcmp cx dL_law_379 ?_
    refine r_ifeq (tgt := 385) cx dL_law_380 (by decide) (fun h_3 => ?_) (fun h_3 => absurd ((lcmp_z _ _).mpr rfl) h_3)
    refine r_goto (tgt := 1289) cx dL_law_385 (by decide) ?_
    exact r_lv (q_pk [2, 3, 4, 5, 6] rfl) (kk _ ⟨_, _, _, _, _, _, _, hI, hR3⟩)
  · skip
    obtain ⟨Y, hY, hback⟩ := cR_swap hR2
    refine r_istore cx dL_law_343 (by decide) rfl ?_
    refine r_aload_n cx dL_law_345 rfl rfl ?_
    refine r_aload_n cx dL_law_346 rfl rfl ?_
    refine r_iload cx dL_law_347 rfl ?_
    refine r_iconst (v := nI 1) cx dL_law_349 (by decide) ?_
    refine r_iaddN cx dL_law_350 ?_
    refine r_sld cx hX hbl hbA (by omega) (by omega) dL_law_351 ?_
    refine r_perm hY ?_
    refine k_L_98 cx (c_mForm l g md Y t N A B L S hI (xs (i + 1))) dL_law_352 22 rfl ⟨Nat.le_of_ble_eq_true rfl, Nat.le_of_ble_eq_true rfl⟩ ⟨hcl, hsl⟩ rfl rfl (Nat.le_of_ble_eq_true rfl) (fun r2 u2 hp2 => ?_)
    obtain ⟨S2, ⟨hk2, -⟩ | ⟨-, rfl⟩⟩ := hp2
    · exact absurd hk2 hk
    refine r_istore cx dL_law_355 (by decide) rfl ?_
    refine r_aload_n cx dL_law_357 rfl rfl ?_
    refine k_L_85 cx (c_mThrown l g md Y (nI (kc (!inR (xs (i + 1)) (N 1)) false false)) N A B L S2) dL_law_358 22 rfl ⟨Nat.le_of_ble_eq_true rfl, Nat.le_of_ble_eq_true rfl⟩ ⟨hcl, hsl⟩ rfl rfl (Nat.le_of_ble_eq_true rfl) (fun r3 u3 hp3 => ?_)
    obtain ⟨rfl, rfl⟩ := hp3
    obtain ⟨w2, hw2, hR3⟩ := hback (mF g md (nI (kc (!inR (xs (i + 1)) (N 1)) false false)) N A B L S2)
    refine r_perm hw2 ?_
    refine r_iload cx dL_law_361 rfl ?_
    refine r_icmpeq (tgt := 368) cx dL_law_363 (by decide) (fun h_1 => ?_) (fun h_1 => absurd rfl h_1)
    refine r_iload cx dL_law_368 rfl ?_
    refine r_ifne (tgt := 385) cx dL_law_370 (by decide) (fun h_2 => ?_) (fun h_2 => absurd h_2 (kc_nz hk))
    refine r_goto (tgt := 1289) cx dL_law_385 (by decide) ?_
    exact r_lv (q_pk [2, 3, 4, 5, 6] rfl) (kk _ ⟨_, _, _, _, _, _, _, hI, hR3⟩)
set_option maxHeartbeats 4000000 in
set_option maxRecDepth 100000 in
theorem w_rule {p : Program} {l : Launch} {e : Env} {s : State} {m : MethodId} {args : Array Value} {below : List Frame} {meth : Method} {c : Code} {g : q_G} {Q : State → Prop} {cl sl : Nat} (cx : q_cx g p m c cL_law 7 s args RL meth) (hl : l.stackTraces = false) {b n i : Nat} {xs : Nat → Int32} (hX : va_X b n xs s s.heap) (hbl : b < s.heap.size) (hbA : ¬ q_A g b) (hi : i + 7 ≤ n) (hn : n ≤ 3584) (hcl : cl + 4 ≤ 601024) (hsl : sl + 250 ≤ 7293034) {a0 ao : Nat} {md : Nat → Nat} {ws : va_W} (hw : lwI g a0 ao md ws)
    (kk : ∀ w, lwI g a0 ao md w → AT p l e room_1 s m args below meth c g 7 Q (cl + 4) (sl + 250) 1289 [(0, .ref b), (1, .ref a0), (2, .ref (md 22)), (3, .ref ao), (4, .int (nI i))] [] w) : AT p l e room_1 s m args below meth c g 7 Q cl sl 388 [(0, .ref b), (1, .ref a0), (2, .ref (md 22)), (3, .ref ao), (4, .int (nI i))] [] ws := by
  obtain ⟨t, N, A, B, L, S, f, hI, hR⟩ := hw
  refine r_aload_n cx dL_law_388 rfl rfl ?_
  refine r_aload_n cx dL_law_389 rfl rfl ?_
  refine r_iload cx dL_law_390 rfl ?_
  refine r_iconst (v := nI 1) cx dL_law_392 (by decide) ?_
  refine r_iaddN cx dL_law_393 ?_
  refine r_sld cx hX hbl hbA (by omega) (by omega) dL_law_394 ?_
  refine r_aload_n cx dL_law_395 rfl rfl ?_
  refine r_iload cx dL_law_396 rfl ?_
  refine r_iconst (v := nI 2) cx dL_law_398 (by decide) ?_
  refine r_iaddN cx dL_law_399 ?_
  refine r_sld cx hX hbl hbA (by omega) (by omega) dL_law_400 ?_
  refine r_aload_n cx dL_law_401 rfl rfl ?_
  refine r_iload cx dL_law_402 rfl ?_
  refine r_iconst (v := nI 3) cx dL_law_404 (by decide) ?_
  refine r_iaddN cx dL_law_405 ?_
  refine r_sld cx hX hbl hbA (by omega) (by omega) dL_law_406 ?_
  refine r_aload_n cx dL_law_407 rfl rfl ?_
  refine r_iload cx dL_law_408 rfl ?_
  refine r_iconst (v := nI 4) cx dL_law_410 (by decide) ?_
  refine r_iaddN cx dL_law_411 ?_
  refine r_sld cx hX hbl hbA (by omega) (by omega) dL_law_412 ?_
  refine r_aload_n cx dL_law_413 rfl rfl ?_
  refine r_iload cx dL_law_414 rfl ?_
  refine r_iconst (v := nI 5) cx dL_law_416 (by decide) ?_
  refine r_iaddN cx dL_law_417 ?_
  refine r_sld cx hX hbl hbA (by omega) (by omega) dL_law_418 ?_
  refine r_aload_n cx dL_law_419 rfl rfl ?_
  refine r_iload cx dL_law_420 rfl ?_
  refine r_bipush (v := nI 6) cx dL_law_422 (by decide) ?_
  refine r_iaddN cx dL_law_424 ?_
  refine r_sld cx hX hbl hbA (by omega) (by omega) dL_law_425 ?_
  refine r_aload_n cx dL_law_426 rfl rfl ?_
  refine k_L_99 cx (c_Lrule l g hl N A B L _ ws a0 ao f hI hR (xs (i + 1)) (xs (i + 2)) (xs (i + 3)) (xs (i + 4)) (xs (i + 5)) (xs (i + 6))) dL_law_427 ⟨Nat.le_of_ble_eq_true rfl, Nat.le_of_ble_eq_true rfl⟩ ⟨hcl, hsl⟩ rfl rfl (Nat.le_of_ble_eq_true rfl) (fun r u hp => ?_)
  obtain ⟨rfl, f2, (⟨hk, hf2, hR2⟩ | ⟨hk, hR2⟩)⟩ := hp
  · skip
    obtain ⟨Y, hY, hback⟩ := cR_swap hR2
    refine r_istore cx dL_law_430 (by decide) rfl ?_
    refine r_aload_n cx dL_law_432 rfl rfl ?_
    refine r_aload_n cx dL_law_433 rfl rfl ?_
    refine r_iload cx dL_law_434 rfl ?_
    refine r_iconst (v := nI 1) cx dL_law_436 (by decide) ?_
    refine r_iaddN cx dL_law_437 ?_
    refine r_sld cx hX hbl hbA (by omega) (by omega) dL_law_438 ?_
    refine r_aload_n cx dL_law_439 rfl rfl ?_
    refine r_iload cx dL_law_440 rfl ?_
    refine r_iconst (v := nI 2) cx dL_law_442 (by decide) ?_
    refine r_iaddN cx dL_law_443 ?_
    refine r_sld cx hX hbl hbA (by omega) (by omega) dL_law_444 ?_
    refine r_aload_n cx dL_law_445 rfl rfl ?_
    refine r_iload cx dL_law_446 rfl ?_
    refine r_iconst (v := nI 3) cx dL_law_448 (by decide) ?_
    refine r_iaddN cx dL_law_449 ?_
    refine r_sld cx hX hbl hbA (by omega) (by omega) dL_law_450 ?_
    refine r_aload_n cx dL_law_451 rfl rfl ?_
    refine r_iload cx dL_law_452 rfl ?_
    refine r_iconst (v := nI 4) cx dL_law_454 (by decide) ?_
    refine r_iaddN cx dL_law_455 ?_
    refine r_sld cx hX hbl hbA (by omega) (by omega) dL_law_456 ?_
    refine r_aload_n cx dL_law_457 rfl rfl ?_
    refine r_iload cx dL_law_458 rfl ?_
    refine r_iconst (v := nI 5) cx dL_law_460 (by decide) ?_
    refine r_iaddN cx dL_law_461 ?_
    refine r_sld cx hX hbl hbA (by omega) (by omega) dL_law_462 ?_
    refine r_aload_n cx dL_law_463 rfl rfl ?_
    refine r_iload cx dL_law_464 rfl ?_
    refine r_bipush (v := nI 6) cx dL_law_466 (by decide) ?_
    refine r_iaddN cx dL_law_468 ?_
    refine r_sld cx hX hbl hbA (by omega) (by omega) dL_law_469 ?_
    refine r_perm hY ?_
    refine k_L_102 cx (c_mRule l g md Y t N A B L S hI (xs (i + 1)) (xs (i + 2)) (xs (i + 3)) (xs (i + 4)) (xs (i + 5)) (xs (i + 6))) dL_law_470 22 rfl ⟨Nat.le_of_ble_eq_true rfl, Nat.le_of_ble_eq_true rfl⟩ ⟨hcl, hsl⟩ rfl rfl (Nat.le_of_ble_eq_true rfl) (fun r2 u2 hp2 => ?_)
    obtain ⟨S2, ⟨-, rfl, rfl⟩ | ⟨hk2, -⟩⟩ := hp2
    rotate_left
    · exact absurd hk hk2
    refine r_istore cx dL_law_473 (by decide) rfl ?_
    refine r_aload_n cx dL_law_475 rfl rfl ?_
    refine k_L_85 cx (c_mThrown l g md Y (nI 0) (va_up N 2 (N 2 + 1)) (rlA A (N 2) (xs (i + 1)) (xs (i + 2)) (xs (i + 3)) (xs (i + 4)) (xs (i + 5)) (xs (i + 6))) B L S2) dL_law_476 22 rfl ⟨Nat.le_of_ble_eq_true rfl, Nat.le_of_ble_eq_true rfl⟩ ⟨hcl, hsl⟩ rfl rfl (Nat.le_of_ble_eq_true rfl) (fun r3 u3 hp3 => ?_)
    obtain ⟨rfl, rfl⟩ := hp3
    obtain ⟨w2, hw2, hR3⟩ := hback (mF g md (nI 0) (va_up N 2 (N 2 + 1)) (rlA A (N 2) (xs (i + 1)) (xs (i + 2)) (xs (i + 3)) (xs (i + 4)) (xs (i + 5)) (xs (i + 6))) B L S2)
    refine r_perm hw2 ?_
    rw [hk]
    refine r_iload cx dL_law_479 rfl ?_
    refine r_icmpeq (tgt := 486) cx dL_law_481 (by decide) (fun h_1 => ?_) (fun h_1 => absurd rfl h_1)
    refine r_iload cx dL_law_486 rfl ?_
    refine r_ifne (tgt := 503) cx dL_law_488 (by decide) (fun h_2 => absurd rfl h_2) (fun h_2 => ?_)
    refine r_aload_n cx dL_law_491 rfl rfl ?_
    refine r_iconst (v := nI 0) cx dL_law_492 (by decide) ?_
    refine r_laldN cx 9 1 dL_law_493 (cR_out hR3).1 rfl (by decide) (by decide) ?_
    refine r_eql hf2 ?_
    refine r_iload cx dL_law_494 rfl ?_
    refine r_i2l cx dL_law_496 rfl ?_
    refine r_lcmp cx dL_law_497 ?_
    refine r_ifeq (tgt := 503) cx dL_law_498 (by decide) (fun h_3 => ?_) (fun h_3 => absurd ((lcmp_z _ _).mpr rfl) h_3)
    refine r_goto (tgt := 1289) cx dL_law_503 (by decide) ?_
    exact r_lv (q_pk [2, 3, 4, 5, 6] rfl) (kk _ ⟨_, _, _, _, _, _, _, (inv_rule hI hk), hR3⟩)
  · skip
    obtain ⟨Y, hY, hback⟩ := cR_swap hR2
    refine r_istore cx dL_law_430 (by decide) rfl ?_
    refine r_aload_n cx dL_law_432 rfl rfl ?_
    refine r_aload_n cx dL_law_433 rfl rfl ?_
    refine r_iload cx dL_law_434 rfl ?_
    refine r_iconst (v := nI 1) cx dL_law_436 (by decide) ?_
    refine r_iaddN cx dL_law_437 ?_
    refine r_sld cx hX hbl hbA (by omega) (by omega) dL_law_438 ?_
    refine r_aload_n cx dL_law_439 rfl rfl ?_
    refine r_iload cx dL_law_440 rfl ?_
    refine r_iconst (v := nI 2) cx dL_law_442 (by decide) ?_
    refine r_iaddN cx dL_law_443 ?_
    refine r_sld cx hX hbl hbA (by omega) (by omega) dL_law_444 ?_
    refine r_aload_n cx dL_law_445 rfl rfl ?_
    refine r_iload cx dL_law_446 rfl ?_
    refine r_iconst (v := nI 3) cx dL_law_448 (by decide) ?_
    refine r_iaddN cx dL_law_449 ?_
    refine r_sld cx hX hbl hbA (by omega) (by omega) dL_law_450 ?_
    refine r_aload_n cx dL_law_451 rfl rfl ?_
    refine r_iload cx dL_law_452 rfl ?_
    refine r_iconst (v := nI 4) cx dL_law_454 (by decide) ?_
    refine r_iaddN cx dL_law_455 ?_
    refine r_sld cx hX hbl hbA (by omega) (by omega) dL_law_456 ?_
    refine r_aload_n cx dL_law_457 rfl rfl ?_
    refine r_iload cx dL_law_458 rfl ?_
    refine r_iconst (v := nI 5) cx dL_law_460 (by decide) ?_
    refine r_iaddN cx dL_law_461 ?_
    refine r_sld cx hX hbl hbA (by omega) (by omega) dL_law_462 ?_
    refine r_aload_n cx dL_law_463 rfl rfl ?_
    refine r_iload cx dL_law_464 rfl ?_
    refine r_bipush (v := nI 6) cx dL_law_466 (by decide) ?_
    refine r_iaddN cx dL_law_468 ?_
    refine r_sld cx hX hbl hbA (by omega) (by omega) dL_law_469 ?_
    refine r_perm hY ?_
    refine k_L_102 cx (c_mRule l g md Y t N A B L S hI (xs (i + 1)) (xs (i + 2)) (xs (i + 3)) (xs (i + 4)) (xs (i + 5)) (xs (i + 6))) dL_law_470 22 rfl ⟨Nat.le_of_ble_eq_true rfl, Nat.le_of_ble_eq_true rfl⟩ ⟨hcl, hsl⟩ rfl rfl (Nat.le_of_ble_eq_true rfl) (fun r2 u2 hp2 => ?_)
    obtain ⟨S2, ⟨hk2, -⟩ | ⟨-, rfl⟩⟩ := hp2
    · exact absurd hk2 hk
    refine r_istore cx dL_law_473 (by decide) rfl ?_
    refine r_aload_n cx dL_law_475 rfl rfl ?_
    refine k_L_85 cx (c_mThrown l g md Y (nI (kc (!(inR (xs (i + 1)) 8 && (inR (xs (i + 4)) 10 && inR (xs (i + 5)) 10))) (decide ((xs (i + 2)) = (xs (i + 1))) || !(decide ((xs (i + 2)) = -1) || inR (xs (i + 2)) 8) || !inR (xs (i + 3)) 10 || decide ((xs (i + 5)) < (xs (i + 4))) || !inR (xs (i + 6)) 301) (decide (N 2 = 20)))) N A B L S2) dL_law_476 22 rfl ⟨Nat.le_of_ble_eq_true rfl, Nat.le_of_ble_eq_true rfl⟩ ⟨hcl, hsl⟩ rfl rfl (Nat.le_of_ble_eq_true rfl) (fun r3 u3 hp3 => ?_)
    obtain ⟨rfl, rfl⟩ := hp3
    obtain ⟨w2, hw2, hR3⟩ := hback (mF g md (nI (kc (!(inR (xs (i + 1)) 8 && (inR (xs (i + 4)) 10 && inR (xs (i + 5)) 10))) (decide ((xs (i + 2)) = (xs (i + 1))) || !(decide ((xs (i + 2)) = -1) || inR (xs (i + 2)) 8) || !inR (xs (i + 3)) 10 || decide ((xs (i + 5)) < (xs (i + 4))) || !inR (xs (i + 6)) 301) (decide (N 2 = 20)))) N A B L S2)
    refine r_perm hw2 ?_
    refine r_iload cx dL_law_479 rfl ?_
    refine r_icmpeq (tgt := 486) cx dL_law_481 (by decide) (fun h_1 => ?_) (fun h_1 => absurd rfl h_1)
    refine r_iload cx dL_law_486 rfl ?_
    refine r_ifne (tgt := 503) cx dL_law_488 (by decide) (fun h_2 => ?_) (fun h_2 => absurd h_2 (kc_nz hk))
    refine r_goto (tgt := 1289) cx dL_law_503 (by decide) ?_
    exact r_lv (q_pk [2, 3, 4, 5, 6] rfl) (kk _ ⟨_, _, _, _, _, _, _, hI, hR3⟩)
set_option maxHeartbeats 4000000 in
set_option maxRecDepth 100000 in
theorem w_rest {p : Program} {l : Launch} {e : Env} {s : State} {m : MethodId} {args : Array Value} {below : List Frame} {meth : Method} {c : Code} {g : q_G} {Q : State → Prop} {cl sl : Nat} (cx : q_cx g p m c cL_law 7 s args RL meth) (hl : l.stackTraces = false) {b n i : Nat} {xs : Nat → Int32} (hX : va_X b n xs s s.heap) (hbl : b < s.heap.size) (hbA : ¬ q_A g b) (hi : i + 7 ≤ n) (hn : n ≤ 3584) (hcl : cl + 4 ≤ 601024) (hsl : sl + 250 ≤ 7293034) {a0 ao : Nat} {md : Nat → Nat} {ws : va_W} (hw : lwI g a0 ao md ws)
    (kk : ∀ w, lwI g a0 ao md w → AT p l e room_1 s m args below meth c g 7 Q (cl + 4) (sl + 250) 1289 [(0, .ref b), (1, .ref a0), (2, .ref (md 22)), (3, .ref ao), (4, .int (nI i))] [] w) : AT p l e room_1 s m args below meth c g 7 Q cl sl 506 [(0, .ref b), (1, .ref a0), (2, .ref (md 22)), (3, .ref ao), (4, .int (nI i))] [] ws := by
  obtain ⟨t, N, A, B, L, S, f, hI, hR⟩ := hw
  refine r_aload_n cx dL_law_506 rfl rfl ?_
  refine r_aload_n cx dL_law_507 rfl rfl ?_
  refine r_iload cx dL_law_508 rfl ?_
  refine r_iconst (v := nI 1) cx dL_law_510 (by decide) ?_
  refine r_iaddN cx dL_law_511 ?_
  refine r_sld cx hX hbl hbA (by omega) (by omega) dL_law_512 ?_
  refine r_aload_n cx dL_law_513 rfl rfl ?_
  refine r_iload cx dL_law_514 rfl ?_
  refine r_iconst (v := nI 2) cx dL_law_516 (by decide) ?_
  refine r_iaddN cx dL_law_517 ?_
  refine r_sld cx hX hbl hbA (by omega) (by omega) dL_law_518 ?_
  refine r_aload_n cx dL_law_519 rfl rfl ?_
  refine k_L_103 cx (c_Lrest l g hl N A B L _ ws a0 ao f hI hR (xs (i + 1)) (xs (i + 2))) dL_law_520 ⟨Nat.le_of_ble_eq_true rfl, Nat.le_of_ble_eq_true rfl⟩ ⟨hcl, hsl⟩ rfl rfl (Nat.le_of_ble_eq_true rfl) (fun r u hp => ?_)
  obtain ⟨rfl, f2, (⟨hk, hf2, hR2⟩ | ⟨hk, hR2⟩)⟩ := hp
  · skip
    obtain ⟨Y, hY, hback⟩ := cR_swap hR2
    refine r_istore cx dL_law_523 (by decide) rfl ?_
    refine r_aload_n cx dL_law_525 rfl rfl ?_
    refine r_aload_n cx dL_law_526 rfl rfl ?_
    refine r_iload cx dL_law_527 rfl ?_
    refine r_iconst (v := nI 1) cx dL_law_529 (by decide) ?_
    refine r_iaddN cx dL_law_530 ?_
    refine r_sld cx hX hbl hbA (by omega) (by omega) dL_law_531 ?_
    refine r_aload_n cx dL_law_532 rfl rfl ?_
    refine r_iload cx dL_law_533 rfl ?_
    refine r_iconst (v := nI 2) cx dL_law_535 (by decide) ?_
    refine r_iaddN cx dL_law_536 ?_
    refine r_sld cx hX hbl hbA (by omega) (by omega) dL_law_537 ?_
    refine r_perm hY ?_
    refine k_L_106 cx (c_mRest l g md Y t N A B L S hI (xs (i + 1)) (xs (i + 2))) dL_law_538 22 rfl ⟨Nat.le_of_ble_eq_true rfl, Nat.le_of_ble_eq_true rfl⟩ ⟨hcl, hsl⟩ rfl rfl (Nat.le_of_ble_eq_true rfl) (fun r2 u2 hp2 => ?_)
    obtain ⟨S2, ⟨-, rfl, rfl⟩ | ⟨hk2, -⟩⟩ := hp2
    rotate_left
    · exact absurd hk hk2
    refine r_istore cx dL_law_541 (by decide) rfl ?_
    refine r_aload_n cx dL_law_543 rfl rfl ?_
    refine k_L_85 cx (c_mThrown l g md Y (nI 0) N A B (va_up L 0 (vp_updL (L 0) (c32 (xs (i + 1))) (L 0 (c32 (xs (i + 1))) ||| lN (2 ^ c32 (xs (i + 2)))))) S2) dL_law_544 22 rfl ⟨Nat.le_of_ble_eq_true rfl, Nat.le_of_ble_eq_true rfl⟩ ⟨hcl, hsl⟩ rfl rfl (Nat.le_of_ble_eq_true rfl) (fun r3 u3 hp3 => ?_)
    obtain ⟨rfl, rfl⟩ := hp3
    obtain ⟨w2, hw2, hR3⟩ := hback (mF g md (nI 0) N A B (va_up L 0 (vp_updL (L 0) (c32 (xs (i + 1))) (L 0 (c32 (xs (i + 1))) ||| lN (2 ^ c32 (xs (i + 2)))))) S2)
    refine r_perm hw2 ?_
    rw [hk]
    refine r_iload cx dL_law_547 rfl ?_
    refine r_icmpeq (tgt := 554) cx dL_law_549 (by decide) (fun h_1 => ?_) (fun h_1 => absurd rfl h_1)
    refine r_iload cx dL_law_554 rfl ?_
    refine r_ifne (tgt := 571) cx dL_law_556 (by decide) (fun h_2 => absurd rfl h_2) (fun h_2 => ?_)
    refine r_aload_n cx dL_law_559 rfl rfl ?_
    refine r_iconst (v := nI 0) cx dL_law_560 (by decide) ?_
    refine r_laldN cx 9 1 dL_law_561 (cR_out hR3).1 rfl (by decide) (by decide) ?_
    refine r_eql hf2 ?_
    refine r_iload cx dL_law_562 rfl ?_
    refine r_i2l cx dL_law_564 rfl ?_
    refine r_lcmp cx dL_law_565 ?_
    refine r_ifeq (tgt := 571) cx dL_law_566 (by decide) (fun h_3 => ?_) (fun h_3 => absurd ((lcmp_z _ _).mpr rfl) h_3)
    refine r_goto (tgt := 1289) cx dL_law_571 (by decide) ?_
    exact r_lv (q_pk [2, 3, 4, 5, 6] rfl) (kk _ ⟨_, _, _, _, _, _, _, (inv_rest hI hk), hR3⟩)
  · skip
    obtain ⟨Y, hY, hback⟩ := cR_swap hR2
    refine r_istore cx dL_law_523 (by decide) rfl ?_
    refine r_aload_n cx dL_law_525 rfl rfl ?_
    refine r_aload_n cx dL_law_526 rfl rfl ?_
    refine r_iload cx dL_law_527 rfl ?_
    refine r_iconst (v := nI 1) cx dL_law_529 (by decide) ?_
    refine r_iaddN cx dL_law_530 ?_
    refine r_sld cx hX hbl hbA (by omega) (by omega) dL_law_531 ?_
    refine r_aload_n cx dL_law_532 rfl rfl ?_
    refine r_iload cx dL_law_533 rfl ?_
    refine r_iconst (v := nI 2) cx dL_law_535 (by decide) ?_
    refine r_iaddN cx dL_law_536 ?_
    refine r_sld cx hX hbl hbA (by omega) (by omega) dL_law_537 ?_
    refine r_perm hY ?_
    refine k_L_106 cx (c_mRest l g md Y t N A B L S hI (xs (i + 1)) (xs (i + 2))) dL_law_538 22 rfl ⟨Nat.le_of_ble_eq_true rfl, Nat.le_of_ble_eq_true rfl⟩ ⟨hcl, hsl⟩ rfl rfl (Nat.le_of_ble_eq_true rfl) (fun r2 u2 hp2 => ?_)
    obtain ⟨S2, ⟨hk2, -⟩ | ⟨-, rfl⟩⟩ := hp2
    · exact absurd hk2 hk
    refine r_istore cx dL_law_541 (by decide) rfl ?_
    refine r_aload_n cx dL_law_543 rfl rfl ?_
    refine k_L_85 cx (c_mThrown l g md Y (nI (kc (!(inR (xs (i + 1)) (N 2) && inR (xs (i + 2)) (N 1))) (B 1 (c32 (xs (i + 1))) || B 0 (c32 (xs (i + 2))) || hasB (L 0 (c32 (xs (i + 1)))) (lN (2 ^ c32 (xs (i + 2))))) false)) N A B L S2) dL_law_544 22 rfl ⟨Nat.le_of_ble_eq_true rfl, Nat.le_of_ble_eq_true rfl⟩ ⟨hcl, hsl⟩ rfl rfl (Nat.le_of_ble_eq_true rfl) (fun r3 u3 hp3 => ?_)
    obtain ⟨rfl, rfl⟩ := hp3
    obtain ⟨w2, hw2, hR3⟩ := hback (mF g md (nI (kc (!(inR (xs (i + 1)) (N 2) && inR (xs (i + 2)) (N 1))) (B 1 (c32 (xs (i + 1))) || B 0 (c32 (xs (i + 2))) || hasB (L 0 (c32 (xs (i + 1)))) (lN (2 ^ c32 (xs (i + 2))))) false)) N A B L S2)
    refine r_perm hw2 ?_
    refine r_iload cx dL_law_547 rfl ?_
    refine r_icmpeq (tgt := 554) cx dL_law_549 (by decide) (fun h_1 => ?_) (fun h_1 => absurd rfl h_1)
    refine r_iload cx dL_law_554 rfl ?_
    refine r_ifne (tgt := 571) cx dL_law_556 (by decide) (fun h_2 => ?_) (fun h_2 => absurd h_2 (kc_nz hk))
    refine r_goto (tgt := 1289) cx dL_law_571 (by decide) ?_
    exact r_lv (q_pk [2, 3, 4, 5, 6] rfl) (kk _ ⟨_, _, _, _, _, _, _, hI, hR3⟩)
set_option maxHeartbeats 4000000 in
set_option maxRecDepth 100000 in
theorem w_stands {p : Program} {l : Launch} {e : Env} {s : State} {m : MethodId} {args : Array Value} {below : List Frame} {meth : Method} {c : Code} {g : q_G} {Q : State → Prop} {cl sl : Nat} (cx : q_cx g p m c cL_law 7 s args RL meth) (hl : l.stackTraces = false) {b n i : Nat} {xs : Nat → Int32} (hX : va_X b n xs s s.heap) (hbl : b < s.heap.size) (hbA : ¬ q_A g b) (hi : i + 7 ≤ n) (hn : n ≤ 3584) (hcl : cl + 4 ≤ 601024) (hsl : sl + 250 ≤ 7293034) {a0 ao : Nat} {md : Nat → Nat} {ws : va_W} (hw : lwI g a0 ao md ws)
    (kk : ∀ w, lwI g a0 ao md w → AT p l e room_1 s m args below meth c g 7 Q (cl + 4) (sl + 250) 1289 [(0, .ref b), (1, .ref a0), (2, .ref (md 22)), (3, .ref ao), (4, .int (nI i))] [] w) : AT p l e room_1 s m args below meth c g 7 Q cl sl 574 [(0, .ref b), (1, .ref a0), (2, .ref (md 22)), (3, .ref ao), (4, .int (nI i))] [] ws := by
  obtain ⟨t, N, A, B, L, S, f, hI, hR⟩ := hw
  refine r_aload_n cx dL_law_574 rfl rfl ?_
  refine r_aload_n cx dL_law_575 rfl rfl ?_
  refine r_iload cx dL_law_576 rfl ?_
  refine r_iconst (v := nI 1) cx dL_law_578 (by decide) ?_
  refine r_iaddN cx dL_law_579 ?_
  refine r_sld cx hX hbl hbA (by omega) (by omega) dL_law_580 ?_
  refine r_aload_n cx dL_law_581 rfl rfl ?_
  refine k_L_107 cx (c_Lstands l g hl N A B L _ ws a0 ao f hI hR (xs (i + 1))) dL_law_582 ⟨Nat.le_of_ble_eq_true rfl, Nat.le_of_ble_eq_true rfl⟩ ⟨hcl, hsl⟩ rfl rfl (Nat.le_of_ble_eq_true rfl) (fun r u hp => ?_)
  obtain ⟨rfl, f2, (⟨hk, hf2, hR2⟩ | ⟨hk, hR2⟩)⟩ := hp
  · skip
    obtain ⟨Y, hY, hback⟩ := cR_swap hR2
    refine r_istore cx dL_law_585 (by decide) rfl ?_
    refine r_aload_n cx dL_law_587 rfl rfl ?_
    refine r_aload_n cx dL_law_588 rfl rfl ?_
    refine r_iload cx dL_law_589 rfl ?_
    refine r_iconst (v := nI 1) cx dL_law_591 (by decide) ?_
    refine r_iaddN cx dL_law_592 ?_
    refine r_sld cx hX hbl hbA (by omega) (by omega) dL_law_593 ?_
    refine r_perm hY ?_
    refine k_L_109 cx (c_mStands l g md Y t N A B L S hI (xs (i + 1))) dL_law_594 22 rfl ⟨Nat.le_of_ble_eq_true rfl, Nat.le_of_ble_eq_true rfl⟩ ⟨hcl, hsl⟩ rfl rfl (Nat.le_of_ble_eq_true rfl) (fun r2 u2 hp2 => ?_)
    obtain ⟨S2, ⟨-, rfl, rfl⟩ | ⟨hk2, -⟩⟩ := hp2
    rotate_left
    · exact absurd hk hk2
    refine r_istore cx dL_law_597 (by decide) rfl ?_
    refine r_aload_n cx dL_law_599 rfl rfl ?_
    refine k_L_85 cx (c_mThrown l g md Y (nI 0) N A B L S2) dL_law_600 22 rfl ⟨Nat.le_of_ble_eq_true rfl, Nat.le_of_ble_eq_true rfl⟩ ⟨hcl, hsl⟩ rfl rfl (Nat.le_of_ble_eq_true rfl) (fun r3 u3 hp3 => ?_)
    obtain ⟨rfl, rfl⟩ := hp3
    obtain ⟨w2, hw2, hR3⟩ := hback (mF g md (nI 0) N A B L S2)
    refine r_perm hw2 ?_
    rw [hk]
    refine r_iload cx dL_law_603 rfl ?_
    refine r_icmpeq (tgt := 610) cx dL_law_605 (by decide) (fun h_1 => ?_) (fun h_1 => absurd rfl h_1)
    refine r_iload cx dL_law_610 rfl ?_
    refine r_ifne (tgt := 634) cx dL_law_612 (by decide) (fun h_2 => absurd rfl h_2) (fun h_2 => ?_)
    refine r_aload_n cx dL_law_615 rfl rfl ?_
    refine r_iconst (v := nI 0) cx dL_law_616 (by decide) ?_
    refine r_laldN cx 9 1 dL_law_617 (cR_out hR3).1 rfl (by decide) (by decide) ?_
    refine r_iload cx dL_law_618 rfl ?_
    refine r_ifeqb (tgt := 627) cx dL_law_620 (by decide) (fun h_4 => ?_) (fun h_4 => ?_)
    · skip
      refine r_lconst (v := 0) cx dL_law_627 rfl ?_
      refine r_eql2 (hf2.trans (by rw [h_4]; rfl : _ = (0 : Int64))) ?_
      refine r_lcmp cx dL_law_628 ?_
      refine r_ifeq (tgt := 634) cx dL_law_629 (by decide) (fun h_3 => ?_) (fun h_3 => absurd ((lcmp_z _ _).mpr rfl) h_3)
      refine r_goto (tgt := 1289) cx dL_law_634 (by decide) ?_
      exact r_lv (q_pk [2, 3, 4, 5, 6] rfl) (kk _ ⟨_, _, _, _, _, _, _, hI, hR3⟩)
    · skip
      refine r_lconst (v := 1) cx dL_law_623 rfl ?_
      refine r_goto (tgt := 628) cx dL_law_624 (by decide) ?_
      refine r_eql2 (hf2.trans (by rw [h_4]; rfl : _ = (1 : Int64))) ?_
      refine r_lcmp cx dL_law_628 ?_
      refine r_ifeq (tgt := 634) cx dL_law_629 (by decide) (fun h_3 => ?_) (fun h_3 => absurd ((lcmp_z _ _).mpr rfl) h_3)
      refine r_goto (tgt := 1289) cx dL_law_634 (by decide) ?_
      exact r_lv (q_pk [2, 3, 4, 5, 6] rfl) (kk _ ⟨_, _, _, _, _, _, _, hI, hR3⟩)
  · skip
    obtain ⟨Y, hY, hback⟩ := cR_swap hR2
    refine r_istore cx dL_law_585 (by decide) rfl ?_
    refine r_aload_n cx dL_law_587 rfl rfl ?_
    refine r_aload_n cx dL_law_588 rfl rfl ?_
    refine r_iload cx dL_law_589 rfl ?_
    refine r_iconst (v := nI 1) cx dL_law_591 (by decide) ?_
    refine r_iaddN cx dL_law_592 ?_
    refine r_sld cx hX hbl hbA (by omega) (by omega) dL_law_593 ?_
    refine r_perm hY ?_
    refine k_L_109 cx (c_mStands l g md Y t N A B L S hI (xs (i + 1))) dL_law_594 22 rfl ⟨Nat.le_of_ble_eq_true rfl, Nat.le_of_ble_eq_true rfl⟩ ⟨hcl, hsl⟩ rfl rfl (Nat.le_of_ble_eq_true rfl) (fun r2 u2 hp2 => ?_)
    obtain ⟨S2, ⟨hk2, -⟩ | ⟨-, rfl⟩⟩ := hp2
    · exact absurd hk2 hk
    refine r_istore cx dL_law_597 (by decide) rfl ?_
    refine r_aload_n cx dL_law_599 rfl rfl ?_
    refine k_L_85 cx (c_mThrown l g md Y (nI (kc (!inR (xs (i + 1)) (N 2)) false false)) N A B L S2) dL_law_600 22 rfl ⟨Nat.le_of_ble_eq_true rfl, Nat.le_of_ble_eq_true rfl⟩ ⟨hcl, hsl⟩ rfl rfl (Nat.le_of_ble_eq_true rfl) (fun r3 u3 hp3 => ?_)
    obtain ⟨rfl, rfl⟩ := hp3
    obtain ⟨w2, hw2, hR3⟩ := hback (mF g md (nI (kc (!inR (xs (i + 1)) (N 2)) false false)) N A B L S2)
    refine r_perm hw2 ?_
    refine r_iload cx dL_law_603 rfl ?_
    refine r_icmpeq (tgt := 610) cx dL_law_605 (by decide) (fun h_1 => ?_) (fun h_1 => absurd rfl h_1)
    refine r_iload cx dL_law_610 rfl ?_
    refine r_ifne (tgt := 634) cx dL_law_612 (by decide) (fun h_2 => ?_) (fun h_2 => absurd h_2 (kc_nz hk))
    refine r_goto (tgt := 1289) cx dL_law_634 (by decide) ?_
    exact r_lv (q_pk [2, 3, 4, 5, 6] rfl) (kk _ ⟨_, _, _, _, _, _, _, hI, hR3⟩)
set_option maxHeartbeats 4000000 in
set_option maxRecDepth 100000 in
theorem w_expected {p : Program} {l : Launch} {e : Env} {s : State} {m : MethodId} {args : Array Value} {below : List Frame} {meth : Method} {c : Code} {g : q_G} {Q : State → Prop} {cl sl : Nat} (cx : q_cx g p m c cL_law 7 s args RL meth) (hl : l.stackTraces = false) {b n i : Nat} {xs : Nat → Int32} (hX : va_X b n xs s s.heap) (hbl : b < s.heap.size) (hbA : ¬ q_A g b) (hi : i + 7 ≤ n) (hn : n ≤ 3584) (hcl : cl + 4 ≤ 601024) (hsl : sl + 250 ≤ 7293034) {a0 ao : Nat} {md : Nat → Nat} {ws : va_W} (hw : lwI g a0 ao md ws)
    (kk : ∀ w, lwI g a0 ao md w → AT p l e room_1 s m args below meth c g 7 Q (cl + 4) (sl + 250) 1289 [(0, .ref b), (1, .ref a0), (2, .ref (md 22)), (3, .ref ao), (4, .int (nI i))] [] w) : AT p l e room_1 s m args below meth c g 7 Q cl sl 637 [(0, .ref b), (1, .ref a0), (2, .ref (md 22)), (3, .ref ao), (4, .int (nI i))] [] ws := by
  obtain ⟨t, N, A, B, L, S, f, hI, hR⟩ := hw
  refine r_aload_n cx dL_law_637 rfl rfl ?_
  refine r_aload_n cx dL_law_638 rfl rfl ?_
  refine r_iload cx dL_law_639 rfl ?_
  refine r_iconst (v := nI 1) cx dL_law_641 (by decide) ?_
  refine r_iaddN cx dL_law_642 ?_
  refine r_sld cx hX hbl hbA (by omega) (by omega) dL_law_643 ?_
  refine r_aload_n cx dL_law_644 rfl rfl ?_
  refine r_iload cx dL_law_645 rfl ?_
  refine r_iconst (v := nI 2) cx dL_law_647 (by decide) ?_
  refine r_iaddN cx dL_law_648 ?_
  refine r_sld cx hX hbl hbA (by omega) (by omega) dL_law_649 ?_
  refine r_aload_n cx dL_law_650 rfl rfl ?_
  refine r_iload cx dL_law_651 rfl ?_
  refine r_iconst (v := nI 3) cx dL_law_653 (by decide) ?_
  refine r_iaddN cx dL_law_654 ?_
  refine r_sld cx hX hbl hbA (by omega) (by omega) dL_law_655 ?_
  refine r_aload_n cx dL_law_656 rfl rfl ?_
  refine k_L_110 cx (c_Lexpected l g hl N A B L _ ws a0 ao f hI hR (xs (i + 1)) (xs (i + 2)) (xs (i + 3))) dL_law_657 ⟨Nat.le_of_ble_eq_true rfl, Nat.le_of_ble_eq_true rfl⟩ ⟨hcl, hsl⟩ rfl rfl (Nat.le_of_ble_eq_true rfl) (fun r u hp => ?_)
  obtain ⟨rfl, f2, (⟨hk, hf2, hR2⟩ | ⟨hk, hR2⟩)⟩ := hp
  · skip
    obtain ⟨Y, hY, hback⟩ := cR_swap hR2
    refine r_istore cx dL_law_660 (by decide) rfl ?_
    refine r_aload_n cx dL_law_662 rfl rfl ?_
    refine r_aload_n cx dL_law_663 rfl rfl ?_
    refine r_iload cx dL_law_664 rfl ?_
    refine r_iconst (v := nI 1) cx dL_law_666 (by decide) ?_
    refine r_iaddN cx dL_law_667 ?_
    refine r_sld cx hX hbl hbA (by omega) (by omega) dL_law_668 ?_
    refine r_aload_n cx dL_law_669 rfl rfl ?_
    refine r_iload cx dL_law_670 rfl ?_
    refine r_iconst (v := nI 2) cx dL_law_672 (by decide) ?_
    refine r_iaddN cx dL_law_673 ?_
    refine r_sld cx hX hbl hbA (by omega) (by omega) dL_law_674 ?_
    refine r_aload_n cx dL_law_675 rfl rfl ?_
    refine r_iload cx dL_law_676 rfl ?_
    refine r_iconst (v := nI 3) cx dL_law_678 (by decide) ?_
    refine r_iaddN cx dL_law_679 ?_
    refine r_sld cx hX hbl hbA (by omega) (by omega) dL_law_680 ?_
    refine r_perm hY ?_
    refine k_L_113 cx (c_mExpected l g md Y t N A B L S hI (xs (i + 1)) (xs (i + 2)) (xs (i + 3))) dL_law_681 22 rfl ⟨Nat.le_of_ble_eq_true rfl, Nat.le_of_ble_eq_true rfl⟩ ⟨hcl, hsl⟩ rfl rfl (Nat.le_of_ble_eq_true rfl) (fun r2 u2 hp2 => ?_)
    obtain ⟨S2, ⟨-, rfl, rfl⟩ | ⟨hk2, -⟩⟩ := hp2
    rotate_left
    · exact absurd hk hk2
    refine r_istore cx dL_law_684 (by decide) rfl ?_
    refine r_aload_n cx dL_law_686 rfl rfl ?_
    refine k_L_85 cx (c_mThrown l g md Y (nI 0) N A B L S2) dL_law_687 22 rfl ⟨Nat.le_of_ble_eq_true rfl, Nat.le_of_ble_eq_true rfl⟩ ⟨hcl, hsl⟩ rfl rfl (Nat.le_of_ble_eq_true rfl) (fun r3 u3 hp3 => ?_)
    obtain ⟨rfl, rfl⟩ := hp3
    obtain ⟨w2, hw2, hR3⟩ := hback (mF g md (nI 0) N A B L S2)
    refine r_perm hw2 ?_
    rw [hk]
    refine r_iload cx dL_law_690 rfl ?_
    refine r_icmpeq (tgt := 697) cx dL_law_692 (by decide) (fun h_1 => ?_) (fun h_1 => absurd rfl h_1)
    refine r_iload cx dL_law_697 rfl ?_
    refine r_ifne (tgt := 714) cx dL_law_699 (by decide) (fun h_2 => absurd rfl h_2) (fun h_2 => ?_)
    refine r_aload_n cx dL_law_702 rfl rfl ?_
    refine r_iconst (v := nI 0) cx dL_law_703 (by decide) ?_
    refine r_laldN cx 9 1 dL_law_704 (cR_out hR3).1 rfl (by decide) (by decide) ?_
    refine r_eql hf2 ?_
    refine r_iload cx dL_law_705 rfl ?_
    refine r_i2l cx dL_law_707 rfl ?_
    refine r_lcmp cx dL_law_708 ?_
    refine r_ifeq (tgt := 714) cx dL_law_709 (by decide) (fun h_3 => ?_) (fun h_3 => absurd ((lcmp_z _ _).mpr rfl) h_3)
    refine r_goto (tgt := 1289) cx dL_law_714 (by decide) ?_
    exact r_lv (q_pk [2, 3, 4, 5, 6] rfl) (kk _ ⟨_, _, _, _, _, _, _, hI, hR3⟩)
  · skip
    obtain ⟨Y, hY, hback⟩ := cR_swap hR2
    refine r_istore cx dL_law_660 (by decide) rfl ?_
    refine r_aload_n cx dL_law_662 rfl rfl ?_
    refine r_aload_n cx dL_law_663 rfl rfl ?_
    refine r_iload cx dL_law_664 rfl ?_
    refine r_iconst (v := nI 1) cx dL_law_666 (by decide) ?_
    refine r_iaddN cx dL_law_667 ?_
    refine r_sld cx hX hbl hbA (by omega) (by omega) dL_law_668 ?_
    refine r_aload_n cx dL_law_669 rfl rfl ?_
    refine r_iload cx dL_law_670 rfl ?_
    refine r_iconst (v := nI 2) cx dL_law_672 (by decide) ?_
    refine r_iaddN cx dL_law_673 ?_
    refine r_sld cx hX hbl hbA (by omega) (by omega) dL_law_674 ?_
    refine r_aload_n cx dL_law_675 rfl rfl ?_
    refine r_iload cx dL_law_676 rfl ?_
    refine r_iconst (v := nI 3) cx dL_law_678 (by decide) ?_
    refine r_iaddN cx dL_law_679 ?_
    refine r_sld cx hX hbl hbA (by omega) (by omega) dL_law_680 ?_
    refine r_perm hY ?_
    refine k_L_113 cx (c_mExpected l g md Y t N A B L S hI (xs (i + 1)) (xs (i + 2)) (xs (i + 3))) dL_law_681 22 rfl ⟨Nat.le_of_ble_eq_true rfl, Nat.le_of_ble_eq_true rfl⟩ ⟨hcl, hsl⟩ rfl rfl (Nat.le_of_ble_eq_true rfl) (fun r2 u2 hp2 => ?_)
    obtain ⟨S2, ⟨hk2, -⟩ | ⟨-, rfl⟩⟩ := hp2
    · exact absurd hk2 hk
    refine r_istore cx dL_law_684 (by decide) rfl ?_
    refine r_aload_n cx dL_law_686 rfl rfl ?_
    refine k_L_85 cx (c_mThrown l g md Y (nI (kc (!(inR (xs (i + 1)) 4 && inR (xs (i + 2)) 10)) (!inR (xs (i + 3)) 301) false)) N A B L S2) dL_law_687 22 rfl ⟨Nat.le_of_ble_eq_true rfl, Nat.le_of_ble_eq_true rfl⟩ ⟨hcl, hsl⟩ rfl rfl (Nat.le_of_ble_eq_true rfl) (fun r3 u3 hp3 => ?_)
    obtain ⟨rfl, rfl⟩ := hp3
    obtain ⟨w2, hw2, hR3⟩ := hback (mF g md (nI (kc (!(inR (xs (i + 1)) 4 && inR (xs (i + 2)) 10)) (!inR (xs (i + 3)) 301) false)) N A B L S2)
    refine r_perm hw2 ?_
    refine r_iload cx dL_law_690 rfl ?_
    refine r_icmpeq (tgt := 697) cx dL_law_692 (by decide) (fun h_1 => ?_) (fun h_1 => absurd rfl h_1)
    refine r_iload cx dL_law_697 rfl ?_
    refine r_ifne (tgt := 714) cx dL_law_699 (by decide) (fun h_2 => ?_) (fun h_2 => absurd h_2 (kc_nz hk))
    refine r_goto (tgt := 1289) cx dL_law_714 (by decide) ?_
    exact r_lv (q_pk [2, 3, 4, 5, 6] rfl) (kk _ ⟨_, _, _, _, _, _, _, hI, hR3⟩)
set_option maxHeartbeats 4000000 in
set_option maxRecDepth 100000 in
theorem w_far {p : Program} {l : Launch} {e : Env} {s : State} {m : MethodId} {args : Array Value} {below : List Frame} {meth : Method} {c : Code} {g : q_G} {Q : State → Prop} {cl sl : Nat} (cx : q_cx g p m c cL_law 7 s args RL meth) (hl : l.stackTraces = false) {b n i : Nat} {xs : Nat → Int32} (hX : va_X b n xs s s.heap) (hbl : b < s.heap.size) (hbA : ¬ q_A g b) (hi : i + 7 ≤ n) (hn : n ≤ 3584) (hcl : cl + 4 ≤ 601024) (hsl : sl + 250 ≤ 7293034) {a0 ao : Nat} {md : Nat → Nat} {ws : va_W} (hw : lwI g a0 ao md ws)
    (kk : ∀ w, lwI g a0 ao md w → AT p l e room_1 s m args below meth c g 7 Q (cl + 4) (sl + 250) 1289 [(0, .ref b), (1, .ref a0), (2, .ref (md 22)), (3, .ref ao), (4, .int (nI i))] [] w) : AT p l e room_1 s m args below meth c g 7 Q cl sl 717 [(0, .ref b), (1, .ref a0), (2, .ref (md 22)), (3, .ref ao), (4, .int (nI i))] [] ws := by
  obtain ⟨t, N, A, B, L, S, f, hI, hR⟩ := hw
  refine r_aload_n cx dL_law_717 rfl rfl ?_
  refine r_aload_n cx dL_law_718 rfl rfl ?_
  refine r_iload cx dL_law_719 rfl ?_
  refine r_iconst (v := nI 1) cx dL_law_721 (by decide) ?_
  refine r_iaddN cx dL_law_722 ?_
  refine r_sld cx hX hbl hbA (by omega) (by omega) dL_law_723 ?_
  refine r_aload_n cx dL_law_724 rfl rfl ?_
  refine k_L_114 cx (c_Lfar l g hl N A B L _ ws a0 ao f hI hR (xs (i + 1))) dL_law_725 ⟨Nat.le_of_ble_eq_true rfl, Nat.le_of_ble_eq_true rfl⟩ ⟨hcl, hsl⟩ rfl rfl (Nat.le_of_ble_eq_true rfl) (fun r u hp => ?_)
  obtain ⟨rfl, f2, (⟨hk, hf2, hR2⟩ | ⟨hk, hR2⟩)⟩ := hp
  · skip
    obtain ⟨Y, hY, hback⟩ := cR_swap hR2
    refine r_istore cx dL_law_728 (by decide) rfl ?_
    refine r_aload_n cx dL_law_730 rfl rfl ?_
    refine r_aload_n cx dL_law_731 rfl rfl ?_
    refine r_iload cx dL_law_732 rfl ?_
    refine r_iconst (v := nI 1) cx dL_law_734 (by decide) ?_
    refine r_iaddN cx dL_law_735 ?_
    refine r_sld cx hX hbl hbA (by omega) (by omega) dL_law_736 ?_
    refine r_perm hY ?_
    refine k_L_116 cx (c_mFar l g md Y t N A B L S hI (xs (i + 1))) dL_law_737 22 rfl ⟨Nat.le_of_ble_eq_true rfl, Nat.le_of_ble_eq_true rfl⟩ ⟨hcl, hsl⟩ rfl rfl (Nat.le_of_ble_eq_true rfl) (fun r2 u2 hp2 => ?_)
    obtain ⟨S2, ⟨-, rfl, rfl⟩ | ⟨hk2, -⟩⟩ := hp2
    rotate_left
    · exact absurd hk hk2
    refine r_istore cx dL_law_740 (by decide) rfl ?_
    refine r_aload_n cx dL_law_742 rfl rfl ?_
    refine k_L_85 cx (c_mThrown l g md Y (nI 0) N A B L S2) dL_law_743 22 rfl ⟨Nat.le_of_ble_eq_true rfl, Nat.le_of_ble_eq_true rfl⟩ ⟨hcl, hsl⟩ rfl rfl (Nat.le_of_ble_eq_true rfl) (fun r3 u3 hp3 => ?_)
    obtain ⟨rfl, rfl⟩ := hp3
    obtain ⟨w2, hw2, hR3⟩ := hback (mF g md (nI 0) N A B L S2)
    refine r_perm hw2 ?_
    rw [hk]
    refine r_iload cx dL_law_746 rfl ?_
    refine r_icmpeq (tgt := 753) cx dL_law_748 (by decide) (fun h_1 => ?_) (fun h_1 => absurd rfl h_1)
    refine r_iload cx dL_law_753 rfl ?_
    refine r_ifne (tgt := 770) cx dL_law_755 (by decide) (fun h_2 => absurd rfl h_2) (fun h_2 => ?_)
    refine r_aload_n cx dL_law_758 rfl rfl ?_
    refine r_iconst (v := nI 0) cx dL_law_759 (by decide) ?_
    refine r_laldN cx 9 1 dL_law_760 (cR_out hR3).1 rfl (by decide) (by decide) ?_
    refine r_eql hf2 ?_
    refine r_iload cx dL_law_761 rfl ?_
    refine r_i2l cx dL_law_763 rfl ?_
    refine r_lcmp cx dL_law_764 ?_
    refine r_ifeq (tgt := 770) cx dL_law_765 (by decide) (fun h_3 => ?_) (fun h_3 => absurd ((lcmp_z _ _).mpr rfl) h_3)
    refine r_goto (tgt := 1289) cx dL_law_770 (by decide) ?_
    exact r_lv (q_pk [2, 3, 4, 5, 6] rfl) (kk _ ⟨_, _, _, _, _, _, _, hI, hR3⟩)
  · skip
    obtain ⟨Y, hY, hback⟩ := cR_swap hR2
    refine r_istore cx dL_law_728 (by decide) rfl ?_
    refine r_aload_n cx dL_law_730 rfl rfl ?_
    refine r_aload_n cx dL_law_731 rfl rfl ?_
    refine r_iload cx dL_law_732 rfl ?_
    refine r_iconst (v := nI 1) cx dL_law_734 (by decide) ?_
    refine r_iaddN cx dL_law_735 ?_
    refine r_sld cx hX hbl hbA (by omega) (by omega) dL_law_736 ?_
    refine r_perm hY ?_
    refine k_L_116 cx (c_mFar l g md Y t N A B L S hI (xs (i + 1))) dL_law_737 22 rfl ⟨Nat.le_of_ble_eq_true rfl, Nat.le_of_ble_eq_true rfl⟩ ⟨hcl, hsl⟩ rfl rfl (Nat.le_of_ble_eq_true rfl) (fun r2 u2 hp2 => ?_)
    obtain ⟨S2, ⟨hk2, -⟩ | ⟨-, rfl⟩⟩ := hp2
    · exact absurd hk2 hk
    refine r_istore cx dL_law_740 (by decide) rfl ?_
    refine r_aload_n cx dL_law_742 rfl rfl ?_
    refine k_L_85 cx (c_mThrown l g md Y (nI (kc (!inR (xs (i + 1)) (N 1)) false false)) N A B L S2) dL_law_743 22 rfl ⟨Nat.le_of_ble_eq_true rfl, Nat.le_of_ble_eq_true rfl⟩ ⟨hcl, hsl⟩ rfl rfl (Nat.le_of_ble_eq_true rfl) (fun r3 u3 hp3 => ?_)
    obtain ⟨rfl, rfl⟩ := hp3
    obtain ⟨w2, hw2, hR3⟩ := hback (mF g md (nI (kc (!inR (xs (i + 1)) (N 1)) false false)) N A B L S2)
    refine r_perm hw2 ?_
    refine r_iload cx dL_law_746 rfl ?_
    refine r_icmpeq (tgt := 753) cx dL_law_748 (by decide) (fun h_1 => ?_) (fun h_1 => absurd rfl h_1)
    refine r_iload cx dL_law_753 rfl ?_
    refine r_ifne (tgt := 770) cx dL_law_755 (by decide) (fun h_2 => ?_) (fun h_2 => absurd h_2 (kc_nz hk))
    refine r_goto (tgt := 1289) cx dL_law_770 (by decide) ?_
    exact r_lv (q_pk [2, 3, 4, 5, 6] rfl) (kk _ ⟨_, _, _, _, _, _, _, hI, hR3⟩)
set_option maxHeartbeats 4000000 in
set_option maxRecDepth 100000 in
theorem w_formAt {p : Program} {l : Launch} {e : Env} {s : State} {m : MethodId} {args : Array Value} {below : List Frame} {meth : Method} {c : Code} {g : q_G} {Q : State → Prop} {cl sl : Nat} (cx : q_cx g p m c cL_law 7 s args RL meth) (hl : l.stackTraces = false) {b n i : Nat} {xs : Nat → Int32} (hX : va_X b n xs s s.heap) (hbl : b < s.heap.size) (hbA : ¬ q_A g b) (hi : i + 7 ≤ n) (hn : n ≤ 3584) (hcl : cl + 4 ≤ 601024) (hsl : sl + 250 ≤ 7293034) {a0 ao : Nat} {md : Nat → Nat} {ws : va_W} (hw : lwI g a0 ao md ws)
    (kk : ∀ w, lwI g a0 ao md w → AT p l e room_1 s m args below meth c g 7 Q (cl + 4) (sl + 250) 1289 [(0, .ref b), (1, .ref a0), (2, .ref (md 22)), (3, .ref ao), (4, .int (nI i))] [] w) : AT p l e room_1 s m args below meth c g 7 Q cl sl 773 [(0, .ref b), (1, .ref a0), (2, .ref (md 22)), (3, .ref ao), (4, .int (nI i))] [] ws := by
  obtain ⟨t, N, A, B, L, S, f, hI, hR⟩ := hw
  refine r_aload_n cx dL_law_773 rfl rfl ?_
  refine r_aload_n cx dL_law_774 rfl rfl ?_
  refine r_iload cx dL_law_775 rfl ?_
  refine r_iconst (v := nI 1) cx dL_law_777 (by decide) ?_
  refine r_iaddN cx dL_law_778 ?_
  refine r_sld cx hX hbl hbA (by omega) (by omega) dL_law_779 ?_
  refine r_aload_n cx dL_law_780 rfl rfl ?_
  refine r_iload cx dL_law_781 rfl ?_
  refine r_iconst (v := nI 2) cx dL_law_783 (by decide) ?_
  refine r_iaddN cx dL_law_784 ?_
  refine r_sld cx hX hbl hbA (by omega) (by omega) dL_law_785 ?_
  refine r_aload_n cx dL_law_786 rfl rfl ?_
  refine k_L_117 cx (c_LformAt l g hl N A B L _ ws a0 ao f hI hR (xs (i + 1)) (xs (i + 2))) dL_law_787 ⟨Nat.le_of_ble_eq_true rfl, Nat.le_of_ble_eq_true rfl⟩ ⟨hcl, hsl⟩ rfl rfl (Nat.le_of_ble_eq_true rfl) (fun r u hp => ?_)
  obtain ⟨rfl, f2, (⟨hk, hf2, hR2⟩ | ⟨hk, hR2⟩)⟩ := hp
  · skip
    obtain ⟨Y, hY, hback⟩ := cR_swap hR2
    refine r_istore cx dL_law_790 (by decide) rfl ?_
    refine r_aload_n cx dL_law_792 rfl rfl ?_
    refine r_aload_n cx dL_law_793 rfl rfl ?_
    refine r_iload cx dL_law_794 rfl ?_
    refine r_iconst (v := nI 1) cx dL_law_796 (by decide) ?_
    refine r_iaddN cx dL_law_797 ?_
    refine r_sld cx hX hbl hbA (by omega) (by omega) dL_law_798 ?_
    refine r_aload_n cx dL_law_799 rfl rfl ?_
    refine r_iload cx dL_law_800 rfl ?_
    refine r_iconst (v := nI 2) cx dL_law_802 (by decide) ?_
    refine r_iaddN cx dL_law_803 ?_
    refine r_sld cx hX hbl hbA (by omega) (by omega) dL_law_804 ?_
    refine r_perm hY ?_
    refine k_L_119 cx (c_mFormAt l g md Y t N A B L S hI (xs (i + 1)) (xs (i + 2))) dL_law_805 22 rfl ⟨Nat.le_of_ble_eq_true rfl, Nat.le_of_ble_eq_true rfl⟩ ⟨hcl, hsl⟩ rfl rfl (Nat.le_of_ble_eq_true rfl) (fun r2 u2 hp2 => ?_)
    obtain ⟨S2, ⟨-, rfl, rfl⟩ | ⟨hk2, -⟩⟩ := hp2
    rotate_left
    · exact absurd hk hk2
    refine r_istore cx dL_law_808 (by decide) rfl ?_
    refine r_aload_n cx dL_law_810 rfl rfl ?_
    refine k_L_85 cx (c_mThrown l g md Y (nI 0) N A B L S2) dL_law_811 22 rfl ⟨Nat.le_of_ble_eq_true rfl, Nat.le_of_ble_eq_true rfl⟩ ⟨hcl, hsl⟩ rfl rfl (Nat.le_of_ble_eq_true rfl) (fun r3 u3 hp3 => ?_)
    obtain ⟨rfl, rfl⟩ := hp3
    obtain ⟨w2, hw2, hR3⟩ := hback (mF g md (nI 0) N A B L S2)
    refine r_perm hw2 ?_
    rw [hk]
    refine r_iload cx dL_law_814 rfl ?_
    refine r_icmpeq (tgt := 821) cx dL_law_816 (by decide) (fun h_1 => ?_) (fun h_1 => absurd rfl h_1)
    refine r_iload cx dL_law_821 rfl ?_
    refine r_ifne (tgt := 838) cx dL_law_823 (by decide) (fun h_2 => absurd rfl h_2) (fun h_2 => ?_)
    refine r_aload_n cx dL_law_826 rfl rfl ?_
    refine r_iconst (v := nI 0) cx dL_law_827 (by decide) ?_
    refine r_laldN cx 9 1 dL_law_828 (cR_out hR3).1 rfl (by decide) (by decide) ?_
    refine r_eql hf2 ?_
    refine r_iload cx dL_law_829 rfl ?_
    refine r_i2l cx dL_law_831 rfl ?_
    refine r_lcmp cx dL_law_832 ?_
    refine r_ifeq (tgt := 838) cx dL_law_833 (by decide) (fun h_3 => ?_) (fun h_3 => absurd ((lcmp_z _ _).mpr rfl) h_3)
    refine r_goto (tgt := 1289) cx dL_law_838 (by decide) ?_
    exact r_lv (q_pk [2, 3, 4, 5, 6] rfl) (kk _ ⟨_, _, _, _, _, _, _, hI, hR3⟩)
  · skip
    obtain ⟨Y, hY, hback⟩ := cR_swap hR2
    refine r_istore cx dL_law_790 (by decide) rfl ?_
    refine r_aload_n cx dL_law_792 rfl rfl ?_
    refine r_aload_n cx dL_law_793 rfl rfl ?_
    refine r_iload cx dL_law_794 rfl ?_
    refine r_iconst (v := nI 1) cx dL_law_796 (by decide) ?_
    refine r_iaddN cx dL_law_797 ?_
    refine r_sld cx hX hbl hbA (by omega) (by omega) dL_law_798 ?_
    refine r_aload_n cx dL_law_799 rfl rfl ?_
    refine r_iload cx dL_law_800 rfl ?_
    refine r_iconst (v := nI 2) cx dL_law_802 (by decide) ?_
    refine r_iaddN cx dL_law_803 ?_
    refine r_sld cx hX hbl hbA (by omega) (by omega) dL_law_804 ?_
    refine r_perm hY ?_
    refine k_L_119 cx (c_mFormAt l g md Y t N A B L S hI (xs (i + 1)) (xs (i + 2))) dL_law_805 22 rfl ⟨Nat.le_of_ble_eq_true rfl, Nat.le_of_ble_eq_true rfl⟩ ⟨hcl, hsl⟩ rfl rfl (Nat.le_of_ble_eq_true rfl) (fun r2 u2 hp2 => ?_)
    obtain ⟨S2, ⟨hk2, -⟩ | ⟨-, rfl⟩⟩ := hp2
    · exact absurd hk2 hk
    refine r_istore cx dL_law_808 (by decide) rfl ?_
    refine r_aload_n cx dL_law_810 rfl rfl ?_
    refine k_L_85 cx (c_mThrown l g md Y (nI (kc (!(inR (xs (i + 1)) 4 && inR (xs (i + 2)) 10)) false false)) N A B L S2) dL_law_811 22 rfl ⟨Nat.le_of_ble_eq_true rfl, Nat.le_of_ble_eq_true rfl⟩ ⟨hcl, hsl⟩ rfl rfl (Nat.le_of_ble_eq_true rfl) (fun r3 u3 hp3 => ?_)
    obtain ⟨rfl, rfl⟩ := hp3
    obtain ⟨w2, hw2, hR3⟩ := hback (mF g md (nI (kc (!(inR (xs (i + 1)) 4 && inR (xs (i + 2)) 10)) false false)) N A B L S2)
    refine r_perm hw2 ?_
    refine r_iload cx dL_law_814 rfl ?_
    refine r_icmpeq (tgt := 821) cx dL_law_816 (by decide) (fun h_1 => ?_) (fun h_1 => absurd rfl h_1)
    refine r_iload cx dL_law_821 rfl ?_
    refine r_ifne (tgt := 838) cx dL_law_823 (by decide) (fun h_2 => ?_) (fun h_2 => absurd h_2 (kc_nz hk))
    refine r_goto (tgt := 1289) cx dL_law_838 (by decide) ?_
    exact r_lv (q_pk [2, 3, 4, 5, 6] rfl) (kk _ ⟨_, _, _, _, _, _, _, hI, hR3⟩)
set_option maxHeartbeats 4000000 in
set_option maxRecDepth 100000 in
theorem w_lines {p : Program} {l : Launch} {e : Env} {s : State} {m : MethodId} {args : Array Value} {below : List Frame} {meth : Method} {c : Code} {g : q_G} {Q : State → Prop} {cl sl : Nat} (cx : q_cx g p m c cL_law 7 s args RL meth) (hl : l.stackTraces = false) {b n i : Nat} {xs : Nat → Int32} (hX : va_X b n xs s s.heap) (hbl : b < s.heap.size) (hbA : ¬ q_A g b) (hi : i + 7 ≤ n) (hn : n ≤ 3584) (hcl : cl + 4 ≤ 601024) (hsl : sl + 250 ≤ 7293034) {a0 ao : Nat} {md : Nat → Nat} {ws : va_W} (hw : lwI g a0 ao md ws)
    (kk : ∀ w, lwI g a0 ao md w → AT p l e room_1 s m args below meth c g 7 Q (cl + 4) (sl + 250) 1289 [(0, .ref b), (1, .ref a0), (2, .ref (md 22)), (3, .ref ao), (4, .int (nI i))] [] w) : AT p l e room_1 s m args below meth c g 7 Q cl sl 841 [(0, .ref b), (1, .ref a0), (2, .ref (md 22)), (3, .ref ao), (4, .int (nI i))] [] ws := by
  obtain ⟨t, N, A, B, L, S, f, hI, hR⟩ := hw
  refine r_aload_n cx dL_law_841 rfl rfl ?_
  refine r_aload_n cx dL_law_842 rfl rfl ?_
  refine r_iload cx dL_law_843 rfl ?_
  refine r_iconst (v := nI 1) cx dL_law_845 (by decide) ?_
  refine r_iaddN cx dL_law_846 ?_
  refine r_sld cx hX hbl hbA (by omega) (by omega) dL_law_847 ?_
  refine r_aload_n cx dL_law_848 rfl rfl ?_
  refine k_L_120 cx (c_Llines l g hl N A B L _ ws a0 ao f hI hR (xs (i + 1))) dL_law_849 ⟨Nat.le_of_ble_eq_true rfl, Nat.le_of_ble_eq_true rfl⟩ ⟨hcl, hsl⟩ rfl rfl (Nat.le_of_ble_eq_true rfl) (fun r u hp => ?_)
  obtain ⟨rfl, f2, (⟨hk, hf2, hR2⟩ | ⟨hk, hR2⟩)⟩ := hp
  · skip
    obtain ⟨Y, hY, hback⟩ := cR_swap hR2
    refine r_istore cx dL_law_852 (by decide) rfl ?_
    refine r_aload_n cx dL_law_854 rfl rfl ?_
    refine r_aload_n cx dL_law_855 rfl rfl ?_
    refine r_iload cx dL_law_856 rfl ?_
    refine r_iconst (v := nI 1) cx dL_law_858 (by decide) ?_
    refine r_iaddN cx dL_law_859 ?_
    refine r_sld cx hX hbl hbA (by omega) (by omega) dL_law_860 ?_
    refine r_perm hY ?_
    refine k_L_122 cx (c_mLines l g md Y t N A B L S hI (xs (i + 1))) dL_law_861 22 rfl ⟨Nat.le_of_ble_eq_true rfl, Nat.le_of_ble_eq_true rfl⟩ ⟨hcl, hsl⟩ rfl rfl (Nat.le_of_ble_eq_true rfl) (fun r2 u2 hp2 => ?_)
    obtain ⟨S2, ⟨-, rfl, rfl⟩ | ⟨hk2, -⟩⟩ := hp2
    rotate_left
    · exact absurd hk hk2
    refine r_istore cx dL_law_864 (by decide) rfl ?_
    refine r_aload_n cx dL_law_866 rfl rfl ?_
    refine k_L_85 cx (c_mThrown l g md Y (nI 0) N A B L S2) dL_law_867 22 rfl ⟨Nat.le_of_ble_eq_true rfl, Nat.le_of_ble_eq_true rfl⟩ ⟨hcl, hsl⟩ rfl rfl (Nat.le_of_ble_eq_true rfl) (fun r3 u3 hp3 => ?_)
    obtain ⟨rfl, rfl⟩ := hp3
    obtain ⟨w2, hw2, hR3⟩ := hback (mF g md (nI 0) N A B L S2)
    refine r_perm hw2 ?_
    rw [hk]
    refine r_iload cx dL_law_870 rfl ?_
    refine r_icmpeq (tgt := 877) cx dL_law_872 (by decide) (fun h_1 => ?_) (fun h_1 => absurd rfl h_1)
    refine r_iload cx dL_law_877 rfl ?_
    refine r_ifne (tgt := 894) cx dL_law_879 (by decide) (fun h_2 => absurd rfl h_2) (fun h_2 => ?_)
    refine r_aload_n cx dL_law_882 rfl rfl ?_
    refine r_iconst (v := nI 0) cx dL_law_883 (by decide) ?_
    refine r_laldN cx 9 1 dL_law_884 (cR_out hR3).1 rfl (by decide) (by decide) ?_
    refine r_eql hf2 ?_
    refine r_iload cx dL_law_885 rfl ?_
    refine r_i2l cx dL_law_887 rfl ?_
    refine r_lcmp cx dL_law_888 ?_
    refine r_ifeq (tgt := 894) cx dL_law_889 (by decide) (fun h_3 => ?_) (fun h_3 => absurd ((lcmp_z _ _).mpr rfl) h_3)
    refine r_goto (tgt := 1289) cx dL_law_894 (by decide) ?_
    exact r_lv (q_pk [2, 3, 4, 5, 6] rfl) (kk _ ⟨_, _, _, _, _, _, _, hI, hR3⟩)
  · skip
    obtain ⟨Y, hY, hback⟩ := cR_swap hR2
    refine r_istore cx dL_law_852 (by decide) rfl ?_
    refine r_aload_n cx dL_law_854 rfl rfl ?_
    refine r_aload_n cx dL_law_855 rfl rfl ?_
    refine r_iload cx dL_law_856 rfl ?_
    refine r_iconst (v := nI 1) cx dL_law_858 (by decide) ?_
    refine r_iaddN cx dL_law_859 ?_
    refine r_sld cx hX hbl hbA (by omega) (by omega) dL_law_860 ?_
    refine r_perm hY ?_
    refine k_L_122 cx (c_mLines l g md Y t N A B L S hI (xs (i + 1))) dL_law_861 22 rfl ⟨Nat.le_of_ble_eq_true rfl, Nat.le_of_ble_eq_true rfl⟩ ⟨hcl, hsl⟩ rfl rfl (Nat.le_of_ble_eq_true rfl) (fun r2 u2 hp2 => ?_)
    obtain ⟨S2, ⟨hk2, -⟩ | ⟨-, rfl⟩⟩ := hp2
    · exact absurd hk2 hk
    refine r_istore cx dL_law_864 (by decide) rfl ?_
    refine r_aload_n cx dL_law_866 rfl rfl ?_
    refine k_L_85 cx (c_mThrown l g md Y (nI (kc (!inR (xs (i + 1)) 4) false false)) N A B L S2) dL_law_867 22 rfl ⟨Nat.le_of_ble_eq_true rfl, Nat.le_of_ble_eq_true rfl⟩ ⟨hcl, hsl⟩ rfl rfl (Nat.le_of_ble_eq_true rfl) (fun r3 u3 hp3 => ?_)
    obtain ⟨rfl, rfl⟩ := hp3
    obtain ⟨w2, hw2, hR3⟩ := hback (mF g md (nI (kc (!inR (xs (i + 1)) 4) false false)) N A B L S2)
    refine r_perm hw2 ?_
    refine r_iload cx dL_law_870 rfl ?_
    refine r_icmpeq (tgt := 877) cx dL_law_872 (by decide) (fun h_1 => ?_) (fun h_1 => absurd rfl h_1)
    refine r_iload cx dL_law_877 rfl ?_
    refine r_ifne (tgt := 894) cx dL_law_879 (by decide) (fun h_2 => ?_) (fun h_2 => absurd h_2 (kc_nz hk))
    refine r_goto (tgt := 1289) cx dL_law_894 (by decide) ?_
    exact r_lv (q_pk [2, 3, 4, 5, 6] rfl) (kk _ ⟨_, _, _, _, _, _, _, hI, hR3⟩)
set_option maxHeartbeats 4000000 in
set_option maxRecDepth 100000 in
theorem w_linesByForms {p : Program} {l : Launch} {e : Env} {s : State} {m : MethodId} {args : Array Value} {below : List Frame} {meth : Method} {c : Code} {g : q_G} {Q : State → Prop} {cl sl : Nat} (cx : q_cx g p m c cL_law 7 s args RL meth) (hl : l.stackTraces = false) {b n i : Nat} {xs : Nat → Int32} (hX : va_X b n xs s s.heap) (hbl : b < s.heap.size) (hbA : ¬ q_A g b) (hi : i + 7 ≤ n) (hn : n ≤ 3584) (hcl : cl + 4 ≤ 601024) (hsl : sl + 250 ≤ 7293034) {a0 ao : Nat} {md : Nat → Nat} {ws : va_W} (hw : lwI g a0 ao md ws)
    (kk : ∀ w, lwI g a0 ao md w → AT p l e room_1 s m args below meth c g 7 Q (cl + 4) (sl + 250) 1289 [(0, .ref b), (1, .ref a0), (2, .ref (md 22)), (3, .ref ao), (4, .int (nI i))] [] w) : AT p l e room_1 s m args below meth c g 7 Q cl sl 897 [(0, .ref b), (1, .ref a0), (2, .ref (md 22)), (3, .ref ao), (4, .int (nI i))] [] ws := by
  obtain ⟨t, N, A, B, L, S, f, hI, hR⟩ := hw
  refine r_aload_n cx dL_law_897 rfl rfl ?_
  refine r_aload_n cx dL_law_898 rfl rfl ?_
  refine r_iload cx dL_law_899 rfl ?_
  refine r_iconst (v := nI 1) cx dL_law_901 (by decide) ?_
  refine r_iaddN cx dL_law_902 ?_
  refine r_sld cx hX hbl hbA (by omega) (by omega) dL_law_903 ?_
  refine r_aload_n cx dL_law_904 rfl rfl ?_
  refine k_L_123 cx (c_LlinesByForms l g hl N A B L _ ws a0 ao f hI hR (xs (i + 1))) dL_law_905 ⟨Nat.le_of_ble_eq_true rfl, Nat.le_of_ble_eq_true rfl⟩ ⟨hcl, hsl⟩ rfl rfl (Nat.le_of_ble_eq_true rfl) (fun r u hp => ?_)
  obtain ⟨rfl, f2, (⟨hk, hf2, hR2⟩ | ⟨hk, hR2⟩)⟩ := hp
  · skip
    obtain ⟨Y, hY, hback⟩ := cR_swap hR2
    refine r_istore cx dL_law_908 (by decide) rfl ?_
    refine r_aload_n cx dL_law_910 rfl rfl ?_
    refine r_aload_n cx dL_law_911 rfl rfl ?_
    refine r_iload cx dL_law_912 rfl ?_
    refine r_iconst (v := nI 1) cx dL_law_914 (by decide) ?_
    refine r_iaddN cx dL_law_915 ?_
    refine r_sld cx hX hbl hbA (by omega) (by omega) dL_law_916 ?_
    refine r_perm hY ?_
    refine k_L_125 cx (c_mLinesBy l g md Y t N A B L S hI (xs (i + 1))) dL_law_917 22 rfl ⟨Nat.le_of_ble_eq_true rfl, Nat.le_of_ble_eq_true rfl⟩ ⟨hcl, hsl⟩ rfl rfl (Nat.le_of_ble_eq_true rfl) (fun r2 u2 hp2 => ?_)
    obtain ⟨S2, ⟨-, rfl, rfl⟩ | ⟨hk2, -⟩⟩ := hp2
    rotate_left
    · exact absurd hk hk2
    refine r_istore cx dL_law_920 (by decide) rfl ?_
    refine r_aload_n cx dL_law_922 rfl rfl ?_
    refine k_L_85 cx (c_mThrown l g md Y (nI 0) N A B L S2) dL_law_923 22 rfl ⟨Nat.le_of_ble_eq_true rfl, Nat.le_of_ble_eq_true rfl⟩ ⟨hcl, hsl⟩ rfl rfl (Nat.le_of_ble_eq_true rfl) (fun r3 u3 hp3 => ?_)
    obtain ⟨rfl, rfl⟩ := hp3
    obtain ⟨w2, hw2, hR3⟩ := hback (mF g md (nI 0) N A B L S2)
    refine r_perm hw2 ?_
    rw [hk]
    refine r_iload cx dL_law_926 rfl ?_
    refine r_icmpeq (tgt := 933) cx dL_law_928 (by decide) (fun h_1 => ?_) (fun h_1 => absurd rfl h_1)
    refine r_iload cx dL_law_933 rfl ?_
    refine r_ifne (tgt := 950) cx dL_law_935 (by decide) (fun h_2 => absurd rfl h_2) (fun h_2 => ?_)
    refine r_aload_n cx dL_law_938 rfl rfl ?_
    refine r_iconst (v := nI 0) cx dL_law_939 (by decide) ?_
    refine r_laldN cx 9 1 dL_law_940 (cR_out hR3).1 rfl (by decide) (by decide) ?_
    refine r_eql hf2 ?_
    refine r_iload cx dL_law_941 rfl ?_
    refine r_i2l cx dL_law_943 rfl ?_
    refine r_lcmp cx dL_law_944 ?_
    refine r_ifeq (tgt := 950) cx dL_law_945 (by decide) (fun h_3 => ?_) (fun h_3 => absurd ((lcmp_z _ _).mpr rfl) h_3)
    refine r_goto (tgt := 1289) cx dL_law_950 (by decide) ?_
    exact r_lv (q_pk [2, 3, 4, 5, 6] rfl) (kk _ ⟨_, _, _, _, _, _, _, hI, hR3⟩)
  · skip
    obtain ⟨Y, hY, hback⟩ := cR_swap hR2
    refine r_istore cx dL_law_908 (by decide) rfl ?_
    refine r_aload_n cx dL_law_910 rfl rfl ?_
    refine r_aload_n cx dL_law_911 rfl rfl ?_
    refine r_iload cx dL_law_912 rfl ?_
    refine r_iconst (v := nI 1) cx dL_law_914 (by decide) ?_
    refine r_iaddN cx dL_law_915 ?_
    refine r_sld cx hX hbl hbA (by omega) (by omega) dL_law_916 ?_
    refine r_perm hY ?_
    refine k_L_125 cx (c_mLinesBy l g md Y t N A B L S hI (xs (i + 1))) dL_law_917 22 rfl ⟨Nat.le_of_ble_eq_true rfl, Nat.le_of_ble_eq_true rfl⟩ ⟨hcl, hsl⟩ rfl rfl (Nat.le_of_ble_eq_true rfl) (fun r2 u2 hp2 => ?_)
    obtain ⟨S2, ⟨hk2, -⟩ | ⟨-, rfl⟩⟩ := hp2
    · exact absurd hk2 hk
    refine r_istore cx dL_law_920 (by decide) rfl ?_
    refine r_aload_n cx dL_law_922 rfl rfl ?_
    refine k_L_85 cx (c_mThrown l g md Y (nI (kc (!inR (xs (i + 1)) 4) false false)) N A B L S2) dL_law_923 22 rfl ⟨Nat.le_of_ble_eq_true rfl, Nat.le_of_ble_eq_true rfl⟩ ⟨hcl, hsl⟩ rfl rfl (Nat.le_of_ble_eq_true rfl) (fun r3 u3 hp3 => ?_)
    obtain ⟨rfl, rfl⟩ := hp3
    obtain ⟨w2, hw2, hR3⟩ := hback (mF g md (nI (kc (!inR (xs (i + 1)) 4) false false)) N A B L S2)
    refine r_perm hw2 ?_
    refine r_iload cx dL_law_926 rfl ?_
    refine r_icmpeq (tgt := 933) cx dL_law_928 (by decide) (fun h_1 => ?_) (fun h_1 => absurd rfl h_1)
    refine r_iload cx dL_law_933 rfl ?_
    refine r_ifne (tgt := 950) cx dL_law_935 (by decide) (fun h_2 => ?_) (fun h_2 => absurd h_2 (kc_nz hk))
    refine r_goto (tgt := 1289) cx dL_law_950 (by decide) ?_
    exact r_lv (q_pk [2, 3, 4, 5, 6] rfl) (kk _ ⟨_, _, _, _, _, _, _, hI, hR3⟩)
set_option maxHeartbeats 4000000 in
set_option maxRecDepth 100000 in
theorem w_forget {p : Program} {l : Launch} {e : Env} {s : State} {m : MethodId} {args : Array Value} {below : List Frame} {meth : Method} {c : Code} {g : q_G} {Q : State → Prop} {cl sl : Nat} (cx : q_cx g p m c cL_law 7 s args RL meth) (hl : l.stackTraces = false) {b n i : Nat} {xs : Nat → Int32} (hX : va_X b n xs s s.heap) (hbl : b < s.heap.size) (hbA : ¬ q_A g b) (hi : i + 7 ≤ n) (hn : n ≤ 3584) (hcl : cl + 4 ≤ 601024) (hsl : sl + 250 ≤ 7293034) {a0 ao : Nat} {md : Nat → Nat} {ws : va_W} (hw : lwI g a0 ao md ws)
    (kk : ∀ w, lwI g a0 ao md w → AT p l e room_1 s m args below meth c g 7 Q (cl + 4) (sl + 250) 1289 [(0, .ref b), (1, .ref a0), (2, .ref (md 22)), (3, .ref ao), (4, .int (nI i))] [] w) : AT p l e room_1 s m args below meth c g 7 Q cl sl 953 [(0, .ref b), (1, .ref a0), (2, .ref (md 22)), (3, .ref ao), (4, .int (nI i))] [] ws := by
  obtain ⟨t, N, A, B, L, S, f, hI, hR⟩ := hw
  refine r_aload_n cx dL_law_953 rfl rfl ?_
  refine r_aload_n cx dL_law_954 rfl rfl ?_
  refine r_iload cx dL_law_955 rfl ?_
  refine r_iconst (v := nI 1) cx dL_law_957 (by decide) ?_
  refine r_iaddN cx dL_law_958 ?_
  refine r_sld cx hX hbl hbA (by omega) (by omega) dL_law_959 ?_
  refine r_aload_n cx dL_law_960 rfl rfl ?_
  refine k_L_126 cx (c_Lforget l g hl N A B L _ ws a0 ao f hI hR (xs (i + 1))) dL_law_961 ⟨Nat.le_of_ble_eq_true rfl, Nat.le_of_ble_eq_true rfl⟩ ⟨hcl, hsl⟩ rfl rfl (Nat.le_of_ble_eq_true rfl) (fun r u hp => ?_)
  obtain ⟨rfl, f2, (⟨hk, hf2, hR2⟩ | ⟨hk, hR2⟩)⟩ := hp
  · skip
    obtain ⟨Y, hY, hback⟩ := cR_swap hR2
    refine r_istore cx dL_law_964 (by decide) rfl ?_
    refine r_aload_n cx dL_law_966 rfl rfl ?_
    refine r_aload_n cx dL_law_967 rfl rfl ?_
    refine r_iload cx dL_law_968 rfl ?_
    refine r_iconst (v := nI 1) cx dL_law_970 (by decide) ?_
    refine r_iaddN cx dL_law_971 ?_
    refine r_sld cx hX hbl hbA (by omega) (by omega) dL_law_972 ?_
    refine r_perm hY ?_
    refine k_L_128 cx (c_mForget l g md Y t N A B L S hI (xs (i + 1))) dL_law_973 22 rfl ⟨Nat.le_of_ble_eq_true rfl, Nat.le_of_ble_eq_true rfl⟩ ⟨hcl, hsl⟩ rfl rfl (Nat.le_of_ble_eq_true rfl) (fun r2 u2 hp2 => ?_)
    obtain ⟨S2, ⟨-, rfl, rfl⟩ | ⟨hk2, -⟩⟩ := hp2
    rotate_left
    · exact absurd hk hk2
    refine r_istore cx dL_law_976 (by decide) rfl ?_
    refine r_aload_n cx dL_law_978 rfl rfl ?_
    refine k_L_85 cx (c_mThrown l g md Y (nI 0) N A (va_up (va_up B 0 (goN (N 1) (B 0) (A 1) (xs (i + 1)))) 1 (faN (L 0) (B 1) (fgS (B 0) (A 1) (xs (i + 1)) (N 1)))) (va_up L 0 (grN (L 0) (fgS (B 0) (A 1) (xs (i + 1)) (N 1)))) S2) dL_law_979 22 rfl ⟨Nat.le_of_ble_eq_true rfl, Nat.le_of_ble_eq_true rfl⟩ ⟨hcl, hsl⟩ rfl rfl (Nat.le_of_ble_eq_true rfl) (fun r3 u3 hp3 => ?_)
    obtain ⟨rfl, rfl⟩ := hp3
    obtain ⟨w2, hw2, hR3⟩ := hback (mF g md (nI 0) N A (va_up (va_up B 0 (goN (N 1) (B 0) (A 1) (xs (i + 1)))) 1 (faN (L 0) (B 1) (fgS (B 0) (A 1) (xs (i + 1)) (N 1)))) (va_up L 0 (grN (L 0) (fgS (B 0) (A 1) (xs (i + 1)) (N 1)))) S2)
    refine r_perm hw2 ?_
    rw [hk]
    refine r_iload cx dL_law_982 rfl ?_
    refine r_icmpeq (tgt := 989) cx dL_law_984 (by decide) (fun h_1 => ?_) (fun h_1 => absurd rfl h_1)
    refine r_iload cx dL_law_989 rfl ?_
    refine r_ifne (tgt := 1006) cx dL_law_991 (by decide) (fun h_2 => absurd rfl h_2) (fun h_2 => ?_)
    refine r_aload_n cx dL_law_994 rfl rfl ?_
    refine r_iconst (v := nI 0) cx dL_law_995 (by decide) ?_
    refine r_laldN cx 9 1 dL_law_996 (cR_out hR3).1 rfl (by decide) (by decide) ?_
    refine r_eql hf2 ?_
    refine r_iload cx dL_law_997 rfl ?_
    refine r_i2l cx dL_law_999 rfl ?_
    refine r_lcmp cx dL_law_1000 ?_
    refine r_ifeq (tgt := 1006) cx dL_law_1001 (by decide) (fun h_3 => ?_) (fun h_3 => absurd ((lcmp_z _ _).mpr rfl) h_3)
    refine r_goto (tgt := 1289) cx dL_law_1006 (by decide) ?_
    exact r_lv (q_pk [2, 3, 4, 5, 6] rfl) (kk _ ⟨_, _, _, _, _, _, _, (inv_forget hI), hR3⟩)
  · skip
    obtain ⟨Y, hY, hback⟩ := cR_swap hR2
    refine r_istore cx dL_law_964 (by decide) rfl ?_
    refine r_aload_n cx dL_law_966 rfl rfl ?_
    refine r_aload_n cx dL_law_967 rfl rfl ?_
    refine r_iload cx dL_law_968 rfl ?_
    refine r_iconst (v := nI 1) cx dL_law_970 (by decide) ?_
    refine r_iaddN cx dL_law_971 ?_
    refine r_sld cx hX hbl hbA (by omega) (by omega) dL_law_972 ?_
    refine r_perm hY ?_
    refine k_L_128 cx (c_mForget l g md Y t N A B L S hI (xs (i + 1))) dL_law_973 22 rfl ⟨Nat.le_of_ble_eq_true rfl, Nat.le_of_ble_eq_true rfl⟩ ⟨hcl, hsl⟩ rfl rfl (Nat.le_of_ble_eq_true rfl) (fun r2 u2 hp2 => ?_)
    obtain ⟨S2, ⟨hk2, -⟩ | ⟨-, rfl⟩⟩ := hp2
    · exact absurd hk2 hk
    refine r_istore cx dL_law_976 (by decide) rfl ?_
    refine r_aload_n cx dL_law_978 rfl rfl ?_
    refine k_L_85 cx (c_mThrown l g md Y (nI (kc (!inR (xs (i + 1)) 8) false false)) N A B L S2) dL_law_979 22 rfl ⟨Nat.le_of_ble_eq_true rfl, Nat.le_of_ble_eq_true rfl⟩ ⟨hcl, hsl⟩ rfl rfl (Nat.le_of_ble_eq_true rfl) (fun r3 u3 hp3 => ?_)
    obtain ⟨rfl, rfl⟩ := hp3
    obtain ⟨w2, hw2, hR3⟩ := hback (mF g md (nI (kc (!inR (xs (i + 1)) 8) false false)) N A B L S2)
    refine r_perm hw2 ?_
    refine r_iload cx dL_law_982 rfl ?_
    refine r_icmpeq (tgt := 989) cx dL_law_984 (by decide) (fun h_1 => ?_) (fun h_1 => absurd rfl h_1)
    refine r_iload cx dL_law_989 rfl ?_
    refine r_ifne (tgt := 1006) cx dL_law_991 (by decide) (fun h_2 => ?_) (fun h_2 => absurd h_2 (kc_nz hk))
    refine r_goto (tgt := 1289) cx dL_law_1006 (by decide) ?_
    exact r_lv (q_pk [2, 3, 4, 5, 6] rfl) (kk _ ⟨_, _, _, _, _, _, _, hI, hR3⟩)
set_option maxHeartbeats 4000000 in
set_option maxRecDepth 100000 in
theorem w_copy {p : Program} {l : Launch} {e : Env} {s : State} {m : MethodId} {args : Array Value} {below : List Frame} {meth : Method} {c : Code} {g : q_G} {Q : State → Prop} {cl sl : Nat} (cx : q_cx g p m c cL_law 7 s args RL meth) (hl : l.stackTraces = false) {b n i : Nat} {xs : Nat → Int32} (hX : va_X b n xs s s.heap) (hbl : b < s.heap.size) (hbA : ¬ q_A g b) (hi : i + 7 ≤ n) (hn : n ≤ 3584) (hcl : cl + 4 ≤ 601024) (hsl : sl + 250 ≤ 7293034) {a0 ao : Nat} {md : Nat → Nat} {ws : va_W} (hw : lwI g a0 ao md ws)
    (kk : ∀ w, lwI g a0 ao md w → AT p l e room_1 s m args below meth c g 7 Q (cl + 4) (sl + 250) 1289 [(0, .ref b), (1, .ref a0), (2, .ref (md 22)), (3, .ref ao), (4, .int (nI i))] [] w) : AT p l e room_1 s m args below meth c g 7 Q cl sl 1009 [(0, .ref b), (1, .ref a0), (2, .ref (md 22)), (3, .ref ao), (4, .int (nI i))] [] ws := by
  obtain ⟨t, N, A, B, L, S, f, hI, hR⟩ := hw
  refine r_aload_n cx dL_law_1009 rfl rfl ?_
  refine r_aload_n cx dL_law_1010 rfl rfl ?_
  refine r_iload cx dL_law_1011 rfl ?_
  refine r_iconst (v := nI 1) cx dL_law_1013 (by decide) ?_
  refine r_iaddN cx dL_law_1014 ?_
  refine r_sld cx hX hbl hbA (by omega) (by omega) dL_law_1015 ?_
  refine r_aload_n cx dL_law_1016 rfl rfl ?_
  refine k_L_129 cx (c_Lcopy l g hl N A B L _ ws a0 ao f hI hR (xs (i + 1))) dL_law_1017 ⟨Nat.le_of_ble_eq_true rfl, Nat.le_of_ble_eq_true rfl⟩ ⟨hcl, hsl⟩ rfl rfl (Nat.le_of_ble_eq_true rfl) (fun r u hp => ?_)
  obtain ⟨rfl, f2, (⟨hk, hf2, hR2⟩ | ⟨hk, hR2⟩)⟩ := hp
  · skip
    obtain ⟨Y, hY, hback⟩ := cR_swap hR2
    refine r_istore cx dL_law_1020 (by decide) rfl ?_
    refine r_aload_n cx dL_law_1022 rfl rfl ?_
    refine r_aload_n cx dL_law_1023 rfl rfl ?_
    refine r_iload cx dL_law_1024 rfl ?_
    refine r_iconst (v := nI 1) cx dL_law_1026 (by decide) ?_
    refine r_iaddN cx dL_law_1027 ?_
    refine r_sld cx hX hbl hbA (by omega) (by omega) dL_law_1028 ?_
    refine r_perm hY ?_
    refine k_L_131 cx (c_mCopy l g md Y t N A B L S hI (xs (i + 1))) dL_law_1029 22 rfl ⟨Nat.le_of_ble_eq_true rfl, Nat.le_of_ble_eq_true rfl⟩ ⟨hcl, hsl⟩ rfl rfl (Nat.le_of_ble_eq_true rfl) (fun r2 u2 hp2 => ?_)
    obtain ⟨S2, ⟨-, rfl, rfl⟩ | ⟨hk2, -⟩⟩ := hp2
    rotate_left
    · exact absurd hk hk2
    refine r_istore cx dL_law_1032 (by decide) rfl ?_
    refine r_aload_n cx dL_law_1034 rfl rfl ?_
    refine k_L_85 cx (c_mThrown l g md Y (nI 0) N A B (va_up L 1 (vp_updL (L 1) (c32 (xs (i + 1))) (lN (thS (B 0) (N 1))))) S2) dL_law_1035 22 rfl ⟨Nat.le_of_ble_eq_true rfl, Nat.le_of_ble_eq_true rfl⟩ ⟨hcl, hsl⟩ rfl rfl (Nat.le_of_ble_eq_true rfl) (fun r3 u3 hp3 => ?_)
    obtain ⟨rfl, rfl⟩ := hp3
    obtain ⟨w2, hw2, hR3⟩ := hback (mF g md (nI 0) N A B (va_up L 1 (vp_updL (L 1) (c32 (xs (i + 1))) (lN (thS (B 0) (N 1))))) S2)
    refine r_perm hw2 ?_
    rw [hk]
    refine r_iload cx dL_law_1038 rfl ?_
    refine r_icmpeq (tgt := 1045) cx dL_law_1040 (by decide) (fun h_1 => ?_) (fun h_1 => absurd rfl h_1)
    refine r_iload cx dL_law_1045 rfl ?_
    refine r_ifne (tgt := 1062) cx dL_law_1047 (by decide) (fun h_2 => absurd rfl h_2) (fun h_2 => ?_)
    refine r_aload_n cx dL_law_1050 rfl rfl ?_
    refine r_iconst (v := nI 0) cx dL_law_1051 (by decide) ?_
    refine r_laldN cx 9 1 dL_law_1052 (cR_out hR3).1 rfl (by decide) (by decide) ?_
    refine r_eql hf2 ?_
    refine r_iload cx dL_law_1053 rfl ?_
    refine r_i2l cx dL_law_1055 rfl ?_
    refine r_lcmp cx dL_law_1056 ?_
    refine r_ifeq (tgt := 1062) cx dL_law_1057 (by decide) (fun h_3 => ?_) (fun h_3 => absurd ((lcmp_z _ _).mpr rfl) h_3)
    refine r_goto (tgt := 1289) cx dL_law_1062 (by decide) ?_
    exact r_lv (q_pk [2, 3, 4, 5, 6] rfl) (kk _ ⟨_, _, _, _, _, _, _, (inv_copy hI), hR3⟩)
  · skip
    obtain ⟨Y, hY, hback⟩ := cR_swap hR2
    refine r_istore cx dL_law_1020 (by decide) rfl ?_
    refine r_aload_n cx dL_law_1022 rfl rfl ?_
    refine r_aload_n cx dL_law_1023 rfl rfl ?_
    refine r_iload cx dL_law_1024 rfl ?_
    refine r_iconst (v := nI 1) cx dL_law_1026 (by decide) ?_
    refine r_iaddN cx dL_law_1027 ?_
    refine r_sld cx hX hbl hbA (by omega) (by omega) dL_law_1028 ?_
    refine r_perm hY ?_
    refine k_L_131 cx (c_mCopy l g md Y t N A B L S hI (xs (i + 1))) dL_law_1029 22 rfl ⟨Nat.le_of_ble_eq_true rfl, Nat.le_of_ble_eq_true rfl⟩ ⟨hcl, hsl⟩ rfl rfl (Nat.le_of_ble_eq_true rfl) (fun r2 u2 hp2 => ?_)
    obtain ⟨S2, ⟨hk2, -⟩ | ⟨-, rfl⟩⟩ := hp2
    · exact absurd hk2 hk
    refine r_istore cx dL_law_1032 (by decide) rfl ?_
    refine r_aload_n cx dL_law_1034 rfl rfl ?_
    refine k_L_85 cx (c_mThrown l g md Y (nI (kc (!inR (xs (i + 1)) 3) false false)) N A B L S2) dL_law_1035 22 rfl ⟨Nat.le_of_ble_eq_true rfl, Nat.le_of_ble_eq_true rfl⟩ ⟨hcl, hsl⟩ rfl rfl (Nat.le_of_ble_eq_true rfl) (fun r3 u3 hp3 => ?_)
    obtain ⟨rfl, rfl⟩ := hp3
    obtain ⟨w2, hw2, hR3⟩ := hback (mF g md (nI (kc (!inR (xs (i + 1)) 3) false false)) N A B L S2)
    refine r_perm hw2 ?_
    refine r_iload cx dL_law_1038 rfl ?_
    refine r_icmpeq (tgt := 1045) cx dL_law_1040 (by decide) (fun h_1 => ?_) (fun h_1 => absurd rfl h_1)
    refine r_iload cx dL_law_1045 rfl ?_
    refine r_ifne (tgt := 1062) cx dL_law_1047 (by decide) (fun h_2 => ?_) (fun h_2 => absurd h_2 (kc_nz hk))
    refine r_goto (tgt := 1289) cx dL_law_1062 (by decide) ?_
    exact r_lv (q_pk [2, 3, 4, 5, 6] rfl) (kk _ ⟨_, _, _, _, _, _, _, hI, hR3⟩)
set_option maxHeartbeats 4000000 in
set_option maxRecDepth 100000 in
theorem w_tell {p : Program} {l : Launch} {e : Env} {s : State} {m : MethodId} {args : Array Value} {below : List Frame} {meth : Method} {c : Code} {g : q_G} {Q : State → Prop} {cl sl : Nat} (cx : q_cx g p m c cL_law 7 s args RL meth) (hl : l.stackTraces = false) {b n i : Nat} {xs : Nat → Int32} (hX : va_X b n xs s s.heap) (hbl : b < s.heap.size) (hbA : ¬ q_A g b) (hi : i + 7 ≤ n) (hn : n ≤ 3584) (hcl : cl + 4 ≤ 601024) (hsl : sl + 250 ≤ 7293034) {a0 ao : Nat} {md : Nat → Nat} {ws : va_W} (hw : lwI g a0 ao md ws)
    (kk : ∀ w, lwI g a0 ao md w → AT p l e room_1 s m args below meth c g 7 Q (cl + 4) (sl + 250) 1289 [(0, .ref b), (1, .ref a0), (2, .ref (md 22)), (3, .ref ao), (4, .int (nI i))] [] w) : AT p l e room_1 s m args below meth c g 7 Q cl sl 1065 [(0, .ref b), (1, .ref a0), (2, .ref (md 22)), (3, .ref ao), (4, .int (nI i))] [] ws := by
  obtain ⟨t, N, A, B, L, S, f, hI, hR⟩ := hw
  refine r_aload_n cx dL_law_1065 rfl rfl ?_
  refine r_aload_n cx dL_law_1066 rfl rfl ?_
  refine r_iload cx dL_law_1067 rfl ?_
  refine r_iconst (v := nI 1) cx dL_law_1069 (by decide) ?_
  refine r_iaddN cx dL_law_1070 ?_
  refine r_sld cx hX hbl hbA (by omega) (by omega) dL_law_1071 ?_
  refine r_aload_n cx dL_law_1072 rfl rfl ?_
  refine k_L_132 cx (c_Ltell l g hl N A B L _ ws a0 ao f hI hR (xs (i + 1))) dL_law_1073 ⟨Nat.le_of_ble_eq_true rfl, Nat.le_of_ble_eq_true rfl⟩ ⟨hcl, hsl⟩ rfl rfl (Nat.le_of_ble_eq_true rfl) (fun r u hp => ?_)
  obtain ⟨rfl, f2, (⟨hk, hf2, hR2⟩ | ⟨hk, hR2⟩)⟩ := hp
  · skip
    obtain ⟨Y, hY, hback⟩ := cR_swap hR2
    refine r_istore cx dL_law_1076 (by decide) rfl ?_
    refine r_aload_n cx dL_law_1078 rfl rfl ?_
    refine r_aload_n cx dL_law_1079 rfl rfl ?_
    refine r_iload cx dL_law_1080 rfl ?_
    refine r_iconst (v := nI 1) cx dL_law_1082 (by decide) ?_
    refine r_iaddN cx dL_law_1083 ?_
    refine r_sld cx hX hbl hbA (by omega) (by omega) dL_law_1084 ?_
    refine r_perm hY ?_
    refine k_L_134 cx (c_mTell l g md Y t N A B L S hI (xs (i + 1))) dL_law_1085 22 rfl ⟨Nat.le_of_ble_eq_true rfl, Nat.le_of_ble_eq_true rfl⟩ ⟨hcl, hsl⟩ rfl rfl (Nat.le_of_ble_eq_true rfl) (fun r2 u2 hp2 => ?_)
    obtain ⟨S2, ⟨-, rfl, rfl⟩ | ⟨hk2, -⟩⟩ := hp2
    rotate_left
    · exact absurd hk hk2
    refine r_istore cx dL_law_1088 (by decide) rfl ?_
    refine r_aload_n cx dL_law_1090 rfl rfl ?_
    refine k_L_85 cx (c_mThrown l g md Y (nI 0) N A B (va_up L 1 (vp_updL (L 1) (c32 (xs (i + 1))) (L 1 (c32 (xs (i + 1))) &&& lN (thS (B 0) (N 1))))) S2) dL_law_1091 22 rfl ⟨Nat.le_of_ble_eq_true rfl, Nat.le_of_ble_eq_true rfl⟩ ⟨hcl, hsl⟩ rfl rfl (Nat.le_of_ble_eq_true rfl) (fun r3 u3 hp3 => ?_)
    obtain ⟨rfl, rfl⟩ := hp3
    obtain ⟨w2, hw2, hR3⟩ := hback (mF g md (nI 0) N A B (va_up L 1 (vp_updL (L 1) (c32 (xs (i + 1))) (L 1 (c32 (xs (i + 1))) &&& lN (thS (B 0) (N 1))))) S2)
    refine r_perm hw2 ?_
    rw [hk]
    refine r_iload cx dL_law_1094 rfl ?_
    refine r_icmpeq (tgt := 1101) cx dL_law_1096 (by decide) (fun h_1 => ?_) (fun h_1 => absurd rfl h_1)
    refine r_iload cx dL_law_1101 rfl ?_
    refine r_ifne (tgt := 1118) cx dL_law_1103 (by decide) (fun h_2 => absurd rfl h_2) (fun h_2 => ?_)
    refine r_aload_n cx dL_law_1106 rfl rfl ?_
    refine r_iconst (v := nI 0) cx dL_law_1107 (by decide) ?_
    refine r_laldN cx 9 1 dL_law_1108 (cR_out hR3).1 rfl (by decide) (by decide) ?_
    refine r_eql hf2 ?_
    refine r_iload cx dL_law_1109 rfl ?_
    refine r_i2l cx dL_law_1111 rfl ?_
    refine r_lcmp cx dL_law_1112 ?_
    refine r_ifeq (tgt := 1118) cx dL_law_1113 (by decide) (fun h_3 => ?_) (fun h_3 => absurd ((lcmp_z _ _).mpr rfl) h_3)
    refine r_goto (tgt := 1289) cx dL_law_1118 (by decide) ?_
    exact r_lv (q_pk [2, 3, 4, 5, 6] rfl) (kk _ ⟨_, _, _, _, _, _, _, (inv_tell hI hk), hR3⟩)
  · skip
    obtain ⟨Y, hY, hback⟩ := cR_swap hR2
    refine r_istore cx dL_law_1076 (by decide) rfl ?_
    refine r_aload_n cx dL_law_1078 rfl rfl ?_
    refine r_aload_n cx dL_law_1079 rfl rfl ?_
    refine r_iload cx dL_law_1080 rfl ?_
    refine r_iconst (v := nI 1) cx dL_law_1082 (by decide) ?_
    refine r_iaddN cx dL_law_1083 ?_
    refine r_sld cx hX hbl hbA (by omega) (by omega) dL_law_1084 ?_
    refine r_perm hY ?_
    refine k_L_134 cx (c_mTell l g md Y t N A B L S hI (xs (i + 1))) dL_law_1085 22 rfl ⟨Nat.le_of_ble_eq_true rfl, Nat.le_of_ble_eq_true rfl⟩ ⟨hcl, hsl⟩ rfl rfl (Nat.le_of_ble_eq_true rfl) (fun r2 u2 hp2 => ?_)
    obtain ⟨S2, ⟨hk2, -⟩ | ⟨-, rfl⟩⟩ := hp2
    · exact absurd hk2 hk
    refine r_istore cx dL_law_1088 (by decide) rfl ?_
    refine r_aload_n cx dL_law_1090 rfl rfl ?_
    refine k_L_85 cx (c_mThrown l g md Y (nI (kc (!inR (xs (i + 1)) 3) false false)) N A B L S2) dL_law_1091 22 rfl ⟨Nat.le_of_ble_eq_true rfl, Nat.le_of_ble_eq_true rfl⟩ ⟨hcl, hsl⟩ rfl rfl (Nat.le_of_ble_eq_true rfl) (fun r3 u3 hp3 => ?_)
    obtain ⟨rfl, rfl⟩ := hp3
    obtain ⟨w2, hw2, hR3⟩ := hback (mF g md (nI (kc (!inR (xs (i + 1)) 3) false false)) N A B L S2)
    refine r_perm hw2 ?_
    refine r_iload cx dL_law_1094 rfl ?_
    refine r_icmpeq (tgt := 1101) cx dL_law_1096 (by decide) (fun h_1 => ?_) (fun h_1 => absurd rfl h_1)
    refine r_iload cx dL_law_1101 rfl ?_
    refine r_ifne (tgt := 1118) cx dL_law_1103 (by decide) (fun h_2 => ?_) (fun h_2 => absurd h_2 (kc_nz hk))
    refine r_goto (tgt := 1289) cx dL_law_1118 (by decide) ?_
    exact r_lv (q_pk [2, 3, 4, 5, 6] rfl) (kk _ ⟨_, _, _, _, _, _, _, hI, hR3⟩)
set_option maxHeartbeats 4000000 in
set_option maxRecDepth 100000 in
theorem w_owed {p : Program} {l : Launch} {e : Env} {s : State} {m : MethodId} {args : Array Value} {below : List Frame} {meth : Method} {c : Code} {g : q_G} {Q : State → Prop} {cl sl : Nat} (cx : q_cx g p m c cL_law 7 s args RL meth) (hl : l.stackTraces = false) {b n i : Nat} {xs : Nat → Int32} (hX : va_X b n xs s s.heap) (hbl : b < s.heap.size) (hbA : ¬ q_A g b) (hi : i + 7 ≤ n) (hn : n ≤ 3584) (hcl : cl + 4 ≤ 601024) (hsl : sl + 250 ≤ 7293034) {a0 ao : Nat} {md : Nat → Nat} {ws : va_W} (hw : lwI g a0 ao md ws)
    (kk : ∀ w, lwI g a0 ao md w → AT p l e room_1 s m args below meth c g 7 Q (cl + 4) (sl + 250) 1289 [(0, .ref b), (1, .ref a0), (2, .ref (md 22)), (3, .ref ao), (4, .int (nI i))] [] w) : AT p l e room_1 s m args below meth c g 7 Q cl sl 1121 [(0, .ref b), (1, .ref a0), (2, .ref (md 22)), (3, .ref ao), (4, .int (nI i))] [] ws := by
  obtain ⟨t, N, A, B, L, S, f, hI, hR⟩ := hw
  refine r_aload_n cx dL_law_1121 rfl rfl ?_
  refine r_aload_n cx dL_law_1122 rfl rfl ?_
  refine r_iload cx dL_law_1123 rfl ?_
  refine r_iconst (v := nI 1) cx dL_law_1125 (by decide) ?_
  refine r_iaddN cx dL_law_1126 ?_
  refine r_sld cx hX hbl hbA (by omega) (by omega) dL_law_1127 ?_
  refine r_aload_n cx dL_law_1128 rfl rfl ?_
  refine k_L_135 cx (c_Lowed l g hl N A B L _ ws a0 ao f hI hR (xs (i + 1))) dL_law_1129 ⟨Nat.le_of_ble_eq_true rfl, Nat.le_of_ble_eq_true rfl⟩ ⟨hcl, hsl⟩ rfl rfl (Nat.le_of_ble_eq_true rfl) (fun r u hp => ?_)
  obtain ⟨rfl, f2, (⟨hk, hf2, hR2⟩ | ⟨hk, hR2⟩)⟩ := hp
  · skip
    obtain ⟨Y, hY, hback⟩ := cR_swap hR2
    refine r_istore cx dL_law_1132 (by decide) rfl ?_
    refine r_aload_n cx dL_law_1134 rfl rfl ?_
    refine r_aload_n cx dL_law_1135 rfl rfl ?_
    refine r_iload cx dL_law_1136 rfl ?_
    refine r_iconst (v := nI 1) cx dL_law_1138 (by decide) ?_
    refine r_iaddN cx dL_law_1139 ?_
    refine r_sld cx hX hbl hbA (by omega) (by omega) dL_law_1140 ?_
    refine r_perm hY ?_
    refine k_L_137 cx (c_mOwed l g md Y t N A B L S hI (xs (i + 1))) dL_law_1141 22 rfl ⟨Nat.le_of_ble_eq_true rfl, Nat.le_of_ble_eq_true rfl⟩ ⟨hcl, hsl⟩ rfl rfl (Nat.le_of_ble_eq_true rfl) (fun r2 u2 hp2 => ?_)
    obtain ⟨S2, ⟨-, rfl, rfl⟩ | ⟨hk2, -⟩⟩ := hp2
    rotate_left
    · exact absurd hk hk2
    refine r_istore cx dL_law_1144 (by decide) rfl ?_
    refine r_aload_n cx dL_law_1146 rfl rfl ?_
    refine k_L_85 cx (c_mThrown l g md Y (nI 0) N A B L S2) dL_law_1147 22 rfl ⟨Nat.le_of_ble_eq_true rfl, Nat.le_of_ble_eq_true rfl⟩ ⟨hcl, hsl⟩ rfl rfl (Nat.le_of_ble_eq_true rfl) (fun r3 u3 hp3 => ?_)
    obtain ⟨rfl, rfl⟩ := hp3
    obtain ⟨w2, hw2, hR3⟩ := hback (mF g md (nI 0) N A B L S2)
    refine r_perm hw2 ?_
    rw [hk]
    refine r_iload cx dL_law_1150 rfl ?_
    refine r_icmpeq (tgt := 1157) cx dL_law_1152 (by decide) (fun h_1 => ?_) (fun h_1 => absurd rfl h_1)
    refine r_iload cx dL_law_1157 rfl ?_
    refine r_ifne (tgt := 1174) cx dL_law_1159 (by decide) (fun h_2 => absurd rfl h_2) (fun h_2 => ?_)
    refine r_aload_n cx dL_law_1162 rfl rfl ?_
    refine r_iconst (v := nI 0) cx dL_law_1163 (by decide) ?_
    refine r_laldN cx 9 1 dL_law_1164 (cR_out hR3).1 rfl (by decide) (by decide) ?_
    refine r_eql hf2 ?_
    refine r_iload cx dL_law_1165 rfl ?_
    refine r_i2l cx dL_law_1167 rfl ?_
    refine r_lcmp cx dL_law_1168 ?_
    refine r_ifeq (tgt := 1174) cx dL_law_1169 (by decide) (fun h_3 => ?_) (fun h_3 => absurd ((lcmp_z _ _).mpr rfl) h_3)
    refine r_goto (tgt := 1289) cx dL_law_1174 (by decide) ?_
    exact r_lv (q_pk [2, 3, 4, 5, 6] rfl) (kk _ ⟨_, _, _, _, _, _, _, hI, hR3⟩)
  · skip
    obtain ⟨Y, hY, hback⟩ := cR_swap hR2
    refine r_istore cx dL_law_1132 (by decide) rfl ?_
    refine r_aload_n cx dL_law_1134 rfl rfl ?_
    refine r_aload_n cx dL_law_1135 rfl rfl ?_
    refine r_iload cx dL_law_1136 rfl ?_
    refine r_iconst (v := nI 1) cx dL_law_1138 (by decide) ?_
    refine r_iaddN cx dL_law_1139 ?_
    refine r_sld cx hX hbl hbA (by omega) (by omega) dL_law_1140 ?_
    refine r_perm hY ?_
    refine k_L_137 cx (c_mOwed l g md Y t N A B L S hI (xs (i + 1))) dL_law_1141 22 rfl ⟨Nat.le_of_ble_eq_true rfl, Nat.le_of_ble_eq_true rfl⟩ ⟨hcl, hsl⟩ rfl rfl (Nat.le_of_ble_eq_true rfl) (fun r2 u2 hp2 => ?_)
    obtain ⟨S2, ⟨hk2, -⟩ | ⟨-, rfl⟩⟩ := hp2
    · exact absurd hk2 hk
    refine r_istore cx dL_law_1144 (by decide) rfl ?_
    refine r_aload_n cx dL_law_1146 rfl rfl ?_
    refine k_L_85 cx (c_mThrown l g md Y (nI (kc (!inR (xs (i + 1)) 3) false false)) N A B L S2) dL_law_1147 22 rfl ⟨Nat.le_of_ble_eq_true rfl, Nat.le_of_ble_eq_true rfl⟩ ⟨hcl, hsl⟩ rfl rfl (Nat.le_of_ble_eq_true rfl) (fun r3 u3 hp3 => ?_)
    obtain ⟨rfl, rfl⟩ := hp3
    obtain ⟨w2, hw2, hR3⟩ := hback (mF g md (nI (kc (!inR (xs (i + 1)) 3) false false)) N A B L S2)
    refine r_perm hw2 ?_
    refine r_iload cx dL_law_1150 rfl ?_
    refine r_icmpeq (tgt := 1157) cx dL_law_1152 (by decide) (fun h_1 => ?_) (fun h_1 => absurd rfl h_1)
    refine r_iload cx dL_law_1157 rfl ?_
    refine r_ifne (tgt := 1174) cx dL_law_1159 (by decide) (fun h_2 => ?_) (fun h_2 => absurd h_2 (kc_nz hk))
    refine r_goto (tgt := 1289) cx dL_law_1174 (by decide) ?_
    exact r_lv (q_pk [2, 3, 4, 5, 6] rfl) (kk _ ⟨_, _, _, _, _, _, _, hI, hR3⟩)
set_option maxHeartbeats 4000000 in
set_option maxRecDepth 100000 in
theorem w_quote {p : Program} {l : Launch} {e : Env} {s : State} {m : MethodId} {args : Array Value} {below : List Frame} {meth : Method} {c : Code} {g : q_G} {Q : State → Prop} {cl sl : Nat} (cx : q_cx g p m c cL_law 7 s args RL meth) (hl : l.stackTraces = false) {b n i : Nat} {xs : Nat → Int32} (hX : va_X b n xs s s.heap) (hbl : b < s.heap.size) (hbA : ¬ q_A g b) (hi : i + 7 ≤ n) (hn : n ≤ 3584) (hcl : cl + 4 ≤ 601024) (hsl : sl + 250 ≤ 7293034) {a0 ao : Nat} {md : Nat → Nat} {ws : va_W} (hw : lwI g a0 ao md ws)
    (kk : ∀ w, lwI g a0 ao md w → AT p l e room_1 s m args below meth c g 7 Q (cl + 4) (sl + 250) 1289 [(0, .ref b), (1, .ref a0), (2, .ref (md 22)), (3, .ref ao), (4, .int (nI i))] [] w) : AT p l e room_1 s m args below meth c g 7 Q cl sl 1177 [(0, .ref b), (1, .ref a0), (2, .ref (md 22)), (3, .ref ao), (4, .int (nI i))] [] ws := by
  obtain ⟨t, N, A, B, L, S, f, hI, hR⟩ := hw
  refine r_aload_n cx dL_law_1177 rfl rfl ?_
  refine r_aload_n cx dL_law_1178 rfl rfl ?_
  refine r_iload cx dL_law_1179 rfl ?_
  refine r_iconst (v := nI 1) cx dL_law_1181 (by decide) ?_
  refine r_iaddN cx dL_law_1182 ?_
  refine r_sld cx hX hbl hbA (by omega) (by omega) dL_law_1183 ?_
  refine r_aload_n cx dL_law_1184 rfl rfl ?_
  refine k_L_138 cx (c_Lquote l g hl N A B L _ ws a0 ao f hI hR (xs (i + 1))) dL_law_1185 ⟨Nat.le_of_ble_eq_true rfl, Nat.le_of_ble_eq_true rfl⟩ ⟨hcl, hsl⟩ rfl rfl (Nat.le_of_ble_eq_true rfl) (fun r u hp => ?_)
  obtain ⟨rfl, f2, (⟨hk, hf2, hR2⟩ | ⟨hk, hR2⟩)⟩ := hp
  · skip
    obtain ⟨Y, hY, hback⟩ := cR_swap hR2
    refine r_istore cx dL_law_1188 (by decide) rfl ?_
    refine r_aload_n cx dL_law_1190 rfl rfl ?_
    refine r_aload_n cx dL_law_1191 rfl rfl ?_
    refine r_iload cx dL_law_1192 rfl ?_
    refine r_iconst (v := nI 1) cx dL_law_1194 (by decide) ?_
    refine r_iaddN cx dL_law_1195 ?_
    refine r_sld cx hX hbl hbA (by omega) (by omega) dL_law_1196 ?_
    refine r_perm hY ?_
    refine k_L_140 cx (c_mQuote l g md Y t N A B L S hI (xs (i + 1))) dL_law_1197 22 rfl ⟨Nat.le_of_ble_eq_true rfl, Nat.le_of_ble_eq_true rfl⟩ ⟨hcl, hsl⟩ rfl rfl (Nat.le_of_ble_eq_true rfl) (fun r2 u2 hp2 => ?_)
    obtain ⟨S2, ⟨-, rfl, rfl⟩ | ⟨hk2, -⟩⟩ := hp2
    rotate_left
    · exact absurd hk hk2
    refine r_istore cx dL_law_1200 (by decide) rfl ?_
    refine r_aload_n cx dL_law_1202 rfl rfl ?_
    refine k_L_85 cx (c_mThrown l g md Y (nI 0) (va_up N 3 (N 3 + 1)) (va_up A 13 (upd (A 13) (N 3) (xs (i + 1)))) B L S2) dL_law_1203 22 rfl ⟨Nat.le_of_ble_eq_true rfl, Nat.le_of_ble_eq_true rfl⟩ ⟨hcl, hsl⟩ rfl rfl (Nat.le_of_ble_eq_true rfl) (fun r3 u3 hp3 => ?_)
    obtain ⟨rfl, rfl⟩ := hp3
    obtain ⟨w2, hw2, hR3⟩ := hback (mF g md (nI 0) (va_up N 3 (N 3 + 1)) (va_up A 13 (upd (A 13) (N 3) (xs (i + 1)))) B L S2)
    refine r_perm hw2 ?_
    rw [hk]
    refine r_iload cx dL_law_1206 rfl ?_
    refine r_icmpeq (tgt := 1213) cx dL_law_1208 (by decide) (fun h_1 => ?_) (fun h_1 => absurd rfl h_1)
    refine r_iload cx dL_law_1213 rfl ?_
    refine r_ifne (tgt := 1230) cx dL_law_1215 (by decide) (fun h_2 => absurd rfl h_2) (fun h_2 => ?_)
    refine r_aload_n cx dL_law_1218 rfl rfl ?_
    refine r_iconst (v := nI 0) cx dL_law_1219 (by decide) ?_
    refine r_laldN cx 9 1 dL_law_1220 (cR_out hR3).1 rfl (by decide) (by decide) ?_
    refine r_eql hf2 ?_
    refine r_iload cx dL_law_1221 rfl ?_
    refine r_i2l cx dL_law_1223 rfl ?_
    refine r_lcmp cx dL_law_1224 ?_
    refine r_ifeq (tgt := 1230) cx dL_law_1225 (by decide) (fun h_3 => ?_) (fun h_3 => absurd ((lcmp_z _ _).mpr rfl) h_3)
    refine r_goto (tgt := 1289) cx dL_law_1230 (by decide) ?_
    exact r_lv (q_pk [2, 3, 4, 5, 6] rfl) (kk _ ⟨_, _, _, _, _, _, _, (inv_quote hI hk), hR3⟩)
  · skip
    obtain ⟨Y, hY, hback⟩ := cR_swap hR2
    refine r_istore cx dL_law_1188 (by decide) rfl ?_
    refine r_aload_n cx dL_law_1190 rfl rfl ?_
    refine r_aload_n cx dL_law_1191 rfl rfl ?_
    refine r_iload cx dL_law_1192 rfl ?_
    refine r_iconst (v := nI 1) cx dL_law_1194 (by decide) ?_
    refine r_iaddN cx dL_law_1195 ?_
    refine r_sld cx hX hbl hbA (by omega) (by omega) dL_law_1196 ?_
    refine r_perm hY ?_
    refine k_L_140 cx (c_mQuote l g md Y t N A B L S hI (xs (i + 1))) dL_law_1197 22 rfl ⟨Nat.le_of_ble_eq_true rfl, Nat.le_of_ble_eq_true rfl⟩ ⟨hcl, hsl⟩ rfl rfl (Nat.le_of_ble_eq_true rfl) (fun r2 u2 hp2 => ?_)
    obtain ⟨S2, ⟨hk2, -⟩ | ⟨-, rfl⟩⟩ := hp2
    · exact absurd hk2 hk
    refine r_istore cx dL_law_1200 (by decide) rfl ?_
    refine r_aload_n cx dL_law_1202 rfl rfl ?_
    refine k_L_85 cx (c_mThrown l g md Y (nI (kc (!inR (xs (i + 1)) (N 1)) (B 0 (c32 (xs (i + 1))) || decide (N 3 = 20)) false)) N A B L S2) dL_law_1203 22 rfl ⟨Nat.le_of_ble_eq_true rfl, Nat.le_of_ble_eq_true rfl⟩ ⟨hcl, hsl⟩ rfl rfl (Nat.le_of_ble_eq_true rfl) (fun r3 u3 hp3 => ?_)
    obtain ⟨rfl, rfl⟩ := hp3
    obtain ⟨w2, hw2, hR3⟩ := hback (mF g md (nI (kc (!inR (xs (i + 1)) (N 1)) (B 0 (c32 (xs (i + 1))) || decide (N 3 = 20)) false)) N A B L S2)
    refine r_perm hw2 ?_
    refine r_iload cx dL_law_1206 rfl ?_
    refine r_icmpeq (tgt := 1213) cx dL_law_1208 (by decide) (fun h_1 => ?_) (fun h_1 => absurd rfl h_1)
    refine r_iload cx dL_law_1213 rfl ?_
    refine r_ifne (tgt := 1230) cx dL_law_1215 (by decide) (fun h_2 => ?_) (fun h_2 => absurd h_2 (kc_nz hk))
    refine r_goto (tgt := 1289) cx dL_law_1230 (by decide) ?_
    exact r_lv (q_pk [2, 3, 4, 5, 6] rfl) (kk _ ⟨_, _, _, _, _, _, _, hI, hR3⟩)
set_option maxHeartbeats 4000000 in
set_option maxRecDepth 100000 in
theorem w_quoted {p : Program} {l : Launch} {e : Env} {s : State} {m : MethodId} {args : Array Value} {below : List Frame} {meth : Method} {c : Code} {g : q_G} {Q : State → Prop} {cl sl : Nat} (cx : q_cx g p m c cL_law 7 s args RL meth) (hl : l.stackTraces = false) {b n i : Nat} {xs : Nat → Int32} (hX : va_X b n xs s s.heap) (hbl : b < s.heap.size) (hbA : ¬ q_A g b) (hi : i + 7 ≤ n) (hn : n ≤ 3584) (hcl : cl + 4 ≤ 601024) (hsl : sl + 250 ≤ 7293034) {a0 ao : Nat} {md : Nat → Nat} {ws : va_W} (hw : lwI g a0 ao md ws)
    (kk : ∀ w, lwI g a0 ao md w → AT p l e room_1 s m args below meth c g 7 Q (cl + 4) (sl + 250) 1289 [(0, .ref b), (1, .ref a0), (2, .ref (md 22)), (3, .ref ao), (4, .int (nI i))] [] w) : AT p l e room_1 s m args below meth c g 7 Q cl sl 1233 [(0, .ref b), (1, .ref a0), (2, .ref (md 22)), (3, .ref ao), (4, .int (nI i))] [] ws := by
  obtain ⟨t, N, A, B, L, S, f, hI, hR⟩ := hw
  refine r_aload_n cx dL_law_1233 rfl rfl ?_
  refine r_aload_n cx dL_law_1234 rfl rfl ?_
  refine r_iload cx dL_law_1235 rfl ?_
  refine r_iconst (v := nI 1) cx dL_law_1237 (by decide) ?_
  refine r_iaddN cx dL_law_1238 ?_
  refine r_sld cx hX hbl hbA (by omega) (by omega) dL_law_1239 ?_
  refine r_aload_n cx dL_law_1240 rfl rfl ?_
  refine k_L_141 cx (c_Lquoted l g hl N A B L _ ws a0 ao f hI hR (xs (i + 1))) dL_law_1241 ⟨Nat.le_of_ble_eq_true rfl, Nat.le_of_ble_eq_true rfl⟩ ⟨hcl, hsl⟩ rfl rfl (Nat.le_of_ble_eq_true rfl) (fun r u hp => ?_)
  obtain ⟨rfl, f2, (⟨hk, hf2, hR2⟩ | ⟨hk, hR2⟩)⟩ := hp
  · skip
    obtain ⟨Y, hY, hback⟩ := cR_swap hR2
    refine r_istore cx dL_law_1244 (by decide) rfl ?_
    refine r_aload_n cx dL_law_1246 rfl rfl ?_
    refine r_aload_n cx dL_law_1247 rfl rfl ?_
    refine r_iload cx dL_law_1248 rfl ?_
    refine r_iconst (v := nI 1) cx dL_law_1250 (by decide) ?_
    refine r_iaddN cx dL_law_1251 ?_
    refine r_sld cx hX hbl hbA (by omega) (by omega) dL_law_1252 ?_
    refine r_perm hY ?_
    refine k_L_143 cx (c_mQuoted l g md Y t N A B L S hI (xs (i + 1))) dL_law_1253 22 rfl ⟨Nat.le_of_ble_eq_true rfl, Nat.le_of_ble_eq_true rfl⟩ ⟨hcl, hsl⟩ rfl rfl (Nat.le_of_ble_eq_true rfl) (fun r2 u2 hp2 => ?_)
    obtain ⟨S2, ⟨-, rfl, rfl⟩ | ⟨hk2, -⟩⟩ := hp2
    rotate_left
    · exact absurd hk hk2
    refine r_istore cx dL_law_1256 (by decide) rfl ?_
    refine r_aload_n cx dL_law_1258 rfl rfl ?_
    refine k_L_85 cx (c_mThrown l g md Y (nI 0) N A B L S2) dL_law_1259 22 rfl ⟨Nat.le_of_ble_eq_true rfl, Nat.le_of_ble_eq_true rfl⟩ ⟨hcl, hsl⟩ rfl rfl (Nat.le_of_ble_eq_true rfl) (fun r3 u3 hp3 => ?_)
    obtain ⟨rfl, rfl⟩ := hp3
    obtain ⟨w2, hw2, hR3⟩ := hback (mF g md (nI 0) N A B L S2)
    refine r_perm hw2 ?_
    rw [hk]
    refine r_iload cx dL_law_1262 rfl ?_
    refine r_icmpeq (tgt := 1269) cx dL_law_1264 (by decide) (fun h_1 => ?_) (fun h_1 => absurd rfl h_1)
    refine r_iload cx dL_law_1269 rfl ?_
    refine r_ifne (tgt := 1286) cx dL_law_1271 (by decide) (fun h_2 => absurd rfl h_2) (fun h_2 => ?_)
    refine r_aload_n cx dL_law_1274 rfl rfl ?_
    refine r_iconst (v := nI 0) cx dL_law_1275 (by decide) ?_
    refine r_laldN cx 9 1 dL_law_1276 (cR_out hR3).1 rfl (by decide) (by decide) ?_
    refine r_eql hf2 ?_
    refine r_iload cx dL_law_1277 rfl ?_
    refine r_i2l cx dL_law_1279 rfl ?_
    refine r_lcmp cx dL_law_1280 ?_
    refine r_ifeq (tgt := 1286) cx dL_law_1281 (by decide) (fun h_3 => ?_) (fun h_3 => absurd ((lcmp_z _ _).mpr rfl) h_3)
    refine r_goto (tgt := 1289) cx dL_law_1286 (by decide) ?_
    exact r_lv (q_pk [2, 3, 4, 5, 6] rfl) (kk _ ⟨_, _, _, _, _, _, _, hI, hR3⟩)
  · skip
    obtain ⟨Y, hY, hback⟩ := cR_swap hR2
    refine r_istore cx dL_law_1244 (by decide) rfl ?_
    refine r_aload_n cx dL_law_1246 rfl rfl ?_
    refine r_aload_n cx dL_law_1247 rfl rfl ?_
    refine r_iload cx dL_law_1248 rfl ?_
    refine r_iconst (v := nI 1) cx dL_law_1250 (by decide) ?_
    refine r_iaddN cx dL_law_1251 ?_
    refine r_sld cx hX hbl hbA (by omega) (by omega) dL_law_1252 ?_
    refine r_perm hY ?_
    refine k_L_143 cx (c_mQuoted l g md Y t N A B L S hI (xs (i + 1))) dL_law_1253 22 rfl ⟨Nat.le_of_ble_eq_true rfl, Nat.le_of_ble_eq_true rfl⟩ ⟨hcl, hsl⟩ rfl rfl (Nat.le_of_ble_eq_true rfl) (fun r2 u2 hp2 => ?_)
    obtain ⟨S2, ⟨hk2, -⟩ | ⟨-, rfl⟩⟩ := hp2
    · exact absurd hk2 hk
    refine r_istore cx dL_law_1256 (by decide) rfl ?_
    refine r_aload_n cx dL_law_1258 rfl rfl ?_
    refine k_L_85 cx (c_mThrown l g md Y (nI (kc (!inR (xs (i + 1)) (N 3)) false false)) N A B L S2) dL_law_1259 22 rfl ⟨Nat.le_of_ble_eq_true rfl, Nat.le_of_ble_eq_true rfl⟩ ⟨hcl, hsl⟩ rfl rfl (Nat.le_of_ble_eq_true rfl) (fun r3 u3 hp3 => ?_)
    obtain ⟨rfl, rfl⟩ := hp3
    obtain ⟨w2, hw2, hR3⟩ := hback (mF g md (nI (kc (!inR (xs (i + 1)) (N 3)) false false)) N A B L S2)
    refine r_perm hw2 ?_
    refine r_iload cx dL_law_1262 rfl ?_
    refine r_icmpeq (tgt := 1269) cx dL_law_1264 (by decide) (fun h_1 => ?_) (fun h_1 => absurd rfl h_1)
    refine r_iload cx dL_law_1269 rfl ?_
    refine r_ifne (tgt := 1286) cx dL_law_1271 (by decide) (fun h_2 => ?_) (fun h_2 => absurd h_2 (kc_nz hk))
    refine r_goto (tgt := 1289) cx dL_law_1286 (by decide) ?_
    exact r_lv (q_pk [2, 3, 4, 5, 6] rfl) (kk _ ⟨_, _, _, _, _, _, _, hI, hR3⟩)
