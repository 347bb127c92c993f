section LAWT
variable {p : Program} {l : Launch} {e : Env} {R : Room} {s : State} {m : MethodId} {args : Array Value} {below : List Frame} {meth : Method} {c : Code} {g : q_G} {nL : Nat} {Q : State → Prop} {cl sl : Nat} {cc : ByteArray} {own : String} {pc : Nat} {lv : List (Nat × Value)} {st : List Value} {ws : va_W}
theorem r_tabIn (cx : q_cx g p m c cc nL s args own meth) {dflt lo hi : Int} {offs : Array Int} {len : Nat} {x : Int32} {off : Int} {tgt : Nat} (hd : decode cc pc = .ok (.tableswitch dflt lo hi offs, len)) (h1 : ¬ x.toInt < lo) (h2 : ¬ hi < x.toInt) (ho : offs[(x.toInt - lo).toNat]? = some off) (ht : (pc : Int) + off = (tgt : Int)) (k : AT p l e R s m args below meth c g nL Q cl sl tgt lv st ws) : AT p l e R s m args below meth c g nL Q cl sl pc lv (.int x :: st) ws := fun H locs ls hP hD hS hl => lv_tableIn cx.1.1 cx.1.2.1 hd h1 h2 ho ht (k H locs ls hP hD hS hl)
theorem r_tabOut (cx : q_cx g p m c cc nL s args own meth) {dflt lo hi : Int} {offs : Array Int} {len : Nat} {x : Int32} {tgt : Nat} (hd : decode cc pc = .ok (.tableswitch dflt lo hi offs, len)) (h : x.toInt < lo ∨ hi < x.toInt) (ht : (pc : Int) + dflt = (tgt : Int)) (k : AT p l e R s m args below meth c g nL Q cl sl tgt lv st ws) : AT p l e R s m args below meth c g nL Q cl sl pc lv (.int x :: st) ws := fun H locs ls hP hD hS hl => lv_tableOut cx.1.1 cx.1.2.1 hd h ht (k H locs ls hP hD hS hl)
end LAWT
set_option maxHeartbeats 4000000 in
set_option maxRecDepth 100000 in
theorem w_loop {p : Program} {l : Launch} {e : Env} {s : State} {m : MethodId} {args : Array Value} {below : List Frame} {meth : Method} {c : Code} {g : q_G} {Q : State → Prop} (cx : q_cx g p m c cL_law 7 s args RL meth) (hl : l.stackTraces = false) {b n : Nat} {xs : Nat → Int32} (hX : va_X b n xs s s.heap) (hbl : b < s.heap.size) (hbA : ¬ q_A g b) (hn : n ≤ 3584) {a0 ao : Nat} {md : Nat → Nat}
    (fin : ∀ (cl sl : Nat) (lv : List (Nat × Value)) (ws : va_W), cl ≤ 601024 → sl ≤ 7293034 → AT p l e room_1 s m args below meth c g 7 Q cl sl 1296 lv [.int (nI 1)] ws) : ∀ (k : Nat) {i cl sl : Nat} {ws : va_W}, n < i + k → i ≤ n → cl ≤ 38 + 4 * i → sl ≤ 698 + 250 * i → lwI g a0 ao md ws → AT p l e room_1 s m args below meth c g 7 Q cl sl 23 [(0, .ref b), (1, .ref a0), (2, .ref (md 22)), (3, .ref ao), (4, .int (nI i))] [] ws
  | 0, i, cl, sl, ws, h, h1, _, _, _ => absurd h (by omega)
  | k + 1, i, cl, sl, ws, h, h1, hcl, hsl, hw => by
    have ih := @w_loop p l e s m args below meth c g Q cx hl b n xs hX hbl hbA hn a0 ao md fin k
    refine r_iload cx dL_law_23 rfl ?_
    refine r_aload_n cx dL_law_25 rfl rfl ?_
    refine r_slen cx hX hbl hbA dL_law_26 ?_
    refine r_bipush (v := nI 7) cx dL_law_27 (by decide) ?_
    refine r_isub cx dL_law_29 ?_
    refine r_icmpgt (tgt := 1295) cx dL_law_30 (by decide) (fun h_30 => ?_) (fun h_30 => ?_)
    · refine r_iconst (v := nI 1) cx dL_law_1295 (by decide) ?_
      exact fin cl sl _ ws (by omega) (by omega)
    have hi : i + 7 ≤ n := by
      rw [i_lt, pk_sub_toInt (by omega) (by omega), nI_toInt (by omega)] at h_30
      omega
    have next : ∀ (cl2 sl2 : Nat) (w : va_W), cl2 ≤ cl + 4 → sl2 ≤ sl + 250 → lwI g a0 ao md w → AT p l e room_1 s m args below meth c g 7 Q cl2 sl2 1289 [(0, .ref b), (1, .ref a0), (2, .ref (md 22)), (3, .ref ao), (4, .int (nI i))] [] w := fun cl2 sl2 w h2 h3 hw2 => by
      refine r_iincN (j := 7) cx dL_law_1289 rfl rfl (by decide) rfl ?_
      refine r_goto (tgt := 23) cx dL_law_1292 (by decide) ?_
      exact r_lv (q_pk [1, 2, 3, 4, 0] rfl) (ih (i := i + 7) (by omega) (by omega) (by omega) (by omega) hw2)
    refine r_aload_n cx dL_law_33 rfl rfl ?_
    refine r_iload cx dL_law_34 rfl ?_
    refine r_sld cx hX hbl hbA (by omega) (by omega) dL_law_36 ?_
    refine r_bipush (v := nI 31) cx dL_law_37 (by decide) ?_
    refine r_iand cx dL_law_39 ?_
    obtain ⟨j, hj, hje⟩ := pk_andE (xs i) (m := nI 31) 5 (by decide)
    refine r_eqi hje ?_
    have kN : ∀ w, lwI g a0 ao md w → AT p l e room_1 s m args below meth c g 7 Q (cl + 4) (sl + 250) 1289 [(0, .ref b), (1, .ref a0), (2, .ref (md 22)), (3, .ref ao), (4, .int (nI i))] [] w := fun w hw2 => next _ _ w (Nat.le_refl _) (Nat.le_refl _) hw2
    by_cases h18 : 18 ≤ j
    · exact r_tabOut (tgt := 1289) cx dL_law_40 (Or.inr (by rw [nI_toInt (by omega)]; omega)) (by decide) (next _ _ _ (by omega) (by omega) hw)
    have hc : j = 0 ∨ j = 1 ∨ j = 2 ∨ j = 3 ∨ j = 4 ∨ j = 5 ∨ j = 6 ∨ j = 7 ∨ j = 8 ∨ j = 9 ∨ j = 10 ∨ j = 11 ∨ j = 12 ∨ j = 13 ∨ j = 14 ∨ j = 15 ∨ j = 16 ∨ j = 17 := by omega
    rcases hc with rfl | rfl | rfl | rfl | rfl | rfl | rfl | rfl | rfl | rfl | rfl | rfl | rfl | rfl | rfl | rfl | rfl | rfl
    · exact r_tabIn (off := 88) (tgt := 128) cx dL_law_40 (by decide) (by decide) (by decide) (by decide) (w_sound cx hl hX hbl hbA hi hn (by omega) (by omega) hw kN)
    · exact r_tabIn (off := 144) (tgt := 184) cx dL_law_40 (by decide) (by decide) (by decide) (by decide) (w_interview cx hl hX hbl hbA hi hn (by omega) (by omega) hw kN)
    · exact r_tabIn (off := 236) (tgt := 276) cx dL_law_40 (by decide) (by decide) (by decide) (by decide) (w_setRoot cx hl hX hbl hbA hi hn (by omega) (by omega) hw kN)
    · exact r_tabIn (off := 292) (tgt := 332) cx dL_law_40 (by decide) (by decide) (by decide) (by decide) (w_form cx hl hX hbl hbA hi hn (by omega) (by omega) hw kN)
    · exact r_tabIn (off := 348) (tgt := 388) cx dL_law_40 (by decide) (by decide) (by decide) (by decide) (w_rule cx hl hX hbl hbA hi hn (by omega) (by omega) hw kN)
    · exact r_tabIn (off := 466) (tgt := 506) cx dL_law_40 (by decide) (by decide) (by decide) (by decide) (w_rest cx hl hX hbl hbA hi hn (by omega) (by omega) hw kN)
    · exact r_tabIn (off := 534) (tgt := 574) cx dL_law_40 (by decide) (by decide) (by decide) (by decide) (w_stands cx hl hX hbl hbA hi hn (by omega) (by omega) hw kN)
    · exact r_tabIn (off := 597) (tgt := 637) cx dL_law_40 (by decide) (by decide) (by decide) (by decide) (w_expected cx hl hX hbl hbA hi hn (by omega) (by omega) hw kN)
    · exact r_tabIn (off := 677) (tgt := 717) cx dL_law_40 (by decide) (by decide) (by decide) (by decide) (w_far cx hl hX hbl hbA hi hn (by omega) (by omega) hw kN)
    · exact r_tabIn (off := 733) (tgt := 773) cx dL_law_40 (by decide) (by decide) (by decide) (by decide) (w_formAt cx hl hX hbl hbA hi hn (by omega) (by omega) hw kN)
    · exact r_tabIn (off := 801) (tgt := 841) cx dL_law_40 (by decide) (by decide) (by decide) (by decide) (w_lines cx hl hX hbl hbA hi hn (by omega) (by omega) hw kN)
    · exact r_tabIn (off := 857) (tgt := 897) cx dL_law_40 (by decide) (by decide) (by decide) (by decide) (w_linesByForms cx hl hX hbl hbA hi hn (by omega) (by omega) hw kN)
    · exact r_tabIn (off := 913) (tgt := 953) cx dL_law_40 (by decide) (by decide) (by decide) (by decide) (w_forget cx hl hX hbl hbA hi hn (by omega) (by omega) hw kN)
    · exact r_tabIn (off := 969) (tgt := 1009) cx dL_law_40 (by decide) (by decide) (by decide) (by decide) (w_copy cx hl hX hbl hbA hi hn (by omega) (by omega) hw kN)
    · exact r_tabIn (off := 1025) (tgt := 1065) cx dL_law_40 (by decide) (by decide) (by decide) (by decide) (w_tell cx hl hX hbl hbA hi hn (by omega) (by omega) hw kN)
    · exact r_tabIn (off := 1081) (tgt := 1121) cx dL_law_40 (by decide) (by decide) (by decide) (by decide) (w_owed cx hl hX hbl hbA hi hn (by omega) (by omega) hw kN)
    · exact r_tabIn (off := 1137) (tgt := 1177) cx dL_law_40 (by decide) (by decide) (by decide) (by decide) (w_quote cx hl hX hbl hbA hi hn (by omega) (by omega) hw kN)
    · exact r_tabIn (off := 1193) (tgt := 1233) cx dL_law_40 (by decide) (by decide) (by decide) (by decide) (w_quoted cx hl hX hbl hbA hi hn (by omega) (by omega) hw kN)
