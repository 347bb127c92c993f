def levI (x : Nat) (f : List Nat → Nat) : List Nat → Nat
  | [] => f [] + 1
  | y :: v => min (f v + if x = y then 0 else 1) (min (f (y :: v)) (levI x f v) + 1)
def lev : List Nat → List Nat → Nat
  | [] => fun b => b.length
  | x :: a => levI x (lev a)
theorem levI_le (x : Nat) (f : List Nat → Nat) : ∀ v, levI x f v ≤ f v + 1
  | [] => Nat.le_refl _
  | y :: v => by
    rw [levI]
    omega
theorem lev_le : ∀ (a b : List Nat), lev a b ≤ a.length + b.length
  | [], b => by simp [lev]
  | x :: a, b => by
    have h1 := levI_le x (lev a) b
    have h2 := lev_le a b
    rw [lev, List.length_cons]
    omega
theorem q_min {a b : Nat} (ha : a < 2147483648) (hb : b < 2147483648) : (if nI b < nI a then nI b else nI a) = nI (min a b) := by
  by_cases h : b < a
  · rw [if_pos ((nI_ltI hb ha).mpr h), Nat.min_eq_right (Nat.le_of_lt h)]
  · rw [if_neg (fun z => h ((nI_ltI hb ha).mp z)), Nat.min_eq_left (by omega)]
theorem suf_len {b u v u2 v2 : List Nat} (h : b = u ++ v) (h2 : b = u2 ++ v2) (hl : v.length = v2.length) : v = v2 := (List.append_inj_right' (h.symm.trans h2) hl)
set_option maxHeartbeats 4000000 in
set_option maxRecDepth 100000 in
theorem c_StepCounter (l : Launch) (g : q_G) (wr : va_W) (a0 : Nat) : MetW l g yX2_init cX2_init 1 none ({ frames := 1, cells := 1, slots := 9, locals := 20 } : Room) [.ref a0] ((a0, .inr (3, [.null])) :: wr) (q_Qv g (fun w => ∃ q : Nat, w = ((a0, .inr (3, [.ref q])) :: wr) ++ [(q, .inl (q_cI g, 9, .inl (fun _ => 0)))])) := by
  refine q_met (own := RX2) (by decide +kernel) rfl (Nat.le_of_ble_eq_true rfl) (fun p e s m args below meth c cx hr hnm => ?_)
  refine r_lv (lv2 := [(0, .ref a0)]) (q_pk [0] rfl) ?_
  refine r_aload_n cx dX2_init_0 rfl rfl ?_
  refine r_objInit cx tb_60 tb_27 tb_28 dX2_init_1 (Nat.le_of_ble_eq_true rfl) (Nat.le_of_ble_eq_true rfl) ?_
  refine r_aload_n cx dX2_init_4 rfl rfl ?_
  refine r_bipush (v := nI 9) cx dX2_init_5 (by decide) ?_
  refine r_newarr (atype := .int) (N := 9) (a0 := (9, .inl (fun _ => 0))) cx 0 tb_65 rfl rfl trivial (fun _ => rfl) (by decide) (by decide) dX2_init_7 (Nat.le_of_ble_eq_true rfl) (Nat.le_of_ble_eq_true rfl) (fun q => ?_)
  refine pf_X2_9 cx hnm dX2_init_9 0 rfl (Nat.le_of_ble_eq_true rfl) ?_
  exact r_vret cx dX2_init_12 hr (⟨q, rfl⟩) (Nat.le_of_ble_eq_true rfl) (Nat.le_of_ble_eq_true rfl)
set_option maxHeartbeats 4000000 in
set_option maxRecDepth 100000 in
theorem c_goThrough (l : Launch) (g : q_G) (wr : va_W) (a0 a1 : Nat) (row : Nat → Int32) (x0 : Nat) (b : List Nat) (f : List Nat → Nat) (hf : ∀ v, v.length ≤ 8 → f v ≤ 1000) (hx0 : x0 < 8) (hb : snd b) (hbl : b.length ≤ 8) (hrow : ∀ u v, b = u ++ v → row v.length = nI (f v)) : MetW l g yX2_goThrough cX2_goThrough 8 (some .int) ({ frames := 1, cells := 0, slots := 0, locals := 30 } : Room) [.ref a0, .int (nI (x0 + 1)), .int (nI (num b))] ((a0, .inr (3, [.ref a1])) :: (a1, .inl (q_cI g, 9, .inl row)) :: wr) (q_Qi g (fun r w => r = nI (levI x0 f b) ∧ ∃ row2 : Nat → Int32, w = ((a0, .inr (3, [.ref a1])) :: (a1, .inl (q_cI g, 9, .inl row2)) :: wr) ∧ ∀ u v, b = u ++ v → row2 v.length = nI (levI x0 f v))) := by
  refine q_met (own := RX2) (by decide +kernel) rfl (Nat.le_of_ble_eq_true rfl) (fun p e s m args below meth c cx hr hnm => ?_)
  refine r_lv (lv2 := [(0, .ref a0), (1, .int (nI (x0 + 1))), (2, .int (nI (num b)))]) (q_pk [0, 1, 2] rfl) ?_
  refine r_aload_n cx dX2_goThrough_0 rfl rfl ?_
  refine gf_X2_9 cx dX2_goThrough_1 0 rfl rfl ?_
  refine r_iconst (v := nI 0) cx dX2_goThrough_4 (by decide) ?_
  first | refine r_ialdN cx 1 0 dX2_goThrough_5 rfl rfl (by omega) (by omega) ?_ | refine r_iald cx 1 0 dX2_goThrough_5 rfl rfl (by omega) ?_
  refine r_eqi (y := nI (f [])) (hrow b [] (by simp)) ?_
  refine r_istore_n cx dX2_goThrough_6 rfl (by decide) rfl ?_
  refine r_aload_n cx dX2_goThrough_7 rfl rfl ?_
  refine gf_X2_9 cx dX2_goThrough_8 0 rfl rfl ?_
  refine r_iconst (v := nI 0) cx dX2_goThrough_11 (by decide) ?_
  refine r_iload_n cx dX2_goThrough_12 rfl rfl ?_
  refine r_iconst (v := nI 1) cx dX2_goThrough_13 (by decide) ?_
  first | refine r_iaddN cx dX2_goThrough_14 ?_ | refine r_iadd cx dX2_goThrough_14 ?_
  first | refine r_iastN cx 1 0 dX2_goThrough_15 rfl rfl (by omega) (by omega) ?_ | refine r_iast cx 1 0 dX2_goThrough_15 rfl rfl (by omega) ?_
  refine r_aload_n cx dX2_goThrough_16 rfl rfl ?_
  refine gf_X2_9 cx dX2_goThrough_17 0 rfl rfl ?_
  refine r_iconst (v := nI 0) cx dX2_goThrough_20 (by decide) ?_
  first | refine r_ialdN cx 1 0 dX2_goThrough_21 rfl rfl (by omega) (by omega) ?_ | refine r_iald cx 1 0 dX2_goThrough_21 rfl rfl (by omega) ?_
  refine r_eqi (y := nI (levI x0 f [])) rfl ?_
  refine r_istore cx dX2_goThrough_22 (by decide) rfl ?_
  refine r_iload_n cx dX2_goThrough_24 rfl rfl ?_
  refine r_istore cx dX2_goThrough_25 (by decide) rfl ?_
  refine r_iconst (v := nI 1) cx dX2_goThrough_27 (by decide) ?_
  refine r_istore cx dX2_goThrough_28 (by decide) rfl ?_
  refine at_loop (fun (x : (List Nat × List Nat) × (Nat → Int32)) => x.1.1 ++ x.1.2 = b ∧ (∀ u v, b = u ++ v → v.length ≤ x.1.2.length → x.2 v.length = nI (levI x0 f v)) ∧ (∀ u v, b = u ++ v → x.1.2.length < v.length → x.2 v.length = nI (f v))) (fun x => [(0, .ref a0), (1, .int (nI (x0 + 1))), (3, .int (nI (f x.1.2))), (4, .int (nI (levI x0 f x.1.2))), (5, .int (nI (num x.1.1))), (6, .int (nI (x.1.2.length + 1)))]) (fun x => (a0, .inr (3, [.ref a1])) :: (a1, .inl (q_cI g, 9, .inl x.2)) :: wr) (fun x => x.1.1.length) ((b, []), upd row 0 (nI (f [] + 1))) ⟨List.append_nil b, fun u v hu hv => by
    obtain rfl : v = [] := List.eq_nil_of_length_eq_zero (Nat.le_zero.mp hv)
    rfl, fun u v hu hv => by
    have h9 : v.length ≠ 0 := by simp only [List.length_nil] at hv; omega
    show upd row 0 _ v.length = _
    rw [pk_un h9]
    exact hrow u v hu⟩ (q_pk [4, 5, 3, 2, 1, 0] rfl) rfl (fun x hx ih => ?_)
  obtain ⟨⟨b1, b2⟩, rw1⟩ := x
  try dsimp only at hx ⊢
  obtain ⟨hx1, hx2, hx3⟩ := hx
  have hlen : b1.length + b2.length = b.length := by rw [← hx1, List.length_append]
  have hs1 : snd b1 := (snd_app.mp (hx1 ▸ hb)).1
  have hb1 := num_bd hs1 (by omega)
  have hf1 := hf b2 (by omega)
  have hf2 := levI_le x0 f b2
  refine r_iload cx dX2_goThrough_30 rfl ?_
  refine r_aload_n cx dX2_goThrough_32 rfl rfl ?_
  refine gf_X2_9 cx dX2_goThrough_33 0 rfl rfl ?_
  refine r_alen (v := nI 9) cx 1 0 dX2_goThrough_36 rfl rfl rfl ?_
  refine r_icmpgeN (tgt := 115) cx (by omega) (by omega) dX2_goThrough_37 (by decide) (fun h_37 => ?_) (fun h_37 => ?_)
  · skip
    obtain rfl : b1 = [] := List.eq_nil_of_length_eq_zero (by omega)
    obtain rfl : b2 = b := by simpa using hx1
    refine r_iload cx dX2_goThrough_115 rfl ?_
    exact r_iret cx dX2_goThrough_117 hr (⟨rfl, rw1, rfl, fun u v hu => hx2 u v hu (by rw [hu]; simp)⟩) (Nat.le_of_ble_eq_true rfl) (Nat.le_of_ble_eq_true rfl)
  · skip
    refine r_iload cx dX2_goThrough_40 rfl ?_
    refine r_ifleN (tgt := 115) cx (by omega) dX2_goThrough_42 (by decide) (fun h_42 => ?_) (fun h_42 => ?_)
    · skip
      obtain rfl : b1 = [] := num_zero.mp h_42
      obtain rfl : b2 = b := by simpa using hx1
      refine r_iload cx dX2_goThrough_115 rfl ?_
      exact r_iret cx dX2_goThrough_117 hr (⟨rfl, rw1, rfl, fun u v hu => hx2 u v hu (by rw [hu]; simp)⟩) (Nat.le_of_ble_eq_true rfl) (Nat.le_of_ble_eq_true rfl)
    · skip
      obtain ⟨b1, y, rfl⟩ := l_snoc (l := b1) (fun z => by rw [z] at h_42; exact absurd h_42 (by decide))
      have hy8 : y < 8 := hs1 y (by simp)
      have hsn := num_snoc b1 y
      rw [List.length_append, List.length_singleton] at hlen
      have hf3 := hf (y :: b2) (by simp only [List.length_cons]; omega)
      have hf4 := levI_le x0 f (y :: b2)
      refine r_iload cx dX2_goThrough_45 rfl ?_
      refine r_bipush (v := nI 9) cx dX2_goThrough_47 (by decide) ?_
      refine r_iremN cx dX2_goThrough_49 (by omega) (by omega) (by omega) ?_
      refine r_iload_n cx dX2_goThrough_50 rfl rfl ?_
      refine r_icmpneN (tgt := 58) cx (by omega) (by omega) dX2_goThrough_51 (by decide) (fun h_51 => ?_) (fun h_51 => ?_)
      · skip
        refine r_iload_n cx dX2_goThrough_58 rfl rfl ?_
        refine r_iconst (v := nI 1) cx dX2_goThrough_59 (by decide) ?_
        first | refine r_iaddN cx dX2_goThrough_60 ?_ | refine r_iadd cx dX2_goThrough_60 ?_
        refine r_istore cx dX2_goThrough_61 (by decide) rfl ?_
        refine r_aload_n cx dX2_goThrough_63 rfl rfl ?_
        refine gf_X2_9 cx dX2_goThrough_64 0 rfl rfl ?_
        refine r_iload cx dX2_goThrough_67 rfl ?_
        first | refine r_ialdN cx 1 0 dX2_goThrough_69 rfl rfl (by omega) (by omega) ?_ | refine r_iald cx 1 0 dX2_goThrough_69 rfl rfl (by omega) ?_
        refine r_eqi (y := nI (f (y :: b2))) (hx3 b1 (y :: b2) (by simp [← hx1]) (by simp)) ?_
        refine r_istore_n cx dX2_goThrough_70 rfl (by decide) rfl ?_
        refine r_iload cx dX2_goThrough_71 rfl ?_
        refine r_iload_n cx dX2_goThrough_73 rfl rfl ?_
        refine r_aload_n cx dX2_goThrough_74 rfl rfl ?_
        refine gf_X2_9 cx dX2_goThrough_75 0 rfl rfl ?_
        refine r_iload cx dX2_goThrough_78 rfl ?_
        refine r_iconst (v := nI 1) cx dX2_goThrough_80 (by decide) ?_
        first | refine r_isubN cx dX2_goThrough_81 (by omega) ?_ | refine r_isub cx dX2_goThrough_81 ?_
        first | refine r_ialdN cx 1 0 dX2_goThrough_82 rfl rfl (by omega) (by omega) ?_ | refine r_iald cx 1 0 dX2_goThrough_82 rfl rfl (by omega) ?_
        rw [Nat.add_sub_cancel]
        refine r_eqi (y := nI (levI x0 f b2)) (hx2 (b1 ++ [y]) b2 (by simp [← hx1]) (Nat.le_refl _)) ?_
        refine r_min cx tb_285 tb_286 tb_15 tb_287 dX2_goThrough_83 (Nat.le_of_ble_eq_true rfl) (Nat.le_of_ble_eq_true rfl) (Nat.le_of_ble_eq_true rfl) (Nat.le_of_ble_eq_true rfl) ?_
        rw [q_min (by omega) (by omega)]
        refine r_iconst (v := nI 1) cx dX2_goThrough_86 (by decide) ?_
        first | refine r_iaddN cx dX2_goThrough_87 ?_ | refine r_iadd cx dX2_goThrough_87 ?_
        refine r_min cx tb_285 tb_286 tb_15 tb_287 dX2_goThrough_88 (Nat.le_of_ble_eq_true rfl) (Nat.le_of_ble_eq_true rfl) (Nat.le_of_ble_eq_true rfl) (Nat.le_of_ble_eq_true rfl) ?_
        rw [q_min (by omega) (by omega)]
        refine r_eqi (y := nI (levI x0 f (y :: b2))) (congrArg nI (by rw [levI, if_neg (by omega : ¬ x0 = y)])) ?_
        refine r_istore cx dX2_goThrough_91 (by decide) rfl ?_
        refine r_aload_n cx dX2_goThrough_93 rfl rfl ?_
        refine gf_X2_9 cx dX2_goThrough_94 0 rfl rfl ?_
        refine r_iload cx dX2_goThrough_97 rfl ?_
        refine r_iload cx dX2_goThrough_99 rfl ?_
        first | refine r_iastN cx 1 0 dX2_goThrough_101 rfl rfl (by omega) (by omega) ?_ | refine r_iast cx 1 0 dX2_goThrough_101 rfl rfl (by omega) ?_
        refine r_iload cx dX2_goThrough_102 rfl ?_
        refine r_bipush (v := nI 9) cx dX2_goThrough_104 (by decide) ?_
        refine r_idivN cx dX2_goThrough_106 (by omega) (by omega) (by omega) ?_
        refine r_eqi (y := nI (num b1)) (congrArg nI (by omega)) ?_
        refine r_istore cx dX2_goThrough_107 (by decide) rfl ?_
        refine r_iincN (j := 1) cx dX2_goThrough_109 rfl rfl (by decide) rfl ?_
        refine r_goto (tgt := 30) cx dX2_goThrough_112 (by decide) ?_
        exact r_lv (q_pk [5, 6, 3, 2, 1, 0] rfl) (ih ((b1, y :: b2), upd rw1 (b2.length + 1) (nI (levI x0 f (y :: b2)))) ⟨by rw [← hx1]; simp, fun u v hu hv => by
    show upd rw1 _ _ v.length = _
    by_cases h9 : v.length = b2.length + 1
    · obtain rfl : v = y :: b2 := suf_len hu (by rw [← hx1]; simp : b = b1 ++ (y :: b2)) (by simp [h9])
      exact (congrArg _ h9).trans pk_us
    · rw [pk_un h9]
      exact hx2 u v hu (by simp only [List.length_cons] at hv; omega), fun u v hu hv => by
    show upd rw1 _ _ v.length = _
    simp only [List.length_cons] at hv
    rw [pk_un (by omega)]
    exact hx3 u v hu (by omega)⟩ (by simp))
      · skip
        refine r_iload_n cx dX2_goThrough_54 rfl rfl ?_
        refine r_goto (tgt := 61) cx dX2_goThrough_55 (by decide) ?_
        refine r_istore cx dX2_goThrough_61 (by decide) rfl ?_
        refine r_aload_n cx dX2_goThrough_63 rfl rfl ?_
        refine gf_X2_9 cx dX2_goThrough_64 0 rfl rfl ?_
        refine r_iload cx dX2_goThrough_67 rfl ?_
        first | refine r_ialdN cx 1 0 dX2_goThrough_69 rfl rfl (by omega) (by omega) ?_ | refine r_iald cx 1 0 dX2_goThrough_69 rfl rfl (by omega) ?_
        refine r_eqi (y := nI (f (y :: b2))) (hx3 b1 (y :: b2) (by simp [← hx1]) (by simp)) ?_
        refine r_istore_n cx dX2_goThrough_70 rfl (by decide) rfl ?_
        refine r_iload cx dX2_goThrough_71 rfl ?_
        refine r_iload_n cx dX2_goThrough_73 rfl rfl ?_
        refine r_aload_n cx dX2_goThrough_74 rfl rfl ?_
        refine gf_X2_9 cx dX2_goThrough_75 0 rfl rfl ?_
        refine r_iload cx dX2_goThrough_78 rfl ?_
        refine r_iconst (v := nI 1) cx dX2_goThrough_80 (by decide) ?_
        first | refine r_isubN cx dX2_goThrough_81 (by omega) ?_ | refine r_isub cx dX2_goThrough_81 ?_
        first | refine r_ialdN cx 1 0 dX2_goThrough_82 rfl rfl (by omega) (by omega) ?_ | refine r_iald cx 1 0 dX2_goThrough_82 rfl rfl (by omega) ?_
        rw [Nat.add_sub_cancel]
        refine r_eqi (y := nI (levI x0 f b2)) (hx2 (b1 ++ [y]) b2 (by simp [← hx1]) (Nat.le_refl _)) ?_
        refine r_min cx tb_285 tb_286 tb_15 tb_287 dX2_goThrough_83 (Nat.le_of_ble_eq_true rfl) (Nat.le_of_ble_eq_true rfl) (Nat.le_of_ble_eq_true rfl) (Nat.le_of_ble_eq_true rfl) ?_
        rw [q_min (by omega) (by omega)]
        refine r_iconst (v := nI 1) cx dX2_goThrough_86 (by decide) ?_
        first | refine r_iaddN cx dX2_goThrough_87 ?_ | refine r_iadd cx dX2_goThrough_87 ?_
        refine r_min cx tb_285 tb_286 tb_15 tb_287 dX2_goThrough_88 (Nat.le_of_ble_eq_true rfl) (Nat.le_of_ble_eq_true rfl) (Nat.le_of_ble_eq_true rfl) (Nat.le_of_ble_eq_true rfl) ?_
        rw [q_min (by omega) (by omega)]
        refine r_eqi (y := nI (levI x0 f (y :: b2))) (congrArg nI (by rw [levI, if_pos (by omega : x0 = y)]; rfl)) ?_
        refine r_istore cx dX2_goThrough_91 (by decide) rfl ?_
        refine r_aload_n cx dX2_goThrough_93 rfl rfl ?_
        refine gf_X2_9 cx dX2_goThrough_94 0 rfl rfl ?_
        refine r_iload cx dX2_goThrough_97 rfl ?_
        refine r_iload cx dX2_goThrough_99 rfl ?_
        first | refine r_iastN cx 1 0 dX2_goThrough_101 rfl rfl (by omega) (by omega) ?_ | refine r_iast cx 1 0 dX2_goThrough_101 rfl rfl (by omega) ?_
        refine r_iload cx dX2_goThrough_102 rfl ?_
        refine r_bipush (v := nI 9) cx dX2_goThrough_104 (by decide) ?_
        refine r_idivN cx dX2_goThrough_106 (by omega) (by omega) (by omega) ?_
        refine r_eqi (y := nI (num b1)) (congrArg nI (by omega)) ?_
        refine r_istore cx dX2_goThrough_107 (by decide) rfl ?_
        refine r_iincN (j := 1) cx dX2_goThrough_109 rfl rfl (by decide) rfl ?_
        refine r_goto (tgt := 30) cx dX2_goThrough_112 (by decide) ?_
        exact r_lv (q_pk [5, 6, 3, 2, 1, 0] rfl) (ih ((b1, y :: b2), upd rw1 (b2.length + 1) (nI (levI x0 f (y :: b2)))) ⟨by rw [← hx1]; simp, fun u v hu hv => by
    show upd rw1 _ _ v.length = _
    by_cases h9 : v.length = b2.length + 1
    · obtain rfl : v = y :: b2 := suf_len hu (by rw [← hx1]; simp : b = b1 ++ (y :: b2)) (by simp [h9])
      exact (congrArg _ h9).trans pk_us
    · rw [pk_un h9]
      exact hx2 u v hu (by simp only [List.length_cons] at hv; omega), fun u v hu hv => by
    show upd rw1 _ _ v.length = _
    simp only [List.length_cons] at hv
    rw [pk_un (by omega)]
    exact hx3 u v hu (by omega)⟩ (by simp))
set_option maxHeartbeats 4000000 in
set_option maxRecDepth 100000 in
theorem c_countSteps (l : Launch) (g : q_G) (wr : va_W) (s0 s1 : Nat) (row : Nat → Int32) (a b : List Nat) (ha : snd a) (hal : a.length ≤ 8) (hb : snd b) (hbl : b.length ≤ 8) (hne : a ≠ []) : MetW l g yX2_countSteps cX2_countSteps 6 (some .int) ({ frames := 2, cells := 0, slots := 0, locals := 57 } : Room) [.ref s0, .int (nI (num a)), .int (nI (num b))] ((s0, .inr (3, [.ref s1])) :: (s1, .inl (q_cI g, 9, .inl row)) :: wr) (q_Qi g (fun r w => r = nI (lev a b) ∧ ∃ row2 : Nat → Int32, w = ((s0, .inr (3, [.ref s1])) :: (s1, .inl (q_cI g, 9, .inl row2)) :: wr))) := by
  refine q_met (own := RX2) (by decide +kernel) rfl (Nat.le_of_ble_eq_true rfl) (fun p e s m args below meth c cx hr hnm => ?_)
  refine r_lv (lv2 := [(0, .ref s0), (1, .int (nI (num a))), (2, .int (nI (num b)))]) (q_pk [0, 1, 2] rfl) ?_
  refine r_iconst (v := nI 0) cx dX2_countSteps_0 (by decide) ?_
  refine r_istore_n cx dX2_countSteps_1 rfl (by decide) rfl ?_
  refine at_loop (fun (x : Nat × (Nat → Int32)) => x.1 ≤ 9 ∧ ∀ j, j < x.1 → x.2 j = nI j) (fun x => [(0, .ref s0), (1, .int (nI (num a))), (2, .int (nI (num b))), (3, .int (nI x.1))]) (fun x => (s0, .inr (3, [.ref s1])) :: (s1, .inl (q_cI g, 9, .inl x.2)) :: wr) (fun x => 9 - x.1) (0, row) ⟨Nat.zero_le _, fun j hj => absurd hj (Nat.not_lt_zero j)⟩ (q_pk [1, 2, 3, 0] rfl) rfl (fun x hx ih => ?_)
  obtain ⟨j, rw1⟩ := x
  try dsimp only at hx ⊢
  obtain ⟨hx1, hx2⟩ := hx
  refine r_iload_n cx dX2_countSteps_2 rfl rfl ?_
  refine r_aload_n cx dX2_countSteps_3 rfl rfl ?_
  refine gf_X2_9 cx dX2_countSteps_4 0 rfl rfl ?_
  refine r_alen (v := nI 9) cx 1 0 dX2_countSteps_7 rfl rfl rfl ?_
  refine r_icmpgeN (tgt := 24) cx (by omega) (by omega) dX2_countSteps_8 (by decide) (fun h_8 => ?_) (fun h_8 => ?_)
  · skip
    obtain rfl : j = 9 := by omega
    refine r_iload_n cx dX2_countSteps_24 rfl rfl ?_
    refine r_istore_n cx dX2_countSteps_25 rfl (by decide) rfl ?_
    refine r_aload_n cx dX2_countSteps_26 rfl rfl ?_
    refine gf_X2_9 cx dX2_countSteps_27 0 rfl rfl ?_
    refine r_iconst (v := nI 0) cx dX2_countSteps_30 (by decide) ?_
    first | refine r_ialdN cx 1 0 dX2_countSteps_31 rfl rfl (by omega) (by omega) ?_ | refine r_iald cx 1 0 dX2_countSteps_31 rfl rfl (by omega) ?_
    refine r_istore cx dX2_countSteps_32 (by decide) rfl ?_
    refine r_iconst (v := nI 0) cx dX2_countSteps_34 (by decide) ?_
    refine r_istore cx dX2_countSteps_35 (by decide) rfl ?_
    refine at_loop (fun (x : (List Nat × List Nat) × (Nat → Int32)) => x.1.1 ++ x.1.2 = a ∧ (∀ u v, b = u ++ v → x.2 v.length = nI (lev x.1.2 v))) (fun x => [(0, .ref s0), (2, .int (nI (num b))), (3, .int (nI (num x.1.1))), (4, .int (if x.1.2 = [] then rw1 0 else nI (lev x.1.2 b))), (5, .int (nI x.1.2.length))]) (fun x => (s0, .inr (3, [.ref s1])) :: (s1, .inl (q_cI g, 9, .inl x.2)) :: wr) (fun x => x.1.1.length) ((a, []), rw1) ⟨List.append_nil a, fun u v hu => by
    have h8 : v.length ≤ 8 := by have := congrArg List.length hu; simp only [List.length_append] at this; omega
    exact hx2 v.length (by omega)⟩ (q_pk [3, 5, 2, 1, 0] rfl) rfl (fun x hx ih => ?_)
    obtain ⟨⟨a1, a2⟩, rw2⟩ := x
    try dsimp only at hx ⊢
    obtain ⟨hx1, hx3⟩ := hx
    have hlen : a1.length + a2.length = a.length := by rw [← hx1, List.length_append]
    have hs1 : snd a1 := (snd_app.mp (hx1 ▸ ha)).1
    have hb1 := num_bd hs1 (by omega)
    refine r_iload cx dX2_countSteps_37 rfl ?_
    refine r_bipush (v := nI 8) cx dX2_countSteps_39 (by decide) ?_
    refine r_icmpgeN (tgt := 70) cx (by omega) (by omega) dX2_countSteps_41 (by decide) (fun h_41 => ?_) (fun h_41 => ?_)
    · skip
      obtain rfl : a1 = [] := List.eq_nil_of_length_eq_zero (by omega)
      obtain rfl : a2 = a := by simpa using hx1
      refine r_iload cx dX2_countSteps_70 rfl ?_
      exact r_iret cx dX2_countSteps_72 hr (⟨by rw [if_neg hne], rw2, rfl⟩) (Nat.le_of_ble_eq_true rfl) (Nat.le_of_ble_eq_true rfl)
    · skip
      refine r_iload_n cx dX2_countSteps_44 rfl rfl ?_
      refine r_ifleN (tgt := 70) cx (by omega) dX2_countSteps_45 (by decide) (fun h_45 => ?_) (fun h_45 => ?_)
      · skip
        obtain rfl : a1 = [] := num_zero.mp h_45
        obtain rfl : a2 = a := by simpa using hx1
        refine r_iload cx dX2_countSteps_70 rfl ?_
        exact r_iret cx dX2_countSteps_72 hr (⟨by rw [if_neg hne], rw2, rfl⟩) (Nat.le_of_ble_eq_true rfl) (Nat.le_of_ble_eq_true rfl)
      · skip
        obtain ⟨a1, y, rfl⟩ := l_snoc (l := a1) (fun z => by rw [z] at h_45; exact absurd h_45 (by decide))
        have hy8 : y < 8 := hs1 y (by simp)
        have hsn := num_snoc a1 y
        rw [List.length_append, List.length_singleton] at hlen
        refine r_aload_n cx dX2_countSteps_48 rfl rfl ?_
        refine r_iload_n cx dX2_countSteps_49 rfl rfl ?_
        refine r_bipush (v := nI 9) cx dX2_countSteps_50 (by decide) ?_
        refine r_iremN cx dX2_countSteps_52 (by omega) (by omega) (by omega) ?_
        refine r_eqi (y := nI (y + 1)) (congrArg nI (by omega)) ?_
        refine r_iload_n cx dX2_countSteps_53 rfl rfl ?_
        refine k_X2_15 cx (c_goThrough l g wr s0 s1 rw2 y b (lev a2) (fun v hv => by have := lev_le a2 v; omega) hy8 hb hbl hx3) dX2_countSteps_54 0 rfl ⟨Nat.le_of_ble_eq_true rfl, Nat.le_of_ble_eq_true rfl⟩ ⟨Nat.le_of_ble_eq_true rfl, Nat.le_of_ble_eq_true rfl⟩ rfl rfl (Nat.le_of_ble_eq_true rfl) (fun r w hp => ?_)
        obtain ⟨rfl, row2, rfl, hr2⟩ := hp
        refine r_eqi (y := (if (y :: a2) = [] then rw1 0 else nI (lev (y :: a2) b))) rfl ?_
        refine r_istore cx dX2_countSteps_57 (by decide) rfl ?_
        refine r_iload_n cx dX2_countSteps_59 rfl rfl ?_
        refine r_bipush (v := nI 9) cx dX2_countSteps_60 (by decide) ?_
        refine r_idivN cx dX2_countSteps_62 (by omega) (by omega) (by omega) ?_
        refine r_eqi (y := nI (num a1)) (congrArg nI (by omega)) ?_
        refine r_istore_n cx dX2_countSteps_63 rfl (by decide) rfl ?_
        refine r_iincN (j := 1) cx dX2_countSteps_64 rfl rfl (by decide) rfl ?_
        refine r_goto (tgt := 37) cx dX2_countSteps_67 (by decide) ?_
        exact r_lv (q_pk [3, 4, 1, 2, 0] rfl) (ih ((a1, y :: a2), row2) ⟨by rw [← hx1]; simp, hr2⟩ (by simp))
  · skip
    refine r_aload_n cx dX2_countSteps_11 rfl rfl ?_
    refine gf_X2_9 cx dX2_countSteps_12 0 rfl rfl ?_
    refine r_iload_n cx dX2_countSteps_15 rfl rfl ?_
    refine r_iload_n cx dX2_countSteps_16 rfl rfl ?_
    first | refine r_iastN cx 1 0 dX2_countSteps_17 rfl rfl (by omega) (by omega) ?_ | refine r_iast cx 1 0 dX2_countSteps_17 rfl rfl (by omega) ?_
    refine r_iincN (j := 1) cx dX2_countSteps_18 rfl rfl (by decide) rfl ?_
    refine r_goto (tgt := 2) cx dX2_countSteps_21 (by decide) ?_
    exact r_lv (q_pk [1, 2, 3, 0] rfl) (ih (j + 1, upd rw1 j (nI j)) ⟨by omega, fun k hk => by
    show upd rw1 j (nI j) k = nI k
    by_cases h9 : k = j
    · rw [h9, pk_us]
    · rw [pk_un h9]
      exact hx2 k (by omega)⟩ (by show 9 - (j + 1) < 9 - j; omega))
