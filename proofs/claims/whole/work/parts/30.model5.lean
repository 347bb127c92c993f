theorem pce_o (so : Nat) (to : Option Nat) (be x f : Nat) : pce so to be x f = (if chg so be x f then to else some x).toList := by
  unfold pce
  split <;> rfl
theorem rowIs_app {f : Nat → Int32} {l : List Nat} {y : Nat} (h : rowIs f l) : rowIs (upd f l.length (nI y)) (l ++ [y]) := by
  intro i hi
  rw [List.length_append, List.length_singleton] at hi
  by_cases h9 : i = l.length
  · subst h9
    rw [pk_us]
    simp [List.getD]
  · rw [pk_un h9, h i (by omega)]
    simp [List.getD, List.getElem?_append_left (show i < l.length by omega)]
theorem rowIs_mid {f : Nat → Int32} {l u v : List Nat} {x : Nat} (h : rowIs f l) (e : u ++ x :: v = l) : f u.length = nI x := by
  rw [h u.length (by rw [← e]; simp), ← e]
  simp [List.getD]
theorem rowIs_fol {f : Nat → Int32} {l u v : List Nat} {x : Nat} (h : rowIs f l) (e : u ++ x :: v = l) (hv : v ≠ []) : f (u.length + 1) = nI (fol v) := by
  cases v with
  | nil => exact absurd rfl hv
  | cons y v =>
    have h2 := rowIs_mid (u := u ++ [x]) (x := y) (v := v) h (by rw [← e]; simp)
    rw [List.length_append, List.length_singleton] at h2
    exact h2
theorem rowIs_cong {f f2 : Nat → Int32} {l : List Nat} (h : rowIs f l) (e : ∀ i, i < l.length → f2 i = f i) : rowIs f2 l := fun i hi => (e i hi).trans (h i hi)
theorem rowIs_get {f : Nat → Int32} {l : List Nat} (h : rowIs f l) {i : Nat} (hi : i < l.length) : f i = nI (l.getD i 0) := h i hi
theorem rowIs_num {f : Nat → Int32} {l : List Nat} (h : rowIs f l) (hs : snd l) : drL f l.length = l ∧ ∀ i, i < l.length → f i = nI (c32 (f i)) := by
  have hb : ∀ i, i < l.length → l.getD i 0 < 8 := fun i hi => by
    rw [List.getD, List.getElem?_eq_getElem hi]
    exact hs _ (List.getElem_mem hi)
  refine ⟨?_, fun i hi => ?_⟩
  · apply List.ext_getElem
    · rw [drL_len]
    · intro i h1 h2
      have h3 := hb i h2
      simp only [drL, List.getElem_map, List.getElem_range]
      rw [h i h2, c32_nI (by omega), List.getD, List.getElem?_eq_getElem h2]
      rfl
  · have h3 := hb i hi
    rw [h i hi, c32_nI (by omega)]
theorem toI_m1 {o : Option Nat} (h : ∀ t, o = some t → t < 8) (e : toI o = -1) : o = none := toI_none h e
set_option maxHeartbeats 4000000 in
set_option maxRecDepth 100000 in
theorem c_mApplies (l : Launch) (g : q_G) (md : Nat → Nat) (wr : va_W) (t : Int32) (N : Nat → Nat) (A : Nat → Nat → Int32) (B : Nat → Nat → Bool) (L : Nat → Nat → Int64) (S : Nat → Nat → Int32) (r0 : Nat) (l0 : List Nat) (so be : Nat) (to : Option Nat) (hr0 : r0 < 20) (hs : snd l0) (hn : l0.length ≤ 8) (hrow : rowIs (S 0) l0) (e1 : A 7 r0 = nI so) (e2 : A 8 r0 = toI to) (e3 : A 9 r0 = nI be) (hso : so < 8) (hbe : be < 10) (hto : ∀ t, to = some t → t < 8) : MetW l g yX4_applies cX4_applies 8 (some .int) ({ frames := 0, cells := 0, slots := 0, locals := 0 } : Room) [.ref (md 22), .int (nI r0), .int (nI l0.length)] (mF g md t N A B L S ++ wr) (q_Qi g (fun r w => r = nI (apR so to be l0).length ∧ ∃ S2, rowIs (S2 0) (apR so to be l0) ∧ w = mF g md t N A B L S2 ++ wr)) := by
  refine q_met (own := RX4) (by decide +kernel) rfl (Nat.le_of_ble_eq_true rfl) (fun p e s m args below meth c cx hr hnm => ?_)
  refine r_lv (lv2 := [(0, .ref (md 22)), (1, .int (nI r0)), (2, .int (nI l0.length))]) (q_pk [0, 1, 2] rfl) ?_
  refine r_iconst (v := nI 0) cx dX4_applies_0 (by decide) ?_
  refine r_istore_n cx dX4_applies_1 rfl (by decide) rfl ?_
  refine r_iconst (v := nI 0) cx dX4_applies_2 (by decide) ?_
  refine r_istore cx dX4_applies_3 (by decide) rfl ?_
  refine at_loop (fun (x : (List Nat × List Nat) × (List Nat × (Nat → Nat → Int32))) => x.1.1 ++ x.1.2 = l0 ∧ x.2.1 ++ apL so to be x.1.2 = apL so to be l0 ∧ rowIs (x.2.2 1) x.2.1 ∧ rowIs (x.2.2 0) l0) (fun x => [(0, .ref (md 22)), (1, .int (nI r0)), (2, .int (nI l0.length)), (3, .int (nI x.2.1.length)), (4, .int (nI x.1.1.length))]) (fun x => mF g md t N A B L x.2.2 ++ wr) (fun x => x.1.2.length) (([], l0), ([], S)) ⟨rfl, rfl, fun i hi => absurd hi (Nat.not_lt_zero i), hrow⟩ (q_pk [2, 3, 4, 1, 0] rfl) rfl (fun x hx ih => ?_)
  obtain ⟨⟨l1, l2⟩, ⟨pr, S1⟩⟩ := x
  try dsimp only at hx ⊢
  obtain ⟨hx1, hx2, hx3, hx4⟩ := hx
  have hlen : l1.length + l2.length = l0.length := by rw [← hx1, List.length_append]
  have hal := apL_len so to be l0
  have hpl : pr.length + (apL so to be l2).length = (apL so to be l0).length := by rw [← hx2, List.length_append]
  refine r_iload cx dX4_applies_5 rfl ?_
  refine r_iload_n cx dX4_applies_7 rfl rfl ?_
  refine r_icmpgeN (tgt := 126) cx (by omega) (by omega) dX4_applies_8 (by decide) (fun h_8 => ?_) (fun h_8 => ?_)
  · skip
    obtain rfl : l2 = [] := List.eq_nil_of_length_eq_zero (by omega)
    rw [show apL so to be ([] : List Nat) = [] from rfl, List.append_nil] at hx2
    rw [hx2]
    refine r_iconst (v := nI 0) cx dX4_applies_126 (by decide) ?_
    refine r_istore cx dX4_applies_127 (by decide) rfl ?_
    refine at_loop (fun (x : Nat × (Nat → Nat → Int32)) => x.1 ≤ (apL so to be l0).length ∧ rowIs (x.2 1) (apL so to be l0) ∧ (∀ i, i < x.1 → x.2 0 i = nI ((apL so to be l0).getD i 0)) ∧ ((apL so to be l0) = [] → rowIs (x.2 0) l0)) (fun x => [(0, .ref (md 22)), (2, .int (nI l0.length)), (3, .int (nI (apL so to be l0).length)), (4, .int (nI x.1))]) (fun x => mF g md t N A B L x.2 ++ wr) (fun x => (apL so to be l0).length - x.1) (0, S1) ⟨Nat.zero_le _, by rw [← hx2]; exact hx3, fun i hi => absurd hi (Nat.not_lt_zero i), fun _ => hx4⟩ (q_pk [1, 3, 4, 0] rfl) rfl (fun x hx ih => ?_)
    obtain ⟨i, S2⟩ := x
    try dsimp only at hx ⊢
    obtain ⟨hy1, hy2, hy3, hy4⟩ := hx
    refine r_iload cx dX4_applies_129 rfl ?_
    refine r_iload_n cx dX4_applies_131 rfl rfl ?_
    refine r_icmpgeN (tgt := 155) cx (by omega) (by omega) dX4_applies_132 (by decide) (fun h_132 => ?_) (fun h_132 => ?_)
    · skip
      obtain rfl : i = (apL so to be l0).length := by omega
      refine r_iload_n cx dX4_applies_155 rfl rfl ?_
      refine r_ifneN (tgt := 163) cx (by omega) dX4_applies_156 (by decide) (fun h_156 => ?_) (fun h_156 => ?_)
      · skip
        refine r_iload_n cx dX4_applies_163 rfl rfl ?_
        exact r_iret cx dX4_applies_164 hr (⟨by rw [apR, if_neg (fun z => h_156 (by rw [z]; rfl))], S2, by rw [apR, if_neg (fun z => h_156 (by rw [z]; rfl))]; exact hy3, rfl⟩) (Nat.le_of_ble_eq_true rfl) (Nat.le_of_ble_eq_true rfl)
      · skip
        refine r_iload_n cx dX4_applies_159 rfl rfl ?_
        refine r_goto (tgt := 164) cx dX4_applies_160 (by decide) ?_
        exact r_iret cx dX4_applies_164 hr (⟨by rw [apR, if_pos (List.eq_nil_of_length_eq_zero h_156)], S2, by rw [apR, if_pos (List.eq_nil_of_length_eq_zero h_156)]; exact hy4 (List.eq_nil_of_length_eq_zero h_156), rfl⟩) (Nat.le_of_ble_eq_true rfl) (Nat.le_of_ble_eq_true rfl)
    · skip
      refine r_aload_n cx dX4_applies_135 rfl rfl ?_
      refine gf_X4_66 cx dX4_applies_136 22 rfl rfl ?_
      refine r_iload cx dX4_applies_139 rfl ?_
      refine r_aload_n cx dX4_applies_141 rfl rfl ?_
      refine gf_X4_69 cx dX4_applies_142 22 rfl rfl ?_
      refine r_iload cx dX4_applies_145 rfl ?_
      first | refine r_ialdN cx 2 0 dX4_applies_147 rfl rfl (by omega) (by omega) ?_ | refine r_iald cx 2 0 dX4_applies_147 rfl rfl (by omega) ?_
      first | refine r_iastN cx 3 0 dX4_applies_148 rfl rfl (by omega) (by omega) ?_ | refine r_iast cx 3 0 dX4_applies_148 rfl rfl (by omega) ?_
      refine r_iincN (j := 1) cx dX4_applies_149 rfl rfl (by decide) rfl ?_
      refine r_goto (tgt := 129) cx dX4_applies_152 (by decide) ?_
      exact r_lv (q_pk [1, 2, 3, 0] rfl) (ih (i + 1, va_up S2 0 (upd (S2 0) i (S2 1 i))) ⟨by omega, hy2, fun k hk => by
    show upd (S2 0) i (S2 1 i) k = _
    by_cases h9 : k = i
    · rw [h9, pk_us]
      exact hy2 i h_132
    · rw [pk_un h9]
      exact hy3 k (by omega), fun z => by rw [z] at h_132; exact absurd h_132 (Nat.not_lt_zero i)⟩ (by show _ - (i + 1) < _ - i; omega))
  · skip
    obtain ⟨x, l3, rfl⟩ : ∃ x l3, l2 = x :: l3 := by
      cases l2 with
      | nil => simp at hlen; omega
      | cons x l3 => exact ⟨x, l3, rfl⟩
    have hx8 : x < 8 := hs x (by rw [← hx1]; simp)
    have hs3 : snd l3 := fun y hy => hs y (by rw [← hx1]; simp [hy])
    have hf := fol_lt hs3
    simp only [List.length_cons] at hlen
    have hap : apL so to be (x :: l3) = (if chg so be x (fol l3) then to else some x).toList ++ apL so to be l3 := by rw [apL, pce_o]
    have hot : ∀ t, (if chg so be x (fol l3) then to else some x) = some t → t < 8 := fun t ht => by
      split at ht
      · exact hto t ht
      · cases ht; exact hx8
    refine at_join (tgt := 33) (fun (z : Unit) => True) (fun z => [(0, .ref (md 22)), (1, .int (nI r0)), (2, .int (nI l0.length)), (3, .int (nI pr.length)), (4, .int (nI l1.length))]) (fun z => [.int (nI (fol l3))]) (fun z => mF g md t N A B L S1 ++ wr) ?_ (fun J_33 => ?_)
    · intro z hz
      try dsimp only at hz ⊢
      refine r_istore cx dX4_applies_33 (by decide) rfl ?_
      refine at_join (tgt := 78) (fun (z : Unit) => True) (fun z => [(0, .ref (md 22)), (1, .int (nI r0)), (2, .int (nI l0.length)), (3, .int (nI pr.length)), (4, .int (nI l1.length))]) (fun z => [.int (bI (chg so be x (fol l3)))]) (fun z => mF g md t N A B L S1 ++ wr) ?_ (fun J_78 => ?_)
      · intro z hz
        try dsimp only at hz ⊢
        refine r_istore cx dX4_applies_78 (by decide) rfl ?_
        refine at_join (tgt := 101) (fun (z : Unit) => True) (fun z => [(0, .ref (md 22)), (1, .int (nI r0)), (2, .int (nI l0.length)), (3, .int (nI pr.length)), (4, .int (nI l1.length))]) (fun z => [.int (toI (if chg so be x (fol l3) then to else some x))]) (fun z => mF g md t N A B L S1 ++ wr) ?_ (fun J_101 => ?_)
        · intro z hz
          try dsimp only at hz ⊢
          refine r_istore cx dX4_applies_101 (by decide) rfl ?_
          refine r_iload cx dX4_applies_103 rfl ?_
          refine r_iconst (v := -1) cx dX4_applies_105 (by decide) ?_
          refine r_icmpeq (tgt := 120) cx dX4_applies_106 (by decide) (fun h_106 => ?_) (fun h_106 => ?_)
          · skip
            refine r_iincN (j := 1) cx dX4_applies_120 rfl rfl (by decide) rfl ?_
            refine r_goto (tgt := 5) cx dX4_applies_123 (by decide) ?_
            have z := ih ((l1 ++ [x], l3), (pr, S1)) ⟨by rw [← hx1]; simp, by rw [← hx2, hap, toI_m1 hot h_106]; rfl, hx3, hx4⟩ (by simp)
            simp only [List.length_append, List.length_singleton] at z
            exact r_lv (q_pk [2, 3, 4, 5, 0] rfl) (z)
          · skip
            obtain ⟨w7, ht⟩ := toI_some h_106
            have hw8 := hot w7 ht
            rw [ht]
            rw [ht] at hap
            rw [hap, List.length_append, Option.toList_some, List.length_singleton] at hpl
            refine r_aload_n cx dX4_applies_109 rfl rfl ?_
            refine gf_X4_69 cx dX4_applies_110 22 rfl rfl ?_
            refine r_iload_n cx dX4_applies_113 rfl rfl ?_
            refine r_iload cx dX4_applies_114 rfl ?_
            first | refine r_iastN cx 2 0 dX4_applies_116 rfl rfl (by omega) (by omega) ?_ | refine r_iast cx 2 0 dX4_applies_116 rfl rfl (by omega) ?_
            refine r_iincN (j := 1) cx dX4_applies_117 rfl rfl (by decide) rfl ?_
            refine r_iincN (j := 1) cx dX4_applies_120 rfl rfl (by decide) rfl ?_
            refine r_goto (tgt := 5) cx dX4_applies_123 (by decide) ?_
            have z := ih ((l1 ++ [x], l3), (pr ++ [w7], va_up S1 1 (upd (S1 1) pr.length (nI w7)))) ⟨by rw [← hx1]; simp, by rw [← hx2, hap]; simp, rowIs_app hx3, hx4⟩ (by simp)
            simp only [List.length_append, List.length_singleton] at z
            exact r_lv (q_pk [3, 4, 5, 1, 0] rfl) (z)
        · skip
          refine r_iload cx dX4_applies_80 rfl ?_
          refine r_ifeqb (tgt := 94) cx dX4_applies_82 (by decide) (fun h_82 => ?_) (fun h_82 => ?_)
          · skip
            refine r_aload_n cx dX4_applies_94 rfl rfl ?_
            refine gf_X4_66 cx dX4_applies_95 22 rfl rfl ?_
            refine r_iload cx dX4_applies_98 rfl ?_
            first | refine r_ialdN cx 3 0 dX4_applies_100 rfl rfl (by omega) (by omega) ?_ | refine r_iald cx 3 0 dX4_applies_100 rfl rfl (by omega) ?_
            refine r_eqi (y := toI (if chg so be x (fol l3) then to else some x)) (by rw [h_82]; exact rowIs_mid hx4 hx1) ?_
            exact r_lv (q_pk [1, 2, 3, 4, 5] rfl) (J_101 () trivial)
          · skip
            refine r_aload_n cx dX4_applies_85 rfl rfl ?_
            refine gf_X4_38 cx dX4_applies_86 22 rfl rfl ?_
            refine r_iload_n cx dX4_applies_89 rfl rfl ?_
            first | refine r_ialdN cx 12 0 dX4_applies_90 rfl rfl (by omega) (by omega) ?_ | refine r_iald cx 12 0 dX4_applies_90 rfl rfl (by omega) ?_
            refine r_eqi (y := toI (if chg so be x (fol l3) then to else some x)) (by rw [e2, h_82]; rfl) ?_
            refine r_goto (tgt := 101) cx dX4_applies_91 (by decide) ?_
            exact r_lv (q_pk [1, 2, 3, 4, 5] rfl) (J_101 () trivial)
      · skip
        refine r_aload_n cx dX4_applies_35 rfl rfl ?_
        refine gf_X4_66 cx dX4_applies_36 22 rfl rfl ?_
        refine r_iload cx dX4_applies_39 rfl ?_
        first | refine r_ialdN cx 3 0 dX4_applies_41 rfl rfl (by omega) (by omega) ?_ | refine r_iald cx 3 0 dX4_applies_41 rfl rfl (by omega) ?_
        refine r_eqi (y := nI x) (rowIs_mid hx4 hx1) ?_
        refine r_aload_n cx dX4_applies_42 rfl rfl ?_
        refine gf_X4_35 cx dX4_applies_43 22 rfl rfl ?_
        refine r_iload_n cx dX4_applies_46 rfl rfl ?_
        first | refine r_ialdN cx 13 0 dX4_applies_47 rfl rfl (by omega) (by omega) ?_ | refine r_iald cx 13 0 dX4_applies_47 rfl rfl (by omega) ?_
        refine r_eqi e1 ?_
        refine r_icmpneN (tgt := 77) cx (by omega) (by omega) dX4_applies_48 (by decide) (fun h_48 => ?_) (fun h_48 => ?_)
        · skip
          refine r_iconst (v := nI 0) cx dX4_applies_77 (by decide) ?_
          refine r_eqi (y := bI (chg so be x (fol l3))) (by rw [show chg so be x (fol l3) = false by simp [chg, h_48]]; rfl) ?_
          exact r_lv (q_pk [1, 2, 3, 4, 5] rfl) (J_78 () trivial)
        · skip
          refine r_aload_n cx dX4_applies_51 rfl rfl ?_
          refine gf_X4_41 cx dX4_applies_52 22 rfl rfl ?_
          refine r_iload_n cx dX4_applies_55 rfl rfl ?_
          first | refine r_ialdN cx 11 0 dX4_applies_56 rfl rfl (by omega) (by omega) ?_ | refine r_iald cx 11 0 dX4_applies_56 rfl rfl (by omega) ?_
          refine r_eqi e3 ?_
          refine r_bipush (v := nI 9) cx dX4_applies_57 (by decide) ?_
          refine r_icmpeqN (tgt := 73) cx (by omega) (by omega) dX4_applies_59 (by decide) (fun h_59 => ?_) (fun h_59 => ?_)
          · skip
            refine r_iconst (v := nI 1) cx dX4_applies_73 (by decide) ?_
            refine r_goto (tgt := 78) cx dX4_applies_74 (by decide) ?_
            refine r_eqi (y := bI (chg so be x (fol l3))) (by rw [show chg so be x (fol l3) = true by simp [chg, h_48, h_59]]; rfl) ?_
            exact r_lv (q_pk [1, 2, 3, 4, 5] rfl) (J_78 () trivial)
          · skip
            refine r_aload_n cx dX4_applies_62 rfl rfl ?_
            refine gf_X4_41 cx dX4_applies_63 22 rfl rfl ?_
            refine r_iload_n cx dX4_applies_66 rfl rfl ?_
            first | refine r_ialdN cx 11 0 dX4_applies_67 rfl rfl (by omega) (by omega) ?_ | refine r_iald cx 11 0 dX4_applies_67 rfl rfl (by omega) ?_
            refine r_eqi e3 ?_
            refine r_iload cx dX4_applies_68 rfl ?_
            refine r_icmpneN (tgt := 77) cx (by omega) (by omega) dX4_applies_70 (by decide) (fun h_70 => ?_) (fun h_70 => ?_)
            · skip
              refine r_iconst (v := nI 0) cx dX4_applies_77 (by decide) ?_
              refine r_eqi (y := bI (chg so be x (fol l3))) (by rw [show chg so be x (fol l3) = false by simp [chg, h_48, h_59, h_70]]; rfl) ?_
              exact r_lv (q_pk [1, 2, 3, 4, 5] rfl) (J_78 () trivial)
            · skip
              refine r_iconst (v := nI 1) cx dX4_applies_73 (by decide) ?_
              refine r_goto (tgt := 78) cx dX4_applies_74 (by decide) ?_
              refine r_eqi (y := bI (chg so be x (fol l3))) (by rw [show chg so be x (fol l3) = true by simp [chg, h_48, h_59, h_70]]; rfl) ?_
              exact r_lv (q_pk [1, 2, 3, 4, 5] rfl) (J_78 () trivial)
    · skip
      refine r_iload cx dX4_applies_11 rfl ?_
      refine r_iconst (v := nI 1) cx dX4_applies_13 (by decide) ?_
      first | refine r_iaddN cx dX4_applies_14 ?_ | refine r_iadd cx dX4_applies_14 ?_
      refine r_iload_n cx dX4_applies_15 rfl rfl ?_
      refine r_icmpgeN (tgt := 31) cx (by omega) (by omega) dX4_applies_16 (by decide) (fun h_16 => ?_) (fun h_16 => ?_)
      · skip
        obtain rfl : l3 = [] := List.eq_nil_of_length_eq_zero (by omega)
        refine r_bipush (v := nI 8) cx dX4_applies_31 (by decide) ?_
        exact r_lv (q_pk [0, 1, 2, 3, 4] rfl) (J_33 () trivial)
      · skip
        refine r_aload_n cx dX4_applies_19 rfl rfl ?_
        refine gf_X4_66 cx dX4_applies_20 22 rfl rfl ?_
        refine r_iload cx dX4_applies_23 rfl ?_
        refine r_iconst (v := nI 1) cx dX4_applies_25 (by decide) ?_
        first | refine r_iaddN cx dX4_applies_26 ?_ | refine r_iadd cx dX4_applies_26 ?_
        first | refine r_ialdN cx 3 0 dX4_applies_27 rfl rfl (by omega) (by omega) ?_ | refine r_iald cx 3 0 dX4_applies_27 rfl rfl (by omega) ?_
        refine r_eqi (y := nI (fol l3)) (rowIs_fol hx4 hx1 (fun z => by rw [z] at hlen; simp at hlen; omega)) ?_
        refine r_goto (tgt := 33) cx dX4_applies_28 (by decide) ?_
        exact r_lv (q_pk [0, 1, 2, 3, 4] rfl) (J_33 () trivial)
