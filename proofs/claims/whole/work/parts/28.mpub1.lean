/-- the model's world by the numbers that matter (lookedInto, place 81, is left to looks) -/
def ME (G : qh_G) (z : Nat) (E : Nat → va_E) (tr : Int32) (lf : Int32) (n : Nat) (f : Nat → Int64) (g : Nat → Int64) (mb : Nat → Int64) (m2 : Nat) (kd : Nat → Int32) (pa : Nat → Int32) (ln : Nat) (ts : Nat → Int32) (ga : Nat → Nat) (gb : Nat → Nat) (va : Nat → Int64) (rn : Nat) (cn : Nat → Nat) (vs : Nat → Int64) (so : Nat → Int32) (sg : Nat → Int32) (ce : Nat → Int32) : Prop := ∃ (pt : Int32) (rm : Int32) (rh : Int32) (sf : Int32) (sl : Int32) (r1 : Nat → Int32) (r2 : Nat → Int32) (r3 : Nat → Int32) (k1 : Nat → Int64) (k2 : Nat → Int64), E 63 = .inr (9, [.int lf, .int tr, .ref (z + 64), .ref (z + 65), .ref (z + 66), .int (nI n), .int (nI m2), .ref (z + 67), .ref (z + 68), .ref (z + 69), .ref (z + 70), .ref (z + 71), .int (nI ln), .ref (z + 72), .ref (z + 73), .ref (z + 74), .ref (z + 75), .int pt, .int rm, .int rh, .ref (z + 76), .ref (z + 77), .ref (z + 78), .ref (z + 79), .ref (z + 80), .int sf, .int sl, .ref (z + 81), .int (nI rn), .ref (z + 82), .ref (z + 83)]) ∧ E 64 = qa_I G 4 so ∧ E 65 = qa_I G 4 sg ∧ E 66 = qa_I G 240 ce ∧ E 67 = qa_J G 16 f ∧ E 68 = qa_J G 16 g ∧ E 69 = qa_J G 16 mb ∧ E 70 = qa_I G 3 kd ∧ E 71 = qa_I G 3 pa ∧ E 72 = qa_I G 24 ts ∧ E 73 = qa_I G 24 (rdC ga) ∧ E 74 = qa_I G 24 (rdC gb) ∧ E 75 = qa_J G 24 va ∧ E 76 = qa_I G 16 r1 ∧ E 77 = qa_I G 3 r2 ∧ E 78 = qa_I G 3 r3 ∧ E 79 = qa_J G 16 k1 ∧ E 80 = qa_J G 16 k2 ∧ E 82 = qa_I G 8 (rdC cn) ∧ E 83 = qa_J G 8 vs
/-- what holds of the model's numbers at any time -/
def MW (n m2 ln rn : Nat) (ga gb cn : Nat → Nat) (ts : Nat → Int32) (va : Nat → Int64) (kd so sg : Nat → Int32) : Prop := (n ≤ 16 ∧ m2 ≤ 3 ∧ ln ≤ 24 ∧ rn ≤ 8) ∧ (∀ t, t < ln → ga t ≤ gb t ∧ gb t < n) ∧ (∀ q, q < rn → cn q < n) ∧ (∀ t, t < ln → okS (ts t)) ∧ (∀ t, t < ln → (ts t = 3 ∨ ts t = 4) → ∃ j, j < m2 ∧ va t = lN j) ∧ (∀ j, j < m2 → kd j = 0 ∨ kd j = 1 ∨ kd j = 2) ∧ (∀ k, k < 4 → so k = -9 ∨ ((so k = 0 ∨ so k = 1 ∨ so k = 2) ∧ ∃ q : Nat, q ≤ 60 ∧ sg k = nI q))
theorem cnt_sp {n : Nat} (h : n ≤ 16) : cntR (fun s => (spN n s).isSome) 1 31 = 2 * n - 1 := by
  have hd : ∀ n, n < 17 → cntR (fun s => (spN n s).isSome) 1 31 = 2 * n - 1 := by decide +kernel
  exact hd n (by omega)
theorem in_01 {x : Int32} (h : ¬ x < 0 ∧ ¬ 1 < x) (h0 : ¬ x = 0) : x = 1 := by
  obtain ⟨t, ht, e⟩ := nI_of h.1
  subst e
  have h1 : ¬ 1 < t := fun w => h.2 (nI_lt (a := 1) w ht)
  have h2 : ¬ t = 0 := fun w => h0 (by rw [w]; rfl)
  have h3 : t = 1 := by omega
  rw [h3]; rfl
set_option maxHeartbeats 1000000 in
set_option maxRecDepth 100000 in
theorem c_X9_trace (l : Launch) (G : qh_G) (z M : Nat) (E : Nat → va_E) (tr : Int32) (lf : Int32) (n : Nat) (f : Nat → Int64) (g : Nat → Int64) (mb : Nat → Int64) (m2 : Nat) (kd : Nat → Int32) (pa : Nat → Int32) (ln : Nat) (ts : Nat → Int32) (ga : Nat → Nat) (gb : Nat → Nat) (va : Nat → Int64) (rn : Nat) (cn : Nat → Nat) (vs : Nat → Int64) (so : Nat → Int32) (sg : Nat → Int32) (ce : Nat → Int32) (hM : 84 ≤ M) (hX : ME G z E tr lf n f g mb m2 kd pa ln ts ga gb va rn cn vs so sg ce) (hW : MW n m2 ln rn ga gb cn ts va kd so sg) : Met l yX9_trace wsX9_trace (qh_R 0) (qh_Pre G z M E [.ref (z + 63)]) (qh_Q G z M (qh_i (fun r E' => E = E' ∧ r = tr))) 0 0 (fun q => z ≤ q) := by
  refine qh_metI (cc := cX9_trace) (maxL := 1) (by decide) rfl (Nat.le_of_ble_eq_true rfl) ?_
  intro pZ eZ sZ mZ aZ bZ tZ cZ RR QQ ls hx hb hml hown hts hRf hRl hH hK hl hret
  have hown : sZ.vm.findClass RX9 = some mZ.cls := hown
  have hl : lv_has ls 1 [(0, .ref (z + 63))] := hl
  obtain ⟨pt, rm, rh, sf, sl, r1, r2, r3, k1, k2, b_63, b_64, b_65, b_66, b_67, b_68, b_69, b_70, b_71, b_72, b_73, b_74, b_75, b_76, b_77, b_78, b_79, b_80, b_82, b_83⟩ := hX
  obtain ⟨⟨hn16, hm3, hl24, hr8⟩, hval, hcn, hok, hvh, hkd, hso⟩ := hW
  have in_X9 : ∀ w ∈ wsX90, w ∈ wsX9_trace := fun w h => List.mem_cons_of_mem _ (List.mem_append_right _ h)
  have f_236 : qh_F G sZ mZ aZ 236 9 1 := qh_F.of hts in_X9 hown hK rfl 1 (by decide) (by decide +kernel)
  refine lv_aload_n hx hb dX9_trace_0 rfl (lv_at hl 0 rfl) ?_
  refine qh_get hx hb hH f_236 (by omega) b_63 rfl dX9_trace_1 ?_
  exact hret dX9_trace_4 hH (⟨rfl, rfl⟩)

set_option maxHeartbeats 1000000 in
set_option maxRecDepth 100000 in
theorem c_X9_fault (l : Launch) (G : qh_G) (z M : Nat) (E : Nat → va_E) (tr : Int32) (lf : Int32) (n : Nat) (f : Nat → Int64) (g : Nat → Int64) (mb : Nat → Int64) (m2 : Nat) (kd : Nat → Int32) (pa : Nat → Int32) (ln : Nat) (ts : Nat → Int32) (ga : Nat → Nat) (gb : Nat → Nat) (va : Nat → Int64) (rn : Nat) (cn : Nat → Nat) (vs : Nat → Int64) (so : Nat → Int32) (sg : Nat → Int32) (ce : Nat → Int32) (hM : 84 ≤ M) (hX : ME G z E tr lf n f g mb m2 kd pa ln ts ga gb va rn cn vs so sg ce) (hW : MW n m2 ln rn ga gb cn ts va kd so sg) : Met l yX9_fault wsX9_fault (qh_R 0) (qh_Pre G z M E [.ref (z + 63)]) (qh_Q G z M (qh_i (fun r E' => E = E' ∧ r = lf))) 0 0 (fun q => z ≤ q) := by
  refine qh_metI (cc := cX9_fault) (maxL := 1) (by decide) rfl (Nat.le_of_ble_eq_true rfl) ?_
  intro pZ eZ sZ mZ aZ bZ tZ cZ RR QQ ls hx hb hml hown hts hRf hRl hH hK hl hret
  have hown : sZ.vm.findClass RX9 = some mZ.cls := hown
  have hl : lv_has ls 1 [(0, .ref (z + 63))] := hl
  obtain ⟨pt, rm, rh, sf, sl, r1, r2, r3, k1, k2, b_63, b_64, b_65, b_66, b_67, b_68, b_69, b_70, b_71, b_72, b_73, b_74, b_75, b_76, b_77, b_78, b_79, b_80, b_82, b_83⟩ := hX
  obtain ⟨⟨hn16, hm3, hl24, hr8⟩, hval, hcn, hok, hvh, hkd, hso⟩ := hW
  have in_X9 : ∀ w ∈ wsX90, w ∈ wsX9_fault := fun w h => List.mem_cons_of_mem _ (List.mem_append_right _ h)
  have f_71 : qh_F G sZ mZ aZ 71 9 0 := qh_F.of hts in_X9 hown hK rfl 0 (by decide) (by decide +kernel)
  refine lv_aload_n hx hb dX9_fault_0 rfl (lv_at hl 0 rfl) ?_
  refine qh_get hx hb hH f_71 (by omega) b_63 rfl dX9_fault_1 ?_
  exact hret dX9_fault_4 hH (⟨rfl, rfl⟩)

set_option maxHeartbeats 1000000 in
set_option maxRecDepth 100000 in
theorem c_X9_at (l : Launch) (G : qh_G) (z M : Nat) (E : Nat → va_E) (tr : Int32) (lf : Int32) (n : Nat) (f : Nat → Int64) (g : Nat → Int64) (mb : Nat → Int64) (m2 : Nat) (kd : Nat → Int32) (pa : Nat → Int32) (ln : Nat) (ts : Nat → Int32) (ga : Nat → Nat) (gb : Nat → Nat) (va : Nat → Int64) (rn : Nat) (cn : Nat → Nat) (vs : Nat → Int64) (so : Nat → Int32) (sg : Nat → Int32) (ce : Nat → Int32) (hM : 84 ≤ M) (hX : ME G z E tr lf n f g mb m2 kd pa ln ts ga gb va rn cn vs so sg ce) (hW : MW n m2 ln rn ga gb cn ts va kd so sg) (x : Int32) (y : Int32) : Met l yX9_at wsX9_at (qh_R 1) (qh_Pre G z M E [.ref (z + 63), .int x, .int y]) (qh_Q G z M (qh_l (fun r E' => E = E' ∧ r = atR n f g x y))) 0 0 (fun q => z ≤ q) := by
  refine qh_metL (cc := cX9_at) (maxL := 3) (by decide) rfl (Nat.le_of_ble_eq_true rfl) ?_
  intro pZ eZ sZ mZ aZ bZ tZ cZ RR QQ ls hx hb hml hown hts hRf hRl hH hK hl hret
  have hown : sZ.vm.findClass RX9 = some mZ.cls := hown
  have hl : lv_has ls 3 [(0, .ref (z + 63)), (1, .int x), (2, .int y)] := hl
  obtain ⟨pt, rm, rh, sf, sl, r1, r2, r3, k1, k2, b_63, b_64, b_65, b_66, b_67, b_68, b_69, b_70, b_71, b_72, b_73, b_74, b_75, b_76, b_77, b_78, b_79, b_80, b_82, b_83⟩ := hX
  obtain ⟨⟨hn16, hm3, hl24, hr8⟩, hval, hcn, hok, hvh, hkd, hso⟩ := hW
  have in_X9 : ∀ w ∈ wsX90, w ∈ wsX9_at := fun w h => List.mem_cons_of_mem _ (List.mem_append_right _ h)
  have k_75 := hts (.constantLong RX9 75 (-9223372036854775808)) (by decide +kernel)
  have f_23 : qh_F G sZ mZ aZ 23 9 8 := qh_F.of hts in_X9 hown hK rfl 8 (by decide) (by decide +kernel)
  have f_19 : qh_F G sZ mZ aZ 19 9 7 := qh_F.of hts in_X9 hown hK rfl 7 (by decide) (by decide +kernel)
  refine lv_aload_n hx hb dX9_at_0 rfl (lv_at hl 0 rfl) ?_
  refine lv_iload_n hx hb dX9_at_1 rfl (lv_at hl 1 rfl) ?_
  refine qh_runV (As := [.int x]) (rest := []) (C := RX9) ⟨hx, hb, hml, hown, hts⟩ hK hH (c_X9_isCell l G z M E lf tr n m2 ln pt rm rh sf sl rn (hM) b_63 x) (cwV 1 hts gX9_at_X9_isCell rfl rfl rfl (by decide +kernel) (by rw [hRf, hRl]; exact ⟨Nat.le_of_ble_eq_true rfl, Nat.le_of_ble_eq_true rfl⟩)) (by omega) b_63 rfl rfl hl.1 rfl (Nat.le_of_ble_eq_true rfl) dX9_at_2 ⟨Nat.zero_le _, Nat.zero_le _⟩ (qh_kki fun r_2 E_1 H locs hpost hH => ?_)
  obtain ⟨rfl, rfl⟩ := hpost
  refine lv_if_eq (tgt := 17) hx hb dX9_at_5 (by decide) (fun c_5 => ?_) (fun c_5 => ?_)
  · have c_5 := bI_eq.mp c_5
    refine lv_ldc2 hx hb hown k_75 dX9_at_17 ?_
    refine qh_topl (y := LOSTv) (rfl) ?_
    exact hret dX9_at_20 hH (⟨rfl, by rw [atR, if_neg c_5]⟩)
  · have c_5 := bI_ne.mp c_5
    obtain ⟨t, ht, et⟩ := nI_of_in (by omega) c_5
    have ec : x.toNatClampNeg = t := by rw [et]; exact nI_clamp (by omega)
    refine lv_iload_n hx hb dX9_at_8 rfl (lv_at hl 2 rfl) ?_
    refine lv_iconst (v := 0) hx hb dX9_at_9 (by decide) ?_
    refine lv_iconst (v := 1) hx hb dX9_at_10 (by decide) ?_
    refine qh_runS (As := [.int y, .int 0, .int 1]) (rest := []) ⟨hx, hb, hml, hown, hts⟩ hK hH (c_X9_within l G z M E y 0 1) (va_cwS 3 hts gX9_at_X9_within rfl rfl rfl (by decide +kernel) (by rw [hRf, hRl]; exact ⟨Nat.le_of_ble_eq_true rfl, Nat.le_of_ble_eq_true rfl⟩)) rfl hl.1 rfl (Nat.le_of_ble_eq_true rfl) dX9_at_11 ⟨Nat.zero_le _, Nat.zero_le _⟩ (qh_kki fun r_11 E_2 H locs hpost hH => ?_)
    obtain ⟨rfl, rfl⟩ := hpost
    refine lv_if_ne (tgt := 21) hx hb dX9_at_14 (by decide) (fun c_14 => ?_) (fun c_14 => ?_)
    · have c_14 := bI_ne.mp c_14
      refine lv_iload_n hx hb dX9_at_21 rfl (lv_at hl 2 rfl) ?_
      refine lv_if_ne (tgt := 34) hx hb dX9_at_22 (by decide) (fun c_22 => ?_) (fun c_22 => ?_)
      · refine lv_aload_n hx hb dX9_at_34 rfl (lv_at hl 0 rfl) ?_
        refine qh_get hx hb hH f_23 (by omega) b_63 rfl dX9_at_35 ?_
        refine lv_iload_n hx hb dX9_at_38 rfl (lv_at hl 1 rfl) ?_
        refine qh_lald hx hb hK hH (by omega) b_68 (j := t) (et) (by omega) (by omega) dX9_at_39 ?_
        exact hret dX9_at_40 hH (⟨rfl, by rw [atR, if_pos c_5, if_neg c_22, if_pos (in_01 c_14 c_22), ec]⟩)
      · refine lv_aload_n hx hb dX9_at_25 rfl (lv_at hl 0 rfl) ?_
        refine qh_get hx hb hH f_19 (by omega) b_63 rfl dX9_at_26 ?_
        refine lv_iload_n hx hb dX9_at_29 rfl (lv_at hl 1 rfl) ?_
        refine qh_lald hx hb hK hH (by omega) b_67 (j := t) (et) (by omega) (by omega) dX9_at_30 ?_
        refine lv_goto (tgt := 40) hx hb dX9_at_31 (by decide) ?_
        exact hret dX9_at_40 hH (⟨rfl, by rw [atR, if_pos c_5, if_pos c_22, ec]⟩)
    · have c_14 := bI_eq.mp c_14
      refine lv_ldc2 hx hb hown k_75 dX9_at_17 ?_
      refine qh_topl (y := LOSTv) (rfl) ?_
      exact hret dX9_at_20 hH (⟨rfl, by rw [atR, if_pos c_5, if_neg (fun w => c_14 (by rw [w]; decide)), if_neg (fun w => c_14 (by rw [w]; decide))]⟩)

set_option maxHeartbeats 1000000 in
set_option maxRecDepth 100000 in
theorem c_X9_many (l : Launch) (G : qh_G) (z M : Nat) (E : Nat → va_E) (tr : Int32) (lf : Int32) (n : Nat) (f : Nat → Int64) (g : Nat → Int64) (mb : Nat → Int64) (m2 : Nat) (kd : Nat → Int32) (pa : Nat → Int32) (ln : Nat) (ts : Nat → Int32) (ga : Nat → Nat) (gb : Nat → Nat) (va : Nat → Int64) (rn : Nat) (cn : Nat → Nat) (vs : Nat → Int64) (so : Nat → Int32) (sg : Nat → Int32) (ce : Nat → Int32) (hM : 84 ≤ M) (hX : ME G z E tr lf n f g mb m2 kd pa ln ts ga gb va rn cn vs so sg ce) (hW : MW n m2 ln rn ga gb cn ts va kd so sg) (x : Int32) : Met l yX9_many wsX9_many (qh_R 0) (qh_Pre G z M E [.ref (z + 63), .int x]) (qh_Q G z M (qh_i (fun r E' => E = E' ∧ r = manR n m2 ln rn x))) 0 0 (fun q => z ≤ q) := by
  refine qh_metI (cc := cX9_many) (maxL := 2) (by decide) rfl (Nat.le_of_ble_eq_true rfl) ?_
  intro pZ eZ sZ mZ aZ bZ tZ cZ RR QQ ls hx hb hml hown hts hRf hRl hH hK hl hret
  have hown : sZ.vm.findClass RX9 = some mZ.cls := hown
  have hl : lv_has ls 2 [(0, .ref (z + 63)), (1, .int x)] := hl
  obtain ⟨pt, rm, rh, sf, sl, r1, r2, r3, k1, k2, b_63, b_64, b_65, b_66, b_67, b_68, b_69, b_70, b_71, b_72, b_73, b_74, b_75, b_76, b_77, b_78, b_79, b_80, b_82, b_83⟩ := hX
  obtain ⟨⟨hn16, hm3, hl24, hr8⟩, hval, hcn, hok, hvh, hkd, hso⟩ := hW
  have in_X9 : ∀ w ∈ wsX90, w ∈ wsX9_many := fun w h => List.mem_cons_of_mem _ (List.mem_append_right _ h)
  have f_81 : qh_F G sZ mZ aZ 81 9 5 := qh_F.of hts in_X9 hown hK rfl 5 (by decide) (by decide +kernel)
  have f_84 : qh_F G sZ mZ aZ 84 9 6 := qh_F.of hts in_X9 hown hK rfl 6 (by decide) (by decide +kernel)
  have f_120 : qh_F G sZ mZ aZ 120 9 12 := qh_F.of hts in_X9 hown hK rfl 12 (by decide) (by decide +kernel)
  have f_117 : qh_F G sZ mZ aZ 117 9 28 := qh_F.of hts in_X9 hown hK rfl 28 (by decide) (by decide +kernel)
  refine lv_iload_n hx hb dX9_many_0 rfl (lv_at hl 1 rfl) ?_
  by_cases c_1_0 : x = 0
  · refine lv_tableIn (tgt := 36) (off := 35) hx hb dX9_many_1 (by rw [c_1_0]; decide) (by rw [c_1_0]; decide) (by rw [c_1_0]; decide) (by decide) ?_
    refine lv_aload_n hx hb dX9_many_36 rfl (lv_at hl 0 rfl) ?_
    refine qh_get hx hb hH f_81 (by omega) b_63 rfl dX9_many_37 ?_
    exact hret dX9_many_40 hH (⟨rfl, by rw [manR, if_pos c_1_0]⟩)
  by_cases c_1_1 : x = 1
  · refine lv_tableIn (tgt := 41) (off := 40) hx hb dX9_many_1 (by rw [c_1_1]; decide) (by rw [c_1_1]; decide) (by rw [c_1_1]; decide) (by decide) ?_
    refine lv_aload_n hx hb dX9_many_41 rfl (lv_at hl 0 rfl) ?_
    refine qh_get hx hb hH f_84 (by omega) b_63 rfl dX9_many_42 ?_
    exact hret dX9_many_45 hH (⟨rfl, by rw [manR, if_neg c_1_0, if_pos c_1_1]⟩)
  by_cases c_1_2 : x = 2
  · refine lv_tableIn (tgt := 46) (off := 45) hx hb dX9_many_1 (by rw [c_1_2]; decide) (by rw [c_1_2]; decide) (by rw [c_1_2]; decide) (by decide) ?_
    refine lv_aload_n hx hb dX9_many_46 rfl (lv_at hl 0 rfl) ?_
    refine qh_get hx hb hH f_120 (by omega) b_63 rfl dX9_many_47 ?_
    exact hret dX9_many_50 hH (⟨rfl, by rw [manR, if_neg c_1_0, if_neg c_1_1, if_pos c_1_2]⟩)
  by_cases c_1_3 : x = 3
  · refine lv_tableIn (tgt := 51) (off := 50) hx hb dX9_many_1 (by rw [c_1_3]; decide) (by rw [c_1_3]; decide) (by rw [c_1_3]; decide) (by decide) ?_
    refine lv_aload_n hx hb dX9_many_51 rfl (lv_at hl 0 rfl) ?_
    refine qh_get hx hb hH f_81 (by omega) b_63 rfl dX9_many_52 ?_
    refine lv_if_ne (tgt := 62) hx hb dX9_many_55 (by decide) (fun c_55 => ?_) (fun c_55 => ?_)
    · have hn0 : ¬ n = 0 := fun w => c_55 (by rw [w]; rfl)
      refine lv_iconst (v := 2) hx hb dX9_many_62 (by decide) ?_
      refine lv_aload_n hx hb dX9_many_63 rfl (lv_at hl 0 rfl) ?_
      refine qh_get hx hb hH f_81 (by omega) b_63 rfl dX9_many_64 ?_
      refine lv_imul hx hb dX9_many_67 ?_
      refine qh_topi (y := nI (2 * n)) (pk_mul 2 n) ?_
      refine lv_iconst (v := 1) hx hb dX9_many_68 (by decide) ?_
      refine lv_isub hx hb dX9_many_69 ?_
      refine qh_topi (y := nI (2 * n - 1)) (pk_sub (b := 1) (by omega)) ?_
      exact hret dX9_many_70 hH (⟨rfl, by rw [manR, if_neg c_1_0, if_neg c_1_1, if_neg c_1_2, if_pos c_1_3, cnt_sp hn16]⟩)
    · have hn0 : n = 0 := (nI_eq (b := 0) (by omega) (by decide)).mp c_55
      refine lv_iconst (v := 0) hx hb dX9_many_58 (by decide) ?_
      refine lv_goto (tgt := 70) hx hb dX9_many_59 (by decide) ?_
      exact hret dX9_many_70 hH (⟨rfl, by rw [manR, if_neg c_1_0, if_neg c_1_1, if_neg c_1_2, if_pos c_1_3, cnt_sp hn16, hn0]; rfl⟩)
  by_cases c_1_4 : x = 4
  · refine lv_tableIn (tgt := 71) (off := 70) hx hb dX9_many_1 (by rw [c_1_4]; decide) (by rw [c_1_4]; decide) (by rw [c_1_4]; decide) (by decide) ?_
    refine lv_aload_n hx hb dX9_many_71 rfl (lv_at hl 0 rfl) ?_
    refine qh_get hx hb hH f_117 (by omega) b_63 rfl dX9_many_72 ?_
    exact hret dX9_many_75 hH (⟨rfl, by rw [manR, if_neg c_1_0, if_neg c_1_1, if_neg c_1_2, if_neg c_1_3, if_pos c_1_4]⟩)
  refine lv_tableOut (tgt := 76) hx hb dX9_many_1 (qs_out5 c_1_0 c_1_1 c_1_2 c_1_3 c_1_4) (by decide) ?_
  refine lv_bipush (v := (-2)) hx hb dX9_many_76 (by decide) ?_
  exact hret dX9_many_78 hH (⟨rfl, by rw [manR, if_neg c_1_0, if_neg c_1_1, if_neg c_1_2, if_neg c_1_3, if_neg c_1_4]⟩)

set_option maxHeartbeats 1000000 in
set_option maxRecDepth 100000 in
theorem c_X9_ofHelper (l : Launch) (G : qh_G) (z M : Nat) (E : Nat → va_E) (tr : Int32) (lf : Int32) (n : Nat) (f : Nat → Int64) (g : Nat → Int64) (mb : Nat → Int64) (m2 : Nat) (kd : Nat → Int32) (pa : Nat → Int32) (ln : Nat) (ts : Nat → Int32) (ga : Nat → Nat) (gb : Nat → Nat) (va : Nat → Int64) (rn : Nat) (cn : Nat → Nat) (vs : Nat → Int64) (so : Nat → Int32) (sg : Nat → Int32) (ce : Nat → Int32) (hM : 84 ≤ M) (hX : ME G z E tr lf n f g mb m2 kd pa ln ts ga gb va rn cn vs so sg ce) (hW : MW n m2 ln rn ga gb cn ts va kd so sg) (x : Int32) (y : Int32) : Met l yX9_ofHelper wsX9_ofHelper (qh_R 1) (qh_Pre G z M E [.ref (z + 63), .int x, .int y]) (qh_Q G z M (qh_i (fun r E' => E = E' ∧ r = ohR m2 kd pa ln ts va x y))) 0 0 (fun q => z ≤ q) := by
  refine qh_metI (cc := cX9_ofHelper) (maxL := 3) (by decide) rfl (Nat.le_of_ble_eq_true rfl) ?_
  intro pZ eZ sZ mZ aZ bZ tZ cZ RR QQ ls hx hb hml hown hts hRf hRl hH hK hl hret
  have hown : sZ.vm.findClass RX9 = some mZ.cls := hown
  have hl : lv_has ls 3 [(0, .ref (z + 63)), (1, .int x), (2, .int y)] := hl
  obtain ⟨pt, rm, rh, sf, sl, r1, r2, r3, k1, k2, b_63, b_64, b_65, b_66, b_67, b_68, b_69, b_70, b_71, b_72, b_73, b_74, b_75, b_76, b_77, b_78, b_79, b_80, b_82, b_83⟩ := hX
  obtain ⟨⟨hn16, hm3, hl24, hr8⟩, hval, hcn, hok, hvh, hkd, hso⟩ := hW
  have in_X9 : ∀ w ∈ wsX90, w ∈ wsX9_ofHelper := fun w h => List.mem_cons_of_mem _ (List.mem_append_right _ h)
  have f_29 : qh_F G sZ mZ aZ 29 9 10 := qh_F.of hts in_X9 hown hK rfl 10 (by decide) (by decide +kernel)
  have f_32 : qh_F G sZ mZ aZ 32 9 11 := qh_F.of hts in_X9 hown hK rfl 11 (by decide) (by decide +kernel)
  refine lv_aload_n hx hb dX9_ofHelper_0 rfl (lv_at hl 0 rfl) ?_
  refine lv_iload_n hx hb dX9_ofHelper_1 rfl (lv_at hl 1 rfl) ?_
  refine qh_runV (As := [.int x]) (rest := []) (C := RX9) ⟨hx, hb, hml, hown, hts⟩ hK hH (c_X9_isHelper l G z M E lf tr n m2 ln pt rm rh sf sl rn (hM) b_63 x) (cwV 1 hts gX9_ofHelper_X9_isHelper rfl rfl rfl (by decide +kernel) (by rw [hRf, hRl]; exact ⟨Nat.le_of_ble_eq_true rfl, Nat.le_of_ble_eq_true rfl⟩)) (by omega) b_63 rfl rfl hl.1 rfl (Nat.le_of_ble_eq_true rfl) dX9_ofHelper_2 ⟨Nat.zero_le _, Nat.zero_le _⟩ (qh_kki fun r_2 E_1 H locs hpost hH => ?_)
  obtain ⟨rfl, rfl⟩ := hpost
  refine lv_if_ne (tgt := 10) hx hb dX9_ofHelper_5 (by decide) (fun c_5 => ?_) (fun c_5 => ?_)
  · have c_5 := bI_ne.mp c_5
    obtain ⟨t, ht, et⟩ := nI_of_in (by omega) c_5
    have ec : x.toNatClampNeg = t := by rw [et]; exact nI_clamp (by omega)
    refine lv_iload_n hx hb dX9_ofHelper_10 rfl (lv_at hl 2 rfl) ?_
    by_cases c_11_0 : y = 0
    · refine lv_tableIn (tgt := 40) (off := 29) hx hb dX9_ofHelper_11 (by rw [c_11_0]; decide) (by rw [c_11_0]; decide) (by rw [c_11_0]; decide) (by decide) ?_
      refine lv_aload_n hx hb dX9_ofHelper_40 rfl (lv_at hl 0 rfl) ?_
      refine qh_get hx hb hH f_29 (by omega) b_63 rfl dX9_ofHelper_41 ?_
      refine lv_iload_n hx hb dX9_ofHelper_44 rfl (lv_at hl 1 rfl) ?_
      refine qh_iald hx hb hK hH (by omega) b_70 (j := t) (et) (by omega) (by omega) dX9_ofHelper_45 ?_
      exact hret dX9_ofHelper_46 hH (⟨rfl, by rw [ohR, if_pos c_5, if_pos c_11_0, ec]⟩)
    by_cases c_11_1 : y = 1
    · refine lv_tableIn (tgt := 47) (off := 36) hx hb dX9_ofHelper_11 (by rw [c_11_1]; decide) (by rw [c_11_1]; decide) (by rw [c_11_1]; decide) (by decide) ?_
      refine lv_aload_n hx hb dX9_ofHelper_47 rfl (lv_at hl 0 rfl) ?_
      refine qh_get hx hb hH f_32 (by omega) b_63 rfl dX9_ofHelper_48 ?_
      refine lv_iload_n hx hb dX9_ofHelper_51 rfl (lv_at hl 1 rfl) ?_
      refine qh_iald hx hb hK hH (by omega) b_71 (j := t) (et) (by omega) (by omega) dX9_ofHelper_52 ?_
      exact hret dX9_ofHelper_53 hH (⟨rfl, by rw [ohR, if_pos c_5, if_neg c_11_0, if_pos c_11_1, ec]⟩)
    by_cases c_11_2 : y = 2
    · refine lv_tableIn (tgt := 54) (off := 43) hx hb dX9_ofHelper_11 (by rw [c_11_2]; decide) (by rw [c_11_2]; decide) (by rw [c_11_2]; decide) (by decide) ?_
      have hst : strg m2 kd pa x.toInt64 = stM (kd t) (pa t) := by rw [et, nI_l (by omega), strg_lN ht hm3, stM_stv (hkd t ht)]
      rw [et] at hl
      refine lv_aload_n hx hb dX9_ofHelper_54 rfl (lv_at hl 0 rfl) ?_
      refine lv_iload_n hx hb dX9_ofHelper_55 rfl (lv_at hl 1 rfl) ?_
      refine qh_runV (As := [.int (nI t)]) (rest := []) (C := RX9) ⟨hx, hb, hml, hown, hts⟩ hK hH (c_X9_strengthOf l G z M E lf tr n m2 ln pt rm rh sf sl rn (hM) b_63 t kd pa (by omega) b_70 b_71) (cwV 1 hts gX9_ofHelper_X9_strengthOf rfl rfl rfl (by decide +kernel) (by rw [hRf, hRl]; exact ⟨Nat.le_of_ble_eq_true rfl, Nat.le_of_ble_eq_true rfl⟩)) (by omega) b_63 rfl rfl hl.1 rfl (Nat.le_of_ble_eq_true rfl) dX9_ofHelper_56 ⟨Nat.zero_le _, Nat.zero_le _⟩ (qh_kki fun r_56 E_2 H locs hpost hH => ?_)
      obtain ⟨rfl, rfl⟩ := hpost
      exact hret dX9_ofHelper_59 hH (⟨rfl, by rw [ohR, if_pos c_5, if_neg c_11_0, if_neg c_11_1, if_pos c_11_2, hst]⟩)
    by_cases c_11_3 : y = 3
    · refine lv_tableIn (tgt := 60) (off := 49) hx hb dX9_ofHelper_11 (by rw [c_11_3]; decide) (by rw [c_11_3]; decide) (by rw [c_11_3]; decide) (by decide) ?_
      refine lv_aload_n hx hb dX9_ofHelper_60 rfl (lv_at hl 0 rfl) ?_
      refine lv_iload_n hx hb dX9_ofHelper_61 rfl (lv_at hl 1 rfl) ?_
      refine qh_runV (As := [.int x]) (rest := []) (C := RX9) ⟨hx, hb, hml, hown, hts⟩ hK hH (c_X9_actsOf l G z M E lf tr n m2 ln pt rm rh sf sl rn (hM) b_63 ts ga gb va x (by omega) (hok) b_72 b_75) (cwV 1 hts gX9_ofHelper_X9_actsOf rfl rfl rfl (by decide +kernel) (by rw [hRf, hRl]; exact ⟨Nat.le_of_ble_eq_true rfl, Nat.le_of_ble_eq_true rfl⟩)) (by omega) b_63 rfl rfl hl.1 rfl (Nat.le_of_ble_eq_true rfl) dX9_ofHelper_62 ⟨Nat.zero_le _, Nat.zero_le _⟩ (qh_kki fun r_62 E_3 H locs hpost hH => ?_)
      obtain ⟨rfl, rfl⟩ := hpost
      exact hret dX9_ofHelper_65 hH (⟨rfl, by rw [ohR, if_pos c_5, if_neg c_11_0, if_neg c_11_1, if_neg c_11_2, if_pos c_11_3]⟩)
    refine lv_tableOut (tgt := 66) hx hb dX9_ofHelper_11 (qs_out4 c_11_0 c_11_1 c_11_2 c_11_3) (by decide) ?_
    refine lv_bipush (v := (-2)) hx hb dX9_ofHelper_66 (by decide) ?_
    exact hret dX9_ofHelper_68 hH (⟨rfl, by rw [ohR, if_pos c_5, if_neg c_11_0, if_neg c_11_1, if_neg c_11_2, if_neg c_11_3]⟩)
  · have c_5 := bI_eq.mp c_5
    refine lv_iconst (v := (-1)) hx hb dX9_ofHelper_8 (by decide) ?_
    exact hret dX9_ofHelper_9 hH (⟨rfl, by rw [ohR, if_neg c_5]⟩)
