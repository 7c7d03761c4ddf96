set_option maxHeartbeats 1000000 in
set_option maxRecDepth 100000 in
theorem c_X8_isSheet (l : Launch) (G : qh_G) (z M : Nat) (E : Nat → va_E) (k : Int32) : Met l yX8_isSheet wsX8_isSheet (qh_R 0) (qh_Pre G z M E [.int k]) (qh_Q G z M (qh_i (fun r E' => E = E' ∧ r = bI (¬ k < 0 ∧ k < 4)))) 0 0 (fun q => z ≤ q) := by
  refine qh_metZ (cc := cX8_isSheet) (maxL := 1) (by decide) rfl (Nat.le_of_ble_eq_true rfl) ?_
  intro pZ eZ sZ mZ aZ bZ tZ cZ RR QQ ls hx hb hml hown hts hRf hRl hH hK hl hret
  have hown : sZ.vm.findClass RX8 = some mZ.cls := hown
  have hl : lv_has ls 1 [(0, .int k)] := hl
  refine lv_iload_n hx hb dX8_isSheet_0 rfl (lv_at hl 0 rfl) ?_
  refine lv_if_lt (tgt := 13) hx hb dX8_isSheet_1 (by decide) (fun c_1 => ?_) (fun c_1 => ?_)
  · refine lv_iconst (v := 0) hx hb dX8_isSheet_13 (by decide) ?_
    exact hret dX8_isSheet_14 hH (Or.inl rfl) (⟨rfl, by first | rfl | (simp [bI, c_1])⟩)
  · refine lv_iload_n hx hb dX8_isSheet_4 rfl (lv_at hl 0 rfl) ?_
    refine lv_iconst (v := 4) hx hb dX8_isSheet_5 (by decide) ?_
    refine lv_icmp_ge (tgt := 13) hx hb dX8_isSheet_6 (by decide) (fun c_6 => ?_) (fun c_6 => ?_)
    · refine lv_iconst (v := 0) hx hb dX8_isSheet_13 (by decide) ?_
      exact hret dX8_isSheet_14 hH (Or.inl rfl) (⟨rfl, by first | rfl | (simp [bI, c_1, c_6])⟩)
    · refine lv_iconst (v := 1) hx hb dX8_isSheet_9 (by decide) ?_
      refine lv_goto (tgt := 14) hx hb dX8_isSheet_10 (by decide) ?_
      exact hret dX8_isSheet_14 hH (Or.inr rfl) (⟨rfl, by first | rfl | (simp [bI, c_1, c_6])⟩)

set_option maxHeartbeats 1000000 in
set_option maxRecDepth 100000 in
theorem c_X8_isLane (l : Launch) (G : qh_G) (z M : Nat) (E : Nat → va_E) (k : Int32) : Met l yX8_isLane wsX8_isLane (qh_R 0) (qh_Pre G z M E [.int k]) (qh_Q G z M (qh_i (fun r E' => E = E' ∧ r = bI (¬ k < 0 ∧ k ≤ 2)))) 0 0 (fun q => z ≤ q) := by
  refine qh_metZ (cc := cX8_isLane) (maxL := 1) (by decide) rfl (Nat.le_of_ble_eq_true rfl) ?_
  intro pZ eZ sZ mZ aZ bZ tZ cZ RR QQ ls hx hb hml hown hts hRf hRl hH hK hl hret
  have hown : sZ.vm.findClass RX8 = some mZ.cls := hown
  have hl : lv_has ls 1 [(0, .int k)] := hl
  refine lv_iload_n hx hb dX8_isLane_0 rfl (lv_at hl 0 rfl) ?_
  refine lv_if_lt (tgt := 13) hx hb dX8_isLane_1 (by decide) (fun c_1 => ?_) (fun c_1 => ?_)
  · refine lv_iconst (v := 0) hx hb dX8_isLane_13 (by decide) ?_
    exact hret dX8_isLane_14 hH (Or.inl rfl) (⟨rfl, by first | rfl | (simp [bI, c_1])⟩)
  · refine lv_iload_n hx hb dX8_isLane_4 rfl (lv_at hl 0 rfl) ?_
    refine lv_iconst (v := 2) hx hb dX8_isLane_5 (by decide) ?_
    refine lv_icmp_gt (tgt := 13) hx hb dX8_isLane_6 (by decide) (fun c_6 => ?_) (fun c_6 => ?_)
    · refine lv_iconst (v := 0) hx hb dX8_isLane_13 (by decide) ?_
      exact hret dX8_isLane_14 hH (Or.inl rfl) (⟨rfl, by first | rfl | (simp [bI, c_1, c_6])⟩)
    · refine lv_iconst (v := 1) hx hb dX8_isLane_9 (by decide) ?_
      refine lv_goto (tgt := 14) hx hb dX8_isLane_10 (by decide) ?_
      exact hret dX8_isLane_14 hH (Or.inr rfl) (⟨rfl, by first | rfl | (simp [bI, c_1, c_6])⟩)

set_option maxHeartbeats 1000000 in
set_option maxRecDepth 100000 in
theorem c_X3_has (l : Launch) (G : qh_G) (z M : Nat) (E : Nat → va_E) (i : Nat) (hi : i < M) (n : Int32) (u1 : Value) (u2 : Value) (k : Int32) (b_i : E i = .inr (3, [.int n, u1, u2])) : Met l yX3_has wsX3_has (qh_R 0) (qh_Pre G z M E [.ref (z + i), .int k]) (qh_Q G z M (qh_i (fun r E' => E = E' ∧ r = bI (¬ k < 0 ∧ k < n)))) 0 0 (fun q => z ≤ q) := by
  refine qh_metZ (cc := cX3_has) (maxL := 2) (by decide) rfl (Nat.le_of_ble_eq_true rfl) ?_
  intro pZ eZ sZ mZ aZ bZ tZ cZ RR QQ ls hx hb hml hown hts hRf hRl hH hK hl hret
  have hown : sZ.vm.findClass RX3 = some mZ.cls := hown
  have hl : lv_has ls 2 [(0, .ref (z + i)), (1, .int k)] := hl
  have in_X3 : ∀ w ∈ wsX30, w ∈ wsX3_has := fun w h => List.mem_cons_of_mem _ (List.mem_append_right _ h)
  have f_9 : qh_F G sZ mZ aZ 9 3 0 := qh_F.of hts in_X3 hown hK rfl 0 (by decide) (by decide +kernel)
  refine lv_iload_n hx hb dX3_has_0 rfl (lv_at hl 1 rfl) ?_
  refine lv_if_lt (tgt := 16) hx hb dX3_has_1 (by decide) (fun c_1 => ?_) (fun c_1 => ?_)
  · refine lv_iconst (v := 0) hx hb dX3_has_16 (by decide) ?_
    exact hret dX3_has_17 hH (Or.inl rfl) (⟨rfl, by first | rfl | (simp [bI, c_1])⟩)
  · refine lv_iload_n hx hb dX3_has_4 rfl (lv_at hl 1 rfl) ?_
    refine lv_aload_n hx hb dX3_has_5 rfl (lv_at hl 0 rfl) ?_
    refine qh_get hx hb hH f_9 (hi) b_i rfl dX3_has_6 ?_
    refine lv_icmp_ge (tgt := 16) hx hb dX3_has_9 (by decide) (fun c_9 => ?_) (fun c_9 => ?_)
    · refine lv_iconst (v := 0) hx hb dX3_has_16 (by decide) ?_
      exact hret dX3_has_17 hH (Or.inl rfl) (⟨rfl, by first | rfl | (simp [bI, c_1, c_9])⟩)
    · refine lv_iconst (v := 1) hx hb dX3_has_12 (by decide) ?_
      refine lv_goto (tgt := 17) hx hb dX3_has_13 (by decide) ?_
      exact hret dX3_has_17 hH (Or.inr rfl) (⟨rfl, by first | rfl | (simp [bI, c_1, c_9])⟩)

set_option maxHeartbeats 1000000 in
set_option maxRecDepth 100000 in
theorem c_X3_areThere (l : Launch) (G : qh_G) (z M : Nat) (E : Nat → va_E) (i : Nat) (hi : i < M) (n : Int32) (u1 : Value) (u2 : Value) (b_i : E i = .inr (3, [.int n, u1, u2])) : Met l yX3_areThere wsX3_areThere (qh_R 0) (qh_Pre G z M E [.ref (z + i)]) (qh_Q G z M (qh_i (fun r E' => E = E' ∧ r = bI (0 < n)))) 0 0 (fun q => z ≤ q) := by
  refine qh_metZ (cc := cX3_areThere) (maxL := 1) (by decide) rfl (Nat.le_of_ble_eq_true rfl) ?_
  intro pZ eZ sZ mZ aZ bZ tZ cZ RR QQ ls hx hb hml hown hts hRf hRl hH hK hl hret
  have hown : sZ.vm.findClass RX3 = some mZ.cls := hown
  have hl : lv_has ls 1 [(0, .ref (z + i))] := hl
  have in_X3 : ∀ w ∈ wsX30, w ∈ wsX3_areThere := fun w h => List.mem_cons_of_mem _ (List.mem_append_right _ h)
  have f_9 : qh_F G sZ mZ aZ 9 3 0 := qh_F.of hts in_X3 hown hK rfl 0 (by decide) (by decide +kernel)
  refine lv_aload_n hx hb dX3_areThere_0 rfl (lv_at hl 0 rfl) ?_
  refine qh_get hx hb hH f_9 (hi) b_i rfl dX3_areThere_1 ?_
  refine lv_if_le (tgt := 11) hx hb dX3_areThere_4 (by decide) (fun c_4 => ?_) (fun c_4 => ?_)
  · refine lv_iconst (v := 0) hx hb dX3_areThere_11 (by decide) ?_
    exact hret dX3_areThere_12 hH (Or.inl rfl) (⟨rfl, by first | rfl | (simp [bI, c_4])⟩)
  · refine lv_iconst (v := 1) hx hb dX3_areThere_7 (by decide) ?_
    refine lv_goto (tgt := 12) hx hb dX3_areThere_8 (by decide) ?_
    exact hret dX3_areThere_12 hH (Or.inr rfl) (⟨rfl, by first | rfl | (simp [bI, c_4])⟩)

set_option maxHeartbeats 1000000 in
set_option maxRecDepth 100000 in
theorem c_X1_has (l : Launch) (G : qh_G) (z M : Nat) (E : Nat → va_E) (i : Nat) (hi : i < M) (n : Int32) (u1 : Value) (u2 : Value) (h : Int64) (b_i : E i = .inr (1, [.int n, u1, u2])) : Met l yX1_has wsX1_has (qh_R 0) (qh_Pre G z M E [.ref (z + i), .long h]) (qh_Q G z M (qh_i (fun r E' => E = E' ∧ r = bI (¬ h < 0 ∧ h < n.toInt64)))) 0 0 (fun q => z ≤ q) := by
  refine qh_metZ (cc := cX1_has) (maxL := 3) (by decide) rfl (Nat.le_of_ble_eq_true rfl) ?_
  intro pZ eZ sZ mZ aZ bZ tZ cZ RR QQ ls hx hb hml hown hts hRf hRl hH hK hl hret
  have hown : sZ.vm.findClass RX1 = some mZ.cls := hown
  have hl : lv_has ls 3 [(0, .ref (z + i)), (1, .long h)] := hl
  have in_X1 : ∀ w ∈ wsX10, w ∈ wsX1_has := fun w h => List.mem_cons_of_mem _ (List.mem_append_right _ h)
  have f_9 : qh_F G sZ mZ aZ 9 1 0 := qh_F.of hts in_X1 hown hK rfl 0 (by decide) (by decide +kernel)
  refine lv_lload_n hx hb dX1_has_0 rfl (lv_at hl 1 rfl) ?_
  refine lv_lconst (v := 0) hx hb dX1_has_1 (by decide) ?_
  refine W.lcmp hx hb dX1_has_2 ?_
  refine lv_if_lt (tgt := 20) hx hb dX1_has_3 (by decide) (fun c_3 => ?_) (fun c_3 => ?_)
  · have c_3 := (lg_cmp_lt _ _).mp c_3
    refine lv_iconst (v := 0) hx hb dX1_has_20 (by decide) ?_
    exact hret dX1_has_21 hH (Or.inl rfl) (⟨rfl, by first | rfl | (simp [bI, c_3])⟩)
  · have c_3 := (not_congr (lg_cmp_lt _ _)).mp c_3
    refine lv_lload_n hx hb dX1_has_6 rfl (lv_at hl 1 rfl) ?_
    refine lv_aload_n hx hb dX1_has_7 rfl (lv_at hl 0 rfl) ?_
    refine qh_get hx hb hH f_9 (hi) b_i rfl dX1_has_8 ?_
    refine lv_i2l (v := n.toInt64) hx hb dX1_has_11 rfl ?_
    refine W.lcmp hx hb dX1_has_12 ?_
    refine lv_if_ge (tgt := 20) hx hb dX1_has_13 (by decide) (fun c_13 => ?_) (fun c_13 => ?_)
    · have c_13 := (lg_cmp_ge _ _).mp c_13
      refine lv_iconst (v := 0) hx hb dX1_has_20 (by decide) ?_
      exact hret dX1_has_21 hH (Or.inl rfl) (⟨rfl, by first | rfl | (simp [bI, c_3, c_13])⟩)
    · have c_13 := (not_congr (lg_cmp_ge _ _)).mp c_13
      refine lv_iconst (v := 1) hx hb dX1_has_16 (by decide) ?_
      refine lv_goto (tgt := 21) hx hb dX1_has_17 (by decide) ?_
      exact hret dX1_has_21 hH (Or.inr rfl) (⟨rfl, by first | rfl | (simp [bI, c_3, c_13])⟩)

set_option maxHeartbeats 1000000 in
set_option maxRecDepth 100000 in
theorem c_X3_changed (l : Launch) (G : qh_G) (z M : Nat) (E : Nat → va_E) (x : Int64) (t : Int32) (y : Int64) : Met l yX3_changed wsX3_changed (qh_R 1) (qh_Pre G z M E [.long x, .int t, .long y]) (qh_Q G z M (qh_l (fun r E' => E = E' ∧ r = chg x t y))) 0 0 (fun q => z ≤ q) := by
  refine qh_metL (cc := cX3_changed) (maxL := 5) (by decide) rfl (Nat.le_of_ble_eq_true rfl) ?_
  intro pZ eZ sZ mZ aZ bZ tZ cZ RR QQ ls hx hb hml hown hts hRf hRl hH hK hl hret
  have hown : sZ.vm.findClass RX3 = some mZ.cls := hown
  have hl : lv_has ls 5 [(0, .long x), (2, .int t), (3, .long y)] := hl
  have j_60 := hts (.methodLink RX3 60 Lib.MathLoose.min_long.x) (by decide +kernel)
  have js_60 := hts (.static Lib.MathLoose.min_long.x) (by decide +kernel)
  have ji_Math := hts (.initialized "java/lang/Math") (by decide +kernel)
  have jc_60 := hts (.code Lib.MathLoose.min_long.x Lib.MathLoose.min_long.code 4 (some .long)) (by decide +kernel)
  have j_54 := hts (.methodLink RX3 54 Lib.MathLoose.max_long.x) (by decide +kernel)
  have js_54 := hts (.static Lib.MathLoose.max_long.x) (by decide +kernel)
  have jc_54 := hts (.code Lib.MathLoose.max_long.x Lib.MathLoose.max_long.code 4 (some .long)) (by decide +kernel)
  refine lv_iload_n hx hb dX3_changed_0 rfl (lv_at hl 1 rfl) ?_
  by_cases c_1_1 : t = 1
  · refine lv_lookup (tgt := 28) (off := 27) hx hb dX3_changed_1 (by decide) (by rw [c_1_1] <;> decide) (by decide) ?_
    refine lv_lload_n hx hb dX3_changed_28 rfl (lv_at hl 0 rfl) ?_
    refine lv_lload_n hx hb dX3_changed_29 rfl (lv_at hl 2 rfl) ?_
    refine va_mmin_long hx hb (hml.trans hl.1.symm) hown j_60 js_60 ji_Math jc_60 (by rw [hRf]; exact Nat.le_of_ble_eq_true rfl) (by rw [hRl]; exact Nat.le_of_ble_eq_true rfl) (Nat.zero_le _) (Nat.zero_le _) dX3_changed_30 ?_
    refine qh_topl (y := mn x y) (rfl) ?_
    exact hret dX3_changed_33 hH (⟨rfl, by simp [chg, c_1_1]⟩)
  by_cases c_1_2 : t = 2
  · refine lv_lookup (tgt := 34) (off := 33) hx hb dX3_changed_1 (by decide) (by rw [c_1_2] <;> decide) (by decide) ?_
    refine lv_lload_n hx hb dX3_changed_34 rfl (lv_at hl 0 rfl) ?_
    refine lv_lload_n hx hb dX3_changed_35 rfl (lv_at hl 2 rfl) ?_
    refine va_mmax_long hx hb (hml.trans hl.1.symm) hown j_54 js_54 ji_Math jc_54 (by rw [hRf]; exact Nat.le_of_ble_eq_true rfl) (by rw [hRl]; exact Nat.le_of_ble_eq_true rfl) (Nat.zero_le _) (Nat.zero_le _) dX3_changed_36 ?_
    refine qh_topl (y := mx x y) (mx_cls x y) ?_
    exact hret dX3_changed_39 hH (⟨rfl, by simp [chg, c_1_1, c_1_2]⟩)
  refine lv_lookup (tgt := 40) (off := 39) hx hb dX3_changed_1 (by decide) (by rw [lv_osw (k := 1) c_1_1 (by decide), lv_osw (k := 2) c_1_2 (by decide)] <;> rfl) (by decide) ?_
  refine lv_lload_n hx hb dX3_changed_40 rfl (lv_at hl 0 rfl) ?_
  refine lv_lload_n hx hb dX3_changed_41 rfl (lv_at hl 2 rfl) ?_
  refine lv_ladd hx hb dX3_changed_42 ?_
  exact hret dX3_changed_43 hH (⟨rfl, by simp [chg, c_1_1, c_1_2]⟩)
