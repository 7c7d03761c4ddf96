theorem dg_ne {x : Int32} (h : isDg x) : ¬ x - 48 = -9 := by
  intro w
  have e : x = 39 := by
    have := congrArg (· + 48) w
    simpa using this
  subst e
  exact absurd h.1 (by decide)
set_option maxHeartbeats 1000000 in
set_option maxRecDepth 100000 in
theorem c_X9_isSign (l : Launch) (G : qh_G) (z M : Nat) (E : Nat → va_E) (fa : Int32) (tm : Int32) (n : Nat) (m2 : Nat) (ln : Nat) (rm : Int32) (rh : Int32) (sf : Int32) (sl : Int32) (rn : Nat) (b : Nat) (m : Nat) (t : Nat) (ce : Nat → Int32) (hbm : b + m ≤ 240 ∧ t ≤ 100) (x : Int32) (hy : t < m ∧ ce (b + t) = x) (hM : 84 ≤ M) (b_63 : E 63 = .inr (9, [.int fa, .int tm, .ref (z + 64), .ref (z + 65), .ref (z + 66), .int (nI n), .int (nI m2), .ref (z + 67), .ref (z + 68), .ref (z + 69), .ref (z + 70), .ref (z + 71), .int (nI ln), .ref (z + 72), .ref (z + 73), .ref (z + 74), .ref (z + 75), .int (nI (b + t)), .int rm, .int rh, .ref (z + 76), .ref (z + 77), .ref (z + 78), .ref (z + 79), .ref (z + 80), .int sf, .int sl, .ref (z + 81), .int (nI rn), .ref (z + 82), .ref (z + 83)])) (b_66 : E 66 = qa_I G 240 ce) : Met l yX9_isSign wsX9_isSign (qh_R 0) (qh_Pre G z M E [.ref (z + 63), .int (nI (b + m)), .int x]) (qh_Q G z M (qh_i (fun r E' => r = 1 ∧ E' 63 = .inr (9, [.int fa, .int tm, .ref (z + 64), .ref (z + 65), .ref (z + 66), .int (nI n), .int (nI m2), .ref (z + 67), .ref (z + 68), .ref (z + 69), .ref (z + 70), .ref (z + 71), .int (nI ln), .ref (z + 72), .ref (z + 73), .ref (z + 74), .ref (z + 75), .int (nI (b + (t + 1))), .int rm, .int rh, .ref (z + 76), .ref (z + 77), .ref (z + 78), .ref (z + 79), .ref (z + 80), .int sf, .int sl, .ref (z + 81), .int (nI rn), .ref (z + 82), .ref (z + 83)]) ∧ ∀ x9, x9 ≠ 63 → E' x9 = E x9))) 0 0 (fun q => z ≤ q) := by
  refine qh_metZ (cc := cX9_isSign) (maxL := 3) (by decide) rfl (Nat.le_of_ble_eq_true rfl) ?_
  intro pZ eZ sZ mZ aZ bZ tZ cZ RR QQ ls hx hb hml hown hts hRf hRl hH hK hl hret
  have hown : sZ.vm.findClass RX9 = some mZ.cls := hown
  have hl : lv_has ls 3 [(0, .ref (z + 63)), (1, .int (nI (b + m))), (2, .int x)] := hl
  have in_X9 : ∀ w ∈ wsX90, w ∈ wsX9_isSign := fun w h => List.mem_cons_of_mem _ (List.mem_append_right _ h)
  have f_87 : qh_F G sZ mZ aZ 87 9 17 := qh_F.of hts in_X9 hown hK rfl 17 (by decide) (by decide +kernel)
  have f_16 : qh_F G sZ mZ aZ 16 9 4 := qh_F.of hts in_X9 hown hK rfl 4 (by decide) (by decide +kernel)
  have w_87 : qh_W G sZ mZ aZ 87 9 17 .int := qh_W.of hts in_X9 tyX9 tyX9_ok nmX9 hown hK rfl 17 (by decide) (by decide +kernel) rfl (by decide +kernel)
  refine lv_aload_n hx hb dX9_isSign_0 rfl (lv_at hl 0 rfl) ?_
  refine qh_get hx hb hH f_87 (by omega) b_63 rfl dX9_isSign_1 ?_
  refine lv_iload_n hx hb dX9_isSign_4 rfl (lv_at hl 1 rfl) ?_
  refine lv_icmp_ge (tgt := 21) hx hb dX9_isSign_5 (by decide) (fun c_5 => ?_) (fun c_5 => ?_)
  · have hk : b + m ≤ b + t := (nI_leI (by omega) (by omega)).mp c_5
    exact absurd hk (by omega)
  · have hk : ¬ b + m ≤ b + t := fun w => c_5 (nI_le w (by omega))
    refine lv_aload_n hx hb dX9_isSign_8 rfl (lv_at hl 0 rfl) ?_
    refine qh_get hx hb hH f_16 (by omega) b_63 rfl dX9_isSign_9 ?_
    refine lv_aload_n hx hb dX9_isSign_12 rfl (lv_at hl 0 rfl) ?_
    refine qh_get hx hb hH f_87 (by omega) b_63 rfl dX9_isSign_13 ?_
    refine qh_iald hx hb hK hH (by omega) b_66 (j := (b + t)) (rfl) (by omega) (by omega) dX9_isSign_16 ?_
    refine lv_iload_n hx hb dX9_isSign_17 rfl (lv_at hl 2 rfl) ?_
    refine lv_icmp_eq (tgt := 23) hx hb dX9_isSign_18 (by decide) (fun c_18 => ?_) (fun c_18 => ?_)
    · refine lv_aload_n hx hb dX9_isSign_23 rfl (lv_at hl 0 rfl) ?_
      refine lv_dup hx hb dX9_isSign_24 rfl ?_
      refine qh_get hx hb hH f_87 (by omega) b_63 rfl dX9_isSign_25 ?_
      refine lv_iconst (v := 1) hx hb dX9_isSign_28 (by decide) ?_
      refine lv_iadd hx hb dX9_isSign_29 ?_
      refine qh_topi (y := nI (b + (t + 1))) (nI_1 (b + t)) ?_
      refine qh_put (fs' := [.int fa, .int tm, .ref (z + 64), .ref (z + 65), .ref (z + 66), .int (nI n), .int (nI m2), .ref (z + 67), .ref (z + 68), .ref (z + 69), .ref (z + 70), .ref (z + 71), .int (nI ln), .ref (z + 72), .ref (z + 73), .ref (z + 74), .ref (z + 75), .int (nI (b + (t + 1))), .int rm, .int rh, .ref (z + 76), .ref (z + 77), .ref (z + 78), .ref (z + 79), .ref (z + 80), .int sf, .int sl, .ref (z + 81), .int (nI rn), .ref (z + 82), .ref (z + 83)]) hx hb hH w_87 (by omega) b_63 rfl rfl (Nat.le_of_ble_eq_true rfl) rfl dX9_isSign_30 (fun E_1 H locs h_63 hfr hH _ => ?_)
      have hF : ∀ x9, x9 ≠ 63 → E_1 x9 = E x9 := fun x9 a0 => hfr x9 a0
      refine lv_iconst (v := 1) hx hb dX9_isSign_33 (by decide) ?_
      exact hret dX9_isSign_34 hH (Or.inr rfl) (⟨rfl, h_63, hF⟩)
    · exact absurd hy.2 c_18

set_option maxHeartbeats 1000000 in
set_option maxRecDepth 100000 in
theorem c_X9_isSign_no (l : Launch) (G : qh_G) (z M : Nat) (E : Nat → va_E) (fa : Int32) (tm : Int32) (n : Nat) (m2 : Nat) (ln : Nat) (rm : Int32) (rh : Int32) (sf : Int32) (sl : Int32) (rn : Nat) (b : Nat) (m : Nat) (t : Nat) (ce : Nat → Int32) (hbm : b + m ≤ 240 ∧ t ≤ 100) (x : Int32) (hy : ¬ (t < m ∧ ce (b + t) = x)) (hM : 84 ≤ M) (b_63 : E 63 = .inr (9, [.int fa, .int tm, .ref (z + 64), .ref (z + 65), .ref (z + 66), .int (nI n), .int (nI m2), .ref (z + 67), .ref (z + 68), .ref (z + 69), .ref (z + 70), .ref (z + 71), .int (nI ln), .ref (z + 72), .ref (z + 73), .ref (z + 74), .ref (z + 75), .int (nI (b + t)), .int rm, .int rh, .ref (z + 76), .ref (z + 77), .ref (z + 78), .ref (z + 79), .ref (z + 80), .int sf, .int sl, .ref (z + 81), .int (nI rn), .ref (z + 82), .ref (z + 83)])) (b_66 : E 66 = qa_I G 240 ce) : Met l yX9_isSign wsX9_isSign (qh_R 0) (qh_Pre G z M E [.ref (z + 63), .int (nI (b + m)), .int x]) (qh_Q G z M (qh_i (fun r E' => E = E' ∧ r = 0))) 0 0 (fun q => z ≤ q) := by
  refine qh_metZ (cc := cX9_isSign) (maxL := 3) (by decide) rfl (Nat.le_of_ble_eq_true rfl) ?_
  intro pZ eZ sZ mZ aZ bZ tZ cZ RR QQ ls hx hb hml hown hts hRf hRl hH hK hl hret
  have hown : sZ.vm.findClass RX9 = some mZ.cls := hown
  have hl : lv_has ls 3 [(0, .ref (z + 63)), (1, .int (nI (b + m))), (2, .int x)] := hl
  have in_X9 : ∀ w ∈ wsX90, w ∈ wsX9_isSign := fun w h => List.mem_cons_of_mem _ (List.mem_append_right _ h)
  have f_87 : qh_F G sZ mZ aZ 87 9 17 := qh_F.of hts in_X9 hown hK rfl 17 (by decide) (by decide +kernel)
  have f_16 : qh_F G sZ mZ aZ 16 9 4 := qh_F.of hts in_X9 hown hK rfl 4 (by decide) (by decide +kernel)
  refine lv_aload_n hx hb dX9_isSign_0 rfl (lv_at hl 0 rfl) ?_
  refine qh_get hx hb hH f_87 (by omega) b_63 rfl dX9_isSign_1 ?_
  refine lv_iload_n hx hb dX9_isSign_4 rfl (lv_at hl 1 rfl) ?_
  refine lv_icmp_ge (tgt := 21) hx hb dX9_isSign_5 (by decide) (fun c_5 => ?_) (fun c_5 => ?_)
  · refine lv_iconst (v := 0) hx hb dX9_isSign_21 (by decide) ?_
    exact hret dX9_isSign_22 hH (Or.inl rfl) (⟨rfl, rfl⟩)
  · have hk : ¬ b + m ≤ b + t := fun w => c_5 (nI_le w (by omega))
    refine lv_aload_n hx hb dX9_isSign_8 rfl (lv_at hl 0 rfl) ?_
    refine qh_get hx hb hH f_16 (by omega) b_63 rfl dX9_isSign_9 ?_
    refine lv_aload_n hx hb dX9_isSign_12 rfl (lv_at hl 0 rfl) ?_
    refine qh_get hx hb hH f_87 (by omega) b_63 rfl dX9_isSign_13 ?_
    refine qh_iald hx hb hK hH (by omega) b_66 (j := (b + t)) (rfl) (by omega) (by omega) dX9_isSign_16 ?_
    refine lv_iload_n hx hb dX9_isSign_17 rfl (lv_at hl 2 rfl) ?_
    refine lv_icmp_eq (tgt := 23) hx hb dX9_isSign_18 (by decide) (fun c_18 => ?_) (fun c_18 => ?_)
    · exact absurd ⟨by omega, c_18⟩ hy
    · refine lv_iconst (v := 0) hx hb dX9_isSign_21 (by decide) ?_
      exact hret dX9_isSign_22 hH (Or.inl rfl) (⟨rfl, rfl⟩)

set_option maxHeartbeats 1000000 in
set_option maxRecDepth 100000 in
theorem c_X9_digit (l : Launch) (G : qh_G) (z M : Nat) (E : Nat → va_E) (fa : Int32) (tm : Int32) (n : Nat) (m2 : Nat) (ln : Nat) (rm : Int32) (rh : Int32) (sf : Int32) (sl : Int32) (rn : Nat) (b : Nat) (m : Nat) (t : Nat) (ce : Nat → Int32) (hbm : b + m ≤ 240 ∧ t ≤ 100) (hy : t < m ∧ isDg (ce (b + t))) (hM : 84 ≤ M) (b_63 : E 63 = .inr (9, [.int fa, .int tm, .ref (z + 64), .ref (z + 65), .ref (z + 66), .int (nI n), .int (nI m2), .ref (z + 67), .ref (z + 68), .ref (z + 69), .ref (z + 70), .ref (z + 71), .int (nI ln), .ref (z + 72), .ref (z + 73), .ref (z + 74), .ref (z + 75), .int (nI (b + t)), .int rm, .int rh, .ref (z + 76), .ref (z + 77), .ref (z + 78), .ref (z + 79), .ref (z + 80), .int sf, .int sl, .ref (z + 81), .int (nI rn), .ref (z + 82), .ref (z + 83)])) (b_66 : E 66 = qa_I G 240 ce) : Met l yX9_digit wsX9_digit (qh_R 1) (qh_Pre G z M E [.ref (z + 63), .int (nI (b + m))]) (qh_Q G z M (qh_i (fun r E' => r = ce (b + t) - 48 ∧ E' 63 = .inr (9, [.int fa, .int tm, .ref (z + 64), .ref (z + 65), .ref (z + 66), .int (nI n), .int (nI m2), .ref (z + 67), .ref (z + 68), .ref (z + 69), .ref (z + 70), .ref (z + 71), .int (nI ln), .ref (z + 72), .ref (z + 73), .ref (z + 74), .ref (z + 75), .int (nI (b + (t + 1))), .int rm, .int rh, .ref (z + 76), .ref (z + 77), .ref (z + 78), .ref (z + 79), .ref (z + 80), .int sf, .int sl, .ref (z + 81), .int (nI rn), .ref (z + 82), .ref (z + 83)]) ∧ ∀ x9, x9 ≠ 63 → E' x9 = E x9))) 0 0 (fun q => z ≤ q) := by
  refine qh_metI (cc := cX9_digit) (maxL := 2) (by decide) rfl (Nat.le_of_ble_eq_true rfl) ?_
  intro pZ eZ sZ mZ aZ bZ tZ cZ RR QQ ls hx hb hml hown hts hRf hRl hH hK hl hret
  have hown : sZ.vm.findClass RX9 = some mZ.cls := hown
  have hl : lv_has ls 2 [(0, .ref (z + 63)), (1, .int (nI (b + m)))] := hl
  have in_X9 : ∀ w ∈ wsX90, w ∈ wsX9_digit := fun w h => List.mem_cons_of_mem _ (List.mem_append_right _ h)
  have f_87 : qh_F G sZ mZ aZ 87 9 17 := qh_F.of hts in_X9 hown hK rfl 17 (by decide) (by decide +kernel)
  have f_16 : qh_F G sZ mZ aZ 16 9 4 := qh_F.of hts in_X9 hown hK rfl 4 (by decide) (by decide +kernel)
  have w_87 : qh_W G sZ mZ aZ 87 9 17 .int := qh_W.of hts in_X9 tyX9 tyX9_ok nmX9 hown hK rfl 17 (by decide) (by decide +kernel) rfl (by decide +kernel)
  refine lv_aload_n hx hb dX9_digit_0 rfl (lv_at hl 0 rfl) ?_
  refine qh_get hx hb hH f_87 (by omega) b_63 rfl dX9_digit_1 ?_
  refine lv_iload_n hx hb dX9_digit_4 rfl (lv_at hl 1 rfl) ?_
  refine lv_icmp_ge (tgt := 27) hx hb dX9_digit_5 (by decide) (fun c_5 => ?_) (fun c_5 => ?_)
  · have hk : b + m ≤ b + t := (nI_leI (by omega) (by omega)).mp c_5
    exact absurd hk (by omega)
  · have hk : ¬ b + m ≤ b + t := fun w => c_5 (nI_le w (by omega))
    refine lv_aload_n hx hb dX9_digit_8 rfl (lv_at hl 0 rfl) ?_
    refine qh_get hx hb hH f_16 (by omega) b_63 rfl dX9_digit_9 ?_
    refine lv_aload_n hx hb dX9_digit_12 rfl (lv_at hl 0 rfl) ?_
    refine qh_get hx hb hH f_87 (by omega) b_63 rfl dX9_digit_13 ?_
    refine qh_iald hx hb hK hH (by omega) b_66 (j := (b + t)) (rfl) (by omega) (by omega) dX9_digit_16 ?_
    refine lv_bipush (v := 48) hx hb dX9_digit_17 (by decide) ?_
    refine lv_bipush (v := 57) hx hb dX9_digit_19 (by decide) ?_
    refine qh_runS (As := [.int (ce (b + t)), .int 48, .int 57]) (rest := []) ⟨hx, hb, hml, hown, hts⟩ hK hH (c_X9_within l G z M E (ce (b + t)) 48 57) (va_cwS 3 hts gX9_digit_X9_within rfl rfl rfl (by decide +kernel) (by rw [hRf, hRl]; exact ⟨Nat.le_of_ble_eq_true rfl, Nat.le_of_ble_eq_true rfl⟩)) rfl hl.1 rfl (Nat.le_of_ble_eq_true rfl) dX9_digit_21 ⟨Nat.zero_le _, Nat.zero_le _⟩ (qh_kki fun r_21 E_1 H locs hpost hH => ?_)
    obtain ⟨rfl, rfl⟩ := hpost
    refine lv_if_ne (tgt := 30) hx hb dX9_digit_24 (by decide) (fun c_24 => ?_) (fun c_24 => ?_)
    · have c_24 := bI_ne.mp c_24
      refine lv_aload_n hx hb dX9_digit_30 rfl (lv_at hl 0 rfl) ?_
      refine lv_dup hx hb dX9_digit_31 rfl ?_
      refine qh_get hx hb hH f_87 (by omega) b_63 rfl dX9_digit_32 ?_
      refine lv_iconst (v := 1) hx hb dX9_digit_35 (by decide) ?_
      refine lv_iadd hx hb dX9_digit_36 ?_
      refine qh_topi (y := nI (b + (t + 1))) (nI_1 (b + t)) ?_
      refine qh_put (fs' := [.int fa, .int tm, .ref (z + 64), .ref (z + 65), .ref (z + 66), .int (nI n), .int (nI m2), .ref (z + 67), .ref (z + 68), .ref (z + 69), .ref (z + 70), .ref (z + 71), .int (nI ln), .ref (z + 72), .ref (z + 73), .ref (z + 74), .ref (z + 75), .int (nI (b + (t + 1))), .int rm, .int rh, .ref (z + 76), .ref (z + 77), .ref (z + 78), .ref (z + 79), .ref (z + 80), .int sf, .int sl, .ref (z + 81), .int (nI rn), .ref (z + 82), .ref (z + 83)]) hx hb hH w_87 (by omega) b_63 rfl rfl (Nat.le_of_ble_eq_true rfl) rfl dX9_digit_37 (fun E_2 H locs h_63 hfr hH _ => ?_)
      have hF : ∀ x9, x9 ≠ 63 → E_2 x9 = E x9 := fun x9 a0 => hfr x9 a0
      refine lv_aload_n hx hb dX9_digit_40 rfl (lv_at hl 0 rfl) ?_
      refine qh_get hx hb hH f_16 (by omega) h_63 rfl dX9_digit_41 ?_
      refine lv_aload_n hx hb dX9_digit_44 rfl (lv_at hl 0 rfl) ?_
      refine qh_get hx hb hH f_87 (by omega) h_63 rfl dX9_digit_45 ?_
      refine lv_iconst (v := 1) hx hb dX9_digit_48 (by decide) ?_
      refine lv_isub hx hb dX9_digit_49 ?_
      refine qh_topi (y := nI (b + t)) (pk_sub (a := b + (t + 1)) (b := 1) (by omega)) ?_
      refine qh_iald hx hb hK hH (by omega) ((hF 66 (by decide)).trans b_66) (j := (b + t)) (rfl) (by omega) (by omega) dX9_digit_50 ?_
      refine lv_bipush (v := 48) hx hb dX9_digit_51 (by decide) ?_
      refine lv_isub hx hb dX9_digit_53 ?_
      exact hret dX9_digit_54 hH (⟨rfl, h_63, hF⟩)
    · have c_24 := bI_eq.mp c_24
      exact absurd hy.2 c_24

set_option maxHeartbeats 1000000 in
set_option maxRecDepth 100000 in
theorem c_X9_digit_no (l : Launch) (G : qh_G) (z M : Nat) (E : Nat → va_E) (fa : Int32) (tm : Int32) (n : Nat) (m2 : Nat) (ln : Nat) (rm : Int32) (rh : Int32) (sf : Int32) (sl : Int32) (rn : Nat) (b : Nat) (m : Nat) (t : Nat) (ce : Nat → Int32) (hbm : b + m ≤ 240 ∧ t ≤ 100) (hy : ¬ (t < m ∧ isDg (ce (b + t)))) (hM : 84 ≤ M) (b_63 : E 63 = .inr (9, [.int fa, .int tm, .ref (z + 64), .ref (z + 65), .ref (z + 66), .int (nI n), .int (nI m2), .ref (z + 67), .ref (z + 68), .ref (z + 69), .ref (z + 70), .ref (z + 71), .int (nI ln), .ref (z + 72), .ref (z + 73), .ref (z + 74), .ref (z + 75), .int (nI (b + t)), .int rm, .int rh, .ref (z + 76), .ref (z + 77), .ref (z + 78), .ref (z + 79), .ref (z + 80), .int sf, .int sl, .ref (z + 81), .int (nI rn), .ref (z + 82), .ref (z + 83)])) (b_66 : E 66 = qa_I G 240 ce) : Met l yX9_digit wsX9_digit (qh_R 1) (qh_Pre G z M E [.ref (z + 63), .int (nI (b + m))]) (qh_Q G z M (qh_i (fun r E' => E = E' ∧ r = -9))) 0 0 (fun q => z ≤ q) := by
  refine qh_metI (cc := cX9_digit) (maxL := 2) (by decide) rfl (Nat.le_of_ble_eq_true rfl) ?_
  intro pZ eZ sZ mZ aZ bZ tZ cZ RR QQ ls hx hb hml hown hts hRf hRl hH hK hl hret
  have hown : sZ.vm.findClass RX9 = some mZ.cls := hown
  have hl : lv_has ls 2 [(0, .ref (z + 63)), (1, .int (nI (b + m)))] := hl
  have in_X9 : ∀ w ∈ wsX90, w ∈ wsX9_digit := fun w h => List.mem_cons_of_mem _ (List.mem_append_right _ h)
  have f_87 : qh_F G sZ mZ aZ 87 9 17 := qh_F.of hts in_X9 hown hK rfl 17 (by decide) (by decide +kernel)
  have f_16 : qh_F G sZ mZ aZ 16 9 4 := qh_F.of hts in_X9 hown hK rfl 4 (by decide) (by decide +kernel)
  refine lv_aload_n hx hb dX9_digit_0 rfl (lv_at hl 0 rfl) ?_
  refine qh_get hx hb hH f_87 (by omega) b_63 rfl dX9_digit_1 ?_
  refine lv_iload_n hx hb dX9_digit_4 rfl (lv_at hl 1 rfl) ?_
  refine lv_icmp_ge (tgt := 27) hx hb dX9_digit_5 (by decide) (fun c_5 => ?_) (fun c_5 => ?_)
  · refine lv_bipush (v := (-9)) hx hb dX9_digit_27 (by decide) ?_
    exact hret dX9_digit_29 hH (⟨rfl, rfl⟩)
  · have hk : ¬ b + m ≤ b + t := fun w => c_5 (nI_le w (by omega))
    refine lv_aload_n hx hb dX9_digit_8 rfl (lv_at hl 0 rfl) ?_
    refine qh_get hx hb hH f_16 (by omega) b_63 rfl dX9_digit_9 ?_
    refine lv_aload_n hx hb dX9_digit_12 rfl (lv_at hl 0 rfl) ?_
    refine qh_get hx hb hH f_87 (by omega) b_63 rfl dX9_digit_13 ?_
    refine qh_iald hx hb hK hH (by omega) b_66 (j := (b + t)) (rfl) (by omega) (by omega) dX9_digit_16 ?_
    refine lv_bipush (v := 48) hx hb dX9_digit_17 (by decide) ?_
    refine lv_bipush (v := 57) hx hb dX9_digit_19 (by decide) ?_
    refine qh_runS (As := [.int (ce (b + t)), .int 48, .int 57]) (rest := []) ⟨hx, hb, hml, hown, hts⟩ hK hH (c_X9_within l G z M E (ce (b + t)) 48 57) (va_cwS 3 hts gX9_digit_X9_within rfl rfl rfl (by decide +kernel) (by rw [hRf, hRl]; exact ⟨Nat.le_of_ble_eq_true rfl, Nat.le_of_ble_eq_true rfl⟩)) rfl hl.1 rfl (Nat.le_of_ble_eq_true rfl) dX9_digit_21 ⟨Nat.zero_le _, Nat.zero_le _⟩ (qh_kki fun r_21 E_1 H locs hpost hH => ?_)
    obtain ⟨rfl, rfl⟩ := hpost
    refine lv_if_ne (tgt := 30) hx hb dX9_digit_24 (by decide) (fun c_24 => ?_) (fun c_24 => ?_)
    · have c_24 := bI_ne.mp c_24
      exact absurd ⟨by omega, c_24⟩ hy
    · have c_24 := bI_eq.mp c_24
      refine lv_bipush (v := (-9)) hx hb dX9_digit_27 (by decide) ?_
      exact hret dX9_digit_29 hH (⟨rfl, rfl⟩)

set_option maxHeartbeats 1000000 in
set_option maxRecDepth 100000 in
theorem c_X9_readHelper_kind (l : Launch) (G : qh_G) (z M : Nat) (E : Nat → va_E) (fa : Int32) (tm : Int32) (n : Nat) (m2 : Nat) (ln : Nat) (rm : Int32) (sf : Int32) (sl : Int32) (rn : Nat) (b : Nat) (m : Nat) (t : Nat) (ce : Nat → Int32) (q : Nat) (r2 : Nat → Int32) (r3 : Nat → Int32) (hbm : b + m ≤ 240 ∧ t ≤ 90 ∧ q < 3) (hy : ¬ (t < m ∧ ¬ knd (ce (b + t)) = -9)) (hM : 84 ≤ M) (b_63 : E 63 = .inr (9, [.int fa, .int tm, .ref (z + 64), .ref (z + 65), .ref (z + 66), .int (nI n), .int (nI m2), .ref (z + 67), .ref (z + 68), .ref (z + 69), .ref (z + 70), .ref (z + 71), .int (nI ln), .ref (z + 72), .ref (z + 73), .ref (z + 74), .ref (z + 75), .int (nI (b + t)), .int rm, .int (nI q), .ref (z + 76), .ref (z + 77), .ref (z + 78), .ref (z + 79), .ref (z + 80), .int sf, .int sl, .ref (z + 81), .int (nI rn), .ref (z + 82), .ref (z + 83)])) (b_66 : E 66 = qa_I G 240 ce) (b_77 : E 77 = qa_I G 3 r2) (b_78 : E 78 = qa_I G 3 r3) : Met l yX9_readHelper wsX9_readHelper (qh_R 2) (qh_Pre G z M E [.ref (z + 63), .int (nI (b + m))]) (qh_Q G z M (qh_i (fun r E' => r = 0 ∧ E' 77 = qa_I G 3 (upd r2 q (-9)) ∧ ∀ x9, x9 ≠ 77 → E' x9 = E x9))) 0 0 (fun q => z ≤ q) := by
  refine qh_metZ (cc := cX9_readHelper) (maxL := 3) (by decide) rfl (Nat.le_of_ble_eq_true rfl) ?_
  intro pZ eZ sZ mZ aZ bZ tZ cZ RR QQ ls hx hb hml hown hts hRf hRl hH hK hl hret
  have hown : sZ.vm.findClass RX9 = some mZ.cls := hown
  have hl : lv_has ls 3 [(0, .ref (z + 63)), (1, .int (nI (b + m)))] := hl
  have in_X9 : ∀ w ∈ wsX90, w ∈ wsX9_readHelper := fun w h => List.mem_cons_of_mem _ (List.mem_append_right _ h)
  have f_87 : qh_F G sZ mZ aZ 87 9 17 := qh_F.of hts in_X9 hown hK rfl 17 (by decide) (by decide +kernel)
  have f_50 : qh_F G sZ mZ aZ 50 9 21 := qh_F.of hts in_X9 hown hK rfl 21 (by decide) (by decide +kernel)
  have f_111 : qh_F G sZ mZ aZ 111 9 19 := qh_F.of hts in_X9 hown hK rfl 19 (by decide) (by decide +kernel)
  have f_16 : qh_F G sZ mZ aZ 16 9 4 := qh_F.of hts in_X9 hown hK rfl 4 (by decide) (by decide +kernel)
  refine lv_aload_n hx hb dX9_readHelper_0 rfl (lv_at hl 0 rfl) ?_
  refine qh_get hx hb hH f_87 (by omega) b_63 rfl dX9_readHelper_1 ?_
  refine lv_iload_n hx hb dX9_readHelper_4 rfl (lv_at hl 1 rfl) ?_
  refine lv_icmp_ge (tgt := 20) hx hb dX9_readHelper_5 (by decide) (fun c_5 => ?_) (fun c_5 => ?_)
  · refine lv_iconst (v := 0) hx hb dX9_readHelper_20 (by decide) ?_
    refine lv_istore_n (lv' := [(2, .int 0), (0, .ref (z + 63)), (1, .int (nI (b + m)))]) hx hb dX9_readHelper_21 rfl hl (by decide) rfl (fun ls hl => ?_)
    refine lv_aload_n hx hb dX9_readHelper_22 rfl (lv_at hl 1 rfl) ?_
    refine qh_get hx hb hH f_50 (by omega) b_63 rfl dX9_readHelper_23 ?_
    refine lv_aload_n hx hb dX9_readHelper_26 rfl (lv_at hl 1 rfl) ?_
    refine qh_get hx hb hH f_111 (by omega) b_63 rfl dX9_readHelper_27 ?_
    refine lv_iload_n hx hb dX9_readHelper_30 rfl (lv_at hl 0 rfl) ?_
    refine lv_bipush (v := 112) hx hb dX9_readHelper_31 (by decide) ?_
    refine lv_icmp_ne (tgt := 40) hx hb dX9_readHelper_33 (by decide) (fun c_33 => ?_) (fun c_33 => ?_)
    · refine lv_iload_n hx hb dX9_readHelper_40 rfl (lv_at hl 0 rfl) ?_
      refine lv_bipush (v := 98) hx hb dX9_readHelper_41 (by decide) ?_
      refine lv_icmp_ne (tgt := 50) hx hb dX9_readHelper_43 (by decide) (fun c_43 => ?_) (fun c_43 => ?_)
      · refine lv_iload_n hx hb dX9_readHelper_50 rfl (lv_at hl 0 rfl) ?_
        refine lv_bipush (v := 100) hx hb dX9_readHelper_51 (by decide) ?_
        refine lv_icmp_ne (tgt := 60) hx hb dX9_readHelper_53 (by decide) (fun c_53 => ?_) (fun c_53 => ?_)
        · refine lv_bipush (v := (-9)) hx hb dX9_readHelper_60 (by decide) ?_
          refine qh_iast hx hb hK hH (by omega) b_77 (j := q) (rfl) (by omega) (by omega) dX9_readHelper_62 (fun E_1 H locs h_77 hfr hH _ => ?_)
          have hF : ∀ x9, x9 ≠ 77 → E_1 x9 = E x9 := fun x9 a0 => hfr x9 a0
          refine lv_aload_n hx hb dX9_readHelper_63 rfl (lv_at hl 1 rfl) ?_
          refine qh_get hx hb hH f_50 (by omega) ((hF 63 (by decide)).trans b_63) rfl dX9_readHelper_64 ?_
          refine lv_aload_n hx hb dX9_readHelper_67 rfl (lv_at hl 1 rfl) ?_
          refine qh_get hx hb hH f_111 (by omega) ((hF 63 (by decide)).trans b_63) rfl dX9_readHelper_68 ?_
          refine qh_iald hx hb hK hH (by omega) h_77 (j := q) (rfl) (by omega) (by omega) dX9_readHelper_71 ?_
          refine qh_topi (y := -9) (if_pos rfl) ?_
          refine lv_bipush (v := (-9)) hx hb dX9_readHelper_72 (by decide) ?_
          refine lv_icmp_ne (tgt := 79) hx hb dX9_readHelper_74 (by decide) (fun c_74 => ?_) (fun c_74 => ?_)
          · exact absurd (by decide) c_74
          · refine lv_iconst (v := 0) hx hb dX9_readHelper_77 (by decide) ?_
            exact hret dX9_readHelper_78 hH (Or.inl rfl) (⟨rfl, h_77, hF⟩)
        · exact absurd c_53 (by decide)
      · exact absurd c_43 (by decide)
    · exact absurd c_33 (by decide)
  · have hk : ¬ b + m ≤ b + t := fun w => c_5 (nI_le w (by omega))
    refine lv_aload_n hx hb dX9_readHelper_8 rfl (lv_at hl 0 rfl) ?_
    refine qh_get hx hb hH f_16 (by omega) b_63 rfl dX9_readHelper_9 ?_
    refine lv_aload_n hx hb dX9_readHelper_12 rfl (lv_at hl 0 rfl) ?_
    refine qh_get hx hb hH f_87 (by omega) b_63 rfl dX9_readHelper_13 ?_
    refine qh_iald hx hb hK hH (by omega) b_66 (j := (b + t)) (rfl) (by omega) (by omega) dX9_readHelper_16 ?_
    refine lv_goto (tgt := 21) hx hb dX9_readHelper_17 (by decide) ?_
    refine lv_istore_n (lv' := [(2, .int (ce (b + t))), (0, .ref (z + 63)), (1, .int (nI (b + m)))]) hx hb dX9_readHelper_21 rfl hl (by decide) rfl (fun ls hl => ?_)
    refine lv_aload_n hx hb dX9_readHelper_22 rfl (lv_at hl 1 rfl) ?_
    refine qh_get hx hb hH f_50 (by omega) b_63 rfl dX9_readHelper_23 ?_
    refine lv_aload_n hx hb dX9_readHelper_26 rfl (lv_at hl 1 rfl) ?_
    refine qh_get hx hb hH f_111 (by omega) b_63 rfl dX9_readHelper_27 ?_
    refine lv_iload_n hx hb dX9_readHelper_30 rfl (lv_at hl 0 rfl) ?_
    refine lv_bipush (v := 112) hx hb dX9_readHelper_31 (by decide) ?_
    refine lv_icmp_ne (tgt := 40) hx hb dX9_readHelper_33 (by decide) (fun c_33 => ?_) (fun c_33 => ?_)
    · refine lv_iload_n hx hb dX9_readHelper_40 rfl (lv_at hl 0 rfl) ?_
      refine lv_bipush (v := 98) hx hb dX9_readHelper_41 (by decide) ?_
      refine lv_icmp_ne (tgt := 50) hx hb dX9_readHelper_43 (by decide) (fun c_43 => ?_) (fun c_43 => ?_)
      · refine lv_iload_n hx hb dX9_readHelper_50 rfl (lv_at hl 0 rfl) ?_
        refine lv_bipush (v := 100) hx hb dX9_readHelper_51 (by decide) ?_
        refine lv_icmp_ne (tgt := 60) hx hb dX9_readHelper_53 (by decide) (fun c_53 => ?_) (fun c_53 => ?_)
        · refine lv_bipush (v := (-9)) hx hb dX9_readHelper_60 (by decide) ?_
          refine qh_iast hx hb hK hH (by omega) b_77 (j := q) (rfl) (by omega) (by omega) dX9_readHelper_62 (fun E_2 H locs h_77 hfr hH _ => ?_)
          have hF : ∀ x9, x9 ≠ 77 → E_2 x9 = E x9 := fun x9 a0 => hfr x9 a0
          refine lv_aload_n hx hb dX9_readHelper_63 rfl (lv_at hl 1 rfl) ?_
          refine qh_get hx hb hH f_50 (by omega) ((hF 63 (by decide)).trans b_63) rfl dX9_readHelper_64 ?_
          refine lv_aload_n hx hb dX9_readHelper_67 rfl (lv_at hl 1 rfl) ?_
          refine qh_get hx hb hH f_111 (by omega) ((hF 63 (by decide)).trans b_63) rfl dX9_readHelper_68 ?_
          refine qh_iald hx hb hK hH (by omega) h_77 (j := q) (rfl) (by omega) (by omega) dX9_readHelper_71 ?_
          refine qh_topi (y := -9) (if_pos rfl) ?_
          refine lv_bipush (v := (-9)) hx hb dX9_readHelper_72 (by decide) ?_
          refine lv_icmp_ne (tgt := 79) hx hb dX9_readHelper_74 (by decide) (fun c_74 => ?_) (fun c_74 => ?_)
          · exact absurd (by decide) c_74
          · refine lv_iconst (v := 0) hx hb dX9_readHelper_77 (by decide) ?_
            exact hret dX9_readHelper_78 hH (Or.inl rfl) (⟨rfl, h_77, hF⟩)
        · exact absurd ⟨by omega, by rw [c_53]; decide⟩ hy
      · exact absurd ⟨by omega, by rw [c_43]; decide⟩ hy
    · exact absurd ⟨by omega, by rw [c_33]; decide⟩ hy

set_option maxHeartbeats 1000000 in
set_option maxRecDepth 100000 in
theorem c_X9_readHelper (l : Launch) (G : qh_G) (z M : Nat) (E : Nat → va_E) (fa : Int32) (tm : Int32) (n : Nat) (m2 : Nat) (ln : Nat) (rm : Int32) (sf : Int32) (sl : Int32) (rn : Nat) (b : Nat) (m : Nat) (t : Nat) (ce : Nat → Int32) (q : Nat) (r2 : Nat → Int32) (r3 : Nat → Int32) (hbm : b + m ≤ 240 ∧ t ≤ 90 ∧ q < 3) (hy : t < m ∧ ¬ knd (ce (b + t)) = -9) (hd : t + 1 < m ∧ isDg (ce (b + (t + 1)))) (hM : 84 ≤ M) (b_63 : E 63 = .inr (9, [.int fa, .int tm, .ref (z + 64), .ref (z + 65), .ref (z + 66), .int (nI n), .int (nI m2), .ref (z + 67), .ref (z + 68), .ref (z + 69), .ref (z + 70), .ref (z + 71), .int (nI ln), .ref (z + 72), .ref (z + 73), .ref (z + 74), .ref (z + 75), .int (nI (b + t)), .int rm, .int (nI q), .ref (z + 76), .ref (z + 77), .ref (z + 78), .ref (z + 79), .ref (z + 80), .int sf, .int sl, .ref (z + 81), .int (nI rn), .ref (z + 82), .ref (z + 83)])) (b_66 : E 66 = qa_I G 240 ce) (b_77 : E 77 = qa_I G 3 r2) (b_78 : E 78 = qa_I G 3 r3) : Met l yX9_readHelper wsX9_readHelper (qh_R 2) (qh_Pre G z M E [.ref (z + 63), .int (nI (b + m))]) (qh_Q G z M (qh_i (fun r E' => r = 1 ∧ E' 77 = qa_I G 3 (upd r2 q (knd (ce (b + t)))) ∧ E' 63 = .inr (9, [.int fa, .int tm, .ref (z + 64), .ref (z + 65), .ref (z + 66), .int (nI n), .int (nI m2), .ref (z + 67), .ref (z + 68), .ref (z + 69), .ref (z + 70), .ref (z + 71), .int (nI ln), .ref (z + 72), .ref (z + 73), .ref (z + 74), .ref (z + 75), .int (nI (b + (t + 2))), .int rm, .int (nI (q + 1)), .ref (z + 76), .ref (z + 77), .ref (z + 78), .ref (z + 79), .ref (z + 80), .int sf, .int sl, .ref (z + 81), .int (nI rn), .ref (z + 82), .ref (z + 83)]) ∧ E' 78 = qa_I G 3 (upd r3 q (ce (b + (t + 1)) - 48)) ∧ ∀ x9, x9 ≠ 77 → x9 ≠ 63 → x9 ≠ 78 → E' x9 = E x9))) 0 0 (fun q => z ≤ q) := by
  refine qh_metZ (cc := cX9_readHelper) (maxL := 3) (by decide) rfl (Nat.le_of_ble_eq_true rfl) ?_
  intro pZ eZ sZ mZ aZ bZ tZ cZ RR QQ ls hx hb hml hown hts hRf hRl hH hK hl hret
  have hown : sZ.vm.findClass RX9 = some mZ.cls := hown
  have hl : lv_has ls 3 [(0, .ref (z + 63)), (1, .int (nI (b + m)))] := hl
  have in_X9 : ∀ w ∈ wsX90, w ∈ wsX9_readHelper := fun w h => List.mem_cons_of_mem _ (List.mem_append_right _ h)
  have f_87 : qh_F G sZ mZ aZ 87 9 17 := qh_F.of hts in_X9 hown hK rfl 17 (by decide) (by decide +kernel)
  have f_16 : qh_F G sZ mZ aZ 16 9 4 := qh_F.of hts in_X9 hown hK rfl 4 (by decide) (by decide +kernel)
  have f_50 : qh_F G sZ mZ aZ 50 9 21 := qh_F.of hts in_X9 hown hK rfl 21 (by decide) (by decide +kernel)
  have f_111 : qh_F G sZ mZ aZ 111 9 19 := qh_F.of hts in_X9 hown hK rfl 19 (by decide) (by decide +kernel)
  have w_87 : qh_W G sZ mZ aZ 87 9 17 .int := qh_W.of hts in_X9 tyX9 tyX9_ok nmX9 hown hK rfl 17 (by decide) (by decide +kernel) rfl (by decide +kernel)
  have f_53 : qh_F G sZ mZ aZ 53 9 22 := qh_F.of hts in_X9 hown hK rfl 22 (by decide) (by decide +kernel)
  have w_111 : qh_W G sZ mZ aZ 111 9 19 .int := qh_W.of hts in_X9 tyX9 tyX9_ok nmX9 hown hK rfl 19 (by decide) (by decide +kernel) rfl (by decide +kernel)
  refine lv_aload_n hx hb dX9_readHelper_0 rfl (lv_at hl 0 rfl) ?_
  refine qh_get hx hb hH f_87 (by omega) b_63 rfl dX9_readHelper_1 ?_
  refine lv_iload_n hx hb dX9_readHelper_4 rfl (lv_at hl 1 rfl) ?_
  refine lv_icmp_ge (tgt := 20) hx hb dX9_readHelper_5 (by decide) (fun c_5 => ?_) (fun c_5 => ?_)
  · have hk : b + m ≤ b + t := (nI_leI (by omega) (by omega)).mp c_5
    exact absurd hk (by omega)
  · have hk : ¬ b + m ≤ b + t := fun w => c_5 (nI_le w (by omega))
    refine lv_aload_n hx hb dX9_readHelper_8 rfl (lv_at hl 0 rfl) ?_
    refine qh_get hx hb hH f_16 (by omega) b_63 rfl dX9_readHelper_9 ?_
    refine lv_aload_n hx hb dX9_readHelper_12 rfl (lv_at hl 0 rfl) ?_
    refine qh_get hx hb hH f_87 (by omega) b_63 rfl dX9_readHelper_13 ?_
    refine qh_iald hx hb hK hH (by omega) b_66 (j := (b + t)) (rfl) (by omega) (by omega) dX9_readHelper_16 ?_
    refine lv_goto (tgt := 21) hx hb dX9_readHelper_17 (by decide) ?_
    refine lv_istore_n (lv' := [(2, .int (ce (b + t))), (0, .ref (z + 63)), (1, .int (nI (b + m)))]) hx hb dX9_readHelper_21 rfl hl (by decide) rfl (fun ls hl => ?_)
    refine lv_aload_n hx hb dX9_readHelper_22 rfl (lv_at hl 1 rfl) ?_
    refine qh_get hx hb hH f_50 (by omega) b_63 rfl dX9_readHelper_23 ?_
    refine lv_aload_n hx hb dX9_readHelper_26 rfl (lv_at hl 1 rfl) ?_
    refine qh_get hx hb hH f_111 (by omega) b_63 rfl dX9_readHelper_27 ?_
    refine lv_iload_n hx hb dX9_readHelper_30 rfl (lv_at hl 0 rfl) ?_
    refine lv_bipush (v := 112) hx hb dX9_readHelper_31 (by decide) ?_
    refine lv_icmp_ne (tgt := 40) hx hb dX9_readHelper_33 (by decide) (fun c_33 => ?_) (fun c_33 => ?_)
    · refine lv_iload_n hx hb dX9_readHelper_40 rfl (lv_at hl 0 rfl) ?_
      refine lv_bipush (v := 98) hx hb dX9_readHelper_41 (by decide) ?_
      refine lv_icmp_ne (tgt := 50) hx hb dX9_readHelper_43 (by decide) (fun c_43 => ?_) (fun c_43 => ?_)
      · refine lv_iload_n hx hb dX9_readHelper_50 rfl (lv_at hl 0 rfl) ?_
        refine lv_bipush (v := 100) hx hb dX9_readHelper_51 (by decide) ?_
        refine lv_icmp_ne (tgt := 60) hx hb dX9_readHelper_53 (by decide) (fun c_53 => ?_) (fun c_53 => ?_)
        · exact absurd (show knd (ce (b + t)) = -9 by rw [knd, if_neg c_43, if_neg c_53, if_neg c_33]) hy.2
        · refine lv_iconst (v := 2) hx hb dX9_readHelper_56 (by decide) ?_
          refine qh_topi (y := knd (ce (b + t))) (by rw [c_53]; rfl) ?_
          refine lv_goto (tgt := 62) hx hb dX9_readHelper_57 (by decide) ?_
          refine qh_iast hx hb hK hH (by omega) b_77 (j := q) (rfl) (by omega) (by omega) dX9_readHelper_62 (fun E_1 H locs h_77 hfr hH _ => ?_)
          have hF : ∀ x9, x9 ≠ 77 → E_1 x9 = E x9 := fun x9 a0 => hfr x9 a0
          refine lv_aload_n hx hb dX9_readHelper_63 rfl (lv_at hl 1 rfl) ?_
          refine qh_get hx hb hH f_50 (by omega) ((hF 63 (by decide)).trans b_63) rfl dX9_readHelper_64 ?_
          refine lv_aload_n hx hb dX9_readHelper_67 rfl (lv_at hl 1 rfl) ?_
          refine qh_get hx hb hH f_111 (by omega) ((hF 63 (by decide)).trans b_63) rfl dX9_readHelper_68 ?_
          refine qh_iald hx hb hK hH (by omega) h_77 (j := q) (rfl) (by omega) (by omega) dX9_readHelper_71 ?_
          refine qh_topi (y := knd (ce (b + t))) (if_pos rfl) ?_
          refine lv_bipush (v := (-9)) hx hb dX9_readHelper_72 (by decide) ?_
          refine lv_icmp_ne (tgt := 79) hx hb dX9_readHelper_74 (by decide) (fun c_74 => ?_) (fun c_74 => ?_)
          · refine lv_aload_n hx hb dX9_readHelper_79 rfl (lv_at hl 1 rfl) ?_
            refine lv_dup hx hb dX9_readHelper_80 rfl ?_
            refine qh_get hx hb hH f_87 (by omega) ((hF 63 (by decide)).trans b_63) rfl dX9_readHelper_81 ?_
            refine lv_iconst (v := 1) hx hb dX9_readHelper_84 (by decide) ?_
            refine lv_iadd hx hb dX9_readHelper_85 ?_
            refine qh_topi (y := nI (b + (t + 1))) (nI_1 (b + t)) ?_
            refine qh_put (fs' := [.int fa, .int tm, .ref (z + 64), .ref (z + 65), .ref (z + 66), .int (nI n), .int (nI m2), .ref (z + 67), .ref (z + 68), .ref (z + 69), .ref (z + 70), .ref (z + 71), .int (nI ln), .ref (z + 72), .ref (z + 73), .ref (z + 74), .ref (z + 75), .int (nI (b + (t + 1))), .int rm, .int (nI q), .ref (z + 76), .ref (z + 77), .ref (z + 78), .ref (z + 79), .ref (z + 80), .int sf, .int sl, .ref (z + 81), .int (nI rn), .ref (z + 82), .ref (z + 83)]) hx hb hH w_87 (by omega) ((hF 63 (by decide)).trans b_63) rfl rfl (Nat.le_of_ble_eq_true rfl) rfl dX9_readHelper_86 (fun E_2 H locs h_63 hfr hH _ => ?_)
            have h_77 := (hfr 77 (by decide)).trans h_77
            have hF : ∀ x9, x9 ≠ 77 → x9 ≠ 63 → E_2 x9 = E x9 := fun x9 a0 a1 => (hfr x9 a1).trans (hF x9 a0)
            refine lv_aload_n hx hb dX9_readHelper_89 rfl (lv_at hl 1 rfl) ?_
            refine qh_get hx hb hH f_53 (by omega) h_63 rfl dX9_readHelper_90 ?_
            refine lv_aload_n hx hb dX9_readHelper_93 rfl (lv_at hl 1 rfl) ?_
            refine qh_get hx hb hH f_111 (by omega) h_63 rfl dX9_readHelper_94 ?_
            refine lv_aload_n hx hb dX9_readHelper_97 rfl (lv_at hl 1 rfl) ?_
            refine lv_iload_n hx hb dX9_readHelper_98 rfl (lv_at hl 2 rfl) ?_
            refine qh_runV (As := [.int (nI (b + m))]) (rest := [.int (nI q), .ref (z + 78)]) (C := RX9) ⟨hx, hb, hml, hown, hts⟩ hK hH (c_X9_digit l G z M E_2 fa tm n m2 ln rm (nI q) sf sl rn b m (t + 1) ce (⟨hbm.1, by omega⟩) (hd) (hM) h_63 ((hF 66 (by decide) (by decide)).trans b_66)) (cwV 1 hts gX9_readHelper_X9_digit rfl rfl rfl (by decide +kernel) (by rw [hRf, hRl]; exact ⟨Nat.le_of_ble_eq_true rfl, Nat.le_of_ble_eq_true rfl⟩)) (by omega) h_63 rfl rfl hl.1 rfl (Nat.le_of_ble_eq_true rfl) dX9_readHelper_99 ⟨Nat.zero_le _, Nat.zero_le _⟩ (qh_kki fun r_99 E_3 H locs hpost hH => ?_)
            obtain ⟨rfl, h_63, hfr⟩ := hpost
            have h_77 := (hfr 77 (by decide)).trans h_77
            have hF : ∀ x9, x9 ≠ 77 → x9 ≠ 63 → E_3 x9 = E x9 := fun x9 a0 a1 => (hfr x9 a1).trans (hF x9 a0 a1)
            refine qh_iast hx hb hK hH (by omega) ((hF 78 (by decide) (by decide)).trans b_78) (j := q) (rfl) (by omega) (by omega) dX9_readHelper_102 (fun E_4 H locs h_78 hfr hH _ => ?_)
            have h_77 := (hfr 77 (by decide)).trans h_77
            have h_63 := (hfr 63 (by decide)).trans h_63
            have hF : ∀ x9, x9 ≠ 77 → x9 ≠ 63 → x9 ≠ 78 → E_4 x9 = E x9 := fun x9 a0 a1 a2 => (hfr x9 a2).trans (hF x9 a0 a1)
            refine lv_aload_n hx hb dX9_readHelper_103 rfl (lv_at hl 1 rfl) ?_
            refine lv_dup hx hb dX9_readHelper_104 rfl ?_
            refine qh_get hx hb hH f_111 (by omega) h_63 rfl dX9_readHelper_105 ?_
            refine lv_iconst (v := 1) hx hb dX9_readHelper_108 (by decide) ?_
            refine lv_iadd hx hb dX9_readHelper_109 ?_
            refine qh_topi (y := nI (q + 1)) (nI_1 q) ?_
            refine qh_put (fs' := [.int fa, .int tm, .ref (z + 64), .ref (z + 65), .ref (z + 66), .int (nI n), .int (nI m2), .ref (z + 67), .ref (z + 68), .ref (z + 69), .ref (z + 70), .ref (z + 71), .int (nI ln), .ref (z + 72), .ref (z + 73), .ref (z + 74), .ref (z + 75), .int (nI (b + ((t + 1) + 1))), .int rm, .int (nI (q + 1)), .ref (z + 76), .ref (z + 77), .ref (z + 78), .ref (z + 79), .ref (z + 80), .int sf, .int sl, .ref (z + 81), .int (nI rn), .ref (z + 82), .ref (z + 83)]) hx hb hH w_111 (by omega) h_63 rfl rfl (Nat.le_of_ble_eq_true rfl) rfl dX9_readHelper_110 (fun E_5 H locs h_63 hfr hH _ => ?_)
            have h_77 := (hfr 77 (by decide)).trans h_77
            have h_78 := (hfr 78 (by decide)).trans h_78
            have hF : ∀ x9, x9 ≠ 77 → x9 ≠ 63 → x9 ≠ 78 → E_5 x9 = E x9 := fun x9 a0 a1 a2 => (hfr x9 a1).trans (hF x9 a0 a1 a2)
            refine lv_aload_n hx hb dX9_readHelper_113 rfl (lv_at hl 1 rfl) ?_
            refine qh_get hx hb hH f_53 (by omega) h_63 rfl dX9_readHelper_114 ?_
            refine lv_aload_n hx hb dX9_readHelper_117 rfl (lv_at hl 1 rfl) ?_
            refine qh_get hx hb hH f_111 (by omega) h_63 rfl dX9_readHelper_118 ?_
            refine lv_iconst (v := 1) hx hb dX9_readHelper_121 (by decide) ?_
            refine lv_isub hx hb dX9_readHelper_122 ?_
            refine qh_topi (y := nI q) (pk_sub (a := q + 1) (b := 1) (by omega)) ?_
            refine qh_iald hx hb hK hH (by omega) h_78 (j := q) (rfl) (by omega) (by omega) dX9_readHelper_123 ?_
            refine qh_topi (y := ce (b + (t + 1)) - 48) (if_pos rfl) ?_
            refine lv_bipush (v := (-9)) hx hb dX9_readHelper_124 (by decide) ?_
            refine lv_icmp_eq (tgt := 133) hx hb dX9_readHelper_126 (by decide) (fun c_126 => ?_) (fun c_126 => ?_)
            · exact absurd c_126 (dg_ne hd.2)
            · refine lv_iconst (v := 1) hx hb dX9_readHelper_129 (by decide) ?_
              refine lv_goto (tgt := 134) hx hb dX9_readHelper_130 (by decide) ?_
              exact hret dX9_readHelper_134 hH (Or.inr rfl) (⟨rfl, h_77, h_63, h_78, hF⟩)
          · exact absurd c_74 hy.2
      · refine lv_iconst (v := 1) hx hb dX9_readHelper_46 (by decide) ?_
        refine qh_topi (y := knd (ce (b + t))) (by rw [c_43]; rfl) ?_
        refine lv_goto (tgt := 62) hx hb dX9_readHelper_47 (by decide) ?_
        refine qh_iast hx hb hK hH (by omega) b_77 (j := q) (rfl) (by omega) (by omega) dX9_readHelper_62 (fun E_6 H locs h_77 hfr hH _ => ?_)
        have hF : ∀ x9, x9 ≠ 77 → E_6 x9 = E x9 := fun x9 a0 => hfr x9 a0
        refine lv_aload_n hx hb dX9_readHelper_63 rfl (lv_at hl 1 rfl) ?_
        refine qh_get hx hb hH f_50 (by omega) ((hF 63 (by decide)).trans b_63) rfl dX9_readHelper_64 ?_
        refine lv_aload_n hx hb dX9_readHelper_67 rfl (lv_at hl 1 rfl) ?_
        refine qh_get hx hb hH f_111 (by omega) ((hF 63 (by decide)).trans b_63) rfl dX9_readHelper_68 ?_
        refine qh_iald hx hb hK hH (by omega) h_77 (j := q) (rfl) (by omega) (by omega) dX9_readHelper_71 ?_
        refine qh_topi (y := knd (ce (b + t))) (if_pos rfl) ?_
        refine lv_bipush (v := (-9)) hx hb dX9_readHelper_72 (by decide) ?_
        refine lv_icmp_ne (tgt := 79) hx hb dX9_readHelper_74 (by decide) (fun c_74 => ?_) (fun c_74 => ?_)
        · refine lv_aload_n hx hb dX9_readHelper_79 rfl (lv_at hl 1 rfl) ?_
          refine lv_dup hx hb dX9_readHelper_80 rfl ?_
          refine qh_get hx hb hH f_87 (by omega) ((hF 63 (by decide)).trans b_63) rfl dX9_readHelper_81 ?_
          refine lv_iconst (v := 1) hx hb dX9_readHelper_84 (by decide) ?_
          refine lv_iadd hx hb dX9_readHelper_85 ?_
          refine qh_topi (y := nI (b + (t + 1))) (nI_1 (b + t)) ?_
          refine qh_put (fs' := [.int fa, .int tm, .ref (z + 64), .ref (z + 65), .ref (z + 66), .int (nI n), .int (nI m2), .ref (z + 67), .ref (z + 68), .ref (z + 69), .ref (z + 70), .ref (z + 71), .int (nI ln), .ref (z + 72), .ref (z + 73), .ref (z + 74), .ref (z + 75), .int (nI (b + (t + 1))), .int rm, .int (nI q), .ref (z + 76), .ref (z + 77), .ref (z + 78), .ref (z + 79), .ref (z + 80), .int sf, .int sl, .ref (z + 81), .int (nI rn), .ref (z + 82), .ref (z + 83)]) hx hb hH w_87 (by omega) ((hF 63 (by decide)).trans b_63) rfl rfl (Nat.le_of_ble_eq_true rfl) rfl dX9_readHelper_86 (fun E_7 H locs h_63 hfr hH _ => ?_)
          have h_77 := (hfr 77 (by decide)).trans h_77
          have hF : ∀ x9, x9 ≠ 77 → x9 ≠ 63 → E_7 x9 = E x9 := fun x9 a0 a1 => (hfr x9 a1).trans (hF x9 a0)
          refine lv_aload_n hx hb dX9_readHelper_89 rfl (lv_at hl 1 rfl) ?_
          refine qh_get hx hb hH f_53 (by omega) h_63 rfl dX9_readHelper_90 ?_
          refine lv_aload_n hx hb dX9_readHelper_93 rfl (lv_at hl 1 rfl) ?_
          refine qh_get hx hb hH f_111 (by omega) h_63 rfl dX9_readHelper_94 ?_
          refine lv_aload_n hx hb dX9_readHelper_97 rfl (lv_at hl 1 rfl) ?_
          refine lv_iload_n hx hb dX9_readHelper_98 rfl (lv_at hl 2 rfl) ?_
          refine qh_runV (As := [.int (nI (b + m))]) (rest := [.int (nI q), .ref (z + 78)]) (C := RX9) ⟨hx, hb, hml, hown, hts⟩ hK hH (c_X9_digit l G z M E_7 fa tm n m2 ln rm (nI q) sf sl rn b m (t + 1) ce (⟨hbm.1, by omega⟩) (hd) (hM) h_63 ((hF 66 (by decide) (by decide)).trans b_66)) (cwV 1 hts gX9_readHelper_X9_digit rfl rfl rfl (by decide +kernel) (by rw [hRf, hRl]; exact ⟨Nat.le_of_ble_eq_true rfl, Nat.le_of_ble_eq_true rfl⟩)) (by omega) h_63 rfl rfl hl.1 rfl (Nat.le_of_ble_eq_true rfl) dX9_readHelper_99 ⟨Nat.zero_le _, Nat.zero_le _⟩ (qh_kki fun r_99 E_8 H locs hpost hH => ?_)
          obtain ⟨rfl, h_63, hfr⟩ := hpost
          have h_77 := (hfr 77 (by decide)).trans h_77
          have hF : ∀ x9, x9 ≠ 77 → x9 ≠ 63 → E_8 x9 = E x9 := fun x9 a0 a1 => (hfr x9 a1).trans (hF x9 a0 a1)
          refine qh_iast hx hb hK hH (by omega) ((hF 78 (by decide) (by decide)).trans b_78) (j := q) (rfl) (by omega) (by omega) dX9_readHelper_102 (fun E_9 H locs h_78 hfr hH _ => ?_)
          have h_77 := (hfr 77 (by decide)).trans h_77
          have h_63 := (hfr 63 (by decide)).trans h_63
          have hF : ∀ x9, x9 ≠ 77 → x9 ≠ 63 → x9 ≠ 78 → E_9 x9 = E x9 := fun x9 a0 a1 a2 => (hfr x9 a2).trans (hF x9 a0 a1)
          refine lv_aload_n hx hb dX9_readHelper_103 rfl (lv_at hl 1 rfl) ?_
          refine lv_dup hx hb dX9_readHelper_104 rfl ?_
          refine qh_get hx hb hH f_111 (by omega) h_63 rfl dX9_readHelper_105 ?_
          refine lv_iconst (v := 1) hx hb dX9_readHelper_108 (by decide) ?_
          refine lv_iadd hx hb dX9_readHelper_109 ?_
          refine qh_topi (y := nI (q + 1)) (nI_1 q) ?_
          refine qh_put (fs' := [.int fa, .int tm, .ref (z + 64), .ref (z + 65), .ref (z + 66), .int (nI n), .int (nI m2), .ref (z + 67), .ref (z + 68), .ref (z + 69), .ref (z + 70), .ref (z + 71), .int (nI ln), .ref (z + 72), .ref (z + 73), .ref (z + 74), .ref (z + 75), .int (nI (b + ((t + 1) + 1))), .int rm, .int (nI (q + 1)), .ref (z + 76), .ref (z + 77), .ref (z + 78), .ref (z + 79), .ref (z + 80), .int sf, .int sl, .ref (z + 81), .int (nI rn), .ref (z + 82), .ref (z + 83)]) hx hb hH w_111 (by omega) h_63 rfl rfl (Nat.le_of_ble_eq_true rfl) rfl dX9_readHelper_110 (fun E_10 H locs h_63 hfr hH _ => ?_)
          have h_77 := (hfr 77 (by decide)).trans h_77
          have h_78 := (hfr 78 (by decide)).trans h_78
          have hF : ∀ x9, x9 ≠ 77 → x9 ≠ 63 → x9 ≠ 78 → E_10 x9 = E x9 := fun x9 a0 a1 a2 => (hfr x9 a1).trans (hF x9 a0 a1 a2)
          refine lv_aload_n hx hb dX9_readHelper_113 rfl (lv_at hl 1 rfl) ?_
          refine qh_get hx hb hH f_53 (by omega) h_63 rfl dX9_readHelper_114 ?_
          refine lv_aload_n hx hb dX9_readHelper_117 rfl (lv_at hl 1 rfl) ?_
          refine qh_get hx hb hH f_111 (by omega) h_63 rfl dX9_readHelper_118 ?_
          refine lv_iconst (v := 1) hx hb dX9_readHelper_121 (by decide) ?_
          refine lv_isub hx hb dX9_readHelper_122 ?_
          refine qh_topi (y := nI q) (pk_sub (a := q + 1) (b := 1) (by omega)) ?_
          refine qh_iald hx hb hK hH (by omega) h_78 (j := q) (rfl) (by omega) (by omega) dX9_readHelper_123 ?_
          refine qh_topi (y := ce (b + (t + 1)) - 48) (if_pos rfl) ?_
          refine lv_bipush (v := (-9)) hx hb dX9_readHelper_124 (by decide) ?_
          refine lv_icmp_eq (tgt := 133) hx hb dX9_readHelper_126 (by decide) (fun c_126 => ?_) (fun c_126 => ?_)
          · exact absurd c_126 (dg_ne hd.2)
          · refine lv_iconst (v := 1) hx hb dX9_readHelper_129 (by decide) ?_
            refine lv_goto (tgt := 134) hx hb dX9_readHelper_130 (by decide) ?_
            exact hret dX9_readHelper_134 hH (Or.inr rfl) (⟨rfl, h_77, h_63, h_78, hF⟩)
        · exact absurd c_74 hy.2
    · refine lv_iconst (v := 0) hx hb dX9_readHelper_36 (by decide) ?_
      refine qh_topi (y := knd (ce (b + t))) (by rw [c_33]; rfl) ?_
      refine lv_goto (tgt := 62) hx hb dX9_readHelper_37 (by decide) ?_
      refine qh_iast hx hb hK hH (by omega) b_77 (j := q) (rfl) (by omega) (by omega) dX9_readHelper_62 (fun E_11 H locs h_77 hfr hH _ => ?_)
      have hF : ∀ x9, x9 ≠ 77 → E_11 x9 = E x9 := fun x9 a0 => hfr x9 a0
      refine lv_aload_n hx hb dX9_readHelper_63 rfl (lv_at hl 1 rfl) ?_
      refine qh_get hx hb hH f_50 (by omega) ((hF 63 (by decide)).trans b_63) rfl dX9_readHelper_64 ?_
      refine lv_aload_n hx hb dX9_readHelper_67 rfl (lv_at hl 1 rfl) ?_
      refine qh_get hx hb hH f_111 (by omega) ((hF 63 (by decide)).trans b_63) rfl dX9_readHelper_68 ?_
      refine qh_iald hx hb hK hH (by omega) h_77 (j := q) (rfl) (by omega) (by omega) dX9_readHelper_71 ?_
      refine qh_topi (y := knd (ce (b + t))) (if_pos rfl) ?_
      refine lv_bipush (v := (-9)) hx hb dX9_readHelper_72 (by decide) ?_
      refine lv_icmp_ne (tgt := 79) hx hb dX9_readHelper_74 (by decide) (fun c_74 => ?_) (fun c_74 => ?_)
      · refine lv_aload_n hx hb dX9_readHelper_79 rfl (lv_at hl 1 rfl) ?_
        refine lv_dup hx hb dX9_readHelper_80 rfl ?_
        refine qh_get hx hb hH f_87 (by omega) ((hF 63 (by decide)).trans b_63) rfl dX9_readHelper_81 ?_
        refine lv_iconst (v := 1) hx hb dX9_readHelper_84 (by decide) ?_
        refine lv_iadd hx hb dX9_readHelper_85 ?_
        refine qh_topi (y := nI (b + (t + 1))) (nI_1 (b + t)) ?_
        refine qh_put (fs' := [.int fa, .int tm, .ref (z + 64), .ref (z + 65), .ref (z + 66), .int (nI n), .int (nI m2), .ref (z + 67), .ref (z + 68), .ref (z + 69), .ref (z + 70), .ref (z + 71), .int (nI ln), .ref (z + 72), .ref (z + 73), .ref (z + 74), .ref (z + 75), .int (nI (b + (t + 1))), .int rm, .int (nI q), .ref (z + 76), .ref (z + 77), .ref (z + 78), .ref (z + 79), .ref (z + 80), .int sf, .int sl, .ref (z + 81), .int (nI rn), .ref (z + 82), .ref (z + 83)]) hx hb hH w_87 (by omega) ((hF 63 (by decide)).trans b_63) rfl rfl (Nat.le_of_ble_eq_true rfl) rfl dX9_readHelper_86 (fun E_12 H locs h_63 hfr hH _ => ?_)
        have h_77 := (hfr 77 (by decide)).trans h_77
        have hF : ∀ x9, x9 ≠ 77 → x9 ≠ 63 → E_12 x9 = E x9 := fun x9 a0 a1 => (hfr x9 a1).trans (hF x9 a0)
        refine lv_aload_n hx hb dX9_readHelper_89 rfl (lv_at hl 1 rfl) ?_
        refine qh_get hx hb hH f_53 (by omega) h_63 rfl dX9_readHelper_90 ?_
        refine lv_aload_n hx hb dX9_readHelper_93 rfl (lv_at hl 1 rfl) ?_
        refine qh_get hx hb hH f_111 (by omega) h_63 rfl dX9_readHelper_94 ?_
        refine lv_aload_n hx hb dX9_readHelper_97 rfl (lv_at hl 1 rfl) ?_
        refine lv_iload_n hx hb dX9_readHelper_98 rfl (lv_at hl 2 rfl) ?_
        refine qh_runV (As := [.int (nI (b + m))]) (rest := [.int (nI q), .ref (z + 78)]) (C := RX9) ⟨hx, hb, hml, hown, hts⟩ hK hH (c_X9_digit l G z M E_12 fa tm n m2 ln rm (nI q) sf sl rn b m (t + 1) ce (⟨hbm.1, by omega⟩) (hd) (hM) h_63 ((hF 66 (by decide) (by decide)).trans b_66)) (cwV 1 hts gX9_readHelper_X9_digit rfl rfl rfl (by decide +kernel) (by rw [hRf, hRl]; exact ⟨Nat.le_of_ble_eq_true rfl, Nat.le_of_ble_eq_true rfl⟩)) (by omega) h_63 rfl rfl hl.1 rfl (Nat.le_of_ble_eq_true rfl) dX9_readHelper_99 ⟨Nat.zero_le _, Nat.zero_le _⟩ (qh_kki fun r_99 E_13 H locs hpost hH => ?_)
        obtain ⟨rfl, h_63, hfr⟩ := hpost
        have h_77 := (hfr 77 (by decide)).trans h_77
        have hF : ∀ x9, x9 ≠ 77 → x9 ≠ 63 → E_13 x9 = E x9 := fun x9 a0 a1 => (hfr x9 a1).trans (hF x9 a0 a1)
        refine qh_iast hx hb hK hH (by omega) ((hF 78 (by decide) (by decide)).trans b_78) (j := q) (rfl) (by omega) (by omega) dX9_readHelper_102 (fun E_14 H locs h_78 hfr hH _ => ?_)
        have h_77 := (hfr 77 (by decide)).trans h_77
        have h_63 := (hfr 63 (by decide)).trans h_63
        have hF : ∀ x9, x9 ≠ 77 → x9 ≠ 63 → x9 ≠ 78 → E_14 x9 = E x9 := fun x9 a0 a1 a2 => (hfr x9 a2).trans (hF x9 a0 a1)
        refine lv_aload_n hx hb dX9_readHelper_103 rfl (lv_at hl 1 rfl) ?_
        refine lv_dup hx hb dX9_readHelper_104 rfl ?_
        refine qh_get hx hb hH f_111 (by omega) h_63 rfl dX9_readHelper_105 ?_
        refine lv_iconst (v := 1) hx hb dX9_readHelper_108 (by decide) ?_
        refine lv_iadd hx hb dX9_readHelper_109 ?_
        refine qh_topi (y := nI (q + 1)) (nI_1 q) ?_
        refine qh_put (fs' := [.int fa, .int tm, .ref (z + 64), .ref (z + 65), .ref (z + 66), .int (nI n), .int (nI m2), .ref (z + 67), .ref (z + 68), .ref (z + 69), .ref (z + 70), .ref (z + 71), .int (nI ln), .ref (z + 72), .ref (z + 73), .ref (z + 74), .ref (z + 75), .int (nI (b + ((t + 1) + 1))), .int rm, .int (nI (q + 1)), .ref (z + 76), .ref (z + 77), .ref (z + 78), .ref (z + 79), .ref (z + 80), .int sf, .int sl, .ref (z + 81), .int (nI rn), .ref (z + 82), .ref (z + 83)]) hx hb hH w_111 (by omega) h_63 rfl rfl (Nat.le_of_ble_eq_true rfl) rfl dX9_readHelper_110 (fun E_15 H locs h_63 hfr hH _ => ?_)
        have h_77 := (hfr 77 (by decide)).trans h_77
        have h_78 := (hfr 78 (by decide)).trans h_78
        have hF : ∀ x9, x9 ≠ 77 → x9 ≠ 63 → x9 ≠ 78 → E_15 x9 = E x9 := fun x9 a0 a1 a2 => (hfr x9 a1).trans (hF x9 a0 a1 a2)
        refine lv_aload_n hx hb dX9_readHelper_113 rfl (lv_at hl 1 rfl) ?_
        refine qh_get hx hb hH f_53 (by omega) h_63 rfl dX9_readHelper_114 ?_
        refine lv_aload_n hx hb dX9_readHelper_117 rfl (lv_at hl 1 rfl) ?_
        refine qh_get hx hb hH f_111 (by omega) h_63 rfl dX9_readHelper_118 ?_
        refine lv_iconst (v := 1) hx hb dX9_readHelper_121 (by decide) ?_
        refine lv_isub hx hb dX9_readHelper_122 ?_
        refine qh_topi (y := nI q) (pk_sub (a := q + 1) (b := 1) (by omega)) ?_
        refine qh_iald hx hb hK hH (by omega) h_78 (j := q) (rfl) (by omega) (by omega) dX9_readHelper_123 ?_
        refine qh_topi (y := ce (b + (t + 1)) - 48) (if_pos rfl) ?_
        refine lv_bipush (v := (-9)) hx hb dX9_readHelper_124 (by decide) ?_
        refine lv_icmp_eq (tgt := 133) hx hb dX9_readHelper_126 (by decide) (fun c_126 => ?_) (fun c_126 => ?_)
        · exact absurd c_126 (dg_ne hd.2)
        · refine lv_iconst (v := 1) hx hb dX9_readHelper_129 (by decide) ?_
          refine lv_goto (tgt := 134) hx hb dX9_readHelper_130 (by decide) ?_
          exact hret dX9_readHelper_134 hH (Or.inr rfl) (⟨rfl, h_77, h_63, h_78, hF⟩)
      · exact absurd c_74 hy.2

set_option maxHeartbeats 1000000 in
set_option maxRecDepth 100000 in
theorem c_X9_readHelper_pace (l : Launch) (G : qh_G) (z M : Nat) (E : Nat → va_E) (fa : Int32) (tm : Int32) (n : Nat) (m2 : Nat) (ln : Nat) (rm : Int32) (sf : Int32) (sl : Int32) (rn : Nat) (b : Nat) (m : Nat) (t : Nat) (ce : Nat → Int32) (q : Nat) (r2 : Nat → Int32) (r3 : Nat → Int32) (hbm : b + m ≤ 240 ∧ t ≤ 90 ∧ q < 3) (hy : t < m ∧ ¬ knd (ce (b + t)) = -9) (hd : ¬ (t + 1 < m ∧ isDg (ce (b + (t + 1))))) (hM : 84 ≤ M) (b_63 : E 63 = .inr (9, [.int fa, .int tm, .ref (z + 64), .ref (z + 65), .ref (z + 66), .int (nI n), .int (nI m2), .ref (z + 67), .ref (z + 68), .ref (z + 69), .ref (z + 70), .ref (z + 71), .int (nI ln), .ref (z + 72), .ref (z + 73), .ref (z + 74), .ref (z + 75), .int (nI (b + t)), .int rm, .int (nI q), .ref (z + 76), .ref (z + 77), .ref (z + 78), .ref (z + 79), .ref (z + 80), .int sf, .int sl, .ref (z + 81), .int (nI rn), .ref (z + 82), .ref (z + 83)])) (b_66 : E 66 = qa_I G 240 ce) (b_77 : E 77 = qa_I G 3 r2) (b_78 : E 78 = qa_I G 3 r3) : Met l yX9_readHelper wsX9_readHelper (qh_R 2) (qh_Pre G z M E [.ref (z + 63), .int (nI (b + m))]) (qh_Q G z M (qh_i (fun r E' => r = 0 ∧ E' 77 = qa_I G 3 (upd r2 q (knd (ce (b + t)))) ∧ E' 63 = .inr (9, [.int fa, .int tm, .ref (z + 64), .ref (z + 65), .ref (z + 66), .int (nI n), .int (nI m2), .ref (z + 67), .ref (z + 68), .ref (z + 69), .ref (z + 70), .ref (z + 71), .int (nI ln), .ref (z + 72), .ref (z + 73), .ref (z + 74), .ref (z + 75), .int (nI (b + (t + 1))), .int rm, .int (nI (q + 1)), .ref (z + 76), .ref (z + 77), .ref (z + 78), .ref (z + 79), .ref (z + 80), .int sf, .int sl, .ref (z + 81), .int (nI rn), .ref (z + 82), .ref (z + 83)]) ∧ E' 78 = qa_I G 3 (upd r3 q (-9)) ∧ ∀ x9, x9 ≠ 77 → x9 ≠ 63 → x9 ≠ 78 → E' x9 = E x9))) 0 0 (fun q => z ≤ q) := by
  refine qh_metZ (cc := cX9_readHelper) (maxL := 3) (by decide) rfl (Nat.le_of_ble_eq_true rfl) ?_
  intro pZ eZ sZ mZ aZ bZ tZ cZ RR QQ ls hx hb hml hown hts hRf hRl hH hK hl hret
  have hown : sZ.vm.findClass RX9 = some mZ.cls := hown
  have hl : lv_has ls 3 [(0, .ref (z + 63)), (1, .int (nI (b + m)))] := hl
  have in_X9 : ∀ w ∈ wsX90, w ∈ wsX9_readHelper := fun w h => List.mem_cons_of_mem _ (List.mem_append_right _ h)
  have f_87 : qh_F G sZ mZ aZ 87 9 17 := qh_F.of hts in_X9 hown hK rfl 17 (by decide) (by decide +kernel)
  have f_16 : qh_F G sZ mZ aZ 16 9 4 := qh_F.of hts in_X9 hown hK rfl 4 (by decide) (by decide +kernel)
  have f_50 : qh_F G sZ mZ aZ 50 9 21 := qh_F.of hts in_X9 hown hK rfl 21 (by decide) (by decide +kernel)
  have f_111 : qh_F G sZ mZ aZ 111 9 19 := qh_F.of hts in_X9 hown hK rfl 19 (by decide) (by decide +kernel)
  have w_87 : qh_W G sZ mZ aZ 87 9 17 .int := qh_W.of hts in_X9 tyX9 tyX9_ok nmX9 hown hK rfl 17 (by decide) (by decide +kernel) rfl (by decide +kernel)
  have f_53 : qh_F G sZ mZ aZ 53 9 22 := qh_F.of hts in_X9 hown hK rfl 22 (by decide) (by decide +kernel)
  have w_111 : qh_W G sZ mZ aZ 111 9 19 .int := qh_W.of hts in_X9 tyX9 tyX9_ok nmX9 hown hK rfl 19 (by decide) (by decide +kernel) rfl (by decide +kernel)
  refine lv_aload_n hx hb dX9_readHelper_0 rfl (lv_at hl 0 rfl) ?_
  refine qh_get hx hb hH f_87 (by omega) b_63 rfl dX9_readHelper_1 ?_
  refine lv_iload_n hx hb dX9_readHelper_4 rfl (lv_at hl 1 rfl) ?_
  refine lv_icmp_ge (tgt := 20) hx hb dX9_readHelper_5 (by decide) (fun c_5 => ?_) (fun c_5 => ?_)
  · have hk : b + m ≤ b + t := (nI_leI (by omega) (by omega)).mp c_5
    exact absurd hk (by omega)
  · have hk : ¬ b + m ≤ b + t := fun w => c_5 (nI_le w (by omega))
    refine lv_aload_n hx hb dX9_readHelper_8 rfl (lv_at hl 0 rfl) ?_
    refine qh_get hx hb hH f_16 (by omega) b_63 rfl dX9_readHelper_9 ?_
    refine lv_aload_n hx hb dX9_readHelper_12 rfl (lv_at hl 0 rfl) ?_
    refine qh_get hx hb hH f_87 (by omega) b_63 rfl dX9_readHelper_13 ?_
    refine qh_iald hx hb hK hH (by omega) b_66 (j := (b + t)) (rfl) (by omega) (by omega) dX9_readHelper_16 ?_
    refine lv_goto (tgt := 21) hx hb dX9_readHelper_17 (by decide) ?_
    refine lv_istore_n (lv' := [(2, .int (ce (b + t))), (0, .ref (z + 63)), (1, .int (nI (b + m)))]) hx hb dX9_readHelper_21 rfl hl (by decide) rfl (fun ls hl => ?_)
    refine lv_aload_n hx hb dX9_readHelper_22 rfl (lv_at hl 1 rfl) ?_
    refine qh_get hx hb hH f_50 (by omega) b_63 rfl dX9_readHelper_23 ?_
    refine lv_aload_n hx hb dX9_readHelper_26 rfl (lv_at hl 1 rfl) ?_
    refine qh_get hx hb hH f_111 (by omega) b_63 rfl dX9_readHelper_27 ?_
    refine lv_iload_n hx hb dX9_readHelper_30 rfl (lv_at hl 0 rfl) ?_
    refine lv_bipush (v := 112) hx hb dX9_readHelper_31 (by decide) ?_
    refine lv_icmp_ne (tgt := 40) hx hb dX9_readHelper_33 (by decide) (fun c_33 => ?_) (fun c_33 => ?_)
    · refine lv_iload_n hx hb dX9_readHelper_40 rfl (lv_at hl 0 rfl) ?_
      refine lv_bipush (v := 98) hx hb dX9_readHelper_41 (by decide) ?_
      refine lv_icmp_ne (tgt := 50) hx hb dX9_readHelper_43 (by decide) (fun c_43 => ?_) (fun c_43 => ?_)
      · refine lv_iload_n hx hb dX9_readHelper_50 rfl (lv_at hl 0 rfl) ?_
        refine lv_bipush (v := 100) hx hb dX9_readHelper_51 (by decide) ?_
        refine lv_icmp_ne (tgt := 60) hx hb dX9_readHelper_53 (by decide) (fun c_53 => ?_) (fun c_53 => ?_)
        · exact absurd (show knd (ce (b + t)) = -9 by rw [knd, if_neg c_43, if_neg c_53, if_neg c_33]) hy.2
        · refine lv_iconst (v := 2) hx hb dX9_readHelper_56 (by decide) ?_
          refine qh_topi (y := knd (ce (b + t))) (by rw [c_53]; rfl) ?_
          refine lv_goto (tgt := 62) hx hb dX9_readHelper_57 (by decide) ?_
          refine qh_iast hx hb hK hH (by omega) b_77 (j := q) (rfl) (by omega) (by omega) dX9_readHelper_62 (fun E_1 H locs h_77 hfr hH _ => ?_)
          have hF : ∀ x9, x9 ≠ 77 → E_1 x9 = E x9 := fun x9 a0 => hfr x9 a0
          refine lv_aload_n hx hb dX9_readHelper_63 rfl (lv_at hl 1 rfl) ?_
          refine qh_get hx hb hH f_50 (by omega) ((hF 63 (by decide)).trans b_63) rfl dX9_readHelper_64 ?_
          refine lv_aload_n hx hb dX9_readHelper_67 rfl (lv_at hl 1 rfl) ?_
          refine qh_get hx hb hH f_111 (by omega) ((hF 63 (by decide)).trans b_63) rfl dX9_readHelper_68 ?_
          refine qh_iald hx hb hK hH (by omega) h_77 (j := q) (rfl) (by omega) (by omega) dX9_readHelper_71 ?_
          refine qh_topi (y := knd (ce (b + t))) (if_pos rfl) ?_
          refine lv_bipush (v := (-9)) hx hb dX9_readHelper_72 (by decide) ?_
          refine lv_icmp_ne (tgt := 79) hx hb dX9_readHelper_74 (by decide) (fun c_74 => ?_) (fun c_74 => ?_)
          · refine lv_aload_n hx hb dX9_readHelper_79 rfl (lv_at hl 1 rfl) ?_
            refine lv_dup hx hb dX9_readHelper_80 rfl ?_
            refine qh_get hx hb hH f_87 (by omega) ((hF 63 (by decide)).trans b_63) rfl dX9_readHelper_81 ?_
            refine lv_iconst (v := 1) hx hb dX9_readHelper_84 (by decide) ?_
            refine lv_iadd hx hb dX9_readHelper_85 ?_
            refine qh_topi (y := nI (b + (t + 1))) (nI_1 (b + t)) ?_
            refine qh_put (fs' := [.int fa, .int tm, .ref (z + 64), .ref (z + 65), .ref (z + 66), .int (nI n), .int (nI m2), .ref (z + 67), .ref (z + 68), .ref (z + 69), .ref (z + 70), .ref (z + 71), .int (nI ln), .ref (z + 72), .ref (z + 73), .ref (z + 74), .ref (z + 75), .int (nI (b + (t + 1))), .int rm, .int (nI q), .ref (z + 76), .ref (z + 77), .ref (z + 78), .ref (z + 79), .ref (z + 80), .int sf, .int sl, .ref (z + 81), .int (nI rn), .ref (z + 82), .ref (z + 83)]) hx hb hH w_87 (by omega) ((hF 63 (by decide)).trans b_63) rfl rfl (Nat.le_of_ble_eq_true rfl) rfl dX9_readHelper_86 (fun E_2 H locs h_63 hfr hH _ => ?_)
            have h_77 := (hfr 77 (by decide)).trans h_77
            have hF : ∀ x9, x9 ≠ 77 → x9 ≠ 63 → E_2 x9 = E x9 := fun x9 a0 a1 => (hfr x9 a1).trans (hF x9 a0)
            refine lv_aload_n hx hb dX9_readHelper_89 rfl (lv_at hl 1 rfl) ?_
            refine qh_get hx hb hH f_53 (by omega) h_63 rfl dX9_readHelper_90 ?_
            refine lv_aload_n hx hb dX9_readHelper_93 rfl (lv_at hl 1 rfl) ?_
            refine qh_get hx hb hH f_111 (by omega) h_63 rfl dX9_readHelper_94 ?_
            refine lv_aload_n hx hb dX9_readHelper_97 rfl (lv_at hl 1 rfl) ?_
            refine lv_iload_n hx hb dX9_readHelper_98 rfl (lv_at hl 2 rfl) ?_
            refine qh_runV (As := [.int (nI (b + m))]) (rest := [.int (nI q), .ref (z + 78)]) (C := RX9) ⟨hx, hb, hml, hown, hts⟩ hK hH (c_X9_digit_no l G z M E_2 fa tm n m2 ln rm (nI q) sf sl rn b m (t + 1) ce (⟨hbm.1, by omega⟩) (hd) (hM) h_63 ((hF 66 (by decide) (by decide)).trans b_66)) (cwV 1 hts gX9_readHelper_X9_digit rfl rfl rfl (by decide +kernel) (by rw [hRf, hRl]; exact ⟨Nat.le_of_ble_eq_true rfl, Nat.le_of_ble_eq_true rfl⟩)) (by omega) h_63 rfl rfl hl.1 rfl (Nat.le_of_ble_eq_true rfl) dX9_readHelper_99 ⟨Nat.zero_le _, Nat.zero_le _⟩ (qh_kki fun r_99 E_3 H locs hpost hH => ?_)
            obtain ⟨rfl, rfl⟩ := hpost
            refine qh_iast hx hb hK hH (by omega) ((hF 78 (by decide) (by decide)).trans b_78) (j := q) (rfl) (by omega) (by omega) dX9_readHelper_102 (fun E_4 H locs h_78 hfr hH _ => ?_)
            have h_77 := (hfr 77 (by decide)).trans h_77
            have h_63 := (hfr 63 (by decide)).trans h_63
            have hF : ∀ x9, x9 ≠ 77 → x9 ≠ 63 → x9 ≠ 78 → E_4 x9 = E x9 := fun x9 a0 a1 a2 => (hfr x9 a2).trans (hF x9 a0 a1)
            refine lv_aload_n hx hb dX9_readHelper_103 rfl (lv_at hl 1 rfl) ?_
            refine lv_dup hx hb dX9_readHelper_104 rfl ?_
            refine qh_get hx hb hH f_111 (by omega) h_63 rfl dX9_readHelper_105 ?_
            refine lv_iconst (v := 1) hx hb dX9_readHelper_108 (by decide) ?_
            refine lv_iadd hx hb dX9_readHelper_109 ?_
            refine qh_topi (y := nI (q + 1)) (nI_1 q) ?_
            refine qh_put (fs' := [.int fa, .int tm, .ref (z + 64), .ref (z + 65), .ref (z + 66), .int (nI n), .int (nI m2), .ref (z + 67), .ref (z + 68), .ref (z + 69), .ref (z + 70), .ref (z + 71), .int (nI ln), .ref (z + 72), .ref (z + 73), .ref (z + 74), .ref (z + 75), .int (nI (b + (t + 1))), .int rm, .int (nI (q + 1)), .ref (z + 76), .ref (z + 77), .ref (z + 78), .ref (z + 79), .ref (z + 80), .int sf, .int sl, .ref (z + 81), .int (nI rn), .ref (z + 82), .ref (z + 83)]) hx hb hH w_111 (by omega) h_63 rfl rfl (Nat.le_of_ble_eq_true rfl) rfl dX9_readHelper_110 (fun E_5 H locs h_63 hfr hH _ => ?_)
            have h_77 := (hfr 77 (by decide)).trans h_77
            have h_78 := (hfr 78 (by decide)).trans h_78
            have hF : ∀ x9, x9 ≠ 77 → x9 ≠ 63 → x9 ≠ 78 → E_5 x9 = E x9 := fun x9 a0 a1 a2 => (hfr x9 a1).trans (hF x9 a0 a1 a2)
            refine lv_aload_n hx hb dX9_readHelper_113 rfl (lv_at hl 1 rfl) ?_
            refine qh_get hx hb hH f_53 (by omega) h_63 rfl dX9_readHelper_114 ?_
            refine lv_aload_n hx hb dX9_readHelper_117 rfl (lv_at hl 1 rfl) ?_
            refine qh_get hx hb hH f_111 (by omega) h_63 rfl dX9_readHelper_118 ?_
            refine lv_iconst (v := 1) hx hb dX9_readHelper_121 (by decide) ?_
            refine lv_isub hx hb dX9_readHelper_122 ?_
            refine qh_topi (y := nI q) (pk_sub (a := q + 1) (b := 1) (by omega)) ?_
            refine qh_iald hx hb hK hH (by omega) h_78 (j := q) (rfl) (by omega) (by omega) dX9_readHelper_123 ?_
            refine qh_topi (y := -9) (if_pos rfl) ?_
            refine lv_bipush (v := (-9)) hx hb dX9_readHelper_124 (by decide) ?_
            refine lv_icmp_eq (tgt := 133) hx hb dX9_readHelper_126 (by decide) (fun c_126 => ?_) (fun c_126 => ?_)
            · refine lv_iconst (v := 0) hx hb dX9_readHelper_133 (by decide) ?_
              exact hret dX9_readHelper_134 hH (Or.inl rfl) (⟨rfl, h_77, h_63, h_78, hF⟩)
            · exact absurd (by decide) c_126
          · exact absurd c_74 hy.2
      · refine lv_iconst (v := 1) hx hb dX9_readHelper_46 (by decide) ?_
        refine qh_topi (y := knd (ce (b + t))) (by rw [c_43]; rfl) ?_
        refine lv_goto (tgt := 62) hx hb dX9_readHelper_47 (by decide) ?_
        refine qh_iast hx hb hK hH (by omega) b_77 (j := q) (rfl) (by omega) (by omega) dX9_readHelper_62 (fun E_6 H locs h_77 hfr hH _ => ?_)
        have hF : ∀ x9, x9 ≠ 77 → E_6 x9 = E x9 := fun x9 a0 => hfr x9 a0
        refine lv_aload_n hx hb dX9_readHelper_63 rfl (lv_at hl 1 rfl) ?_
        refine qh_get hx hb hH f_50 (by omega) ((hF 63 (by decide)).trans b_63) rfl dX9_readHelper_64 ?_
        refine lv_aload_n hx hb dX9_readHelper_67 rfl (lv_at hl 1 rfl) ?_
        refine qh_get hx hb hH f_111 (by omega) ((hF 63 (by decide)).trans b_63) rfl dX9_readHelper_68 ?_
        refine qh_iald hx hb hK hH (by omega) h_77 (j := q) (rfl) (by omega) (by omega) dX9_readHelper_71 ?_
        refine qh_topi (y := knd (ce (b + t))) (if_pos rfl) ?_
        refine lv_bipush (v := (-9)) hx hb dX9_readHelper_72 (by decide) ?_
        refine lv_icmp_ne (tgt := 79) hx hb dX9_readHelper_74 (by decide) (fun c_74 => ?_) (fun c_74 => ?_)
        · refine lv_aload_n hx hb dX9_readHelper_79 rfl (lv_at hl 1 rfl) ?_
          refine lv_dup hx hb dX9_readHelper_80 rfl ?_
          refine qh_get hx hb hH f_87 (by omega) ((hF 63 (by decide)).trans b_63) rfl dX9_readHelper_81 ?_
          refine lv_iconst (v := 1) hx hb dX9_readHelper_84 (by decide) ?_
          refine lv_iadd hx hb dX9_readHelper_85 ?_
          refine qh_topi (y := nI (b + (t + 1))) (nI_1 (b + t)) ?_
          refine qh_put (fs' := [.int fa, .int tm, .ref (z + 64), .ref (z + 65), .ref (z + 66), .int (nI n), .int (nI m2), .ref (z + 67), .ref (z + 68), .ref (z + 69), .ref (z + 70), .ref (z + 71), .int (nI ln), .ref (z + 72), .ref (z + 73), .ref (z + 74), .ref (z + 75), .int (nI (b + (t + 1))), .int rm, .int (nI q), .ref (z + 76), .ref (z + 77), .ref (z + 78), .ref (z + 79), .ref (z + 80), .int sf, .int sl, .ref (z + 81), .int (nI rn), .ref (z + 82), .ref (z + 83)]) hx hb hH w_87 (by omega) ((hF 63 (by decide)).trans b_63) rfl rfl (Nat.le_of_ble_eq_true rfl) rfl dX9_readHelper_86 (fun E_7 H locs h_63 hfr hH _ => ?_)
          have h_77 := (hfr 77 (by decide)).trans h_77
          have hF : ∀ x9, x9 ≠ 77 → x9 ≠ 63 → E_7 x9 = E x9 := fun x9 a0 a1 => (hfr x9 a1).trans (hF x9 a0)
          refine lv_aload_n hx hb dX9_readHelper_89 rfl (lv_at hl 1 rfl) ?_
          refine qh_get hx hb hH f_53 (by omega) h_63 rfl dX9_readHelper_90 ?_
          refine lv_aload_n hx hb dX9_readHelper_93 rfl (lv_at hl 1 rfl) ?_
          refine qh_get hx hb hH f_111 (by omega) h_63 rfl dX9_readHelper_94 ?_
          refine lv_aload_n hx hb dX9_readHelper_97 rfl (lv_at hl 1 rfl) ?_
          refine lv_iload_n hx hb dX9_readHelper_98 rfl (lv_at hl 2 rfl) ?_
          refine qh_runV (As := [.int (nI (b + m))]) (rest := [.int (nI q), .ref (z + 78)]) (C := RX9) ⟨hx, hb, hml, hown, hts⟩ hK hH (c_X9_digit_no l G z M E_7 fa tm n m2 ln rm (nI q) sf sl rn b m (t + 1) ce (⟨hbm.1, by omega⟩) (hd) (hM) h_63 ((hF 66 (by decide) (by decide)).trans b_66)) (cwV 1 hts gX9_readHelper_X9_digit rfl rfl rfl (by decide +kernel) (by rw [hRf, hRl]; exact ⟨Nat.le_of_ble_eq_true rfl, Nat.le_of_ble_eq_true rfl⟩)) (by omega) h_63 rfl rfl hl.1 rfl (Nat.le_of_ble_eq_true rfl) dX9_readHelper_99 ⟨Nat.zero_le _, Nat.zero_le _⟩ (qh_kki fun r_99 E_8 H locs hpost hH => ?_)
          obtain ⟨rfl, rfl⟩ := hpost
          refine qh_iast hx hb hK hH (by omega) ((hF 78 (by decide) (by decide)).trans b_78) (j := q) (rfl) (by omega) (by omega) dX9_readHelper_102 (fun E_9 H locs h_78 hfr hH _ => ?_)
          have h_77 := (hfr 77 (by decide)).trans h_77
          have h_63 := (hfr 63 (by decide)).trans h_63
          have hF : ∀ x9, x9 ≠ 77 → x9 ≠ 63 → x9 ≠ 78 → E_9 x9 = E x9 := fun x9 a0 a1 a2 => (hfr x9 a2).trans (hF x9 a0 a1)
          refine lv_aload_n hx hb dX9_readHelper_103 rfl (lv_at hl 1 rfl) ?_
          refine lv_dup hx hb dX9_readHelper_104 rfl ?_
          refine qh_get hx hb hH f_111 (by omega) h_63 rfl dX9_readHelper_105 ?_
          refine lv_iconst (v := 1) hx hb dX9_readHelper_108 (by decide) ?_
          refine lv_iadd hx hb dX9_readHelper_109 ?_
          refine qh_topi (y := nI (q + 1)) (nI_1 q) ?_
          refine qh_put (fs' := [.int fa, .int tm, .ref (z + 64), .ref (z + 65), .ref (z + 66), .int (nI n), .int (nI m2), .ref (z + 67), .ref (z + 68), .ref (z + 69), .ref (z + 70), .ref (z + 71), .int (nI ln), .ref (z + 72), .ref (z + 73), .ref (z + 74), .ref (z + 75), .int (nI (b + (t + 1))), .int rm, .int (nI (q + 1)), .ref (z + 76), .ref (z + 77), .ref (z + 78), .ref (z + 79), .ref (z + 80), .int sf, .int sl, .ref (z + 81), .int (nI rn), .ref (z + 82), .ref (z + 83)]) hx hb hH w_111 (by omega) h_63 rfl rfl (Nat.le_of_ble_eq_true rfl) rfl dX9_readHelper_110 (fun E_10 H locs h_63 hfr hH _ => ?_)
          have h_77 := (hfr 77 (by decide)).trans h_77
          have h_78 := (hfr 78 (by decide)).trans h_78
          have hF : ∀ x9, x9 ≠ 77 → x9 ≠ 63 → x9 ≠ 78 → E_10 x9 = E x9 := fun x9 a0 a1 a2 => (hfr x9 a1).trans (hF x9 a0 a1 a2)
          refine lv_aload_n hx hb dX9_readHelper_113 rfl (lv_at hl 1 rfl) ?_
          refine qh_get hx hb hH f_53 (by omega) h_63 rfl dX9_readHelper_114 ?_
          refine lv_aload_n hx hb dX9_readHelper_117 rfl (lv_at hl 1 rfl) ?_
          refine qh_get hx hb hH f_111 (by omega) h_63 rfl dX9_readHelper_118 ?_
          refine lv_iconst (v := 1) hx hb dX9_readHelper_121 (by decide) ?_
          refine lv_isub hx hb dX9_readHelper_122 ?_
          refine qh_topi (y := nI q) (pk_sub (a := q + 1) (b := 1) (by omega)) ?_
          refine qh_iald hx hb hK hH (by omega) h_78 (j := q) (rfl) (by omega) (by omega) dX9_readHelper_123 ?_
          refine qh_topi (y := -9) (if_pos rfl) ?_
          refine lv_bipush (v := (-9)) hx hb dX9_readHelper_124 (by decide) ?_
          refine lv_icmp_eq (tgt := 133) hx hb dX9_readHelper_126 (by decide) (fun c_126 => ?_) (fun c_126 => ?_)
          · refine lv_iconst (v := 0) hx hb dX9_readHelper_133 (by decide) ?_
            exact hret dX9_readHelper_134 hH (Or.inl rfl) (⟨rfl, h_77, h_63, h_78, hF⟩)
          · exact absurd (by decide) c_126
        · exact absurd c_74 hy.2
    · refine lv_iconst (v := 0) hx hb dX9_readHelper_36 (by decide) ?_
      refine qh_topi (y := knd (ce (b + t))) (by rw [c_33]; rfl) ?_
      refine lv_goto (tgt := 62) hx hb dX9_readHelper_37 (by decide) ?_
      refine qh_iast hx hb hK hH (by omega) b_77 (j := q) (rfl) (by omega) (by omega) dX9_readHelper_62 (fun E_11 H locs h_77 hfr hH _ => ?_)
      have hF : ∀ x9, x9 ≠ 77 → E_11 x9 = E x9 := fun x9 a0 => hfr x9 a0
      refine lv_aload_n hx hb dX9_readHelper_63 rfl (lv_at hl 1 rfl) ?_
      refine qh_get hx hb hH f_50 (by omega) ((hF 63 (by decide)).trans b_63) rfl dX9_readHelper_64 ?_
      refine lv_aload_n hx hb dX9_readHelper_67 rfl (lv_at hl 1 rfl) ?_
      refine qh_get hx hb hH f_111 (by omega) ((hF 63 (by decide)).trans b_63) rfl dX9_readHelper_68 ?_
      refine qh_iald hx hb hK hH (by omega) h_77 (j := q) (rfl) (by omega) (by omega) dX9_readHelper_71 ?_
      refine qh_topi (y := knd (ce (b + t))) (if_pos rfl) ?_
      refine lv_bipush (v := (-9)) hx hb dX9_readHelper_72 (by decide) ?_
      refine lv_icmp_ne (tgt := 79) hx hb dX9_readHelper_74 (by decide) (fun c_74 => ?_) (fun c_74 => ?_)
      · refine lv_aload_n hx hb dX9_readHelper_79 rfl (lv_at hl 1 rfl) ?_
        refine lv_dup hx hb dX9_readHelper_80 rfl ?_
        refine qh_get hx hb hH f_87 (by omega) ((hF 63 (by decide)).trans b_63) rfl dX9_readHelper_81 ?_
        refine lv_iconst (v := 1) hx hb dX9_readHelper_84 (by decide) ?_
        refine lv_iadd hx hb dX9_readHelper_85 ?_
        refine qh_topi (y := nI (b + (t + 1))) (nI_1 (b + t)) ?_
        refine qh_put (fs' := [.int fa, .int tm, .ref (z + 64), .ref (z + 65), .ref (z + 66), .int (nI n), .int (nI m2), .ref (z + 67), .ref (z + 68), .ref (z + 69), .ref (z + 70), .ref (z + 71), .int (nI ln), .ref (z + 72), .ref (z + 73), .ref (z + 74), .ref (z + 75), .int (nI (b + (t + 1))), .int rm, .int (nI q), .ref (z + 76), .ref (z + 77), .ref (z + 78), .ref (z + 79), .ref (z + 80), .int sf, .int sl, .ref (z + 81), .int (nI rn), .ref (z + 82), .ref (z + 83)]) hx hb hH w_87 (by omega) ((hF 63 (by decide)).trans b_63) rfl rfl (Nat.le_of_ble_eq_true rfl) rfl dX9_readHelper_86 (fun E_12 H locs h_63 hfr hH _ => ?_)
        have h_77 := (hfr 77 (by decide)).trans h_77
        have hF : ∀ x9, x9 ≠ 77 → x9 ≠ 63 → E_12 x9 = E x9 := fun x9 a0 a1 => (hfr x9 a1).trans (hF x9 a0)
        refine lv_aload_n hx hb dX9_readHelper_89 rfl (lv_at hl 1 rfl) ?_
        refine qh_get hx hb hH f_53 (by omega) h_63 rfl dX9_readHelper_90 ?_
        refine lv_aload_n hx hb dX9_readHelper_93 rfl (lv_at hl 1 rfl) ?_
        refine qh_get hx hb hH f_111 (by omega) h_63 rfl dX9_readHelper_94 ?_
        refine lv_aload_n hx hb dX9_readHelper_97 rfl (lv_at hl 1 rfl) ?_
        refine lv_iload_n hx hb dX9_readHelper_98 rfl (lv_at hl 2 rfl) ?_
        refine qh_runV (As := [.int (nI (b + m))]) (rest := [.int (nI q), .ref (z + 78)]) (C := RX9) ⟨hx, hb, hml, hown, hts⟩ hK hH (c_X9_digit_no l G z M E_12 fa tm n m2 ln rm (nI q) sf sl rn b m (t + 1) ce (⟨hbm.1, by omega⟩) (hd) (hM) h_63 ((hF 66 (by decide) (by decide)).trans b_66)) (cwV 1 hts gX9_readHelper_X9_digit rfl rfl rfl (by decide +kernel) (by rw [hRf, hRl]; exact ⟨Nat.le_of_ble_eq_true rfl, Nat.le_of_ble_eq_true rfl⟩)) (by omega) h_63 rfl rfl hl.1 rfl (Nat.le_of_ble_eq_true rfl) dX9_readHelper_99 ⟨Nat.zero_le _, Nat.zero_le _⟩ (qh_kki fun r_99 E_13 H locs hpost hH => ?_)
        obtain ⟨rfl, rfl⟩ := hpost
        refine qh_iast hx hb hK hH (by omega) ((hF 78 (by decide) (by decide)).trans b_78) (j := q) (rfl) (by omega) (by omega) dX9_readHelper_102 (fun E_14 H locs h_78 hfr hH _ => ?_)
        have h_77 := (hfr 77 (by decide)).trans h_77
        have h_63 := (hfr 63 (by decide)).trans h_63
        have hF : ∀ x9, x9 ≠ 77 → x9 ≠ 63 → x9 ≠ 78 → E_14 x9 = E x9 := fun x9 a0 a1 a2 => (hfr x9 a2).trans (hF x9 a0 a1)
        refine lv_aload_n hx hb dX9_readHelper_103 rfl (lv_at hl 1 rfl) ?_
        refine lv_dup hx hb dX9_readHelper_104 rfl ?_
        refine qh_get hx hb hH f_111 (by omega) h_63 rfl dX9_readHelper_105 ?_
        refine lv_iconst (v := 1) hx hb dX9_readHelper_108 (by decide) ?_
        refine lv_iadd hx hb dX9_readHelper_109 ?_
        refine qh_topi (y := nI (q + 1)) (nI_1 q) ?_
        refine qh_put (fs' := [.int fa, .int tm, .ref (z + 64), .ref (z + 65), .ref (z + 66), .int (nI n), .int (nI m2), .ref (z + 67), .ref (z + 68), .ref (z + 69), .ref (z + 70), .ref (z + 71), .int (nI ln), .ref (z + 72), .ref (z + 73), .ref (z + 74), .ref (z + 75), .int (nI (b + (t + 1))), .int rm, .int (nI (q + 1)), .ref (z + 76), .ref (z + 77), .ref (z + 78), .ref (z + 79), .ref (z + 80), .int sf, .int sl, .ref (z + 81), .int (nI rn), .ref (z + 82), .ref (z + 83)]) hx hb hH w_111 (by omega) h_63 rfl rfl (Nat.le_of_ble_eq_true rfl) rfl dX9_readHelper_110 (fun E_15 H locs h_63 hfr hH _ => ?_)
        have h_77 := (hfr 77 (by decide)).trans h_77
        have h_78 := (hfr 78 (by decide)).trans h_78
        have hF : ∀ x9, x9 ≠ 77 → x9 ≠ 63 → x9 ≠ 78 → E_15 x9 = E x9 := fun x9 a0 a1 a2 => (hfr x9 a1).trans (hF x9 a0 a1 a2)
        refine lv_aload_n hx hb dX9_readHelper_113 rfl (lv_at hl 1 rfl) ?_
        refine qh_get hx hb hH f_53 (by omega) h_63 rfl dX9_readHelper_114 ?_
        refine lv_aload_n hx hb dX9_readHelper_117 rfl (lv_at hl 1 rfl) ?_
        refine qh_get hx hb hH f_111 (by omega) h_63 rfl dX9_readHelper_118 ?_
        refine lv_iconst (v := 1) hx hb dX9_readHelper_121 (by decide) ?_
        refine lv_isub hx hb dX9_readHelper_122 ?_
        refine qh_topi (y := nI q) (pk_sub (a := q + 1) (b := 1) (by omega)) ?_
        refine qh_iald hx hb hK hH (by omega) h_78 (j := q) (rfl) (by omega) (by omega) dX9_readHelper_123 ?_
        refine qh_topi (y := -9) (if_pos rfl) ?_
        refine lv_bipush (v := (-9)) hx hb dX9_readHelper_124 (by decide) ?_
        refine lv_icmp_eq (tgt := 133) hx hb dX9_readHelper_126 (by decide) (fun c_126 => ?_) (fun c_126 => ?_)
        · refine lv_iconst (v := 0) hx hb dX9_readHelper_133 (by decide) ?_
          exact hret dX9_readHelper_134 hH (Or.inl rfl) (⟨rfl, h_77, h_63, h_78, hF⟩)
        · exact absurd (by decide) c_126
      · exact absurd c_74 hy.2
