theorem sec_y {f : Nat → Int64} {g : Int64} {a n : Nat} (h : ¬ g ≤ f (a + n)) : secR f g a (n + 1) = mx (secR f g a n) (f (a + n)) := by
  rw [secR, if_pos (Int64.not_le.mp h)]
theorem sec_n {f : Nat → Int64} {g : Int64} {a n : Nat} (h : g ≤ f (a + n)) : secR f g a (n + 1) = secR f g a n := by
  rw [secR, if_neg (Int64.not_lt.mpr h)]
theorem anyR_mem {f : Nat → Int64} {x : Int64} {a q : Nat} : ∀ {n : Nat}, q < n → f (a + q) = x → anyR f x a n = true
  | 0, h, _ => absurd h (Nat.not_lt_zero q)
  | n + 1, h, e => by
    rw [anyR]
    rcases Nat.lt_or_ge q n with w | w
    · rw [anyR_mem w e]; rfl
    · have e2 : q = n := by omega
      subst e2
      simp [e]
theorem gcd_less {s t d : Nat} (hg : Nat.gcd s t ≤ d) (h : ¬ (s % d = 0 ∧ t % d = 0)) (hd : 1 < d) : Nat.gcd s t ≤ d - 1 := by
  rcases Nat.lt_or_ge (Nat.gcd s t) d with w | w
  · omega
  · have e : Nat.gcd s t = d := by omega
    exact absurd ⟨Nat.mod_eq_zero_of_dvd (e ▸ Nat.gcd_dvd_left s t), Nat.mod_eq_zero_of_dvd (e ▸ Nat.gcd_dvd_right s t)⟩ h
theorem gcd_is {s t d : Nat} (hg : Nat.gcd s t ≤ d) (h1 : s % d = 0) (h2 : t % d = 0) (ht : 1 ≤ t) : Nat.gcd s t = d := by
  have h3 : d ∣ Nat.gcd s t := Nat.dvd_gcd (Nat.dvd_of_mod_eq_zero h1) (Nat.dvd_of_mod_eq_zero h2)
  have h4 := Nat.le_of_dvd (Nat.gcd_pos_of_pos_right s ht) h3
  omega
theorem gcd_one {s t d : Nat} (hg : Nat.gcd s t ≤ d) (hd : d ≤ 1) (ht : 1 ≤ t) : Nat.gcd s t = 1 := by
  have := Nat.gcd_pos_of_pos_right s ht
  omega
abbrev ofDay (x : Int32) : Prop := (¬ x < 0 ∧ x ≤ 4) ∨ (¬ x < 10 ∧ ¬ 26 ≤ x)
abbrev okS (x : Int32) : Prop := ¬ x < 0 ∧ ¬ 4 < x
theorem codF_in {f : Nat → Int32} {q t : Nat} (h : t < q) (hq : q ≤ 60) : codF f q (nI t) = f t := by
  rw [codF, if_pos (nI_has h (by omega)), nI_clamp (by omega)]
set_option maxHeartbeats 1000000 in
set_option maxRecDepth 100000 in
theorem c_X8_sum (l : Launch) (G : qh_G) (z M : Nat) (E : Nat → va_E) (i : Nat) (a : Nat) (b : Nat) (f : Nat → Int64) (hi : i < M) (hab : a ≤ b ∧ b < 16) (b_i : E i = qa_J G 16 f) : Met l yX8_sum wsX8_sum (qh_R 0) (qh_Pre G z M E [.ref (z + i), .int (nI a), .int (nI b)]) (qh_Q G z M (qh_l (fun r E' => E = E' ∧ r = sumR f a (b + 1 - a)))) 0 0 (fun q => z ≤ q) := by
  refine qh_metL (cc := cX8_sum) (maxL := 6) (by decide) rfl (Nat.le_of_ble_eq_true rfl) ?_
  intro pZ eZ sZ mZ aZ bZ tZ cZ RR QQ ls hx hb hml hown hts hRf hRl hH hK hl hret
  have hown : sZ.vm.findClass RX8 = some mZ.cls := hown
  have hl : lv_has ls 6 [(0, .ref (z + i)), (1, .int (nI a)), (2, .int (nI b))] := hl
  refine lv_lconst (v := 0) hx hb dX8_sum_0 (by decide) ?_
  refine lv_lstore_n (lv' := [(3, .long 0), (0, .ref (z + i)), (1, .int (nI a)), (2, .int (nI b))]) hx hb dX8_sum_1 rfl hl (by decide) rfl (fun ls hl => ?_)
  refine lv_iload_n hx hb dX8_sum_2 rfl (lv_at hl 2 rfl) ?_
  refine lv_istore (lv' := [(5, .int (nI a)), (3, .long 0), (0, .ref (z + i)), (1, .int (nI a)), (2, .int (nI b))]) hx hb dX8_sum_3 hl (by decide) rfl (fun ls hl => ?_)
  have L_5 : ∀ fu : Nat, ∀ q : Nat, (q ≤ b + 1 - a) → (b + 1 - a - q < fu) → ∀ (H : Heap) (locs : List Loc), qh_H G z M E sZ.heap H locs → ∀ ls : Array Slot, lv_has ls 6 [(0, .ref (z + i)), (1, .int (nI a)), (2, .int (nI b)), (3, .long (sumR f a q)), (5, .int (nI (a + q)))] → W pZ l eZ RR sZ mZ aZ bZ tZ cZ H locs 0 0 QQ (F0 mZ 5 ls []) := by
    intro fu
    induction fu with
    | zero =>
      intro q hq hfuel
      exact absurd hfuel (by omega)
    | succ fu ih =>
      intro q hq hfuel H locs hH ls hl
      refine lv_iload hx hb dX8_sum_5 (lv_at hl 4 rfl) ?_
      refine lv_iload_n hx hb dX8_sum_7 rfl (lv_at hl 2 rfl) ?_
      refine lv_icmp_gt (tgt := 24) hx hb dX8_sum_8 (by decide) (fun c_8 => ?_) (fun c_8 => ?_)
      · have hk : b < a + q := (nI_ltI (by omega) (by omega)).mp c_8
        have hex : b + 1 - a = q := by omega
        subst hex
        refine lv_lload_n hx hb dX8_sum_24 rfl (lv_at hl 3 rfl) ?_
        exact hret dX8_sum_25 hH (⟨rfl, rfl⟩)
      · have hk : ¬ b < a + q := fun w => c_8 (nI_lt w (by omega))
        refine lv_lload_n hx hb dX8_sum_11 rfl (lv_at hl 3 rfl) ?_
        refine lv_aload_n hx hb dX8_sum_12 rfl (lv_at hl 0 rfl) ?_
        refine lv_iload hx hb dX8_sum_13 (lv_at hl 4 rfl) ?_
        refine qh_lald hx hb hK hH (hi) b_i (j := a + q) (rfl) (by omega) (by omega) dX8_sum_15 ?_
        refine lv_ladd hx hb dX8_sum_16 ?_
        refine lv_lstore_n (lv' := [(3, .long ((sumR f a q) + (f (a + q)))), (0, .ref (z + i)), (1, .int (nI a)), (2, .int (nI b)), (5, .int (nI (a + q)))]) hx hb dX8_sum_17 rfl hl (by decide) rfl (fun ls hl => ?_)
        refine lv_iinc (v := nI ((a + q) + 1)) (lv' := [(5, .int (nI ((a + q) + 1))), (3, .long ((sumR f a q) + (f (a + q)))), (0, .ref (z + i)), (1, .int (nI a)), (2, .int (nI b))]) hx hb dX8_sum_18 hl (k := 4) rfl (qn_inc (a + q)) (by decide) rfl (fun ls hl => ?_)
        refine lv_goto (tgt := 5) hx hb dX8_sum_21 (by decide) ?_
        exact ih (q + 1) (by omega) (by omega) _ _ hH ls (lv_sub hl [2, 3, 4, 1, 0] rfl)
  exact L_5 (b + 1 - a + 1) 0 (Nat.zero_le _) (by omega) _ _ hH ls (lv_sub hl [2, 3, 4, 1, 0] rfl)

set_option maxHeartbeats 1000000 in
set_option maxRecDepth 100000 in
theorem c_X8_greatest (l : Launch) (G : qh_G) (z M : Nat) (E : Nat → va_E) (i : Nat) (a : Nat) (b : Nat) (f : Nat → Int64) (hi : i < M) (hab : a ≤ b ∧ b < 16) (b_i : E i = qa_J G 16 f) : Met l yX8_greatest wsX8_greatest (qh_R 1) (qh_Pre G z M E [.ref (z + i), .int (nI a), .int (nI b)]) (qh_Q G z M (qh_l (fun r E' => E = E' ∧ r = maxR f a (b - a)))) 0 0 (fun q => z ≤ q) := by
  refine qh_metL (cc := cX8_greatest) (maxL := 6) (by decide) rfl (Nat.le_of_ble_eq_true rfl) ?_
  intro pZ eZ sZ mZ aZ bZ tZ cZ RR QQ ls hx hb hml hown hts hRf hRl hH hK hl hret
  have hown : sZ.vm.findClass RX8 = some mZ.cls := hown
  have hl : lv_has ls 6 [(0, .ref (z + i)), (1, .int (nI a)), (2, .int (nI b))] := hl
  have j_339 := hts (.methodLink RX8 339 Lib.MathLoose.max_long.x) (by decide +kernel)
  have js_339 := hts (.static Lib.MathLoose.max_long.x) (by decide +kernel)
  have ji_Math := hts (.initialized "java/lang/Math") (by decide +kernel)
  have jc_339 := hts (.code Lib.MathLoose.max_long.x Lib.MathLoose.max_long.code 4 (some .long)) (by decide +kernel)
  refine lv_aload_n hx hb dX8_greatest_0 rfl (lv_at hl 0 rfl) ?_
  refine lv_iload_n hx hb dX8_greatest_1 rfl (lv_at hl 1 rfl) ?_
  refine qh_lald hx hb hK hH (hi) b_i (j := a) (rfl) (by omega) (by omega) dX8_greatest_2 ?_
  refine lv_lstore_n (lv' := [(3, .long (f a)), (0, .ref (z + i)), (1, .int (nI a)), (2, .int (nI b))]) hx hb dX8_greatest_3 rfl hl (by decide) rfl (fun ls hl => ?_)
  refine lv_iload_n hx hb dX8_greatest_4 rfl (lv_at hl 2 rfl) ?_
  refine lv_iconst (v := 1) hx hb dX8_greatest_5 (by decide) ?_
  refine lv_iadd hx hb dX8_greatest_6 ?_
  refine qh_topi (y := nI (a + 1)) (nI_1 a) ?_
  refine lv_istore (lv' := [(5, .int (nI (a + 1))), (3, .long (f a)), (0, .ref (z + i)), (1, .int (nI a)), (2, .int (nI b))]) hx hb dX8_greatest_7 hl (by decide) rfl (fun ls hl => ?_)
  have L_9 : ∀ fu : Nat, ∀ q : Nat, (q ≤ b - a) → (b - a - q < fu) → ∀ (H : Heap) (locs : List Loc), qh_H G z M E sZ.heap H locs → ∀ ls : Array Slot, lv_has ls 6 [(0, .ref (z + i)), (1, .int (nI a)), (2, .int (nI b)), (3, .long (maxR f a q)), (5, .int (nI (a + (q + 1))))] → W pZ l eZ RR sZ mZ aZ bZ tZ cZ H locs 0 0 QQ (F0 mZ 9 ls []) := by
    intro fu
    induction fu with
    | zero =>
      intro q hq hfuel
      exact absurd hfuel (by omega)
    | succ fu ih =>
      intro q hq hfuel H locs hH ls hl
      refine lv_iload hx hb dX8_greatest_9 (lv_at hl 4 rfl) ?_
      refine lv_iload_n hx hb dX8_greatest_11 rfl (lv_at hl 2 rfl) ?_
      refine lv_icmp_gt (tgt := 30) hx hb dX8_greatest_12 (by decide) (fun c_12 => ?_) (fun c_12 => ?_)
      · have hk : b < a + (q + 1) := (nI_ltI (by omega) (by omega)).mp c_12
        have hex : b - a = q := by omega
        subst hex
        refine lv_lload_n hx hb dX8_greatest_30 rfl (lv_at hl 3 rfl) ?_
        exact hret dX8_greatest_31 hH (⟨rfl, rfl⟩)
      · have hk : ¬ b < a + (q + 1) := fun w => c_12 (nI_lt w (by omega))
        refine lv_lload_n hx hb dX8_greatest_15 rfl (lv_at hl 3 rfl) ?_
        refine lv_aload_n hx hb dX8_greatest_16 rfl (lv_at hl 0 rfl) ?_
        refine lv_iload hx hb dX8_greatest_17 (lv_at hl 4 rfl) ?_
        refine qh_lald hx hb hK hH (hi) b_i (j := a + (q + 1)) (rfl) (by omega) (by omega) dX8_greatest_19 ?_
        refine va_mmax_long hx hb (hml.trans hl.1.symm) hown j_339 js_339 ji_Math jc_339 (by rw [hRf]; exact Nat.le_of_ble_eq_true rfl) (by rw [hRl]; exact Nat.le_of_ble_eq_true rfl) (Nat.zero_le _) (Nat.zero_le _) dX8_greatest_20 ?_
        refine qh_topl (y := mx (maxR f a q) (f (a + (q + 1)))) (mx_cls _ _) ?_
        refine lv_lstore_n (lv' := [(3, .long (mx (maxR f a q) (f (a + (q + 1))))), (0, .ref (z + i)), (1, .int (nI a)), (2, .int (nI b)), (5, .int (nI (a + (q + 1))))]) hx hb dX8_greatest_23 rfl hl (by decide) rfl (fun ls hl => ?_)
        refine lv_iinc (v := nI ((a + (q + 1)) + 1)) (lv' := [(5, .int (nI ((a + (q + 1)) + 1))), (3, .long (mx (maxR f a q) (f (a + (q + 1))))), (0, .ref (z + i)), (1, .int (nI a)), (2, .int (nI b))]) hx hb dX8_greatest_24 hl (k := 4) rfl (qn_inc (a + (q + 1))) (by decide) rfl (fun ls hl => ?_)
        refine lv_goto (tgt := 9) hx hb dX8_greatest_27 (by decide) ?_
        exact ih (q + 1) (by omega) (by omega) _ _ hH ls (lv_sub hl [2, 3, 4, 1, 0] rfl)
  exact L_9 (b - a + 1) 0 (Nat.zero_le _) (by omega) _ _ hH ls (lv_sub hl [2, 3, 4, 1, 0] rfl)

set_option maxHeartbeats 1000000 in
set_option maxRecDepth 100000 in
theorem c_X8_least (l : Launch) (G : qh_G) (z M : Nat) (E : Nat → va_E) (i : Nat) (a : Nat) (b : Nat) (f : Nat → Int64) (hi : i < M) (hab : a ≤ b ∧ b < 16) (b_i : E i = qa_J G 16 f) : Met l yX8_least wsX8_least (qh_R 1) (qh_Pre G z M E [.ref (z + i), .int (nI a), .int (nI b)]) (qh_Q G z M (qh_l (fun r E' => E = E' ∧ r = minR f a (b - a)))) 0 0 (fun q => z ≤ q) := by
  refine qh_metL (cc := cX8_least) (maxL := 6) (by decide) rfl (Nat.le_of_ble_eq_true rfl) ?_
  intro pZ eZ sZ mZ aZ bZ tZ cZ RR QQ ls hx hb hml hown hts hRf hRl hH hK hl hret
  have hown : sZ.vm.findClass RX8 = some mZ.cls := hown
  have hl : lv_has ls 6 [(0, .ref (z + i)), (1, .int (nI a)), (2, .int (nI b))] := hl
  have j_345 := hts (.methodLink RX8 345 Lib.MathLoose.min_long.x) (by decide +kernel)
  have js_345 := hts (.static Lib.MathLoose.min_long.x) (by decide +kernel)
  have ji_Math := hts (.initialized "java/lang/Math") (by decide +kernel)
  have jc_345 := hts (.code Lib.MathLoose.min_long.x Lib.MathLoose.min_long.code 4 (some .long)) (by decide +kernel)
  refine lv_aload_n hx hb dX8_least_0 rfl (lv_at hl 0 rfl) ?_
  refine lv_iload_n hx hb dX8_least_1 rfl (lv_at hl 1 rfl) ?_
  refine qh_lald hx hb hK hH (hi) b_i (j := a) (rfl) (by omega) (by omega) dX8_least_2 ?_
  refine lv_lstore_n (lv' := [(3, .long (f a)), (0, .ref (z + i)), (1, .int (nI a)), (2, .int (nI b))]) hx hb dX8_least_3 rfl hl (by decide) rfl (fun ls hl => ?_)
  refine lv_iload_n hx hb dX8_least_4 rfl (lv_at hl 2 rfl) ?_
  refine lv_iconst (v := 1) hx hb dX8_least_5 (by decide) ?_
  refine lv_iadd hx hb dX8_least_6 ?_
  refine qh_topi (y := nI (a + 1)) (nI_1 a) ?_
  refine lv_istore (lv' := [(5, .int (nI (a + 1))), (3, .long (f a)), (0, .ref (z + i)), (1, .int (nI a)), (2, .int (nI b))]) hx hb dX8_least_7 hl (by decide) rfl (fun ls hl => ?_)
  have L_9 : ∀ fu : Nat, ∀ q : Nat, (q ≤ b - a) → (b - a - q < fu) → ∀ (H : Heap) (locs : List Loc), qh_H G z M E sZ.heap H locs → ∀ ls : Array Slot, lv_has ls 6 [(0, .ref (z + i)), (1, .int (nI a)), (2, .int (nI b)), (3, .long (minR f a q)), (5, .int (nI (a + (q + 1))))] → W pZ l eZ RR sZ mZ aZ bZ tZ cZ H locs 0 0 QQ (F0 mZ 9 ls []) := by
    intro fu
    induction fu with
    | zero =>
      intro q hq hfuel
      exact absurd hfuel (by omega)
    | succ fu ih =>
      intro q hq hfuel H locs hH ls hl
      refine lv_iload hx hb dX8_least_9 (lv_at hl 4 rfl) ?_
      refine lv_iload_n hx hb dX8_least_11 rfl (lv_at hl 2 rfl) ?_
      refine lv_icmp_gt (tgt := 30) hx hb dX8_least_12 (by decide) (fun c_12 => ?_) (fun c_12 => ?_)
      · have hk : b < a + (q + 1) := (nI_ltI (by omega) (by omega)).mp c_12
        have hex : b - a = q := by omega
        subst hex
        refine lv_lload_n hx hb dX8_least_30 rfl (lv_at hl 3 rfl) ?_
        exact hret dX8_least_31 hH (⟨rfl, rfl⟩)
      · have hk : ¬ b < a + (q + 1) := fun w => c_12 (nI_lt w (by omega))
        refine lv_lload_n hx hb dX8_least_15 rfl (lv_at hl 3 rfl) ?_
        refine lv_aload_n hx hb dX8_least_16 rfl (lv_at hl 0 rfl) ?_
        refine lv_iload hx hb dX8_least_17 (lv_at hl 4 rfl) ?_
        refine qh_lald hx hb hK hH (hi) b_i (j := a + (q + 1)) (rfl) (by omega) (by omega) dX8_least_19 ?_
        refine va_mmin_long hx hb (hml.trans hl.1.symm) hown j_345 js_345 ji_Math jc_345 (by rw [hRf]; exact Nat.le_of_ble_eq_true rfl) (by rw [hRl]; exact Nat.le_of_ble_eq_true rfl) (Nat.zero_le _) (Nat.zero_le _) dX8_least_20 ?_
        refine qh_topl (y := mn (minR f a q) (f (a + (q + 1)))) (rfl) ?_
        refine lv_lstore_n (lv' := [(3, .long (mn (minR f a q) (f (a + (q + 1))))), (0, .ref (z + i)), (1, .int (nI a)), (2, .int (nI b)), (5, .int (nI (a + (q + 1))))]) hx hb dX8_least_23 rfl hl (by decide) rfl (fun ls hl => ?_)
        refine lv_iinc (v := nI ((a + (q + 1)) + 1)) (lv' := [(5, .int (nI ((a + (q + 1)) + 1))), (3, .long (mn (minR f a q) (f (a + (q + 1))))), (0, .ref (z + i)), (1, .int (nI a)), (2, .int (nI b))]) hx hb dX8_least_24 hl (k := 4) rfl (qn_inc (a + (q + 1))) (by decide) rfl (fun ls hl => ?_)
        refine lv_goto (tgt := 9) hx hb dX8_least_27 (by decide) ?_
        exact ih (q + 1) (by omega) (by omega) _ _ hH ls (lv_sub hl [2, 3, 4, 1, 0] rfl)
  exact L_9 (b - a + 1) 0 (Nat.zero_le _) (by omega) _ _ hH ls (lv_sub hl [2, 3, 4, 1, 0] rfl)

set_option maxHeartbeats 1000000 in
set_option maxRecDepth 100000 in
theorem c_X8_second (l : Launch) (G : qh_G) (z M : Nat) (E : Nat → va_E) (i : Nat) (a : Nat) (b : Nat) (f : Nat → Int64) (hi : i < M) (hab : a ≤ b ∧ b < 16) (b_i : E i = qa_J G 16 f) : Met l yX8_second wsX8_second (qh_R 2) (qh_Pre G z M E [.ref (z + i), .int (nI a), .int (nI b)]) (qh_Q G z M (qh_l (fun r E' => E = E' ∧ r = secR f (maxR f a (b - a)) a (b + 1 - a)))) 0 0 (fun q => z ≤ q) := by
  refine qh_metL (cc := cX8_second) (maxL := 8) (by decide) rfl (Nat.le_of_ble_eq_true rfl) ?_
  intro pZ eZ sZ mZ aZ bZ tZ cZ RR QQ ls hx hb hml hown hts hRf hRl hH hK hl hret
  have hown : sZ.vm.findClass RX8 = some mZ.cls := hown
  have hl : lv_has ls 8 [(0, .ref (z + i)), (1, .int (nI a)), (2, .int (nI b))] := hl
  have k_161 := hts (.constantLong RX8 161 (-9223372036854775808)) (by decide +kernel)
  have j_339 := hts (.methodLink RX8 339 Lib.MathLoose.max_long.x) (by decide +kernel)
  have js_339 := hts (.static Lib.MathLoose.max_long.x) (by decide +kernel)
  have ji_Math := hts (.initialized "java/lang/Math") (by decide +kernel)
  have jc_339 := hts (.code Lib.MathLoose.max_long.x Lib.MathLoose.max_long.code 4 (some .long)) (by decide +kernel)
  refine lv_aload_n hx hb dX8_second_0 rfl (lv_at hl 0 rfl) ?_
  refine lv_iload_n hx hb dX8_second_1 rfl (lv_at hl 1 rfl) ?_
  refine lv_iload_n hx hb dX8_second_2 rfl (lv_at hl 2 rfl) ?_
  refine qh_runS (As := [.ref (z + i), .int (nI a), .int (nI b)]) (rest := []) ⟨hx, hb, hml, hown, hts⟩ hK hH (c_X8_greatest l G z M E i a b f (hi) (⟨hab.1, hab.2⟩) b_i) (va_cwS 3 hts gX8_second_X8_greatest rfl rfl rfl (by decide +kernel) (by rw [hRf, hRl]; exact ⟨Nat.le_of_ble_eq_true rfl, Nat.le_of_ble_eq_true rfl⟩)) rfl hl.1 rfl (Nat.le_of_ble_eq_true rfl) dX8_second_3 ⟨Nat.zero_le _, Nat.zero_le _⟩ (qh_kkl fun r_3 E_1 H locs hpost hH => ?_)
  obtain ⟨rfl, rfl⟩ := hpost
  refine lv_lstore_n (lv' := [(3, .long (maxR f a (b - a))), (0, .ref (z + i)), (1, .int (nI a)), (2, .int (nI b))]) hx hb dX8_second_6 rfl hl (by decide) rfl (fun ls hl => ?_)
  refine lv_ldc2 hx hb hown k_161 dX8_second_7 ?_
  refine qh_topl (y := LOSTv) (rfl) ?_
  refine lv_lstore (lv' := [(5, .long LOSTv), (3, .long (maxR f a (b - a))), (0, .ref (z + i)), (1, .int (nI a)), (2, .int (nI b))]) hx hb dX8_second_10 hl (by decide) rfl (fun ls hl => ?_)
  refine lv_iload_n hx hb dX8_second_12 rfl (lv_at hl 3 rfl) ?_
  refine lv_istore (lv' := [(7, .int (nI a)), (5, .long LOSTv), (3, .long (maxR f a (b - a))), (0, .ref (z + i)), (1, .int (nI a)), (2, .int (nI b))]) hx hb dX8_second_13 hl (by decide) rfl (fun ls hl => ?_)
  have L_15 : ∀ fu : Nat, ∀ q : Nat, (q ≤ b + 1 - a) → (b + 1 - a - q < fu) → ∀ (H : Heap) (locs : List Loc), qh_H G z M E sZ.heap H locs → ∀ ls : Array Slot, lv_has ls 8 [(0, .ref (z + i)), (1, .int (nI a)), (2, .int (nI b)), (3, .long (maxR f a (b - a))), (5, .long (secR f (maxR f a (b - a)) a q)), (7, .int (nI (a + q)))] → W pZ l eZ RR sZ mZ aZ bZ tZ cZ H locs 0 0 QQ (F0 mZ 15 ls []) := by
    intro fu
    induction fu with
    | zero =>
      intro q hq hfuel
      exact absurd hfuel (by omega)
    | succ fu ih =>
      intro q hq hfuel H locs hH ls hl
      refine lv_iload hx hb dX8_second_15 (lv_at hl 5 rfl) ?_
      refine lv_iload_n hx hb dX8_second_17 rfl (lv_at hl 2 rfl) ?_
      refine lv_icmp_gt (tgt := 47) hx hb dX8_second_18 (by decide) (fun c_18 => ?_) (fun c_18 => ?_)
      · have hk : b < a + q := (nI_ltI (by omega) (by omega)).mp c_18
        have hex : b + 1 - a = q := by omega
        subst hex
        refine lv_lload hx hb dX8_second_47 (lv_at hl 4 rfl) ?_
        exact hret dX8_second_49 hH (⟨rfl, rfl⟩)
      · have hk : ¬ b < a + q := fun w => c_18 (nI_lt w (by omega))
        refine lv_aload_n hx hb dX8_second_21 rfl (lv_at hl 0 rfl) ?_
        refine lv_iload hx hb dX8_second_22 (lv_at hl 5 rfl) ?_
        refine qh_lald hx hb hK hH (hi) b_i (j := a + q) (rfl) (by omega) (by omega) dX8_second_24 ?_
        refine lv_lload_n hx hb dX8_second_25 rfl (lv_at hl 3 rfl) ?_
        refine W.lcmp hx hb dX8_second_26 ?_
        refine lv_if_ge (tgt := 41) hx hb dX8_second_27 (by decide) (fun c_27 => ?_) (fun c_27 => ?_)
        · have c_27 := (lg_cmp_ge _ _).mp c_27
          refine lv_iinc (v := nI ((a + q) + 1)) (lv' := [(7, .int (nI ((a + q) + 1))), (0, .ref (z + i)), (1, .int (nI a)), (2, .int (nI b)), (3, .long (maxR f a (b - a))), (5, .long (secR f (maxR f a (b - a)) a q))]) hx hb dX8_second_41 hl (k := 5) rfl (qn_inc (a + q)) (by decide) rfl (fun ls hl => ?_)
          refine lv_goto (tgt := 15) hx hb dX8_second_44 (by decide) ?_
          rw [← sec_n c_27] at hl
          exact ih (q + 1) (by omega) (by omega) _ _ hH ls (lv_sub hl [1, 2, 3, 4, 5, 0] rfl)
        · have c_27 := (not_congr (lg_cmp_ge _ _)).mp c_27
          refine lv_lload hx hb dX8_second_30 (lv_at hl 4 rfl) ?_
          refine lv_aload_n hx hb dX8_second_32 rfl (lv_at hl 0 rfl) ?_
          refine lv_iload hx hb dX8_second_33 (lv_at hl 5 rfl) ?_
          refine qh_lald hx hb hK hH (hi) b_i (j := a + q) (rfl) (by omega) (by omega) dX8_second_35 ?_
          refine va_mmax_long hx hb (hml.trans hl.1.symm) hown j_339 js_339 ji_Math jc_339 (by rw [hRf]; exact Nat.le_of_ble_eq_true rfl) (by rw [hRl]; exact Nat.le_of_ble_eq_true rfl) (Nat.zero_le _) (Nat.zero_le _) dX8_second_36 ?_
          refine qh_topl (y := mx (secR f (maxR f a (b - a)) a q) (f (a + q))) (mx_cls _ _) ?_
          refine lv_lstore (lv' := [(5, .long (mx (secR f (maxR f a (b - a)) a q) (f (a + q)))), (0, .ref (z + i)), (1, .int (nI a)), (2, .int (nI b)), (3, .long (maxR f a (b - a))), (7, .int (nI (a + q)))]) hx hb dX8_second_39 hl (by decide) rfl (fun ls hl => ?_)
          refine lv_iinc (v := nI ((a + q) + 1)) (lv' := [(7, .int (nI ((a + q) + 1))), (5, .long (mx (secR f (maxR f a (b - a)) a q) (f (a + q)))), (0, .ref (z + i)), (1, .int (nI a)), (2, .int (nI b)), (3, .long (maxR f a (b - a)))]) hx hb dX8_second_41 hl (k := 5) rfl (qn_inc (a + q)) (by decide) rfl (fun ls hl => ?_)
          refine lv_goto (tgt := 15) hx hb dX8_second_44 (by decide) ?_
          rw [← sec_y c_27] at hl
          exact ih (q + 1) (by omega) (by omega) _ _ hH ls (lv_sub hl [2, 3, 4, 5, 1, 0] rfl)
  exact L_15 (b + 1 - a + 1) 0 (Nat.zero_le _) (by omega) _ _ hH ls (lv_sub hl [3, 4, 5, 2, 1, 0] rfl)

set_option maxHeartbeats 1000000 in
set_option maxRecDepth 100000 in
theorem c_X8_howManyFrom (l : Launch) (G : qh_G) (z M : Nat) (E : Nat → va_E) (i : Nat) (a : Nat) (b : Nat) (f : Nat → Int64) (v : Int64) (hi : i < M) (hab : a ≤ b ∧ b < 16) (b_i : E i = qa_J G 16 f) : Met l yX8_howManyFrom wsX8_howManyFrom (qh_R 0) (qh_Pre G z M E [.ref (z + i), .int (nI a), .int (nI b), .long v]) (qh_Q G z M (qh_i (fun r E' => E = E' ∧ r = nI (cntR (fun k => decide (¬ f k < v)) a (b + 1 - a))))) 0 0 (fun q => z ≤ q) := by
  refine qh_metI (cc := cX8_howManyFrom) (maxL := 7) (by decide) rfl (Nat.le_of_ble_eq_true rfl) ?_
  intro pZ eZ sZ mZ aZ bZ tZ cZ RR QQ ls hx hb hml hown hts hRf hRl hH hK hl hret
  have hown : sZ.vm.findClass RX8 = some mZ.cls := hown
  have hl : lv_has ls 7 [(0, .ref (z + i)), (1, .int (nI a)), (2, .int (nI b)), (3, .long v)] := hl
  refine lv_iconst (v := 0) hx hb dX8_howManyFrom_0 (by decide) ?_
  refine lv_istore (lv' := [(5, .int 0), (0, .ref (z + i)), (1, .int (nI a)), (2, .int (nI b)), (3, .long v)]) hx hb dX8_howManyFrom_1 hl (by decide) rfl (fun ls hl => ?_)
  refine lv_iload_n hx hb dX8_howManyFrom_3 rfl (lv_at hl 2 rfl) ?_
  refine lv_istore (lv' := [(6, .int (nI a)), (5, .int 0), (0, .ref (z + i)), (1, .int (nI a)), (2, .int (nI b)), (3, .long v)]) hx hb dX8_howManyFrom_4 hl (by decide) rfl (fun ls hl => ?_)
  have L_6 : ∀ fu : Nat, ∀ q : Nat, (q ≤ b + 1 - a) → (b + 1 - a - q < fu) → ∀ (H : Heap) (locs : List Loc), qh_H G z M E sZ.heap H locs → ∀ ls : Array Slot, lv_has ls 7 [(0, .ref (z + i)), (1, .int (nI a)), (2, .int (nI b)), (3, .long v), (5, .int (nI (cntR (fun k => decide (¬ f k < v)) a q))), (6, .int (nI (a + q)))] → W pZ l eZ RR sZ mZ aZ bZ tZ cZ H locs 0 0 QQ (F0 mZ 6 ls []) := by
    intro fu
    induction fu with
    | zero =>
      intro q hq hfuel
      exact absurd hfuel (by omega)
    | succ fu ih =>
      intro q hq hfuel H locs hH ls hl
      refine lv_iload hx hb dX8_howManyFrom_6 (lv_at hl 5 rfl) ?_
      refine lv_iload_n hx hb dX8_howManyFrom_8 rfl (lv_at hl 2 rfl) ?_
      refine lv_icmp_gt (tgt := 30) hx hb dX8_howManyFrom_9 (by decide) (fun c_9 => ?_) (fun c_9 => ?_)
      · have hk : b < a + q := (nI_ltI (by omega) (by omega)).mp c_9
        have hex : b + 1 - a = q := by omega
        subst hex
        refine lv_iload hx hb dX8_howManyFrom_30 (lv_at hl 4 rfl) ?_
        exact hret dX8_howManyFrom_32 hH (⟨rfl, rfl⟩)
      · have hk : ¬ b < a + q := fun w => c_9 (nI_lt w (by omega))
        refine lv_aload_n hx hb dX8_howManyFrom_12 rfl (lv_at hl 0 rfl) ?_
        refine lv_iload hx hb dX8_howManyFrom_13 (lv_at hl 5 rfl) ?_
        refine qh_lald hx hb hK hH (hi) b_i (j := a + q) (rfl) (by omega) (by omega) dX8_howManyFrom_15 ?_
        refine lv_lload_n hx hb dX8_howManyFrom_16 rfl (lv_at hl 3 rfl) ?_
        refine W.lcmp hx hb dX8_howManyFrom_17 ?_
        refine lv_if_lt (tgt := 24) hx hb dX8_howManyFrom_18 (by decide) (fun c_18 => ?_) (fun c_18 => ?_)
        · have c_18 := (lg_cmp_lt _ _).mp c_18
          refine lv_iinc (v := nI ((a + q) + 1)) (lv' := [(6, .int (nI ((a + q) + 1))), (0, .ref (z + i)), (1, .int (nI a)), (2, .int (nI b)), (3, .long v), (5, .int (nI (cntR (fun k => decide (¬ f k < v)) a q)))]) hx hb dX8_howManyFrom_24 hl (k := 5) rfl (qn_inc (a + q)) (by decide) rfl (fun ls hl => ?_)
          refine lv_goto (tgt := 6) hx hb dX8_howManyFrom_27 (by decide) ?_
          rw [← cnt_n (q := (fun k => decide (¬ f k < v))) (by simp [c_18])] at hl
          exact ih (q + 1) (by omega) (by omega) _ _ hH ls (lv_sub hl [1, 2, 3, 4, 5, 0] rfl)
        · have c_18 := (not_congr (lg_cmp_lt _ _)).mp c_18
          refine lv_iinc (v := nI ((cntR (fun k => decide (¬ f k < v)) a q) + 1)) (lv' := [(5, .int (nI ((cntR (fun k => decide (¬ f k < v)) a q) + 1))), (0, .ref (z + i)), (1, .int (nI a)), (2, .int (nI b)), (3, .long v), (6, .int (nI (a + q)))]) hx hb dX8_howManyFrom_21 hl (k := 4) rfl (qn_inc (cntR (fun k => decide (¬ f k < v)) a q)) (by decide) rfl (fun ls hl => ?_)
          refine lv_iinc (v := nI ((a + q) + 1)) (lv' := [(6, .int (nI ((a + q) + 1))), (5, .int (nI ((cntR (fun k => decide (¬ f k < v)) a q) + 1))), (0, .ref (z + i)), (1, .int (nI a)), (2, .int (nI b)), (3, .long v)]) hx hb dX8_howManyFrom_24 hl (k := 5) rfl (qn_inc (a + q)) (by decide) rfl (fun ls hl => ?_)
          refine lv_goto (tgt := 6) hx hb dX8_howManyFrom_27 (by decide) ?_
          rw [← cnt_y (q := (fun k => decide (¬ f k < v))) (by simp [c_18])] at hl
          exact ih (q + 1) (by omega) (by omega) _ _ hH ls (lv_sub hl [2, 3, 4, 5, 1, 0] rfl)
  exact L_6 (b + 1 - a + 1) 0 (Nat.zero_le _) (by omega) _ _ hH ls (lv_sub hl [2, 3, 4, 5, 1, 0] rfl)

set_option maxHeartbeats 1000000 in
set_option maxRecDepth 100000 in
theorem c_X8_howManyGreatest (l : Launch) (G : qh_G) (z M : Nat) (E : Nat → va_E) (i : Nat) (a : Nat) (b : Nat) (f : Nat → Int64) (hi : i < M) (hab : a ≤ b ∧ b < 16) (b_i : E i = qa_J G 16 f) : Met l yX8_howManyGreatest wsX8_howManyGreatest (qh_R 2) (qh_Pre G z M E [.ref (z + i), .int (nI a), .int (nI b)]) (qh_Q G z M (qh_i (fun r E' => E = E' ∧ r = nI (cntR (fun k => decide (¬ f k < maxR f a (b - a))) a (b + 1 - a))))) 0 0 (fun q => z ≤ q) := by
  refine qh_metI (cc := cX8_howManyGreatest) (maxL := 3) (by decide) rfl (Nat.le_of_ble_eq_true rfl) ?_
  intro pZ eZ sZ mZ aZ bZ tZ cZ RR QQ ls hx hb hml hown hts hRf hRl hH hK hl hret
  have hown : sZ.vm.findClass RX8 = some mZ.cls := hown
  have hl : lv_has ls 3 [(0, .ref (z + i)), (1, .int (nI a)), (2, .int (nI b))] := hl
  refine lv_aload_n hx hb dX8_howManyGreatest_0 rfl (lv_at hl 0 rfl) ?_
  refine lv_iload_n hx hb dX8_howManyGreatest_1 rfl (lv_at hl 1 rfl) ?_
  refine lv_iload_n hx hb dX8_howManyGreatest_2 rfl (lv_at hl 2 rfl) ?_
  refine lv_aload_n hx hb dX8_howManyGreatest_3 rfl (lv_at hl 0 rfl) ?_
  refine lv_iload_n hx hb dX8_howManyGreatest_4 rfl (lv_at hl 1 rfl) ?_
  refine lv_iload_n hx hb dX8_howManyGreatest_5 rfl (lv_at hl 2 rfl) ?_
  refine qh_runS (As := [.ref (z + i), .int (nI a), .int (nI b)]) (rest := [.int (nI b), .int (nI a), .ref (z + i)]) ⟨hx, hb, hml, hown, hts⟩ hK hH (c_X8_greatest l G z M E i a b f (hi) (⟨hab.1, hab.2⟩) b_i) (va_cwS 3 hts gX8_howManyGreatest_X8_greatest rfl rfl rfl (by decide +kernel) (by rw [hRf, hRl]; exact ⟨Nat.le_of_ble_eq_true rfl, Nat.le_of_ble_eq_true rfl⟩)) rfl hl.1 rfl (Nat.le_of_ble_eq_true rfl) dX8_howManyGreatest_6 ⟨Nat.zero_le _, Nat.zero_le _⟩ (qh_kkl fun r_6 E_1 H locs hpost hH => ?_)
  obtain ⟨rfl, rfl⟩ := hpost
  refine qh_runS (As := [.ref (z + i), .int (nI a), .int (nI b), .long (maxR f a (b - a))]) (rest := []) ⟨hx, hb, hml, hown, hts⟩ hK hH (c_X8_howManyFrom l G z M E i a b f (maxR f a (b - a)) (hi) (⟨hab.1, hab.2⟩) b_i) (va_cwS 4 hts gX8_howManyGreatest_X8_howManyFrom rfl rfl rfl (by decide +kernel) (by rw [hRf, hRl]; exact ⟨Nat.le_of_ble_eq_true rfl, Nat.le_of_ble_eq_true rfl⟩)) rfl hl.1 rfl (Nat.le_of_ble_eq_true rfl) dX8_howManyGreatest_9 ⟨Nat.zero_le _, Nat.zero_le _⟩ (qh_kki fun r_9 E_2 H locs hpost hH => ?_)
  obtain ⟨rfl, rfl⟩ := hpost
  exact hret dX8_howManyGreatest_12 hH (⟨rfl, rfl⟩)

set_option maxHeartbeats 1000000 in
set_option maxRecDepth 100000 in
theorem c_X8_standsAhead (l : Launch) (G : qh_G) (z M : Nat) (E : Nat → va_E) (i : Nat) (a : Nat) (k : Nat) (f : Nat → Int64) (hi : i < M) (hab : a ≤ k ∧ k < 16) (b_i : E i = qa_J G 16 f) : Met l yX8_standsAhead wsX8_standsAhead (qh_R 0) (qh_Pre G z M E [.ref (z + i), .int (nI a), .int (nI k)]) (qh_Q G z M (qh_i (fun r E' => E = E' ∧ r = bI (anyR f (f k) a (k - a) = true)))) 0 0 (fun q => z ≤ q) := by
  refine qh_metZ (cc := cX8_standsAhead) (maxL := 4) (by decide) rfl (Nat.le_of_ble_eq_true rfl) ?_
  intro pZ eZ sZ mZ aZ bZ tZ cZ RR QQ ls hx hb hml hown hts hRf hRl hH hK hl hret
  have hown : sZ.vm.findClass RX8 = some mZ.cls := hown
  have hl : lv_has ls 4 [(0, .ref (z + i)), (1, .int (nI a)), (2, .int (nI k))] := hl
  refine lv_iload_n hx hb dX8_standsAhead_0 rfl (lv_at hl 1 rfl) ?_
  refine lv_istore_n (lv' := [(3, .int (nI a)), (0, .ref (z + i)), (1, .int (nI a)), (2, .int (nI k))]) hx hb dX8_standsAhead_1 rfl hl (by decide) rfl (fun ls hl => ?_)
  have L_2 : ∀ fu : Nat, ∀ q : Nat, (q ≤ k - a) → (anyR f (f k) a q = false) → (k - a - q < fu) → ∀ (H : Heap) (locs : List Loc), qh_H G z M E sZ.heap H locs → ∀ ls : Array Slot, lv_has ls 4 [(0, .ref (z + i)), (1, .int (nI a)), (2, .int (nI k)), (3, .int (nI (a + q)))] → W pZ l eZ RR sZ mZ aZ bZ tZ cZ H locs 0 0 QQ (F0 mZ 2 ls []) := by
    intro fu
    induction fu with
    | zero =>
      intro q hq hno hfuel
      exact absurd hfuel (by omega)
    | succ fu ih =>
      intro q hq hno hfuel H locs hH ls hl
      refine lv_iload_n hx hb dX8_standsAhead_2 rfl (lv_at hl 3 rfl) ?_
      refine lv_iload_n hx hb dX8_standsAhead_3 rfl (lv_at hl 2 rfl) ?_
      refine lv_icmp_ge (tgt := 25) hx hb dX8_standsAhead_4 (by decide) (fun c_4 => ?_) (fun c_4 => ?_)
      · have hk : k ≤ a + q := (nI_leI (by omega) (by omega)).mp c_4
        have hex : k - a = q := by omega
        subst hex
        refine lv_iconst (v := 0) hx hb dX8_standsAhead_25 (by decide) ?_
        exact hret dX8_standsAhead_26 hH (Or.inl rfl) (⟨rfl, bI_0 (by rw [hno]; decide)⟩)
      · have hk : ¬ k ≤ a + q := fun w => c_4 (nI_le w (by omega))
        refine lv_aload_n hx hb dX8_standsAhead_7 rfl (lv_at hl 0 rfl) ?_
        refine lv_iload_n hx hb dX8_standsAhead_8 rfl (lv_at hl 3 rfl) ?_
        refine qh_lald hx hb hK hH (hi) b_i (j := a + q) (rfl) (by omega) (by omega) dX8_standsAhead_9 ?_
        refine lv_aload_n hx hb dX8_standsAhead_10 rfl (lv_at hl 0 rfl) ?_
        refine lv_iload_n hx hb dX8_standsAhead_11 rfl (lv_at hl 2 rfl) ?_
        refine qh_lald hx hb hK hH (hi) b_i (j := k) (rfl) (by omega) (by omega) dX8_standsAhead_12 ?_
        refine W.lcmp hx hb dX8_standsAhead_13 ?_
        refine lv_if_ne (tgt := 19) hx hb dX8_standsAhead_14 (by decide) (fun c_14 => ?_) (fun c_14 => ?_)
        · have c_14 := (lg_cmp_ne _ _).mp c_14
          refine lv_iinc (v := nI ((a + q) + 1)) (lv' := [(3, .int (nI ((a + q) + 1))), (0, .ref (z + i)), (1, .int (nI a)), (2, .int (nI k))]) hx hb dX8_standsAhead_19 hl (k := 3) rfl (qn_inc (a + q)) (by decide) rfl (fun ls hl => ?_)
          refine lv_goto (tgt := 2) hx hb dX8_standsAhead_22 (by decide) ?_
          exact ih (q + 1) (by omega) (by rw [anyR, hno]; simp [c_14]) (by omega) _ _ hH ls (lv_sub hl [1, 2, 3, 0] rfl)
        · have c_14 := (lg_cmp_eq _ _).mp c_14
          refine lv_iconst (v := 1) hx hb dX8_standsAhead_17 (by decide) ?_
          exact hret dX8_standsAhead_18 hH (Or.inr rfl) (⟨rfl, bI_1 (anyR_mem (q := q) (by omega) c_14)⟩)
  exact L_2 (k - a + 1) 0 (Nat.zero_le _) rfl (by omega) _ _ hH ls (lv_sub hl [1, 2, 3, 0] rfl)

set_option maxHeartbeats 1000000 in
set_option maxRecDepth 100000 in
theorem c_X8_howManyUnlike (l : Launch) (G : qh_G) (z M : Nat) (E : Nat → va_E) (i : Nat) (a : Nat) (b : Nat) (f : Nat → Int64) (hi : i < M) (hab : a ≤ b ∧ b < 16) (b_i : E i = qa_J G 16 f) : Met l yX8_howManyUnlike wsX8_howManyUnlike (qh_R 1) (qh_Pre G z M E [.ref (z + i), .int (nI a), .int (nI b)]) (qh_Q G z M (qh_i (fun r E' => E = E' ∧ r = nI (unlR f a (b + 1 - a))))) 0 0 (fun q => z ≤ q) := by
  refine qh_metI (cc := cX8_howManyUnlike) (maxL := 5) (by decide) rfl (Nat.le_of_ble_eq_true rfl) ?_
  intro pZ eZ sZ mZ aZ bZ tZ cZ RR QQ ls hx hb hml hown hts hRf hRl hH hK hl hret
  have hown : sZ.vm.findClass RX8 = some mZ.cls := hown
  have hl : lv_has ls 5 [(0, .ref (z + i)), (1, .int (nI a)), (2, .int (nI b))] := hl
  refine lv_iconst (v := 0) hx hb dX8_howManyUnlike_0 (by decide) ?_
  refine lv_istore_n (lv' := [(3, .int 0), (0, .ref (z + i)), (1, .int (nI a)), (2, .int (nI b))]) hx hb dX8_howManyUnlike_1 rfl hl (by decide) rfl (fun ls hl => ?_)
  refine lv_iload_n hx hb dX8_howManyUnlike_2 rfl (lv_at hl 2 rfl) ?_
  refine lv_istore (lv' := [(4, .int (nI a)), (3, .int 0), (0, .ref (z + i)), (1, .int (nI a)), (2, .int (nI b))]) hx hb dX8_howManyUnlike_3 hl (by decide) rfl (fun ls hl => ?_)
  have L_5 : ∀ fu : Nat, ∀ q : Nat, (q ≤ b + 1 - a) → (b + 1 - a - q < fu) → ∀ (H : Heap) (locs : List Loc), qh_H G z M E sZ.heap H locs → ∀ ls : Array Slot, lv_has ls 5 [(0, .ref (z + i)), (1, .int (nI a)), (2, .int (nI b)), (3, .int (nI (cntR (fun k => !anyR f (f k) a (k - a)) a q))), (4, .int (nI (a + q)))] → W pZ l eZ RR sZ mZ aZ bZ tZ cZ H locs 0 0 QQ (F0 mZ 5 ls []) := by
    intro fu
    induction fu with
    | zero =>
      intro q hq hfuel
      exact absurd hfuel (by omega)
    | succ fu ih =>
      intro q hq hfuel H locs hH ls hl
      refine lv_iload hx hb dX8_howManyUnlike_5 (lv_at hl 4 rfl) ?_
      refine lv_iload_n hx hb dX8_howManyUnlike_7 rfl (lv_at hl 2 rfl) ?_
      refine lv_icmp_gt (tgt := 30) hx hb dX8_howManyUnlike_8 (by decide) (fun c_8 => ?_) (fun c_8 => ?_)
      · have hk : b < a + q := (nI_ltI (by omega) (by omega)).mp c_8
        have hex : b + 1 - a = q := by omega
        subst hex
        refine lv_iload_n hx hb dX8_howManyUnlike_30 rfl (lv_at hl 3 rfl) ?_
        exact hret dX8_howManyUnlike_31 hH (⟨rfl, rfl⟩)
      · have hk : ¬ b < a + q := fun w => c_8 (nI_lt w (by omega))
        refine lv_aload_n hx hb dX8_howManyUnlike_11 rfl (lv_at hl 0 rfl) ?_
        refine lv_iload_n hx hb dX8_howManyUnlike_12 rfl (lv_at hl 1 rfl) ?_
        refine lv_iload hx hb dX8_howManyUnlike_13 (lv_at hl 4 rfl) ?_
        refine qh_runS (As := [.ref (z + i), .int (nI a), .int (nI (a + q))]) (rest := []) ⟨hx, hb, hml, hown, hts⟩ hK hH (c_X8_standsAhead l G z M E i a (a + q) f (hi) (⟨by omega, by omega⟩) b_i) (va_cwS 3 hts gX8_howManyUnlike_X8_standsAhead rfl rfl rfl (by decide +kernel) (by rw [hRf, hRl]; exact ⟨Nat.le_of_ble_eq_true rfl, Nat.le_of_ble_eq_true rfl⟩)) rfl hl.1 rfl (Nat.le_of_ble_eq_true rfl) dX8_howManyUnlike_15 ⟨Nat.zero_le _, Nat.zero_le _⟩ (qh_kki fun r_15 E_1 H locs hpost hH => ?_)
        obtain ⟨rfl, rfl⟩ := hpost
        refine lv_if_ne (tgt := 24) hx hb dX8_howManyUnlike_18 (by decide) (fun c_18 => ?_) (fun c_18 => ?_)
        · have c_18 := bI_ne.mp c_18
          refine lv_iinc (v := nI ((a + q) + 1)) (lv' := [(4, .int (nI ((a + q) + 1))), (0, .ref (z + i)), (1, .int (nI a)), (2, .int (nI b)), (3, .int (nI (cntR (fun k => !anyR f (f k) a (k - a)) a q)))]) hx hb dX8_howManyUnlike_24 hl (k := 4) rfl (qn_inc (a + q)) (by decide) rfl (fun ls hl => ?_)
          refine lv_goto (tgt := 5) hx hb dX8_howManyUnlike_27 (by decide) ?_
          rw [← cnt_n (q := (fun k => !anyR f (f k) a (k - a))) (by simp only [Nat.add_sub_cancel_left] at c_18 ⊢; simp [c_18])] at hl
          exact ih (q + 1) (by omega) (by omega) _ _ hH ls (lv_sub hl [1, 2, 3, 4, 0] rfl)
        · have c_18 := bI_eq.mp c_18
          refine lv_iinc (v := nI ((cntR (fun k => !anyR f (f k) a (k - a)) a q) + 1)) (lv' := [(3, .int (nI ((cntR (fun k => !anyR f (f k) a (k - a)) a q) + 1))), (0, .ref (z + i)), (1, .int (nI a)), (2, .int (nI b)), (4, .int (nI (a + q)))]) hx hb dX8_howManyUnlike_21 hl (k := 3) rfl (qn_inc (cntR (fun k => !anyR f (f k) a (k - a)) a q)) (by decide) rfl (fun ls hl => ?_)
          refine lv_iinc (v := nI ((a + q) + 1)) (lv' := [(4, .int (nI ((a + q) + 1))), (3, .int (nI ((cntR (fun k => !anyR f (f k) a (k - a)) a q) + 1))), (0, .ref (z + i)), (1, .int (nI a)), (2, .int (nI b))]) hx hb dX8_howManyUnlike_24 hl (k := 4) rfl (qn_inc (a + q)) (by decide) rfl (fun ls hl => ?_)
          refine lv_goto (tgt := 5) hx hb dX8_howManyUnlike_27 (by decide) ?_
          rw [← cnt_y (q := (fun k => !anyR f (f k) a (k - a))) (by simp only [Nat.add_sub_cancel_left] at c_18 ⊢; simp [c_18])] at hl
          exact ih (q + 1) (by omega) (by omega) _ _ hH ls (lv_sub hl [2, 3, 4, 1, 0] rfl)
  exact L_5 (b + 1 - a + 1) 0 (Nat.zero_le _) (by omega) _ _ hH ls (lv_sub hl [2, 3, 4, 1, 0] rfl)

set_option maxHeartbeats 1000000 in
set_option maxRecDepth 100000 in
theorem c_X8_commonDivisor (l : Launch) (G : qh_G) (z M : Nat) (E : Nat → va_E) (s : Nat) (t : Nat) (hst : s ≤ 16 ∧ 1 ≤ t ∧ t ≤ 16) : Met l yX8_commonDivisor wsX8_commonDivisor (qh_R 0) (qh_Pre G z M E [.int (nI s), .int (nI t)]) (qh_Q G z M (qh_i (fun r E' => E = E' ∧ r = nI (Nat.gcd s t)))) 0 0 (fun q => z ≤ q) := by
  refine qh_metI (cc := cX8_commonDivisor) (maxL := 3) (by decide) rfl (Nat.le_of_ble_eq_true rfl) ?_
  intro pZ eZ sZ mZ aZ bZ tZ cZ RR QQ ls hx hb hml hown hts hRf hRl hH hK hl hret
  have hown : sZ.vm.findClass RX8 = some mZ.cls := hown
  have hl : lv_has ls 3 [(0, .int (nI s)), (1, .int (nI t))] := hl
  refine lv_iload_n hx hb dX8_commonDivisor_0 rfl (lv_at hl 1 rfl) ?_
  refine lv_istore_n (lv' := [(2, .int (nI t)), (0, .int (nI s)), (1, .int (nI t))]) hx hb dX8_commonDivisor_1 rfl hl (by decide) rfl (fun ls hl => ?_)
  have L_2 : ∀ fu : Nat, ∀ d : Nat, (1 ≤ d ∧ d ≤ t) → (Nat.gcd s t ≤ d) → (d < fu) → ∀ (H : Heap) (locs : List Loc), qh_H G z M E sZ.heap H locs → ∀ ls : Array Slot, lv_has ls 3 [(0, .int (nI s)), (1, .int (nI t)), (2, .int (nI d))] → W pZ l eZ RR sZ mZ aZ bZ tZ cZ H locs 0 0 QQ (F0 mZ 2 ls []) := by
    intro fu
    induction fu with
    | zero =>
      intro d hd hg hfuel
      exact absurd hfuel (by omega)
    | succ fu ih =>
      intro d hd hg hfuel H locs hH ls hl
      refine lv_iload_n hx hb dX8_commonDivisor_2 rfl (lv_at hl 2 rfl) ?_
      refine lv_iconst (v := 1) hx hb dX8_commonDivisor_3 (by decide) ?_
      refine lv_icmp_le (tgt := 27) hx hb dX8_commonDivisor_4 (by decide) (fun c_4 => ?_) (fun c_4 => ?_)
      · have hk : d ≤ 1 := (nI_leI (b := 1) (by omega) (by decide)).mp c_4
        refine lv_iconst (v := 1) hx hb dX8_commonDivisor_27 (by decide) ?_
        exact hret dX8_commonDivisor_28 hH (⟨rfl, by rw [gcd_one hg hk hst.2.1]; rfl⟩)
      · have hk : ¬ d ≤ 1 := fun w => c_4 (nI_le (b := 1) w (by decide))
        have hmd := Nat.mod_lt s (show 0 < d by omega)
        have hmt := Nat.mod_lt t (show 0 < d by omega)
        refine lv_iload_n hx hb dX8_commonDivisor_7 rfl (lv_at hl 0 rfl) ?_
        refine lv_iload_n hx hb dX8_commonDivisor_8 rfl (lv_at hl 2 rfl) ?_
        refine lv_irem hx hb dX8_commonDivisor_9 (nI_ne0 (by omega) (by omega)) ?_
        refine qh_topi (y := nI (s % d)) (pk_rem (by omega) (by omega) (by omega)) ?_
        refine lv_if_ne (tgt := 21) hx hb dX8_commonDivisor_10 (by decide) (fun c_10 => ?_) (fun c_10 => ?_)
        · have hnd : ¬ (s % d = 0 ∧ t % d = 0) := fun w => c_10 (by rw [w.1]; rfl)
          refine lv_iinc (v := nI (d - 1)) (lv' := [(2, .int (nI (d - 1))), (0, .int (nI s)), (1, .int (nI t))]) hx hb dX8_commonDivisor_21 hl (k := 2) rfl (sb_m1 (by omega)) (by decide) rfl (fun ls hl => ?_)
          refine lv_goto (tgt := 2) hx hb dX8_commonDivisor_24 (by decide) ?_
          exact ih (d - 1) (by omega) (gcd_less hg hnd (by omega)) (by omega) _ _ hH ls (lv_sub hl [1, 2, 0] rfl)
        · have h10 : s % d = 0 := (nI_eq (b := 0) (by omega) (by decide)).mp c_10
          refine lv_iload_n hx hb dX8_commonDivisor_13 rfl (lv_at hl 1 rfl) ?_
          refine lv_iload_n hx hb dX8_commonDivisor_14 rfl (lv_at hl 2 rfl) ?_
          refine lv_irem hx hb dX8_commonDivisor_15 (nI_ne0 (by omega) (by omega)) ?_
          refine qh_topi (y := nI (t % d)) (pk_rem (by omega) (by omega) (by omega)) ?_
          refine lv_if_ne (tgt := 21) hx hb dX8_commonDivisor_16 (by decide) (fun c_16 => ?_) (fun c_16 => ?_)
          · have hnd : ¬ (s % d = 0 ∧ t % d = 0) := fun w => c_16 (by rw [w.2]; rfl)
            refine lv_iinc (v := nI (d - 1)) (lv' := [(2, .int (nI (d - 1))), (0, .int (nI s)), (1, .int (nI t))]) hx hb dX8_commonDivisor_21 hl (k := 2) rfl (sb_m1 (by omega)) (by decide) rfl (fun ls hl => ?_)
            refine lv_goto (tgt := 2) hx hb dX8_commonDivisor_24 (by decide) ?_
            exact ih (d - 1) (by omega) (gcd_less hg hnd (by omega)) (by omega) _ _ hH ls (lv_sub hl [1, 2, 0] rfl)
          · have h16 : t % d = 0 := (nI_eq (b := 0) (by omega) (by decide)).mp c_16
            refine lv_iload_n hx hb dX8_commonDivisor_19 rfl (lv_at hl 2 rfl) ?_
            exact hret dX8_commonDivisor_20 hH (⟨rfl, by rw [gcd_is hg h10 h16 hst.2.1]⟩)
  exact L_2 (t + 1) t (⟨hst.2.1, Nat.le_refl t⟩) (Nat.le_of_dvd hst.2.1 (Nat.gcd_dvd_right s t)) (by omega) _ _ hH ls (lv_sub hl [1, 2, 0] rfl)

set_option maxHeartbeats 1000000 in
set_option maxRecDepth 100000 in
theorem c_X8_isOfDay (l : Launch) (G : qh_G) (z M : Nat) (E : Nat → va_E) (x : Int32) : Met l yX8_isOfDay wsX8_isOfDay (qh_R 0) (qh_Pre G z M E [.int x]) (qh_Q G z M (qh_i (fun r E' => E = E' ∧ r = bI (ofDay x)))) 0 0 (fun q => z ≤ q) := by
  refine qh_metZ (cc := cX8_isOfDay) (maxL := 1) (by decide) rfl (Nat.le_of_ble_eq_true rfl) ?_
  intro pZ eZ sZ mZ aZ bZ tZ cZ RR QQ ls hx hb hml hown hts hRf hRl hH hK hl hret
  have hown : sZ.vm.findClass RX8 = some mZ.cls := hown
  have hl : lv_has ls 1 [(0, .int x)] := hl
  refine lv_iload_n hx hb dX8_isOfDay_0 rfl (lv_at hl 0 rfl) ?_
  refine lv_if_lt (tgt := 9) hx hb dX8_isOfDay_1 (by decide) (fun c_1 => ?_) (fun c_1 => ?_)
  · refine lv_iload_n hx hb dX8_isOfDay_9 rfl (lv_at hl 0 rfl) ?_
    refine lv_bipush (v := 10) hx hb dX8_isOfDay_10 (by decide) ?_
    refine lv_icmp_lt (tgt := 25) hx hb dX8_isOfDay_12 (by decide) (fun c_12 => ?_) (fun c_12 => ?_)
    · refine lv_iconst (v := 0) hx hb dX8_isOfDay_25 (by decide) ?_
      exact hret dX8_isOfDay_26 hH (Or.inl rfl) (⟨rfl, by simp [bI, ofDay, c_1, c_12]⟩)
    · refine lv_iload_n hx hb dX8_isOfDay_15 rfl (lv_at hl 0 rfl) ?_
      refine lv_bipush (v := 26) hx hb dX8_isOfDay_16 (by decide) ?_
      refine lv_icmp_ge (tgt := 25) hx hb dX8_isOfDay_18 (by decide) (fun c_18 => ?_) (fun c_18 => ?_)
      · refine lv_iconst (v := 0) hx hb dX8_isOfDay_25 (by decide) ?_
        exact hret dX8_isOfDay_26 hH (Or.inl rfl) (⟨rfl, by simp [bI, ofDay, c_1, c_12, c_18]⟩)
      · refine lv_iconst (v := 1) hx hb dX8_isOfDay_21 (by decide) ?_
        refine lv_goto (tgt := 26) hx hb dX8_isOfDay_22 (by decide) ?_
        exact hret dX8_isOfDay_26 hH (Or.inr rfl) (⟨rfl, by simp [bI, ofDay, c_1, c_12, c_18]⟩)
  · refine lv_iload_n hx hb dX8_isOfDay_4 rfl (lv_at hl 0 rfl) ?_
    refine lv_iconst (v := 4) hx hb dX8_isOfDay_5 (by decide) ?_
    refine lv_icmp_le (tgt := 21) hx hb dX8_isOfDay_6 (by decide) (fun c_6 => ?_) (fun c_6 => ?_)
    · refine lv_iconst (v := 1) hx hb dX8_isOfDay_21 (by decide) ?_
      refine lv_goto (tgt := 26) hx hb dX8_isOfDay_22 (by decide) ?_
      exact hret dX8_isOfDay_26 hH (Or.inr rfl) (⟨rfl, by simp [bI, ofDay, c_1, c_6]⟩)
    · refine lv_iload_n hx hb dX8_isOfDay_9 rfl (lv_at hl 0 rfl) ?_
      refine lv_bipush (v := 10) hx hb dX8_isOfDay_10 (by decide) ?_
      refine lv_icmp_lt (tgt := 25) hx hb dX8_isOfDay_12 (by decide) (fun c_12 => ?_) (fun c_12 => ?_)
      · refine lv_iconst (v := 0) hx hb dX8_isOfDay_25 (by decide) ?_
        exact hret dX8_isOfDay_26 hH (Or.inl rfl) (⟨rfl, by simp [bI, ofDay, c_1, c_6, c_12]⟩)
      · refine lv_iload_n hx hb dX8_isOfDay_15 rfl (lv_at hl 0 rfl) ?_
        refine lv_bipush (v := 26) hx hb dX8_isOfDay_16 (by decide) ?_
        refine lv_icmp_ge (tgt := 25) hx hb dX8_isOfDay_18 (by decide) (fun c_18 => ?_) (fun c_18 => ?_)
        · refine lv_iconst (v := 0) hx hb dX8_isOfDay_25 (by decide) ?_
          exact hret dX8_isOfDay_26 hH (Or.inl rfl) (⟨rfl, by simp [bI, ofDay, c_1, c_6, c_12, c_18]⟩)
        · refine lv_iconst (v := 1) hx hb dX8_isOfDay_21 (by decide) ?_
          refine lv_goto (tgt := 26) hx hb dX8_isOfDay_22 (by decide) ?_
          exact hret dX8_isOfDay_26 hH (Or.inr rfl) (⟨rfl, by simp [bI, ofDay, c_1, c_6, c_12, c_18]⟩)

set_option maxHeartbeats 1000000 in
set_option maxRecDepth 100000 in
theorem c_X8_sortsAreKnown (l : Launch) (G : qh_G) (z M : Nat) (E : Nat → va_E) (si : Nat) (sj : Nat) (q : Nat) (a : Nat) (m : Nat) (sa : Int32) (sb : Int32) (f : Nat → Int32) (hs : si < M ∧ sj < M) (hq : a + 4 * m ≤ q ∧ q ≤ 60) (b_si : E si = .inr (5, [.int sa, .int sb, .int (nI q), .ref (z + sj)])) (b_sj : E sj = qa_I G 60 f) : Met l yX8_sortsAreKnown wsX8_sortsAreKnown (qh_R 1) (qh_Pre G z M E [.ref (z + si), .int (nI a), .int (nI m)]) (qh_Q G z M (qh_i (fun r E' => E = E' ∧ r = bI (allR (fun t => decide (okS (f (a + 4 * t)))) m = true)))) 0 0 (fun q => z ≤ q) := by
  refine qh_metZ (cc := cX8_sortsAreKnown) (maxL := 5) (by decide) rfl (Nat.le_of_ble_eq_true rfl) ?_
  intro pZ eZ sZ mZ aZ bZ tZ cZ RR QQ ls hx hb hml hown hts hRf hRl hH hK hl hret
  have hown : sZ.vm.findClass RX8 = some mZ.cls := hown
  have hl : lv_has ls 5 [(0, .ref (z + si)), (1, .int (nI a)), (2, .int (nI m))] := hl
  refine lv_iconst (v := 0) hx hb dX8_sortsAreKnown_0 (by decide) ?_
  refine lv_istore_n (lv' := [(3, .int 0), (0, .ref (z + si)), (1, .int (nI a)), (2, .int (nI m))]) hx hb dX8_sortsAreKnown_1 rfl hl (by decide) rfl (fun ls hl => ?_)
  have L_2 : ∀ fu : Nat, ∀ t : Nat, (t ≤ m) → (allR (fun t => decide (okS (f (a + 4 * t)))) t = true) → (m - t < fu) → ∀ (H : Heap) (locs : List Loc), qh_H G z M E sZ.heap H locs → ∀ ls : Array Slot, lv_has ls 5 [(0, .ref (z + si)), (1, .int (nI a)), (2, .int (nI m)), (3, .int (nI t))] → W pZ l eZ RR sZ mZ aZ bZ tZ cZ H locs 0 0 QQ (F0 mZ 2 ls []) := by
    intro fu
    induction fu with
    | zero =>
      intro t ht hall hfuel
      exact absurd hfuel (by omega)
    | succ fu ih =>
      intro t ht hall hfuel H locs hH ls hl
      refine lv_iload_n hx hb dX8_sortsAreKnown_2 rfl (lv_at hl 3 rfl) ?_
      refine lv_iload_n hx hb dX8_sortsAreKnown_3 rfl (lv_at hl 2 rfl) ?_
      refine lv_icmp_ge (tgt := 37) hx hb dX8_sortsAreKnown_4 (by decide) (fun c_4 => ?_) (fun c_4 => ?_)
      · have hk : m ≤ t := (nI_leI (by omega) (by omega)).mp c_4
        have hex : m = t := by omega
        subst hex
        refine lv_iconst (v := 1) hx hb dX8_sortsAreKnown_37 (by decide) ?_
        exact hret dX8_sortsAreKnown_38 hH (Or.inr rfl) (⟨rfl, bI_1 hall⟩)
      · have hk : ¬ m ≤ t := fun w => c_4 (nI_le w (by omega))
        refine lv_aload_n hx hb dX8_sortsAreKnown_7 rfl (lv_at hl 0 rfl) ?_
        refine lv_iload_n hx hb dX8_sortsAreKnown_8 rfl (lv_at hl 1 rfl) ?_
        refine lv_iconst (v := 4) hx hb dX8_sortsAreKnown_9 (by decide) ?_
        refine lv_iload_n hx hb dX8_sortsAreKnown_10 rfl (lv_at hl 3 rfl) ?_
        refine lv_imul hx hb dX8_sortsAreKnown_11 ?_
        refine qh_topi (y := nI (4 * t)) (pk_mul 4 t) ?_
        refine lv_iadd hx hb dX8_sortsAreKnown_12 ?_
        refine qh_topi (y := nI (a + 4 * t)) (nI_add _ _) ?_
        refine qh_runV (As := [.int (nI (a + 4 * t))]) (rest := []) (C := RX5) ⟨hx, hb, hml, hown, hts⟩ hK hH (c_X5_code l G z M E si sj q sa sb (nI (a + 4 * t)) f (⟨hs.1, hs.2⟩) (hq.2) b_si b_sj) (cwV 1 hts gX8_sortsAreKnown_X5_code rfl rfl rfl (by decide +kernel) (by rw [hRf, hRl]; exact ⟨Nat.le_of_ble_eq_true rfl, Nat.le_of_ble_eq_true rfl⟩)) (hs.1) b_si rfl rfl hl.1 rfl (Nat.le_of_ble_eq_true rfl) dX8_sortsAreKnown_13 ⟨Nat.zero_le _, Nat.zero_le _⟩ (qh_kki fun r_13 E_1 H locs hpost hH => ?_)
        obtain ⟨rfl, rfl⟩ := hpost
        refine qh_topi (y := f (a + 4 * t)) (codF_in (by omega) (by omega)) ?_
        refine lv_istore (lv' := [(4, .int (f (a + 4 * t))), (0, .ref (z + si)), (1, .int (nI a)), (2, .int (nI m)), (3, .int (nI t))]) hx hb dX8_sortsAreKnown_16 hl (by decide) rfl (fun ls hl => ?_)
        refine lv_iload hx hb dX8_sortsAreKnown_18 (lv_at hl 0 rfl) ?_
        refine lv_if_lt (tgt := 29) hx hb dX8_sortsAreKnown_20 (by decide) (fun c_20 => ?_) (fun c_20 => ?_)
        · refine lv_iconst (v := 0) hx hb dX8_sortsAreKnown_29 (by decide) ?_
          exact hret dX8_sortsAreKnown_30 hH (Or.inl rfl) (⟨rfl, bI_0 (fun w => absurd (of_decide_eq_true (allR_at w (show t < m by omega))) (fun v => v.1 c_20))⟩)
        · refine lv_iload hx hb dX8_sortsAreKnown_23 (lv_at hl 0 rfl) ?_
          refine lv_iconst (v := 4) hx hb dX8_sortsAreKnown_25 (by decide) ?_
          refine lv_icmp_le (tgt := 31) hx hb dX8_sortsAreKnown_26 (by decide) (fun c_26 => ?_) (fun c_26 => ?_)
          · refine lv_iinc (v := nI (t + 1)) (lv' := [(3, .int (nI (t + 1))), (4, .int (f (a + 4 * t))), (0, .ref (z + si)), (1, .int (nI a)), (2, .int (nI m))]) hx hb dX8_sortsAreKnown_31 hl (k := 4) rfl (qn_inc t) (by decide) rfl (fun ls hl => ?_)
            refine lv_goto (tgt := 2) hx hb dX8_sortsAreKnown_34 (by decide) ?_
            exact ih (t + 1) (by omega) (by rw [allR, hall]; simp [okS, c_20, c_26]) (by omega) _ _ hH ls (lv_sub hl [2, 3, 4, 0] rfl)
          · refine lv_iconst (v := 0) hx hb dX8_sortsAreKnown_29 (by decide) ?_
            exact hret dX8_sortsAreKnown_30 hH (Or.inl rfl) (⟨rfl, bI_0 (fun w => absurd (of_decide_eq_true (allR_at w (show t < m by omega))) (fun v => c_26 (Int32.not_lt.mp v.2)))⟩)
  exact L_2 (m + 1) 0 (Nat.zero_le _) rfl (by omega) _ _ hH ls (lv_sub hl [1, 2, 3, 0] rfl)
