def rfR (n : Nat) (x y : Int32) : Int32 := if (¬ x < 0 ∧ x < nI n) ∧ (¬ y < 0 ∧ y < nI n) then (if y < x then -2 else 0) else -1
def rmR (n : Nat) (x y : Int32) (v : Int64) : Int32 := if rfR n x y = 0 then (if v < -1000000000000 ∨ 1000000000000 < v then -2 else 0) else rfR n x y
def lvT (t x : Int32) : Int32 := 31 * t + x
def nmT (dg : Nat → Int32) (f : Nat → Int64) (k : Nat) : Nat → Int64 := fun t => if t < k then (dg t).toInt64 else f t
theorem nmT_0 (dg : Nat → Int32) (f : Nat → Int64) : nmT dg f 0 = f := by
  funext t
  exact if_neg (Nat.not_lt_zero t)
theorem nmT_s (dg : Nat → Int32) (f : Nat → Int64) (k : Nat) : vp_updL (nmT dg f k) k (dg k).toInt64 = nmT dg f (k + 1) := by
  funext t
  simp only [vp_updL, nmT]
  by_cases h : t = k
  · subst h
    rw [if_pos rfl, if_pos (by omega)]
  · rw [if_neg h]
    by_cases h2 : t < k
    · rw [if_pos h2, if_pos (by omega)]
    · rw [if_neg h2, if_neg (by omega)]
abbrev canB (n m2 : Nat) (t a b : Int32) (v : Int64) : Prop := rfR n a b = 0 ∧ (¬ (t = 3 ∨ t = 4) ∨ (¬ v < 0 ∧ v < (nI m2).toInt64))
def tdR (n : Nat) (tf tg : Nat → Int64) (x : Int32) : Int64 := if x = 0 then sumR tf 0 n else if x = 2 then maxR tf 0 (n - 1) else if x = 3 then minR tf 0 (n - 1) else if x = 4 then maxR tg 0 (n - 1) else if ¬ x - 10 < 0 ∧ x - 10 < nI n then tf (x - 10).toNatClampNeg else LOSTv
/-- all of a log done anew: the numbers behind t acts, the greatest ever -/
def repF (f : Nat → Int64) (m2 : Nat) (kd pa ts : Nat → Int32) (ga gb : Nat → Nat) (va : Nat → Int64) : Nat → Nat → Int64
  | 0 => f
  | t + 1 => actF (repF f m2 kd pa ts ga gb va t) (ts t) (amt (ts t) m2 kd pa (va t)) (ga t) (gb t + 1 - ga t)
def repH (f : Nat → Int64) (m2 : Nat) (kd pa ts : Nat → Int32) (ga gb : Nat → Nat) (va : Nat → Int64) : Nat → Nat → Int64
  | 0 => f
  | t + 1 => hisF (repH f m2 kd pa ts ga gb va t) (repF f m2 kd pa ts ga gb va t) (ts t) (amt (ts t) m2 kd pa (va t)) (ga t) (gb t + 1 - ga t)
abbrev opn (f : Nat → Int64) (u w a b : Nat) (v : Int64) : Prop := ¬ w < a ∧ ¬ b < u ∧ v < maxR f u (w - u) ∧ (u < a ∨ b < w ∨ (¬ secR f (maxR f u (w - u)) u (w + 1 - u) = LOSTv ∧ v ≤ secR f (maxR f u (w - u)) u (w + 1 - u)))
theorem qs_out4 {x : Int32} (h0 : ¬ x = 0) (h1 : ¬ x = 1) (h2 : ¬ x = 2) (h3 : ¬ x = 3) : x.toInt < 0 ∨ 3 < x.toInt := by
  rw [i32_eq] at h0 h1 h2 h3
  have e0 : (0 : Int32).toInt = 0 := rfl
  have e1 : (1 : Int32).toInt = 1 := rfl
  have e2 : (2 : Int32).toInt = 2 := rfl
  have e3 : (3 : Int32).toInt = 3 := rfl
  omega
theorem qs_out5 {x : Int32} (h0 : ¬ x = 0) (h1 : ¬ x = 1) (h2 : ¬ x = 2) (h3 : ¬ x = 3) (h4 : ¬ x = 4) : x.toInt < 0 ∨ 4 < x.toInt := by
  have h := qs_out4 h0 h1 h2 h3
  rw [i32_eq] at h4
  have e4 : (4 : Int32).toInt = 4 := rfl
  omega
theorem qs_out7 {x : Int32} (h0 : ¬ x = 0) (h1 : ¬ x = 1) (h2 : ¬ x = 2) (h3 : ¬ x = 3) (h4 : ¬ x = 4) (h5 : ¬ x = 5) (h6 : ¬ x = 6) : x.toInt < 0 ∨ 6 < x.toInt := by
  have h := qs_out5 h0 h1 h2 h3 h4
  rw [i32_eq] at h5 h6
  have e5 : (5 : Int32).toInt = 5 := rfl
  have e6 : (6 : Int32).toInt = 6 := rfl
  omega
theorem qs_out8 {x : Int32} (h0 : ¬ x = 0) (h1 : ¬ x = 1) (h2 : ¬ x = 2) (h3 : ¬ x = 3) (h4 : ¬ x = 4) (h5 : ¬ x = 5) (h6 : ¬ x = 6) (h7 : ¬ x = 7) : x.toInt < 0 ∨ 7 < x.toInt := by
  have h := qs_out7 h0 h1 h2 h3 h4 h5 h6
  rw [i32_eq] at h7
  have e7 : (7 : Int32).toInt = 7 := rfl
  omega
set_option maxHeartbeats 1000000 in
set_option maxRecDepth 100000 in
theorem c_X8_refusedRun (l : Launch) (G : qh_G) (z M : Nat) (E : Nat → va_E) (tr : Int32) (lf : Int32) (hM : 84 ≤ M) (b_0 : E 0 = .inr (8, [.ref (z + 1), .ref (z + 2), .ref (z + 7), .ref (z + 10), .ref (z + 13), .ref (z + 39), .ref (z + 40), .ref (z + 43), .ref (z + 46), .ref (z + 49), .ref (z + 52), .int tr, .int lf])) (n : Nat) (x : Int32) (y : Int32) (b_40 : E 40 = .inr (3, [.int (nI n), .ref (z + 41), .ref (z + 42)])) : Met l yX8_refusedRun wsX8_refusedRun (qh_R 1) (qh_Pre G z M E [.ref (z + 0), .int x, .int y]) (qh_Q G z M (qh_i (fun r E' => E = E' ∧ r = rfR n x y))) 0 0 (fun q => z ≤ q) := by
  refine qh_metI (cc := cX8_refusedRun) (maxL := 3) (by decide) rfl (Nat.le_of_ble_eq_true rfl) ?_
  intro pZ eZ sZ mZ aZ bZ tZ cZ RR QQ ls hx hb hml hown hts hRf hRl hH hK hl hret
  have hown : sZ.vm.findClass RX8 = some mZ.cls := hown
  have hl : lv_has ls 3 [(0, .ref (z + 0)), (1, .int x), (2, .int y)] := hl
  have in_X8 : ∀ w ∈ wsX80, w ∈ wsX8_refusedRun := fun w h => List.mem_cons_of_mem _ (List.mem_append_left _ (List.mem_append_right _ h))
  have f_51 : qh_F G sZ mZ aZ 51 8 6 := qh_F.of hts in_X8 hown hK rfl 6 (by decide) (by decide +kernel)
  refine lv_aload_n hx hb dX8_refusedRun_0 rfl (lv_at hl 0 rfl) ?_
  refine qh_get hx hb hH f_51 (by omega) b_0 rfl dX8_refusedRun_1 ?_
  refine lv_iload_n hx hb dX8_refusedRun_4 rfl (lv_at hl 1 rfl) ?_
  refine qh_runV (As := [.int x]) (rest := []) (C := RX3) ⟨hx, hb, hml, hown, hts⟩ hK hH (c_X3_has l G z M E 40 (by omega) (nI n) (.ref (z + 41)) (.ref (z + 42)) x b_40) (cwV 1 hts gX8_refusedRun_X3_has rfl rfl rfl (by decide +kernel) (by rw [hRf, hRl]; exact ⟨Nat.le_of_ble_eq_true rfl, Nat.le_of_ble_eq_true rfl⟩)) (by omega) b_40 rfl rfl hl.1 rfl (Nat.le_of_ble_eq_true rfl) dX8_refusedRun_5 ⟨Nat.zero_le _, Nat.zero_le _⟩ (qh_kki fun r_5 E_1 H locs hpost hH => ?_)
  obtain ⟨rfl, rfl⟩ := hpost
  refine lv_if_eq (tgt := 22) hx hb dX8_refusedRun_8 (by decide) (fun c_8 => ?_) (fun c_8 => ?_)
  · have c_8 := bI_eq.mp c_8
    refine lv_iconst (v := (-1)) hx hb dX8_refusedRun_22 (by decide) ?_
    exact hret dX8_refusedRun_23 hH (⟨rfl, (if_neg (fun w => c_8 w.1)).symm⟩)
  · have c_8 := bI_ne.mp c_8
    refine lv_aload_n hx hb dX8_refusedRun_11 rfl (lv_at hl 0 rfl) ?_
    refine qh_get hx hb hH f_51 (by omega) b_0 rfl dX8_refusedRun_12 ?_
    refine lv_iload_n hx hb dX8_refusedRun_15 rfl (lv_at hl 2 rfl) ?_
    refine qh_runV (As := [.int y]) (rest := []) (C := RX3) ⟨hx, hb, hml, hown, hts⟩ hK hH (c_X3_has l G z M E 40 (by omega) (nI n) (.ref (z + 41)) (.ref (z + 42)) y b_40) (cwV 1 hts gX8_refusedRun_X3_has rfl rfl rfl (by decide +kernel) (by rw [hRf, hRl]; exact ⟨Nat.le_of_ble_eq_true rfl, Nat.le_of_ble_eq_true rfl⟩)) (by omega) b_40 rfl rfl hl.1 rfl (Nat.le_of_ble_eq_true rfl) dX8_refusedRun_16 ⟨Nat.zero_le _, Nat.zero_le _⟩ (qh_kki fun r_16 E_2 H locs hpost hH => ?_)
    obtain ⟨rfl, rfl⟩ := hpost
    refine lv_if_ne (tgt := 24) hx hb dX8_refusedRun_19 (by decide) (fun c_19 => ?_) (fun c_19 => ?_)
    · have c_19 := bI_ne.mp c_19
      refine lv_iload_n hx hb dX8_refusedRun_24 rfl (lv_at hl 2 rfl) ?_
      refine lv_iload_n hx hb dX8_refusedRun_25 rfl (lv_at hl 1 rfl) ?_
      refine lv_icmp_ge (tgt := 34) hx hb dX8_refusedRun_26 (by decide) (fun c_26 => ?_) (fun c_26 => ?_)
      · refine lv_iconst (v := 0) hx hb dX8_refusedRun_34 (by decide) ?_
        exact hret dX8_refusedRun_35 hH (⟨rfl, by rw [rfR, if_pos ⟨c_8, c_19⟩, if_neg (Int32.not_lt.mpr c_26)]⟩)
      · refine lv_bipush (v := (-2)) hx hb dX8_refusedRun_29 (by decide) ?_
        refine lv_goto (tgt := 35) hx hb dX8_refusedRun_31 (by decide) ?_
        exact hret dX8_refusedRun_35 hH (⟨rfl, by rw [rfR, if_pos ⟨c_8, c_19⟩, if_pos (Int32.not_le.mp c_26)]⟩)
    · have c_19 := bI_eq.mp c_19
      refine lv_iconst (v := (-1)) hx hb dX8_refusedRun_22 (by decide) ?_
      exact hret dX8_refusedRun_23 hH (⟨rfl, (if_neg (fun w => c_19 w.2)).symm⟩)

set_option maxHeartbeats 1000000 in
set_option maxRecDepth 100000 in
theorem c_X8_refusedAim (l : Launch) (G : qh_G) (z M : Nat) (E : Nat → va_E) (tr : Int32) (lf : Int32) (hM : 84 ≤ M) (b_0 : E 0 = .inr (8, [.ref (z + 1), .ref (z + 2), .ref (z + 7), .ref (z + 10), .ref (z + 13), .ref (z + 39), .ref (z + 40), .ref (z + 43), .ref (z + 46), .ref (z + 49), .ref (z + 52), .int tr, .int lf])) (n : Nat) (x : Int32) (y : Int32) (v : Int64) (b_40 : E 40 = .inr (3, [.int (nI n), .ref (z + 41), .ref (z + 42)])) : Met l yX8_refusedAim wsX8_refusedAim (qh_R 2) (qh_Pre G z M E [.ref (z + 0), .int x, .int y, .long v]) (qh_Q G z M (qh_i (fun r E' => E = E' ∧ r = rmR n x y v))) 0 0 (fun q => z ≤ q) := by
  refine qh_metI (cc := cX8_refusedAim) (maxL := 6) (by decide) rfl (Nat.le_of_ble_eq_true rfl) ?_
  intro pZ eZ sZ mZ aZ bZ tZ cZ RR QQ ls hx hb hml hown hts hRf hRl hH hK hl hret
  have hown : sZ.vm.findClass RX8 = some mZ.cls := hown
  have hl : lv_has ls 6 [(0, .ref (z + 0)), (1, .int x), (2, .int y), (3, .long v)] := hl
  have k_335 := hts (.constantLong RX8 335 (-1000000000000)) (by decide +kernel)
  have k_337 := hts (.constantLong RX8 337 (1000000000000)) (by decide +kernel)
  refine lv_aload_n hx hb dX8_refusedAim_0 rfl (lv_at hl 0 rfl) ?_
  refine lv_iload_n hx hb dX8_refusedAim_1 rfl (lv_at hl 1 rfl) ?_
  refine lv_iload_n hx hb dX8_refusedAim_2 rfl (lv_at hl 2 rfl) ?_
  refine qh_runV (As := [.int x, .int y]) (rest := []) (C := RX8) ⟨hx, hb, hml, hown, hts⟩ hK hH (c_X8_refusedRun l G z M E tr lf (hM) b_0 n x y b_40) (cwV 2 hts gX8_refusedAim_X8_refusedRun rfl rfl rfl (by decide +kernel) (by rw [hRf, hRl]; exact ⟨Nat.le_of_ble_eq_true rfl, Nat.le_of_ble_eq_true rfl⟩)) (by omega) b_0 rfl rfl hl.1 rfl (Nat.le_of_ble_eq_true rfl) dX8_refusedAim_3 ⟨Nat.zero_le _, Nat.zero_le _⟩ (qh_kki fun r_3 E_1 H locs hpost hH => ?_)
  obtain ⟨rfl, rfl⟩ := hpost
  refine lv_istore (lv' := [(5, .int (rfR n x y)), (0, .ref (z + 0)), (1, .int x), (2, .int y), (3, .long v)]) hx hb dX8_refusedAim_6 hl (by decide) rfl (fun ls hl => ?_)
  refine lv_iload hx hb dX8_refusedAim_8 (lv_at hl 0 rfl) ?_
  refine lv_if_eq (tgt := 16) hx hb dX8_refusedAim_10 (by decide) (fun c_10 => ?_) (fun c_10 => ?_)
  · refine lv_lload_n hx hb dX8_refusedAim_16 rfl (lv_at hl 4 rfl) ?_
    refine lv_ldc2 hx hb hown k_335 dX8_refusedAim_17 ?_
    refine W.lcmp hx hb dX8_refusedAim_20 ?_
    refine lv_if_lt (tgt := 32) hx hb dX8_refusedAim_21 (by decide) (fun c_21 => ?_) (fun c_21 => ?_)
    · have c_21 := (lg_cmp_lt _ _).mp c_21
      refine lv_bipush (v := (-2)) hx hb dX8_refusedAim_32 (by decide) ?_
      refine lv_goto (tgt := 38) hx hb dX8_refusedAim_34 (by decide) ?_
      exact hret dX8_refusedAim_38 hH (⟨rfl, by rw [rmR, if_pos c_10, if_pos (Or.inl c_21)]⟩)
    · have c_21 := (not_congr (lg_cmp_lt _ _)).mp c_21
      refine lv_lload_n hx hb dX8_refusedAim_24 rfl (lv_at hl 4 rfl) ?_
      refine lv_ldc2 hx hb hown k_337 dX8_refusedAim_25 ?_
      refine W.lcmp hx hb dX8_refusedAim_28 ?_
      refine lv_if_le (tgt := 37) hx hb dX8_refusedAim_29 (by decide) (fun c_29 => ?_) (fun c_29 => ?_)
      · have c_29 := (lg_cmp_le _ _).mp c_29
        refine lv_iconst (v := 0) hx hb dX8_refusedAim_37 (by decide) ?_
        exact hret dX8_refusedAim_38 hH (⟨rfl, by rw [rmR, if_pos c_10, if_neg (fun w => w.elim c_21 (Int64.not_lt.mpr c_29))]⟩)
      · have c_29 := (not_congr (lg_cmp_le _ _)).mp c_29
        refine lv_bipush (v := (-2)) hx hb dX8_refusedAim_32 (by decide) ?_
        refine lv_goto (tgt := 38) hx hb dX8_refusedAim_34 (by decide) ?_
        exact hret dX8_refusedAim_38 hH (⟨rfl, by rw [rmR, if_pos c_10, if_pos (Or.inr (Int64.not_le.mp c_29))]⟩)
  · refine lv_iload hx hb dX8_refusedAim_13 (lv_at hl 0 rfl) ?_
    exact hret dX8_refusedAim_15 hH (⟨rfl, by rw [rmR, if_neg c_10]⟩)

set_option maxHeartbeats 1000000 in
set_option maxRecDepth 100000 in
theorem c_X8_failed (l : Launch) (G : qh_G) (z M : Nat) (E : Nat → va_E) (tr : Int32) (lf : Int32) (hM : 84 ≤ M) (b_0 : E 0 = .inr (8, [.ref (z + 1), .ref (z + 2), .ref (z + 7), .ref (z + 10), .ref (z + 13), .ref (z + 39), .ref (z + 40), .ref (z + 43), .ref (z + 46), .ref (z + 49), .ref (z + 52), .int tr, .int lf])) (x : Int32) : Met l yX8_failed wsX8_failed (qh_R 0) (qh_Pre G z M E [.ref (z + 0), .int x]) (qh_Q G z M (qh_i (fun r E' => r = -10 - x ∧ E' 0 = .inr (8, [.ref (z + 1), .ref (z + 2), .ref (z + 7), .ref (z + 10), .ref (z + 13), .ref (z + 39), .ref (z + 40), .ref (z + 43), .ref (z + 46), .ref (z + 49), .ref (z + 52), .int tr, .int x]) ∧ ∀ x9, x9 ≠ 0 → E' x9 = E x9))) 0 0 (fun q => z ≤ q) := by
  refine qh_metI (cc := cX8_failed) (maxL := 2) (by decide) rfl (Nat.le_of_ble_eq_true rfl) ?_
  intro pZ eZ sZ mZ aZ bZ tZ cZ RR QQ ls hx hb hml hown hts hRf hRl hH hK hl hret
  have hown : sZ.vm.findClass RX8 = some mZ.cls := hown
  have hl : lv_has ls 2 [(0, .ref (z + 0)), (1, .int x)] := hl
  have in_X8 : ∀ w ∈ wsX80, w ∈ wsX8_failed := fun w h => List.mem_cons_of_mem _ (List.mem_append_right _ h)
  have w_79 : qh_W G sZ mZ aZ 79 8 12 .int := qh_W.of hts in_X8 tyX8 tyX8_ok nmX8 hown hK rfl 12 (by decide) (by decide +kernel) rfl (by decide +kernel)
  refine lv_aload_n hx hb dX8_failed_0 rfl (lv_at hl 0 rfl) ?_
  refine lv_iload_n hx hb dX8_failed_1 rfl (lv_at hl 1 rfl) ?_
  refine qh_put (fs' := [.ref (z + 1), .ref (z + 2), .ref (z + 7), .ref (z + 10), .ref (z + 13), .ref (z + 39), .ref (z + 40), .ref (z + 43), .ref (z + 46), .ref (z + 49), .ref (z + 52), .int tr, .int x]) hx hb hH w_79 (by omega) b_0 rfl rfl (Nat.le_of_ble_eq_true rfl) rfl dX8_failed_2 (fun E_1 H locs h_0 hfr hH _ => ?_)
  have hF : ∀ x9, x9 ≠ 0 → E_1 x9 = E x9 := fun x9 a0 => hfr x9 a0
  refine lv_bipush (v := (-10)) hx hb dX8_failed_5 (by decide) ?_
  refine lv_iload_n hx hb dX8_failed_7 rfl (lv_at hl 1 rfl) ?_
  refine lv_isub hx hb dX8_failed_8 ?_
  exact hret dX8_failed_9 hH (⟨rfl, h_0, hF⟩)

set_option maxHeartbeats 1000000 in
set_option maxRecDepth 100000 in
theorem c_X8_lost (l : Launch) (G : qh_G) (z M : Nat) (E : Nat → va_E) (tr : Int32) (lf : Int32) (hM : 84 ≤ M) (b_0 : E 0 = .inr (8, [.ref (z + 1), .ref (z + 2), .ref (z + 7), .ref (z + 10), .ref (z + 13), .ref (z + 39), .ref (z + 40), .ref (z + 43), .ref (z + 46), .ref (z + 49), .ref (z + 52), .int tr, .int lf])) (x : Int32) : Met l yX8_lost wsX8_lost (qh_R 0) (qh_Pre G z M E [.ref (z + 0), .int x]) (qh_Q G z M (qh_l (fun r E' => r = LOSTv ∧ E' 0 = .inr (8, [.ref (z + 1), .ref (z + 2), .ref (z + 7), .ref (z + 10), .ref (z + 13), .ref (z + 39), .ref (z + 40), .ref (z + 43), .ref (z + 46), .ref (z + 49), .ref (z + 52), .int tr, .int x]) ∧ ∀ x9, x9 ≠ 0 → E' x9 = E x9))) 0 0 (fun q => z ≤ q) := by
  refine qh_metL (cc := cX8_lost) (maxL := 2) (by decide) rfl (Nat.le_of_ble_eq_true rfl) ?_
  intro pZ eZ sZ mZ aZ bZ tZ cZ RR QQ ls hx hb hml hown hts hRf hRl hH hK hl hret
  have hown : sZ.vm.findClass RX8 = some mZ.cls := hown
  have hl : lv_has ls 2 [(0, .ref (z + 0)), (1, .int x)] := hl
  have in_X8 : ∀ w ∈ wsX80, w ∈ wsX8_lost := fun w h => List.mem_cons_of_mem _ (List.mem_append_right _ h)
  have w_79 : qh_W G sZ mZ aZ 79 8 12 .int := qh_W.of hts in_X8 tyX8 tyX8_ok nmX8 hown hK rfl 12 (by decide) (by decide +kernel) rfl (by decide +kernel)
  have k_161 := hts (.constantLong RX8 161 (-9223372036854775808)) (by decide +kernel)
  refine lv_aload_n hx hb dX8_lost_0 rfl (lv_at hl 0 rfl) ?_
  refine lv_iload_n hx hb dX8_lost_1 rfl (lv_at hl 1 rfl) ?_
  refine qh_put (fs' := [.ref (z + 1), .ref (z + 2), .ref (z + 7), .ref (z + 10), .ref (z + 13), .ref (z + 39), .ref (z + 40), .ref (z + 43), .ref (z + 46), .ref (z + 49), .ref (z + 52), .int tr, .int x]) hx hb hH w_79 (by omega) b_0 rfl rfl (Nat.le_of_ble_eq_true rfl) rfl dX8_lost_2 (fun E_1 H locs h_0 hfr hH _ => ?_)
  have hF : ∀ x9, x9 ≠ 0 → E_1 x9 = E x9 := fun x9 a0 => hfr x9 a0
  refine lv_ldc2 hx hb hown k_161 dX8_lost_5 ?_
  exact hret dX8_lost_8 hH (⟨rfl, h_0, hF⟩)

set_option maxHeartbeats 1000000 in
set_option maxRecDepth 100000 in
theorem c_X8_leave (l : Launch) (G : qh_G) (z M : Nat) (E : Nat → va_E) (tr : Int32) (lf : Int32) (hM : 84 ≤ M) (b_0 : E 0 = .inr (8, [.ref (z + 1), .ref (z + 2), .ref (z + 7), .ref (z + 10), .ref (z + 13), .ref (z + 39), .ref (z + 40), .ref (z + 43), .ref (z + 46), .ref (z + 49), .ref (z + 52), .int tr, .int lf])) (x : Int32) : Met l yX8_leave wsX8_leave (qh_R 0) (qh_Pre G z M E [.ref (z + 0), .int x]) (qh_Q G z M (qh_v (fun E' => E' 0 = .inr (8, [.ref (z + 1), .ref (z + 2), .ref (z + 7), .ref (z + 10), .ref (z + 13), .ref (z + 39), .ref (z + 40), .ref (z + 43), .ref (z + 46), .ref (z + 49), .ref (z + 52), .int (lvT tr x), .int lf]) ∧ ∀ x9, x9 ≠ 0 → E' x9 = E x9))) 0 0 (fun q => z ≤ q) := by
  refine qh_metV (cc := cX8_leave) (maxL := 2) (by decide) rfl (Nat.le_of_ble_eq_true rfl) ?_
  intro pZ eZ sZ mZ aZ bZ tZ cZ RR QQ ls hx hb hml hown hts hRf hRl hH hK hl hret
  have hown : sZ.vm.findClass RX8 = some mZ.cls := hown
  have hl : lv_has ls 2 [(0, .ref (z + 0)), (1, .int x)] := hl
  have in_X8 : ∀ w ∈ wsX80, w ∈ wsX8_leave := fun w h => List.mem_cons_of_mem _ (List.mem_append_right _ h)
  have f_75 : qh_F G sZ mZ aZ 75 8 11 := qh_F.of hts in_X8 hown hK rfl 11 (by decide) (by decide +kernel)
  have w_75 : qh_W G sZ mZ aZ 75 8 11 .int := qh_W.of hts in_X8 tyX8 tyX8_ok nmX8 hown hK rfl 11 (by decide) (by decide +kernel) rfl (by decide +kernel)
  refine lv_aload_n hx hb dX8_leave_0 rfl (lv_at hl 0 rfl) ?_
  refine lv_bipush (v := 31) hx hb dX8_leave_1 (by decide) ?_
  refine lv_aload_n hx hb dX8_leave_3 rfl (lv_at hl 0 rfl) ?_
  refine qh_get hx hb hH f_75 (by omega) b_0 rfl dX8_leave_4 ?_
  refine lv_imul hx hb dX8_leave_7 ?_
  refine lv_iload_n hx hb dX8_leave_8 rfl (lv_at hl 1 rfl) ?_
  refine lv_iadd hx hb dX8_leave_9 ?_
  refine qh_topi (y := lvT tr x) (rfl) ?_
  refine qh_put (fs' := [.ref (z + 1), .ref (z + 2), .ref (z + 7), .ref (z + 10), .ref (z + 13), .ref (z + 39), .ref (z + 40), .ref (z + 43), .ref (z + 46), .ref (z + 49), .ref (z + 52), .int (lvT tr x), .int lf]) hx hb hH w_75 (by omega) b_0 rfl rfl (Nat.le_of_ble_eq_true rfl) rfl dX8_leave_10 (fun E_1 H locs h_0 hfr hH _ => ?_)
  have hF : ∀ x9, x9 ≠ 0 → E_1 x9 = E x9 := fun x9 a0 => hfr x9 a0
  exact hret dX8_leave_13 hH (⟨h_0, hF⟩)

set_option maxHeartbeats 1000000 in
set_option maxRecDepth 100000 in
theorem c_X8_plainBody (l : Launch) (G : qh_G) (z M : Nat) (E : Nat → va_E) (tr : Int32) (lf : Int32) (hM : 84 ≤ M) (b_0 : E 0 = .inr (8, [.ref (z + 1), .ref (z + 2), .ref (z + 7), .ref (z + 10), .ref (z + 13), .ref (z + 39), .ref (z + 40), .ref (z + 43), .ref (z + 46), .ref (z + 49), .ref (z + 52), .int tr, .int lf])) (x : Int32) : Met l yX8_plainBody wsX8_plainBody (qh_R 1) (qh_Pre G z M E [.ref (z + 0), .int x]) (qh_Q G z M (qh_i (fun r E' => r = x ∧ E' 0 = .inr (8, [.ref (z + 1), .ref (z + 2), .ref (z + 7), .ref (z + 10), .ref (z + 13), .ref (z + 39), .ref (z + 40), .ref (z + 43), .ref (z + 46), .ref (z + 49), .ref (z + 52), .int (lvT tr 1), .int lf]) ∧ ∀ x9, x9 ≠ 0 → E' x9 = E x9))) 0 0 (fun q => z ≤ q) := by
  refine qh_metI (cc := cX8_plainBody) (maxL := 2) (by decide) rfl (Nat.le_of_ble_eq_true rfl) ?_
  intro pZ eZ sZ mZ aZ bZ tZ cZ RR QQ ls hx hb hml hown hts hRf hRl hH hK hl hret
  have hown : sZ.vm.findClass RX8 = some mZ.cls := hown
  have hl : lv_has ls 2 [(0, .ref (z + 0)), (1, .int x)] := hl
  refine lv_aload_n hx hb dX8_plainBody_0 rfl (lv_at hl 0 rfl) ?_
  refine lv_iconst (v := 1) hx hb dX8_plainBody_1 (by decide) ?_
  refine qh_runV (As := [.int 1]) (rest := []) (C := RX8) ⟨hx, hb, hml, hown, hts⟩ hK hH (c_X8_leave l G z M E tr lf (hM) b_0 1) (cwV 1 hts gX8_plainBody_X8_leave rfl rfl rfl (by decide +kernel) (by rw [hRf, hRl]; exact ⟨Nat.le_of_ble_eq_true rfl, Nat.le_of_ble_eq_true rfl⟩)) (by omega) b_0 rfl rfl hl.1 rfl (Nat.le_of_ble_eq_true rfl) dX8_plainBody_2 ⟨Nat.zero_le _, Nat.zero_le _⟩ (qh_kkv fun E_1 H locs hpost hH => ?_)
  obtain ⟨h_0, hfr⟩ := hpost
  have hF : ∀ x9, x9 ≠ 0 → E_1 x9 = E x9 := fun x9 a0 => hfr x9 a0
  refine lv_iload_n hx hb dX8_plainBody_5 rfl (lv_at hl 1 rfl) ?_
  exact hret dX8_plainBody_6 hH (⟨rfl, h_0, hF⟩)

set_option maxHeartbeats 1000000 in
set_option maxRecDepth 100000 in
theorem c_X8_broadBody (l : Launch) (G : qh_G) (z M : Nat) (E : Nat → va_E) (tr : Int32) (lf : Int32) (hM : 84 ≤ M) (b_0 : E 0 = .inr (8, [.ref (z + 1), .ref (z + 2), .ref (z + 7), .ref (z + 10), .ref (z + 13), .ref (z + 39), .ref (z + 40), .ref (z + 43), .ref (z + 46), .ref (z + 49), .ref (z + 52), .int tr, .int lf])) (x : Int32) : Met l yX8_broadBody wsX8_broadBody (qh_R 2) (qh_Pre G z M E [.ref (z + 0), .int x]) (qh_Q G z M (qh_i (fun r E' => r = x + 100 ∧ E' 0 = .inr (8, [.ref (z + 1), .ref (z + 2), .ref (z + 7), .ref (z + 10), .ref (z + 13), .ref (z + 39), .ref (z + 40), .ref (z + 43), .ref (z + 46), .ref (z + 49), .ref (z + 52), .int (lvT (lvT tr 2) 1), .int lf]) ∧ ∀ x9, x9 ≠ 0 → E' x9 = E x9))) 0 0 (fun q => z ≤ q) := by
  refine qh_metI (cc := cX8_broadBody) (maxL := 2) (by decide) rfl (Nat.le_of_ble_eq_true rfl) ?_
  intro pZ eZ sZ mZ aZ bZ tZ cZ RR QQ ls hx hb hml hown hts hRf hRl hH hK hl hret
  have hown : sZ.vm.findClass RX8 = some mZ.cls := hown
  have hl : lv_has ls 2 [(0, .ref (z + 0)), (1, .int x)] := hl
  refine lv_aload_n hx hb dX8_broadBody_0 rfl (lv_at hl 0 rfl) ?_
  refine lv_iconst (v := 2) hx hb dX8_broadBody_1 (by decide) ?_
  refine qh_runV (As := [.int 2]) (rest := []) (C := RX8) ⟨hx, hb, hml, hown, hts⟩ hK hH (c_X8_leave l G z M E tr lf (hM) b_0 2) (cwV 1 hts gX8_broadBody_X8_leave rfl rfl rfl (by decide +kernel) (by rw [hRf, hRl]; exact ⟨Nat.le_of_ble_eq_true rfl, Nat.le_of_ble_eq_true rfl⟩)) (by omega) b_0 rfl rfl hl.1 rfl (Nat.le_of_ble_eq_true rfl) dX8_broadBody_2 ⟨Nat.zero_le _, Nat.zero_le _⟩ (qh_kkv fun E_1 H locs hpost hH => ?_)
  obtain ⟨h_0, hfr⟩ := hpost
  have hF : ∀ x9, x9 ≠ 0 → E_1 x9 = E x9 := fun x9 a0 => hfr x9 a0
  refine lv_aload_n hx hb dX8_broadBody_5 rfl (lv_at hl 0 rfl) ?_
  refine lv_iload_n hx hb dX8_broadBody_6 rfl (lv_at hl 1 rfl) ?_
  refine qh_runV (As := [.int x]) (rest := []) (C := RX8) ⟨hx, hb, hml, hown, hts⟩ hK hH (c_X8_plainBody l G z M E_1 (lvT tr 2) lf (hM) h_0 x) (cwV 1 hts gX8_broadBody_X8_plainBody rfl rfl rfl (by decide +kernel) (by rw [hRf, hRl]; exact ⟨Nat.le_of_ble_eq_true rfl, Nat.le_of_ble_eq_true rfl⟩)) (by omega) h_0 rfl rfl hl.1 rfl (Nat.le_of_ble_eq_true rfl) dX8_broadBody_7 ⟨Nat.zero_le _, Nat.zero_le _⟩ (qh_kki fun r_7 E_2 H locs hpost hH => ?_)
  obtain ⟨rfl, h_0, hfr⟩ := hpost
  have hF : ∀ x9, x9 ≠ 0 → E_2 x9 = E x9 := fun x9 a0 => (hfr x9 a0).trans (hF x9 a0)
  refine lv_bipush (v := 100) hx hb dX8_broadBody_10 (by decide) ?_
  refine lv_iadd hx hb dX8_broadBody_12 ?_
  exact hret dX8_broadBody_13 hH (⟨rfl, h_0, hF⟩)

set_option maxHeartbeats 1000000 in
set_option maxRecDepth 100000 in
theorem c_X8_doubleBody (l : Launch) (G : qh_G) (z M : Nat) (E : Nat → va_E) (tr : Int32) (lf : Int32) (hM : 84 ≤ M) (b_0 : E 0 = .inr (8, [.ref (z + 1), .ref (z + 2), .ref (z + 7), .ref (z + 10), .ref (z + 13), .ref (z + 39), .ref (z + 40), .ref (z + 43), .ref (z + 46), .ref (z + 49), .ref (z + 52), .int tr, .int lf])) (x : Int32) : Met l yX8_doubleBody wsX8_doubleBody (qh_R 3) (qh_Pre G z M E [.ref (z + 0), .int x]) (qh_Q G z M (qh_i (fun r E' => r = (x + 100) + x ∧ E' 0 = .inr (8, [.ref (z + 1), .ref (z + 2), .ref (z + 7), .ref (z + 10), .ref (z + 13), .ref (z + 39), .ref (z + 40), .ref (z + 43), .ref (z + 46), .ref (z + 49), .ref (z + 52), .int (lvT (lvT (lvT (lvT tr 3) 2) 1) 1), .int lf]) ∧ ∀ x9, x9 ≠ 0 → E' x9 = E x9))) 0 0 (fun q => z ≤ q) := by
  refine qh_metI (cc := cX8_doubleBody) (maxL := 3) (by decide) rfl (Nat.le_of_ble_eq_true rfl) ?_
  intro pZ eZ sZ mZ aZ bZ tZ cZ RR QQ ls hx hb hml hown hts hRf hRl hH hK hl hret
  have hown : sZ.vm.findClass RX8 = some mZ.cls := hown
  have hl : lv_has ls 3 [(0, .ref (z + 0)), (1, .int x)] := hl
  refine lv_aload_n hx hb dX8_doubleBody_0 rfl (lv_at hl 0 rfl) ?_
  refine lv_iconst (v := 3) hx hb dX8_doubleBody_1 (by decide) ?_
  refine qh_runV (As := [.int 3]) (rest := []) (C := RX8) ⟨hx, hb, hml, hown, hts⟩ hK hH (c_X8_leave l G z M E tr lf (hM) b_0 3) (cwV 1 hts gX8_doubleBody_X8_leave rfl rfl rfl (by decide +kernel) (by rw [hRf, hRl]; exact ⟨Nat.le_of_ble_eq_true rfl, Nat.le_of_ble_eq_true rfl⟩)) (by omega) b_0 rfl rfl hl.1 rfl (Nat.le_of_ble_eq_true rfl) dX8_doubleBody_2 ⟨Nat.zero_le _, Nat.zero_le _⟩ (qh_kkv fun E_1 H locs hpost hH => ?_)
  obtain ⟨h_0, hfr⟩ := hpost
  have hF : ∀ x9, x9 ≠ 0 → E_1 x9 = E x9 := fun x9 a0 => hfr x9 a0
  refine lv_aload_n hx hb dX8_doubleBody_5 rfl (lv_at hl 0 rfl) ?_
  refine lv_iload_n hx hb dX8_doubleBody_6 rfl (lv_at hl 1 rfl) ?_
  refine qh_runV (As := [.int x]) (rest := []) (C := RX8) ⟨hx, hb, hml, hown, hts⟩ hK hH (c_X8_broadBody l G z M E_1 (lvT tr 3) lf (hM) h_0 x) (cwV 1 hts gX8_doubleBody_X8_broadBody rfl rfl rfl (by decide +kernel) (by rw [hRf, hRl]; exact ⟨Nat.le_of_ble_eq_true rfl, Nat.le_of_ble_eq_true rfl⟩)) (by omega) h_0 rfl rfl hl.1 rfl (Nat.le_of_ble_eq_true rfl) dX8_doubleBody_7 ⟨Nat.zero_le _, Nat.zero_le _⟩ (qh_kki fun r_7 E_2 H locs hpost hH => ?_)
  obtain ⟨rfl, h_0, hfr⟩ := hpost
  have hF : ∀ x9, x9 ≠ 0 → E_2 x9 = E x9 := fun x9 a0 => (hfr x9 a0).trans (hF x9 a0)
  refine lv_istore_n (lv' := [(2, .int (x + 100)), (0, .ref (z + 0)), (1, .int x)]) hx hb dX8_doubleBody_10 rfl hl (by decide) rfl (fun ls hl => ?_)
  refine lv_iload_n hx hb dX8_doubleBody_11 rfl (lv_at hl 0 rfl) ?_
  refine lv_aload_n hx hb dX8_doubleBody_12 rfl (lv_at hl 1 rfl) ?_
  refine lv_iload_n hx hb dX8_doubleBody_13 rfl (lv_at hl 2 rfl) ?_
  refine qh_runV (As := [.int x]) (rest := [.int (x + 100)]) (C := RX8) ⟨hx, hb, hml, hown, hts⟩ hK hH (c_X8_plainBody l G z M E_2 (lvT (lvT (lvT tr 3) 2) 1) lf (hM) h_0 x) (cwV 1 hts gX8_doubleBody_X8_plainBody rfl rfl rfl (by decide +kernel) (by rw [hRf, hRl]; exact ⟨Nat.le_of_ble_eq_true rfl, Nat.le_of_ble_eq_true rfl⟩)) (by omega) h_0 rfl rfl hl.1 rfl (Nat.le_of_ble_eq_true rfl) dX8_doubleBody_14 ⟨Nat.zero_le _, Nat.zero_le _⟩ (qh_kki fun r_14 E_3 H locs hpost hH => ?_)
  obtain ⟨rfl, h_0, hfr⟩ := hpost
  have hF : ∀ x9, x9 ≠ 0 → E_3 x9 = E x9 := fun x9 a0 => (hfr x9 a0).trans (hF x9 a0)
  refine lv_iadd hx hb dX8_doubleBody_17 ?_
  exact hret dX8_doubleBody_18 hH (⟨rfl, h_0, hF⟩)

set_option maxHeartbeats 1000000 in
set_option maxRecDepth 100000 in
theorem c_X8_act (l : Launch) (G : qh_G) (z M : Nat) (E : Nat → va_E) (tr : Int32) (lf : Int32) (hM : 84 ≤ M) (b_0 : E 0 = .inr (8, [.ref (z + 1), .ref (z + 2), .ref (z + 7), .ref (z + 10), .ref (z + 13), .ref (z + 39), .ref (z + 40), .ref (z + 43), .ref (z + 46), .ref (z + 49), .ref (z + 52), .int tr, .int lf])) (n : Nat) (m2 : Nat) (ln : Nat) (a : Nat) (b : Nat) (f : Nat → Int64) (g : Nat → Int64) (kd : Nat → Int32) (pa : Nat → Int32) (ts : Nat → Int32) (ga : Nat → Nat) (gb : Nat → Nat) (va : Nat → Int64) (t : Int32) (v : Int64) (hn : n ≤ 16 ∧ m2 ≤ 3) (hl2 : ln < 24) (hab : a ≤ b ∧ b < n) (hacts : ∀ t, t < 24 → E (15 + t) = .inr (0, [.int (ts t), .int (nI (ga t)), .int (nI (gb t)), .long (va t)])) (b_40 : E 40 = .inr (3, [.int (nI n), .ref (z + 41), .ref (z + 42)])) (b_41 : E 41 = qa_J G 16 f) (b_42 : E 42 = qa_J G 16 g) (b_7 : E 7 = .inr (1, [.int (nI m2), .ref (z + 8), .ref (z + 9)])) (b_8 : E 8 = qa_I G 3 kd) (b_9 : E 9 = qa_I G 3 pa) (b_13 : E 13 = .inr (2, [.int (nI ln), .ref (z + 14)])) (b_14 : E 14 = qa_A G 24 (rfA z 15)) : Met l yX8_act wsX8_act (qh_R 4) (qh_Pre G z M E [.ref (z + 0), .int t, .int (nI a), .int (nI b), .long v]) (qh_Q G z M (qh_i (fun r E' => r = nI (othN f t (amt t m2 kd pa v) a (b + 1 - a)) ∧ E' 13 = .inr (2, [.int (nI (ln + 1)), .ref (z + 14)]) ∧ E' (15 + ln) = .inr (0, [.int t, .int (nI a), .int (nI b), .long v]) ∧ E' 41 = qa_J G 16 (actF f t (amt t m2 kd pa v) a (b + 1 - a)) ∧ E' 42 = qa_J G 16 (hisF g f t (amt t m2 kd pa v) a (b + 1 - a)) ∧ ∀ x9, x9 ≠ 13 → x9 ≠ (15 + ln) → x9 ≠ 41 → x9 ≠ 42 → E' x9 = E x9))) 0 0 (fun q => z ≤ q) := by
  refine qh_metI (cc := cX8_act) (maxL := 7) (by decide) rfl (Nat.le_of_ble_eq_true rfl) ?_
  intro pZ eZ sZ mZ aZ bZ tZ cZ RR QQ ls hx hb hml hown hts hRf hRl hH hK hl hret
  have hown : sZ.vm.findClass RX8 = some mZ.cls := hown
  have hl : lv_has ls 7 [(0, .ref (z + 0)), (1, .int t), (2, .int (nI a)), (3, .int (nI b)), (4, .long v)] := hl
  have in_X8 : ∀ w ∈ wsX80, w ∈ wsX8_act := fun w h => List.mem_cons_of_mem _ (List.mem_append_left _ (List.mem_append_left _ (List.mem_append_left _ (List.mem_append_left _ (List.mem_append_right _ h)))))
  have f_37 : qh_F G sZ mZ aZ 37 8 4 := qh_F.of hts in_X8 hown hK rfl 4 (by decide) (by decide +kernel)
  have f_51 : qh_F G sZ mZ aZ 51 8 6 := qh_F.of hts in_X8 hown hK rfl 6 (by decide) (by decide +kernel)
  have f_27 : qh_F G sZ mZ aZ 27 8 2 := qh_F.of hts in_X8 hown hK rfl 2 (by decide) (by decide +kernel)
  refine lv_aload_n hx hb dX8_act_0 rfl (lv_at hl 0 rfl) ?_
  refine qh_get hx hb hH f_37 (by omega) b_0 rfl dX8_act_1 ?_
  refine qh_runV (As := []) (rest := []) (C := RX2) ⟨hx, hb, hml, hown, hts⟩ hK hH (c_X2_next l G z M E 13 14 15 ln (⟨by omega, by omega, by decide⟩) (hl2) b_13 b_14) (cwV 0 hts gX8_act_X2_next rfl rfl rfl (by decide +kernel) (by rw [hRf, hRl]; exact ⟨Nat.le_of_ble_eq_true rfl, Nat.le_of_ble_eq_true rfl⟩)) (by omega) b_13 rfl rfl hl.1 rfl (Nat.le_of_ble_eq_true rfl) dX8_act_4 ⟨Nat.zero_le _, Nat.zero_le _⟩ (qh_kka fun r_4 E_1 H locs hpost hH => ?_)
  obtain ⟨rfl, h_13, hfr⟩ := hpost
  have hF : ∀ x9, x9 ≠ 13 → E_1 x9 = E x9 := fun x9 a0 => hfr x9 a0
  refine lv_astore (lv' := [(6, .ref (z + (15 + ln))), (0, .ref (z + 0)), (1, .int t), (2, .int (nI a)), (3, .int (nI b)), (4, .long v)]) hx hb dX8_act_7 hl (by decide) rfl (fun ls hl => ?_)
  refine lv_aload hx hb dX8_act_9 (lv_at hl 0 rfl) ?_
  refine lv_ifnonnull (tgt := 17) hx hb dX8_act_11 (by decide) ?_
  refine lv_aload hx hb dX8_act_17 (lv_at hl 0 rfl) ?_
  refine lv_iload_n hx hb dX8_act_19 rfl (lv_at hl 2 rfl) ?_
  refine lv_iload_n hx hb dX8_act_20 rfl (lv_at hl 3 rfl) ?_
  refine lv_iload_n hx hb dX8_act_21 rfl (lv_at hl 4 rfl) ?_
  refine lv_lload hx hb dX8_act_22 (lv_at hl 5 rfl) ?_
  refine qh_runV (As := [.int t, .int (nI a), .int (nI b), .long v]) (rest := []) (C := RX0) ⟨hx, hb, hml, hown, hts⟩ hK hH (c_X0_become l G z M E_1 (15 + ln) (ts ln) (nI (ga ln)) (nI (gb ln)) (va ln) t (nI a) (nI b) v (by omega) ((hF (15 + ln) (by omega)).trans (hacts ln (by omega)))) (cwV 4 hts gX8_act_X0_become rfl rfl rfl (by decide +kernel) (by rw [hRf, hRl]; exact ⟨Nat.le_of_ble_eq_true rfl, Nat.le_of_ble_eq_true rfl⟩)) (by omega) ((hF (15 + ln) (by omega)).trans (hacts ln (by omega))) rfl rfl hl.1 rfl (Nat.le_of_ble_eq_true rfl) dX8_act_24 ⟨Nat.zero_le _, Nat.zero_le _⟩ (qh_kkv fun E_2 H locs hpost hH => ?_)
  obtain ⟨h_15_ln, hfr⟩ := hpost
  have h_13 := (hfr 13 (by omega)).trans h_13
  have hF : ∀ x9, x9 ≠ 13 → x9 ≠ (15 + ln) → E_2 x9 = E x9 := fun x9 a0 a1 => (hfr x9 a1).trans (hF x9 a0)
  refine lv_aload_n hx hb dX8_act_27 rfl (lv_at hl 1 rfl) ?_
  refine qh_get hx hb hH f_51 (by omega) ((hF 0 (by decide) (by omega)).trans b_0) rfl dX8_act_28 ?_
  refine lv_aload hx hb dX8_act_31 (lv_at hl 0 rfl) ?_
  refine lv_aload_n hx hb dX8_act_33 rfl (lv_at hl 1 rfl) ?_
  refine qh_get hx hb hH f_27 (by omega) ((hF 0 (by decide) (by omega)).trans b_0) rfl dX8_act_34 ?_
  refine qh_runV (As := [.ref (z + (15 + ln)), .ref (z + 7)]) (rest := []) (C := RX3) ⟨hx, hb, hml, hown, hts⟩ hK hH (c_X3_suffer l G z M E_2 40 41 42 n (15 + ln) 7 8 9 m2 a b t v f g kd pa (⟨by omega, by omega, by omega, by omega, by omega, by omega, by omega⟩) (⟨by decide, by decide, by decide, by omega, by omega, by decide, by decide, by decide, by decide, by decide, by decide⟩) (⟨hn.1, hn.2⟩) (⟨hab.1, hab.2⟩) ((hF 40 (by decide) (by omega)).trans b_40) ((hF 41 (by decide) (by omega)).trans b_41) ((hF 42 (by decide) (by omega)).trans b_42) h_15_ln ((hF 7 (by decide) (by omega)).trans b_7) ((hF 8 (by decide) (by omega)).trans b_8) ((hF 9 (by decide) (by omega)).trans b_9)) (cwV 2 hts gX8_act_X3_suffer rfl rfl rfl (by decide +kernel) (by rw [hRf, hRl]; exact ⟨Nat.le_of_ble_eq_true rfl, Nat.le_of_ble_eq_true rfl⟩)) (by omega) ((hF 40 (by decide) (by omega)).trans b_40) rfl rfl hl.1 rfl (Nat.le_of_ble_eq_true rfl) dX8_act_37 ⟨Nat.zero_le _, Nat.zero_le _⟩ (qh_kki fun r_37 E_3 H locs hpost hH => ?_)
  obtain ⟨rfl, h_41, h_42, hfr⟩ := hpost
  have h_13 := (hfr 13 (by decide) (by decide)).trans h_13
  have h_15_ln := (hfr (15 + ln) (by omega) (by omega)).trans h_15_ln
  have hF : ∀ x9, x9 ≠ 13 → x9 ≠ (15 + ln) → x9 ≠ 41 → x9 ≠ 42 → E_3 x9 = E x9 := fun x9 a0 a1 a2 a3 => (hfr x9 a2 a3).trans (hF x9 a0 a1)
  exact hret dX8_act_40 hH (⟨rfl, h_13, h_15_ln, h_41, h_42, hF⟩)

set_option maxHeartbeats 1000000 in
set_option maxRecDepth 100000 in
theorem c_X8_act_full (l : Launch) (G : qh_G) (z M : Nat) (E : Nat → va_E) (tr : Int32) (lf : Int32) (hM : 84 ≤ M) (b_0 : E 0 = .inr (8, [.ref (z + 1), .ref (z + 2), .ref (z + 7), .ref (z + 10), .ref (z + 13), .ref (z + 39), .ref (z + 40), .ref (z + 43), .ref (z + 46), .ref (z + 49), .ref (z + 52), .int tr, .int lf])) (ln : Nat) (t : Int32) (x : Int32) (y : Int32) (v : Int64) (hl2 : 24 ≤ ln ∧ ln < 100) (b_13 : E 13 = .inr (2, [.int (nI ln), .ref (z + 14)])) : Met l yX8_act wsX8_act (qh_R 4) (qh_Pre G z M E [.ref (z + 0), .int t, .int x, .int y, .long v]) (qh_Q G z M (qh_i (fun r E' => E = E' ∧ r = (-4)))) 0 0 (fun q => z ≤ q) := by
  refine qh_metI (cc := cX8_act) (maxL := 7) (by decide) rfl (Nat.le_of_ble_eq_true rfl) ?_
  intro pZ eZ sZ mZ aZ bZ tZ cZ RR QQ ls hx hb hml hown hts hRf hRl hH hK hl hret
  have hown : sZ.vm.findClass RX8 = some mZ.cls := hown
  have hl : lv_has ls 7 [(0, .ref (z + 0)), (1, .int t), (2, .int x), (3, .int y), (4, .long v)] := hl
  have in_X8 : ∀ w ∈ wsX80, w ∈ wsX8_act := fun w h => List.mem_cons_of_mem _ (List.mem_append_left _ (List.mem_append_left _ (List.mem_append_left _ (List.mem_append_left _ (List.mem_append_right _ h)))))
  have f_37 : qh_F G sZ mZ aZ 37 8 4 := qh_F.of hts in_X8 hown hK rfl 4 (by decide) (by decide +kernel)
  refine lv_aload_n hx hb dX8_act_0 rfl (lv_at hl 0 rfl) ?_
  refine qh_get hx hb hH f_37 (by omega) b_0 rfl dX8_act_1 ?_
  refine qh_runV (As := []) (rest := []) (C := RX2) ⟨hx, hb, hml, hown, hts⟩ hK hH (c_X2_next_full l G z M E 13 14 ln (by omega) (⟨hl2.1, hl2.2⟩) b_13) (cwV 0 hts gX8_act_X2_next rfl rfl rfl (by decide +kernel) (by rw [hRf, hRl]; exact ⟨Nat.le_of_ble_eq_true rfl, Nat.le_of_ble_eq_true rfl⟩)) (by omega) b_13 rfl rfl hl.1 rfl (Nat.le_of_ble_eq_true rfl) dX8_act_4 ⟨Nat.zero_le _, Nat.zero_le _⟩ (qh_kka fun r_4 E_1 H locs hpost hH => ?_)
  obtain ⟨rfl, rfl⟩ := hpost
  refine lv_astoreN (lv' := [(6, .null), (0, .ref (z + 0)), (1, .int t), (2, .int x), (3, .int y), (4, .long v)]) hx hb dX8_act_7 hl (by decide) rfl (fun ls hl => ?_)
  refine lv_aloadN hx hb dX8_act_9 (lv_at hl 0 rfl) ?_
  refine lv_ifnonnullN hx hb dX8_act_11 ?_
  refine lv_bipush (v := (-4)) hx hb dX8_act_14 (by decide) ?_
  exact hret dX8_act_16 hH (⟨rfl, rfl⟩)

set_option maxHeartbeats 1000000 in
set_option maxRecDepth 100000 in
theorem c_X8_beginAgain (l : Launch) (G : qh_G) (z M : Nat) (E : Nat → va_E) (tr : Int32) (lf : Int32) (hM : 84 ≤ M) (b_0 : E 0 = .inr (8, [.ref (z + 1), .ref (z + 2), .ref (z + 7), .ref (z + 10), .ref (z + 13), .ref (z + 39), .ref (z + 40), .ref (z + 43), .ref (z + 46), .ref (z + 49), .ref (z + 52), .int tr, .int lf])) (n : Nat) (f : Nat → Int64) (g : Nat → Int64) (bf : Nat → Int64) (bg : Nat → Int64) (l0 : Int32) (bn : Int32) (b_40 : E 40 = .inr (3, [.int (nI n), .ref (z + 41), .ref (z + 42)])) (b_41 : E 41 = qa_J G 16 f) (b_42 : E 42 = qa_J G 16 g) (b_13 : E 13 = .inr (2, [.int l0, .ref (z + 14)])) (b_43 : E 43 = .inr (3, [.int bn, .ref (z + 44), .ref (z + 45)])) (b_44 : E 44 = qa_J G 16 bf) (b_45 : E 45 = qa_J G 16 bg) : Met l yX8_beginAgain wsX8_beginAgain (qh_R 3) (qh_Pre G z M E [.ref (z + 0)]) (qh_Q G z M (qh_v (fun E' => E' 13 = .inr (2, [.int 0, .ref (z + 14)]) ∧ E' 42 = qa_J G 16 f ∧ E' 43 = .inr (3, [.int (nI n), .ref (z + 44), .ref (z + 45)]) ∧ E' 44 = qa_J G 16 f ∧ E' 45 = qa_J G 16 f ∧ ∀ x9, x9 ≠ 13 → x9 ≠ 42 → x9 ≠ 43 → x9 ≠ 44 → x9 ≠ 45 → E' x9 = E x9))) 0 0 (fun q => z ≤ q) := by
  refine qh_metV (cc := cX8_beginAgain) (maxL := 1) (by decide) rfl (Nat.le_of_ble_eq_true rfl) ?_
  intro pZ eZ sZ mZ aZ bZ tZ cZ RR QQ ls hx hb hml hown hts hRf hRl hH hK hl hret
  have hown : sZ.vm.findClass RX8 = some mZ.cls := hown
  have hl : lv_has ls 1 [(0, .ref (z + 0))] := hl
  have in_X8 : ∀ w ∈ wsX80, w ∈ wsX8_beginAgain := fun w h => List.mem_cons_of_mem _ (List.mem_append_left _ (List.mem_append_left _ (List.mem_append_right _ h)))
  have in_X2 : ∀ w ∈ wsX20, w ∈ wsX8_beginAgain := fun w h => List.mem_cons_of_mem _ (List.mem_append_left _ (List.mem_append_right _ h))
  have f_37 : qh_F G sZ mZ aZ 37 8 4 := qh_F.of hts in_X8 hown hK rfl 4 (by decide) (by decide +kernel)
  have w_135 : qh_W G sZ mZ aZ 135 2 0 .int := qh_W.of hts in_X2 tyX2 tyX2_ok nmX2 hown hK rfl 0 (by decide) (by decide +kernel) rfl (by decide +kernel)
  have f_51 : qh_F G sZ mZ aZ 51 8 6 := qh_F.of hts in_X8 hown hK rfl 6 (by decide) (by decide +kernel)
  have f_55 : qh_F G sZ mZ aZ 55 8 7 := qh_F.of hts in_X8 hown hK rfl 7 (by decide) (by decide +kernel)
  refine lv_aload_n hx hb dX8_beginAgain_0 rfl (lv_at hl 0 rfl) ?_
  refine qh_get hx hb hH f_37 (by omega) b_0 rfl dX8_beginAgain_1 ?_
  refine lv_iconst (v := 0) hx hb dX8_beginAgain_4 (by decide) ?_
  refine qh_put (fs' := [.int 0, .ref (z + 14)]) hx hb hH w_135 (by omega) b_13 rfl rfl (Nat.le_of_ble_eq_true rfl) rfl dX8_beginAgain_5 (fun E_1 H locs h_13 hfr hH _ => ?_)
  have hF : ∀ x9, x9 ≠ 13 → E_1 x9 = E x9 := fun x9 a0 => hfr x9 a0
  refine lv_aload_n hx hb dX8_beginAgain_8 rfl (lv_at hl 0 rfl) ?_
  refine qh_get hx hb hH f_51 (by omega) ((hF 0 (by decide)).trans b_0) rfl dX8_beginAgain_9 ?_
  refine qh_runV (As := []) (rest := []) (C := RX3) ⟨hx, hb, hml, hown, hts⟩ hK hH (c_X3_forgetWhatWas l G z M E_1 40 41 42 (nI n) f g (⟨by omega, by omega, by omega⟩) (⟨by decide, by decide⟩) ((hF 40 (by decide)).trans b_40) ((hF 41 (by decide)).trans b_41) ((hF 42 (by decide)).trans b_42)) (cwV 0 hts gX8_beginAgain_X3_forgetWhatWas rfl rfl rfl (by decide +kernel) (by rw [hRf, hRl]; exact ⟨Nat.le_of_ble_eq_true rfl, Nat.le_of_ble_eq_true rfl⟩)) (by omega) ((hF 40 (by decide)).trans b_40) rfl rfl hl.1 rfl (Nat.le_of_ble_eq_true rfl) dX8_beginAgain_12 ⟨Nat.zero_le _, Nat.zero_le _⟩ (qh_kkv fun E_2 H locs hpost hH => ?_)
  obtain ⟨h_42, hfr⟩ := hpost
  have h_13 := (hfr 13 (by decide)).trans h_13
  have hF : ∀ x9, x9 ≠ 13 → x9 ≠ 42 → E_2 x9 = E x9 := fun x9 a0 a1 => (hfr x9 a1).trans (hF x9 a0)
  refine lv_aload_n hx hb dX8_beginAgain_15 rfl (lv_at hl 0 rfl) ?_
  refine qh_get hx hb hH f_55 (by omega) ((hF 0 (by decide) (by decide)).trans b_0) rfl dX8_beginAgain_16 ?_
  refine lv_aload_n hx hb dX8_beginAgain_19 rfl (lv_at hl 0 rfl) ?_
  refine qh_get hx hb hH f_51 (by omega) ((hF 0 (by decide) (by decide)).trans b_0) rfl dX8_beginAgain_20 ?_
  refine qh_runV (As := [.ref (z + 40)]) (rest := []) (C := RX3) ⟨hx, hb, hml, hown, hts⟩ hK hH (c_X3_becomeLike l G z M E_2 43 44 45 40 41 bn (nI n) bf bg f (.ref (z + 42)) (⟨by omega, by omega, by omega, by omega, by omega⟩) (⟨by decide, by decide, by decide, by decide, by decide, by decide, by decide, by decide, by decide⟩) ((hF 43 (by decide) (by decide)).trans b_43) ((hF 44 (by decide) (by decide)).trans b_44) ((hF 45 (by decide) (by decide)).trans b_45) ((hF 40 (by decide) (by decide)).trans b_40) ((hF 41 (by decide) (by decide)).trans b_41)) (cwV 1 hts gX8_beginAgain_X3_becomeLike rfl rfl rfl (by decide +kernel) (by rw [hRf, hRl]; exact ⟨Nat.le_of_ble_eq_true rfl, Nat.le_of_ble_eq_true rfl⟩)) (by omega) ((hF 43 (by decide) (by decide)).trans b_43) rfl rfl hl.1 rfl (Nat.le_of_ble_eq_true rfl) dX8_beginAgain_23 ⟨Nat.zero_le _, Nat.zero_le _⟩ (qh_kkv fun E_3 H locs hpost hH => ?_)
  obtain ⟨h_43, h_44, h_45, hfr⟩ := hpost
  have h_13 := (hfr 13 (by decide) (by decide) (by decide)).trans h_13
  have h_42 := (hfr 42 (by decide) (by decide) (by decide)).trans h_42
  have hF : ∀ x9, x9 ≠ 13 → x9 ≠ 42 → x9 ≠ 43 → x9 ≠ 44 → x9 ≠ 45 → E_3 x9 = E x9 := fun x9 a0 a1 a2 a3 a4 => (hfr x9 a2 a3 a4).trans (hF x9 a0 a1)
  exact hret dX8_beginAgain_26 hH (⟨h_13, h_42, h_43, h_44, h_45, hF⟩)

set_option maxHeartbeats 1000000 in
set_option maxRecDepth 100000 in
theorem c_X8_takeText (l : Launch) (G : qh_G) (z M : Nat) (E : Nat → va_E) (tr : Int32) (lf : Int32) (hM : 84 ≤ M) (b_0 : E 0 = .inr (8, [.ref (z + 1), .ref (z + 2), .ref (z + 7), .ref (z + 10), .ref (z + 13), .ref (z + 39), .ref (z + 40), .ref (z + 43), .ref (z + 46), .ref (z + 49), .ref (z + 52), .int tr, .int lf])) (tc : Nat) (hn : Nat) (n : Nat) (f : Nat → Int64) (g : Nat → Int64) (bf : Nat → Int64) (bg : Nat → Int64) (dg : Nat → Int32) (tk : Nat → Int32) (tp : Nat → Int32) (kd : Nat → Int32) (pa : Nat → Int32) (l0 : Int32) (bn : Int32) (nn : Int32) (h7 : Int32) (rn0 : Int32) (htc : 1 ≤ tc ∧ tc ≤ 16) (b_40 : E 40 = .inr (3, [.int nn, .ref (z + 41), .ref (z + 42)])) (b_41 : E 41 = qa_J G 16 f) (b_42 : E 42 = qa_J G 16 g) (b_2 : E 2 = .inr (7, [.int (nI tc), .ref (z + 3), .ref (z + 4)])) (b_3 : E 3 = qa_I G 16 dg) (b_4 : E 4 = .inr (1, [.int (nI hn), .ref (z + 5), .ref (z + 6)])) (b_5 : E 5 = qa_I G 3 tk) (b_6 : E 6 = qa_I G 3 tp) (b_7 : E 7 = .inr (1, [.int h7, .ref (z + 8), .ref (z + 9)])) (b_8 : E 8 = qa_I G 3 kd) (b_9 : E 9 = qa_I G 3 pa) (b_49 : E 49 = .inr (6, [.ref (z + 50), .ref (z + 51)])) (b_50 : E 50 = qa_I G 32 (spF n)) (b_51 : E 51 = qa_I G 32 (spL n)) (b_52 : E 52 = .inr (4, [.int rn0, .ref (z + 53), .ref (z + 54)])) (b_13 : E 13 = .inr (2, [.int l0, .ref (z + 14)])) (b_43 : E 43 = .inr (3, [.int bn, .ref (z + 44), .ref (z + 45)])) (b_44 : E 44 = qa_J G 16 bf) (b_45 : E 45 = qa_J G 16 bg) : Met l yX8_takeText wsX8_takeText (qh_R 4) (qh_Pre G z M E [.ref (z + 0)]) (qh_Q G z M (qh_v (fun E' => E' 40 = .inr (3, [.int (nI tc), .ref (z + 41), .ref (z + 42)]) ∧ E' 41 = qa_J G 16 (nmT dg f tc) ∧ E' 7 = .inr (1, [.int (nI hn), .ref (z + 8), .ref (z + 9)]) ∧ E' 8 = qa_I G 3 tk ∧ E' 9 = qa_I G 3 tp ∧ E' 50 = qa_I G 32 (spF tc) ∧ E' 51 = qa_I G 32 (spL tc) ∧ E' 52 = .inr (4, [.int 0, .ref (z + 53), .ref (z + 54)]) ∧ E' 13 = .inr (2, [.int 0, .ref (z + 14)]) ∧ E' 42 = qa_J G 16 (nmT dg f tc) ∧ E' 43 = .inr (3, [.int (nI tc), .ref (z + 44), .ref (z + 45)]) ∧ E' 44 = qa_J G 16 (nmT dg f tc) ∧ E' 45 = qa_J G 16 (nmT dg f tc) ∧ ∀ x9, x9 ≠ 40 → x9 ≠ 41 → x9 ≠ 7 → x9 ≠ 8 → x9 ≠ 9 → x9 ≠ 50 → x9 ≠ 51 → x9 ≠ 52 → x9 ≠ 13 → x9 ≠ 42 → x9 ≠ 43 → x9 ≠ 44 → x9 ≠ 45 → E' x9 = E x9))) 0 0 (fun q => z ≤ q) := by
  refine qh_metV (cc := cX8_takeText) (maxL := 2) (by decide) rfl (Nat.le_of_ble_eq_true rfl) ?_
  intro pZ eZ sZ mZ aZ bZ tZ cZ RR QQ ls hx hb hml hown hts hRf hRl hH hK hl hret
  have hown : sZ.vm.findClass RX8 = some mZ.cls := hown
  have hl : lv_has ls 2 [(0, .ref (z + 0))] := hl
  have in_X8 : ∀ w ∈ wsX80, w ∈ wsX8_takeText := fun w h => List.mem_cons_of_mem _ (List.mem_append_left _ (List.mem_append_left _ (List.mem_append_left _ (List.mem_append_left _ (List.mem_append_left _ (List.mem_append_left _ (List.mem_append_right _ h)))))))
  have in_X7 : ∀ w ∈ wsX70, w ∈ wsX8_takeText := fun w h => List.mem_cons_of_mem _ (List.mem_append_left _ (List.mem_append_left _ (List.mem_append_left _ (List.mem_append_left _ (List.mem_append_left _ (List.mem_append_right _ h))))))
  have in_X3 : ∀ w ∈ wsX30, w ∈ wsX8_takeText := fun w h => List.mem_cons_of_mem _ (List.mem_append_left _ (List.mem_append_left _ (List.mem_append_left _ (List.mem_append_left _ (List.mem_append_right _ h)))))
  have in_X4 : ∀ w ∈ wsX40, w ∈ wsX8_takeText := fun w h => List.mem_cons_of_mem _ (List.mem_append_left _ (List.mem_append_left _ (List.mem_append_left _ (List.mem_append_right _ h))))
  have f_51 : qh_F G sZ mZ aZ 51 8 6 := qh_F.of hts in_X8 hown hK rfl 6 (by decide) (by decide +kernel)
  have f_20 : qh_F G sZ mZ aZ 20 8 1 := qh_F.of hts in_X8 hown hK rfl 1 (by decide) (by decide +kernel)
  have f_111 : qh_F G sZ mZ aZ 111 7 0 := qh_F.of hts in_X7 hown hK rfl 0 (by decide) (by decide +kernel)
  have w_108 : qh_W G sZ mZ aZ 108 3 0 .int := qh_W.of hts in_X3 tyX3 tyX3_ok nmX3 hown hK rfl 0 (by decide) (by decide +kernel) rfl (by decide +kernel)
  have f_27 : qh_F G sZ mZ aZ 27 8 2 := qh_F.of hts in_X8 hown hK rfl 2 (by decide) (by decide +kernel)
  have f_122 : qh_F G sZ mZ aZ 122 7 2 := qh_F.of hts in_X7 hown hK rfl 2 (by decide) (by decide +kernel)
  have f_64 : qh_F G sZ mZ aZ 64 8 9 := qh_F.of hts in_X8 hown hK rfl 9 (by decide) (by decide +kernel)
  have f_108 : qh_F G sZ mZ aZ 108 3 0 := qh_F.of hts in_X3 hown hK rfl 0 (by decide) (by decide +kernel)
  have f_71 : qh_F G sZ mZ aZ 71 8 10 := qh_F.of hts in_X8 hown hK rfl 10 (by decide) (by decide +kernel)
  have w_131 : qh_W G sZ mZ aZ 131 4 0 .int := qh_W.of hts in_X4 tyX4 tyX4_ok nmX4 hown hK rfl 0 (by decide) (by decide +kernel) rfl (by decide +kernel)
  have f_114 : qh_F G sZ mZ aZ 114 3 1 := qh_F.of hts in_X3 hown hK rfl 1 (by decide) (by decide +kernel)
  have f_118 : qh_F G sZ mZ aZ 118 7 1 := qh_F.of hts in_X7 hown hK rfl 1 (by decide) (by decide +kernel)
  refine lv_aload_n hx hb dX8_takeText_0 rfl (lv_at hl 0 rfl) ?_
  refine qh_get hx hb hH f_51 (by omega) b_0 rfl dX8_takeText_1 ?_
  refine lv_aload_n hx hb dX8_takeText_4 rfl (lv_at hl 0 rfl) ?_
  refine qh_get hx hb hH f_20 (by omega) b_0 rfl dX8_takeText_5 ?_
  refine qh_get hx hb hH f_111 (by omega) b_2 rfl dX8_takeText_8 ?_
  refine qh_put (fs' := [.int (nI tc), .ref (z + 41), .ref (z + 42)]) hx hb hH w_108 (by omega) b_40 rfl rfl (Nat.le_of_ble_eq_true rfl) rfl dX8_takeText_11 (fun E_1 H locs h_40 hfr hH _ => ?_)
  have hF : ∀ x9, x9 ≠ 40 → E_1 x9 = E x9 := fun x9 a0 => hfr x9 a0
  refine lv_iconst (v := 0) hx hb dX8_takeText_14 (by decide) ?_
  refine lv_istore_n (lv' := [(1, .int 0), (0, .ref (z + 0))]) hx hb dX8_takeText_15 rfl hl (by decide) rfl (fun ls hl => ?_)
  have L_16 : ∀ fu : Nat, ∀ q : Nat, (q ≤ tc) → (tc - q < fu) → ∀ Ek : Nat → va_E, Ek 40 = .inr (3, [.int (nI tc), .ref (z + 41), .ref (z + 42)]) → Ek 41 = qa_J G 16 (nmT dg f q) → (∀ x9, x9 ≠ 40 → x9 ≠ 41 → Ek x9 = E x9) → ∀ (H : Heap) (locs : List Loc), qh_H G z M Ek sZ.heap H locs → ∀ ls : Array Slot, lv_has ls 2 [(0, .ref (z + 0)), (1, .int (nI q))] → W pZ l eZ RR sZ mZ aZ bZ tZ cZ H locs 0 0 QQ (F0 mZ 16 ls []) := by
    intro fu
    induction fu with
    | zero =>
      intro q hq hfuel
      exact absurd hfuel (by omega)
    | succ fu ih =>
      intro q hq hfuel Ek h_40 h_41 hF H locs hH ls hl
      refine lv_iload_n hx hb dX8_takeText_16 rfl (lv_at hl 1 rfl) ?_
      refine lv_aload_n hx hb dX8_takeText_17 rfl (lv_at hl 0 rfl) ?_
      refine qh_get hx hb hH f_20 (by omega) ((hF 0 (by decide) (by decide)).trans b_0) rfl dX8_takeText_18 ?_
      refine qh_get hx hb hH f_111 (by omega) ((hF 2 (by decide) (by decide)).trans b_2) rfl dX8_takeText_21 ?_
      refine lv_icmp_ge (tgt := 52) hx hb dX8_takeText_24 (by decide) (fun c_24 => ?_) (fun c_24 => ?_)
      · have hk : tc ≤ q := (nI_leI (by omega) (by omega)).mp c_24
        have hex : tc = q := by omega
        subst hex
        refine lv_aload_n hx hb dX8_takeText_52 rfl (lv_at hl 0 rfl) ?_
        refine qh_get hx hb hH f_27 (by omega) ((hF 0 (by decide) (by decide)).trans b_0) rfl dX8_takeText_53 ?_
        refine lv_aload_n hx hb dX8_takeText_56 rfl (lv_at hl 0 rfl) ?_
        refine qh_get hx hb hH f_20 (by omega) ((hF 0 (by decide) (by decide)).trans b_0) rfl dX8_takeText_57 ?_
        refine qh_get hx hb hH f_122 (by omega) ((hF 2 (by decide) (by decide)).trans b_2) rfl dX8_takeText_60 ?_
        refine qh_runV (As := [.ref (z + 4)]) (rest := []) (C := RX1) ⟨hx, hb, hml, hown, hts⟩ hK hH (c_X1_becomeLike l G z M Ek 7 8 9 4 5 6 h7 (nI hn) kd pa tk tp (⟨by omega, by omega, by omega, by omega, by omega, by omega⟩) (⟨by decide, by decide, by decide, by decide, by decide, by decide, by decide, by decide, by decide, by decide, by decide, by decide⟩) ((hF 7 (by decide) (by decide)).trans b_7) ((hF 8 (by decide) (by decide)).trans b_8) ((hF 9 (by decide) (by decide)).trans b_9) ((hF 4 (by decide) (by decide)).trans b_4) ((hF 5 (by decide) (by decide)).trans b_5) ((hF 6 (by decide) (by decide)).trans b_6)) (cwV 1 hts gX8_takeText_X1_becomeLike rfl rfl rfl (by decide +kernel) (by rw [hRf, hRl]; exact ⟨Nat.le_of_ble_eq_true rfl, Nat.le_of_ble_eq_true rfl⟩)) (by omega) ((hF 7 (by decide) (by decide)).trans b_7) rfl rfl hl.1 rfl (Nat.le_of_ble_eq_true rfl) dX8_takeText_63 ⟨Nat.zero_le _, Nat.zero_le _⟩ (qh_kkv fun E_2 H locs hpost hH => ?_)
        obtain ⟨h_7, h_8, h_9, hfr⟩ := hpost
        have h_40 := (hfr 40 (by decide) (by decide) (by decide)).trans h_40
        have h_41 := (hfr 41 (by decide) (by decide) (by decide)).trans h_41
        have hF : ∀ x9, x9 ≠ 40 → x9 ≠ 41 → x9 ≠ 7 → x9 ≠ 8 → x9 ≠ 9 → E_2 x9 = E x9 := fun x9 a0 a1 a2 a3 a4 => (hfr x9 a2 a3 a4).trans (hF x9 a0 a1)
        refine lv_aload_n hx hb dX8_takeText_66 rfl (lv_at hl 0 rfl) ?_
        refine qh_get hx hb hH f_64 (by omega) ((hF 0 (by decide) (by decide) (by decide) (by decide) (by decide)).trans b_0) rfl dX8_takeText_67 ?_
        refine lv_aload_n hx hb dX8_takeText_70 rfl (lv_at hl 0 rfl) ?_
        refine qh_get hx hb hH f_51 (by omega) ((hF 0 (by decide) (by decide) (by decide) (by decide) (by decide)).trans b_0) rfl dX8_takeText_71 ?_
        refine qh_get hx hb hH f_108 (by omega) h_40 rfl dX8_takeText_74 ?_
        refine qh_runV (As := [.int (nI tc)]) (rest := []) (C := RX6) ⟨hx, hb, hml, hown, hts⟩ hK hH (c_X6_halve l G z M E_2 49 50 51 _ tc (⟨by omega, by omega, by omega⟩) (⟨by decide, by decide, by decide⟩) (⟨htc.1, htc.2⟩) ((hF 49 (by decide) (by decide) (by decide) (by decide) (by decide)).trans b_49) ((hF 50 (by decide) (by decide) (by decide) (by decide) (by decide)).trans b_50) ((hF 51 (by decide) (by decide) (by decide) (by decide) (by decide)).trans b_51)) (cwV 1 hts gX8_takeText_X6_halve rfl rfl rfl (by decide +kernel) (by rw [hRf, hRl]; exact ⟨Nat.le_of_ble_eq_true rfl, Nat.le_of_ble_eq_true rfl⟩)) (by omega) ((hF 49 (by decide) (by decide) (by decide) (by decide) (by decide)).trans b_49) rfl rfl hl.1 rfl (Nat.le_of_ble_eq_true rfl) dX8_takeText_77 ⟨Nat.zero_le _, Nat.zero_le _⟩ (qh_kkv fun E_3 H locs hpost hH => ?_)
        obtain ⟨h_50, h_51, hfr⟩ := hpost
        have h_40 := (hfr 40 (by decide) (by decide)).trans h_40
        have h_41 := (hfr 41 (by decide) (by decide)).trans h_41
        have h_7 := (hfr 7 (by decide) (by decide)).trans h_7
        have h_8 := (hfr 8 (by decide) (by decide)).trans h_8
        have h_9 := (hfr 9 (by decide) (by decide)).trans h_9
        have hF : ∀ x9, x9 ≠ 40 → x9 ≠ 41 → x9 ≠ 7 → x9 ≠ 8 → x9 ≠ 9 → x9 ≠ 50 → x9 ≠ 51 → E_3 x9 = E x9 := fun x9 a0 a1 a2 a3 a4 a5 a6 => (hfr x9 a5 a6).trans (hF x9 a0 a1 a2 a3 a4)
        refine lv_aload_n hx hb dX8_takeText_80 rfl (lv_at hl 0 rfl) ?_
        refine qh_get hx hb hH f_71 (by omega) ((hF 0 (by decide) (by decide) (by decide) (by decide) (by decide) (by decide) (by decide)).trans b_0) rfl dX8_takeText_81 ?_
        refine lv_iconst (v := 0) hx hb dX8_takeText_84 (by decide) ?_
        refine qh_put (fs' := [.int 0, .ref (z + 53), .ref (z + 54)]) hx hb hH w_131 (by omega) ((hF 52 (by decide) (by decide) (by decide) (by decide) (by decide) (by decide) (by decide)).trans b_52) rfl rfl (Nat.le_of_ble_eq_true rfl) rfl dX8_takeText_85 (fun E_4 H locs h_52 hfr hH _ => ?_)
        have h_40 := (hfr 40 (by decide)).trans h_40
        have h_41 := (hfr 41 (by decide)).trans h_41
        have h_7 := (hfr 7 (by decide)).trans h_7
        have h_8 := (hfr 8 (by decide)).trans h_8
        have h_9 := (hfr 9 (by decide)).trans h_9
        have h_50 := (hfr 50 (by decide)).trans h_50
        have h_51 := (hfr 51 (by decide)).trans h_51
        have hF : ∀ x9, x9 ≠ 40 → x9 ≠ 41 → x9 ≠ 7 → x9 ≠ 8 → x9 ≠ 9 → x9 ≠ 50 → x9 ≠ 51 → x9 ≠ 52 → E_4 x9 = E x9 := fun x9 a0 a1 a2 a3 a4 a5 a6 a7 => (hfr x9 a7).trans (hF x9 a0 a1 a2 a3 a4 a5 a6)
        refine lv_aload_n hx hb dX8_takeText_88 rfl (lv_at hl 0 rfl) ?_
        refine qh_runV (As := []) (rest := []) (C := RX8) ⟨hx, hb, hml, hown, hts⟩ hK hH (c_X8_beginAgain l G z M E_4 tr lf (hM) ((hF 0 (by decide) (by decide) (by decide) (by decide) (by decide) (by decide) (by decide) (by decide)).trans b_0) tc (nmT dg f tc) g bf bg l0 bn h_40 h_41 ((hF 42 (by decide) (by decide) (by decide) (by decide) (by decide) (by decide) (by decide) (by decide)).trans b_42) ((hF 13 (by decide) (by decide) (by decide) (by decide) (by decide) (by decide) (by decide) (by decide)).trans b_13) ((hF 43 (by decide) (by decide) (by decide) (by decide) (by decide) (by decide) (by decide) (by decide)).trans b_43) ((hF 44 (by decide) (by decide) (by decide) (by decide) (by decide) (by decide) (by decide) (by decide)).trans b_44) ((hF 45 (by decide) (by decide) (by decide) (by decide) (by decide) (by decide) (by decide) (by decide)).trans b_45)) (cwV 0 hts gX8_takeText_X8_beginAgain rfl rfl rfl (by decide +kernel) (by rw [hRf, hRl]; exact ⟨Nat.le_of_ble_eq_true rfl, Nat.le_of_ble_eq_true rfl⟩)) (by omega) ((hF 0 (by decide) (by decide) (by decide) (by decide) (by decide) (by decide) (by decide) (by decide)).trans b_0) rfl rfl hl.1 rfl (Nat.le_of_ble_eq_true rfl) dX8_takeText_89 ⟨Nat.zero_le _, Nat.zero_le _⟩ (qh_kkv fun E_5 H locs hpost hH => ?_)
        obtain ⟨h_13, h_42, h_43, h_44, h_45, hfr⟩ := hpost
        have h_40 := (hfr 40 (by decide) (by decide) (by decide) (by decide) (by decide)).trans h_40
        have h_41 := (hfr 41 (by decide) (by decide) (by decide) (by decide) (by decide)).trans h_41
        have h_7 := (hfr 7 (by decide) (by decide) (by decide) (by decide) (by decide)).trans h_7
        have h_8 := (hfr 8 (by decide) (by decide) (by decide) (by decide) (by decide)).trans h_8
        have h_9 := (hfr 9 (by decide) (by decide) (by decide) (by decide) (by decide)).trans h_9
        have h_50 := (hfr 50 (by decide) (by decide) (by decide) (by decide) (by decide)).trans h_50
        have h_51 := (hfr 51 (by decide) (by decide) (by decide) (by decide) (by decide)).trans h_51
        have h_52 := (hfr 52 (by decide) (by decide) (by decide) (by decide) (by decide)).trans h_52
        have hF : ∀ x9, x9 ≠ 40 → x9 ≠ 41 → x9 ≠ 7 → x9 ≠ 8 → x9 ≠ 9 → x9 ≠ 50 → x9 ≠ 51 → x9 ≠ 52 → x9 ≠ 13 → x9 ≠ 42 → x9 ≠ 43 → x9 ≠ 44 → x9 ≠ 45 → E_5 x9 = E x9 := fun x9 a0 a1 a2 a3 a4 a5 a6 a7 a8 a9 a10 a11 a12 => (hfr x9 a8 a9 a10 a11 a12).trans (hF x9 a0 a1 a2 a3 a4 a5 a6 a7)
        exact hret dX8_takeText_92 hH (⟨h_40, h_41, h_7, h_8, h_9, h_50, h_51, h_52, h_13, h_42, h_43, h_44, h_45, hF⟩)
      · have hk : ¬ tc ≤ q := fun w => c_24 (nI_le w (by omega))
        refine lv_aload_n hx hb dX8_takeText_27 rfl (lv_at hl 0 rfl) ?_
        refine qh_get hx hb hH f_51 (by omega) ((hF 0 (by decide) (by decide)).trans b_0) rfl dX8_takeText_28 ?_
        refine qh_get hx hb hH f_114 (by omega) h_40 rfl dX8_takeText_31 ?_
        refine lv_iload_n hx hb dX8_takeText_34 rfl (lv_at hl 1 rfl) ?_
        refine lv_aload_n hx hb dX8_takeText_35 rfl (lv_at hl 0 rfl) ?_
        refine qh_get hx hb hH f_20 (by omega) ((hF 0 (by decide) (by decide)).trans b_0) rfl dX8_takeText_36 ?_
        refine qh_get hx hb hH f_118 (by omega) ((hF 2 (by decide) (by decide)).trans b_2) rfl dX8_takeText_39 ?_
        refine lv_iload_n hx hb dX8_takeText_42 rfl (lv_at hl 1 rfl) ?_
        refine qh_iald hx hb hK hH (by omega) ((hF 3 (by decide) (by decide)).trans b_3) (j := q) (rfl) (by omega) (by omega) dX8_takeText_43 ?_
        refine lv_i2l (v := (dg q).toInt64) hx hb dX8_takeText_44 rfl ?_
        refine qh_last hx hb hK hH (by omega) h_41 (j := q) (rfl) (by omega) (by omega) dX8_takeText_45 (fun E_6 H locs h_41 hfr hH _ => ?_)
        have h_41 : E_6 41 = qa_J G 16 (nmT dg f (q + 1)) := h_41.trans (congrArg (qa_J G 16) (nmT_s ..))
        have h_40 := (hfr 40 (by decide)).trans h_40
        have hF : ∀ x9, x9 ≠ 40 → x9 ≠ 41 → E_6 x9 = E x9 := fun x9 a0 a1 => (hfr x9 a1).trans (hF x9 a0 a1)
        refine lv_iinc (v := nI (q + 1)) (lv' := [(1, .int (nI (q + 1))), (0, .ref (z + 0))]) hx hb dX8_takeText_46 hl (k := 1) rfl (qn_inc q) (by decide) rfl (fun ls hl => ?_)
        refine lv_goto (tgt := 16) hx hb dX8_takeText_49 (by decide) ?_
        exact ih (q + 1) (by omega) (by omega) E_6 h_40 h_41 (fun x9 a0 a1 => hF x9 a0 a1) _ _ hH ls (lv_sub hl [1, 0] rfl)
  exact L_16 (tc + 1) 0 (Nat.zero_le _) (by omega) E_1 h_40 (((hF 41 (by decide)).trans b_41).trans (congrArg (qa_J G 16) (nmT_0 ..).symm)) (fun x9 a0 a1 => hF x9 a0) _ _ hH ls (lv_sub hl [1, 0] rfl)

set_option maxHeartbeats 1000000 in
set_option maxRecDepth 100000 in
theorem c_X8_canBe (l : Launch) (G : qh_G) (z M : Nat) (E : Nat → va_E) (tr : Int32) (lf : Int32) (hM : 84 ≤ M) (b_0 : E 0 = .inr (8, [.ref (z + 1), .ref (z + 2), .ref (z + 7), .ref (z + 10), .ref (z + 13), .ref (z + 39), .ref (z + 40), .ref (z + 43), .ref (z + 46), .ref (z + 49), .ref (z + 52), .int tr, .int lf])) (n : Nat) (m2 : Nat) (t0 : Int32) (a0 : Int32) (b0 : Int32) (v0 : Int64) (b_40 : E 40 = .inr (3, [.int (nI n), .ref (z + 41), .ref (z + 42)])) (b_7 : E 7 = .inr (1, [.int (nI m2), .ref (z + 8), .ref (z + 9)])) (b_39 : E 39 = .inr (0, [.int t0, .int a0, .int b0, .long v0])) : Met l yX8_canBe wsX8_canBe (qh_R 2) (qh_Pre G z M E [.ref (z + 0), .ref (z + 39)]) (qh_Q G z M (qh_i (fun r E' => E = E' ∧ r = bI (canB n m2 t0 a0 b0 v0)))) 0 0 (fun q => z ≤ q) := by
  refine qh_metZ (cc := cX8_canBe) (maxL := 2) (by decide) rfl (Nat.le_of_ble_eq_true rfl) ?_
  intro pZ eZ sZ mZ aZ bZ tZ cZ RR QQ ls hx hb hml hown hts hRf hRl hH hK hl hret
  have hown : sZ.vm.findClass RX8 = some mZ.cls := hown
  have hl : lv_has ls 2 [(0, .ref (z + 0)), (1, .ref (z + 39))] := hl
  have in_X0 : ∀ w ∈ wsX00, w ∈ wsX8_canBe := fun w h => List.mem_cons_of_mem _ (List.mem_append_left _ (List.mem_append_left _ (List.mem_append_left _ (List.mem_append_right _ h))))
  have in_X8 : ∀ w ∈ wsX80, w ∈ wsX8_canBe := fun w h => List.mem_cons_of_mem _ (List.mem_append_left _ (List.mem_append_left _ (List.mem_append_right _ h)))
  have f_218 : qh_F G sZ mZ aZ 218 0 1 := qh_F.of hts in_X0 hown hK rfl 1 (by decide) (by decide +kernel)
  have f_221 : qh_F G sZ mZ aZ 221 0 2 := qh_F.of hts in_X0 hown hK rfl 2 (by decide) (by decide +kernel)
  have f_27 : qh_F G sZ mZ aZ 27 8 2 := qh_F.of hts in_X8 hown hK rfl 2 (by decide) (by decide +kernel)
  have f_227 : qh_F G sZ mZ aZ 227 0 3 := qh_F.of hts in_X0 hown hK rfl 3 (by decide) (by decide +kernel)
  refine lv_aload_n hx hb dX8_canBe_0 rfl (lv_at hl 0 rfl) ?_
  refine lv_aload_n hx hb dX8_canBe_1 rfl (lv_at hl 1 rfl) ?_
  refine qh_get hx hb hH f_218 (by omega) b_39 rfl dX8_canBe_2 ?_
  refine lv_aload_n hx hb dX8_canBe_5 rfl (lv_at hl 1 rfl) ?_
  refine qh_get hx hb hH f_221 (by omega) b_39 rfl dX8_canBe_6 ?_
  refine qh_runV (As := [.int a0, .int b0]) (rest := []) (C := RX8) ⟨hx, hb, hml, hown, hts⟩ hK hH (c_X8_refusedRun l G z M E tr lf (hM) b_0 n a0 b0 b_40) (cwV 2 hts gX8_canBe_X8_refusedRun rfl rfl rfl (by decide +kernel) (by rw [hRf, hRl]; exact ⟨Nat.le_of_ble_eq_true rfl, Nat.le_of_ble_eq_true rfl⟩)) (by omega) b_0 rfl rfl hl.1 rfl (Nat.le_of_ble_eq_true rfl) dX8_canBe_9 ⟨Nat.zero_le _, Nat.zero_le _⟩ (qh_kki fun r_9 E_1 H locs hpost hH => ?_)
  obtain ⟨rfl, rfl⟩ := hpost
  refine lv_if_ne (tgt := 40) hx hb dX8_canBe_12 (by decide) (fun c_12 => ?_) (fun c_12 => ?_)
  · refine lv_iconst (v := 0) hx hb dX8_canBe_40 (by decide) ?_
    exact hret dX8_canBe_41 hH (Or.inl rfl) (⟨rfl, bI_0 (fun w => c_12 w.1)⟩)
  · refine lv_aload_n hx hb dX8_canBe_15 rfl (lv_at hl 1 rfl) ?_
    refine qh_runV (As := []) (rest := []) (C := RX0) ⟨hx, hb, hml, hown, hts⟩ hK hH (c_X0_isHelp l G z M E 39 t0 a0 b0 v0 (by omega) b_39) (cwV 0 hts gX8_canBe_X0_isHelp rfl rfl rfl (by decide +kernel) (by rw [hRf, hRl]; exact ⟨Nat.le_of_ble_eq_true rfl, Nat.le_of_ble_eq_true rfl⟩)) (by omega) b_39 rfl rfl hl.1 rfl (Nat.le_of_ble_eq_true rfl) dX8_canBe_16 ⟨Nat.zero_le _, Nat.zero_le _⟩ (qh_kki fun r_16 E_2 H locs hpost hH => ?_)
    obtain ⟨rfl, rfl⟩ := hpost
    refine lv_if_eq (tgt := 36) hx hb dX8_canBe_19 (by decide) (fun c_19 => ?_) (fun c_19 => ?_)
    · have c_19 := bI_eq.mp c_19
      refine lv_iconst (v := 1) hx hb dX8_canBe_36 (by decide) ?_
      refine lv_goto (tgt := 41) hx hb dX8_canBe_37 (by decide) ?_
      exact hret dX8_canBe_41 hH (Or.inr rfl) (⟨rfl, bI_1 ⟨c_12, Or.inl c_19⟩⟩)
    · have c_19 := bI_ne.mp c_19
      refine lv_aload_n hx hb dX8_canBe_22 rfl (lv_at hl 0 rfl) ?_
      refine qh_get hx hb hH f_27 (by omega) b_0 rfl dX8_canBe_23 ?_
      refine lv_aload_n hx hb dX8_canBe_26 rfl (lv_at hl 1 rfl) ?_
      refine qh_get hx hb hH f_227 (by omega) b_39 rfl dX8_canBe_27 ?_
      refine qh_runV (As := [.long v0]) (rest := []) (C := RX1) ⟨hx, hb, hml, hown, hts⟩ hK hH (c_X1_has l G z M E 7 (by omega) (nI m2) (.ref (z + 8)) (.ref (z + 9)) v0 b_7) (cwV 1 hts gX8_canBe_X1_has rfl rfl rfl (by decide +kernel) (by rw [hRf, hRl]; exact ⟨Nat.le_of_ble_eq_true rfl, Nat.le_of_ble_eq_true rfl⟩)) (by omega) b_7 rfl rfl hl.1 rfl (Nat.le_of_ble_eq_true rfl) dX8_canBe_30 ⟨Nat.zero_le _, Nat.zero_le _⟩ (qh_kki fun r_30 E_3 H locs hpost hH => ?_)
      obtain ⟨rfl, rfl⟩ := hpost
      refine lv_if_eq (tgt := 40) hx hb dX8_canBe_33 (by decide) (fun c_33 => ?_) (fun c_33 => ?_)
      · have c_33 := bI_eq.mp c_33
        refine lv_iconst (v := 0) hx hb dX8_canBe_40 (by decide) ?_
        exact hret dX8_canBe_41 hH (Or.inl rfl) (⟨rfl, bI_0 (fun w => w.2.elim (fun v => v c_19) c_33)⟩)
      · have c_33 := bI_ne.mp c_33
        refine lv_iconst (v := 1) hx hb dX8_canBe_36 (by decide) ?_
        refine lv_goto (tgt := 41) hx hb dX8_canBe_37 (by decide) ?_
        exact hret dX8_canBe_41 hH (Or.inr rfl) (⟨rfl, bI_1 ⟨c_12, Or.inr c_33⟩⟩)

set_option maxHeartbeats 1000000 in
set_option maxRecDepth 100000 in
theorem c_X8_ofTrial (l : Launch) (G : qh_G) (z M : Nat) (E : Nat → va_E) (tr : Int32) (lf : Int32) (hM : 84 ≤ M) (b_0 : E 0 = .inr (8, [.ref (z + 1), .ref (z + 2), .ref (z + 7), .ref (z + 10), .ref (z + 13), .ref (z + 39), .ref (z + 40), .ref (z + 43), .ref (z + 46), .ref (z + 49), .ref (z + 52), .int tr, .int lf])) (n : Nat) (tf : Nat → Int64) (tg : Nat → Int64) (x : Int32) (hn : 1 ≤ n ∧ n ≤ 16) (hx1 : ¬ x = 1) (b_46 : E 46 = .inr (3, [.int (nI n), .ref (z + 47), .ref (z + 48)])) (b_47 : E 47 = qa_J G 16 tf) (b_48 : E 48 = qa_J G 16 tg) : Met l yX8_ofTrial wsX8_ofTrial (qh_R 2) (qh_Pre G z M E [.ref (z + 0), .int x]) (qh_Q G z M (qh_l (fun r E' => E = E' ∧ r = tdR n tf tg x))) 0 0 (fun q => z ≤ q) := by
  refine qh_metL (cc := cX8_ofTrial) (maxL := 4) (by decide) rfl (Nat.le_of_ble_eq_true rfl) ?_
  intro pZ eZ sZ mZ aZ bZ tZ cZ RR QQ ls hx hb hml hown hts hRf hRl hH hK hl hret
  have hown : sZ.vm.findClass RX8 = some mZ.cls := hown
  have hl : lv_has ls 4 [(0, .ref (z + 0)), (1, .int x)] := hl
  have in_X8 : ∀ w ∈ wsX80, w ∈ wsX8_ofTrial := fun w h => List.mem_cons_of_mem _ (List.mem_append_left _ (List.mem_append_right _ h))
  have in_X3 : ∀ w ∈ wsX30, w ∈ wsX8_ofTrial := fun w h => List.mem_cons_of_mem _ (List.mem_append_right _ h)
  have f_58 : qh_F G sZ mZ aZ 58 8 8 := qh_F.of hts in_X8 hown hK rfl 8 (by decide) (by decide +kernel)
  have f_108 : qh_F G sZ mZ aZ 108 3 0 := qh_F.of hts in_X3 hown hK rfl 0 (by decide) (by decide +kernel)
  have f_114 : qh_F G sZ mZ aZ 114 3 1 := qh_F.of hts in_X3 hown hK rfl 1 (by decide) (by decide +kernel)
  have f_163 : qh_F G sZ mZ aZ 163 3 2 := qh_F.of hts in_X3 hown hK rfl 2 (by decide) (by decide +kernel)
  have k_161 := hts (.constantLong RX8 161 (-9223372036854775808)) (by decide +kernel)
  refine lv_aload_n hx hb dX8_ofTrial_0 rfl (lv_at hl 0 rfl) ?_
  refine qh_get hx hb hH f_58 (by omega) b_0 rfl dX8_ofTrial_1 ?_
  refine qh_get hx hb hH f_108 (by omega) b_46 rfl dX8_ofTrial_4 ?_
  refine lv_iconst (v := 1) hx hb dX8_ofTrial_7 (by decide) ?_
  refine lv_isub hx hb dX8_ofTrial_8 ?_
  refine qh_topi (y := nI (n - 1)) (pk_sub (b := 1) hn.1) ?_
  refine lv_istore_n (lv' := [(2, .int (nI (n - 1))), (0, .ref (z + 0)), (1, .int x)]) hx hb dX8_ofTrial_9 rfl hl (by decide) rfl (fun ls hl => ?_)
  refine lv_iload_n hx hb dX8_ofTrial_10 rfl (lv_at hl 2 rfl) ?_
  by_cases c_11_0 : x = 0
  · refine lv_tableIn (tgt := 44) (off := 33) hx hb dX8_ofTrial_11 (by rw [c_11_0]; decide) (by rw [c_11_0]; decide) (by rw [c_11_0]; decide) (by decide) ?_
    refine lv_aload_n hx hb dX8_ofTrial_44 rfl (lv_at hl 1 rfl) ?_
    refine qh_get hx hb hH f_58 (by omega) b_0 rfl dX8_ofTrial_45 ?_
    refine qh_get hx hb hH f_114 (by omega) b_46 rfl dX8_ofTrial_48 ?_
    refine lv_iconst (v := 0) hx hb dX8_ofTrial_51 (by decide) ?_
    refine lv_iload_n hx hb dX8_ofTrial_52 rfl (lv_at hl 0 rfl) ?_
    refine qh_runS (As := [.ref (z + 47), .int 0, .int (nI (n - 1))]) (rest := []) ⟨hx, hb, hml, hown, hts⟩ hK hH (c_X8_sum l G z M E 47 0 (n - 1) tf (by omega) (⟨by omega, by omega⟩) b_47) (va_cwS 3 hts gX8_ofTrial_X8_sum rfl rfl rfl (by decide +kernel) (by rw [hRf, hRl]; exact ⟨Nat.le_of_ble_eq_true rfl, Nat.le_of_ble_eq_true rfl⟩)) rfl hl.1 rfl (Nat.le_of_ble_eq_true rfl) dX8_ofTrial_53 ⟨Nat.zero_le _, Nat.zero_le _⟩ (qh_kkl fun r_53 E_1 H locs hpost hH => ?_)
    obtain ⟨rfl, rfl⟩ := hpost
    exact hret dX8_ofTrial_56 hH (⟨rfl, by rw [tdR, if_pos c_11_0]; congr 1; omega⟩)
  have c_11_1 : ¬ x = 1 := hx1
  by_cases c_11_2 : x = 2
  · refine lv_tableIn (tgt := 57) (off := 46) hx hb dX8_ofTrial_11 (by rw [c_11_2]; decide) (by rw [c_11_2]; decide) (by rw [c_11_2]; decide) (by decide) ?_
    refine lv_aload_n hx hb dX8_ofTrial_57 rfl (lv_at hl 1 rfl) ?_
    refine qh_get hx hb hH f_58 (by omega) b_0 rfl dX8_ofTrial_58 ?_
    refine qh_get hx hb hH f_114 (by omega) b_46 rfl dX8_ofTrial_61 ?_
    refine lv_iconst (v := 0) hx hb dX8_ofTrial_64 (by decide) ?_
    refine lv_iload_n hx hb dX8_ofTrial_65 rfl (lv_at hl 0 rfl) ?_
    refine qh_runS (As := [.ref (z + 47), .int 0, .int (nI (n - 1))]) (rest := []) ⟨hx, hb, hml, hown, hts⟩ hK hH (c_X8_greatest l G z M E 47 0 (n - 1) tf (by omega) (⟨by omega, by omega⟩) b_47) (va_cwS 3 hts gX8_ofTrial_X8_greatest rfl rfl rfl (by decide +kernel) (by rw [hRf, hRl]; exact ⟨Nat.le_of_ble_eq_true rfl, Nat.le_of_ble_eq_true rfl⟩)) rfl hl.1 rfl (Nat.le_of_ble_eq_true rfl) dX8_ofTrial_66 ⟨Nat.zero_le _, Nat.zero_le _⟩ (qh_kkl fun r_66 E_2 H locs hpost hH => ?_)
    obtain ⟨rfl, rfl⟩ := hpost
    exact hret dX8_ofTrial_69 hH (⟨rfl, by rw [tdR, if_neg c_11_0, if_pos c_11_2]; rfl⟩)
  by_cases c_11_3 : x = 3
  · refine lv_tableIn (tgt := 70) (off := 59) hx hb dX8_ofTrial_11 (by rw [c_11_3]; decide) (by rw [c_11_3]; decide) (by rw [c_11_3]; decide) (by decide) ?_
    refine lv_aload_n hx hb dX8_ofTrial_70 rfl (lv_at hl 1 rfl) ?_
    refine qh_get hx hb hH f_58 (by omega) b_0 rfl dX8_ofTrial_71 ?_
    refine qh_get hx hb hH f_114 (by omega) b_46 rfl dX8_ofTrial_74 ?_
    refine lv_iconst (v := 0) hx hb dX8_ofTrial_77 (by decide) ?_
    refine lv_iload_n hx hb dX8_ofTrial_78 rfl (lv_at hl 0 rfl) ?_
    refine qh_runS (As := [.ref (z + 47), .int 0, .int (nI (n - 1))]) (rest := []) ⟨hx, hb, hml, hown, hts⟩ hK hH (c_X8_least l G z M E 47 0 (n - 1) tf (by omega) (⟨by omega, by omega⟩) b_47) (va_cwS 3 hts gX8_ofTrial_X8_least rfl rfl rfl (by decide +kernel) (by rw [hRf, hRl]; exact ⟨Nat.le_of_ble_eq_true rfl, Nat.le_of_ble_eq_true rfl⟩)) rfl hl.1 rfl (Nat.le_of_ble_eq_true rfl) dX8_ofTrial_79 ⟨Nat.zero_le _, Nat.zero_le _⟩ (qh_kkl fun r_79 E_3 H locs hpost hH => ?_)
    obtain ⟨rfl, rfl⟩ := hpost
    exact hret dX8_ofTrial_82 hH (⟨rfl, by rw [tdR, if_neg c_11_0, if_neg c_11_2, if_pos c_11_3]; rfl⟩)
  by_cases c_11_4 : x = 4
  · refine lv_tableIn (tgt := 83) (off := 72) hx hb dX8_ofTrial_11 (by rw [c_11_4]; decide) (by rw [c_11_4]; decide) (by rw [c_11_4]; decide) (by decide) ?_
    refine lv_aload_n hx hb dX8_ofTrial_83 rfl (lv_at hl 1 rfl) ?_
    refine qh_get hx hb hH f_58 (by omega) b_0 rfl dX8_ofTrial_84 ?_
    refine qh_get hx hb hH f_163 (by omega) b_46 rfl dX8_ofTrial_87 ?_
    refine lv_iconst (v := 0) hx hb dX8_ofTrial_90 (by decide) ?_
    refine lv_iload_n hx hb dX8_ofTrial_91 rfl (lv_at hl 0 rfl) ?_
    refine qh_runS (As := [.ref (z + 48), .int 0, .int (nI (n - 1))]) (rest := []) ⟨hx, hb, hml, hown, hts⟩ hK hH (c_X8_greatest l G z M E 48 0 (n - 1) tg (by omega) (⟨by omega, by omega⟩) b_48) (va_cwS 3 hts gX8_ofTrial_X8_greatest rfl rfl rfl (by decide +kernel) (by rw [hRf, hRl]; exact ⟨Nat.le_of_ble_eq_true rfl, Nat.le_of_ble_eq_true rfl⟩)) rfl hl.1 rfl (Nat.le_of_ble_eq_true rfl) dX8_ofTrial_92 ⟨Nat.zero_le _, Nat.zero_le _⟩ (qh_kkl fun r_92 E_4 H locs hpost hH => ?_)
    obtain ⟨rfl, rfl⟩ := hpost
    exact hret dX8_ofTrial_95 hH (⟨rfl, by rw [tdR, if_neg c_11_0, if_neg c_11_2, if_neg c_11_3, if_pos c_11_4]; rfl⟩)
  refine lv_tableOut (tgt := 96) hx hb dX8_ofTrial_11 (qs_out5 c_11_0 c_11_1 c_11_2 c_11_3 c_11_4) (by decide) ?_
  refine lv_iload_n hx hb dX8_ofTrial_96 rfl (lv_at hl 2 rfl) ?_
  refine lv_bipush (v := 10) hx hb dX8_ofTrial_97 (by decide) ?_
  refine lv_isub hx hb dX8_ofTrial_99 ?_
  refine lv_istore_n (lv' := [(3, .int (x - 10)), (2, .int (nI (n - 1))), (0, .ref (z + 0)), (1, .int x)]) hx hb dX8_ofTrial_100 rfl hl (by decide) rfl (fun ls hl => ?_)
  refine lv_aload_n hx hb dX8_ofTrial_101 rfl (lv_at hl 2 rfl) ?_
  refine qh_get hx hb hH f_58 (by omega) b_0 rfl dX8_ofTrial_102 ?_
  refine lv_iload_n hx hb dX8_ofTrial_105 rfl (lv_at hl 0 rfl) ?_
  refine qh_runV (As := [.int (x - 10)]) (rest := []) (C := RX3) ⟨hx, hb, hml, hown, hts⟩ hK hH (c_X3_has l G z M E 46 (by omega) (nI n) (.ref (z + 47)) (.ref (z + 48)) (x - 10) b_46) (cwV 1 hts gX8_ofTrial_X3_has rfl rfl rfl (by decide +kernel) (by rw [hRf, hRl]; exact ⟨Nat.le_of_ble_eq_true rfl, Nat.le_of_ble_eq_true rfl⟩)) (by omega) b_46 rfl rfl hl.1 rfl (Nat.le_of_ble_eq_true rfl) dX8_ofTrial_106 ⟨Nat.zero_le _, Nat.zero_le _⟩ (qh_kki fun r_106 E_5 H locs hpost hH => ?_)
  obtain ⟨rfl, rfl⟩ := hpost
  refine lv_if_eq (tgt := 124) hx hb dX8_ofTrial_109 (by decide) (fun c_109 => ?_) (fun c_109 => ?_)
  · have c_109 := bI_eq.mp c_109
    refine lv_ldc2 hx hb hown k_161 dX8_ofTrial_124 ?_
    refine qh_topl (y := LOSTv) (rfl) ?_
    exact hret dX8_ofTrial_127 hH (⟨rfl, by rw [tdR, if_neg c_11_0, if_neg c_11_2, if_neg c_11_3, if_neg c_11_4, if_neg c_109]⟩)
  · have c_109 := bI_ne.mp c_109
    obtain ⟨t, ht, et⟩ := nI_of_in (by omega) c_109
    refine lv_aload_n hx hb dX8_ofTrial_112 rfl (lv_at hl 2 rfl) ?_
    refine qh_get hx hb hH f_58 (by omega) b_0 rfl dX8_ofTrial_113 ?_
    refine qh_get hx hb hH f_114 (by omega) b_46 rfl dX8_ofTrial_116 ?_
    refine lv_iload_n hx hb dX8_ofTrial_119 rfl (lv_at hl 0 rfl) ?_
    refine qh_lald hx hb hK hH (by omega) b_47 (j := t) (et) (by omega) (by omega) dX8_ofTrial_120 ?_
    refine lv_goto (tgt := 127) hx hb dX8_ofTrial_121 (by decide) ?_
    exact hret dX8_ofTrial_127 hH (⟨rfl, by rw [tdR, if_neg c_11_0, if_neg c_11_2, if_neg c_11_3, if_neg c_11_4, if_pos c_109, et, nI_clamp (by omega)]⟩)

set_option maxHeartbeats 1000000 in
set_option maxRecDepth 100000 in
theorem c_X8_fits (l : Launch) (G : qh_G) (z M : Nat) (E : Nat → va_E) (tr : Int32) (lf : Int32) (hM : 84 ≤ M) (b_0 : E 0 = .inr (8, [.ref (z + 1), .ref (z + 2), .ref (z + 7), .ref (z + 10), .ref (z + 13), .ref (z + 39), .ref (z + 40), .ref (z + 43), .ref (z + 46), .ref (z + 49), .ref (z + 52), .int tr, .int lf])) (n : Nat) (m2 : Nat) (ln : Nat) (rn : Nat) (j : Nat) (bf : Nat → Int64) (bg : Nat → Int64) (tf : Nat → Int64) (tg : Nat → Int64) (vs : Nat → Int64) (kd : Nat → Int32) (pa : Nat → Int32) (gk : Nat → Int32) (gp : Nat → Int32) (cn : Nat → Nat) (ts : Nat → Int32) (ga : Nat → Nat) (gb : Nat → Nat) (va : Nat → Int64) (gn : Int32) (tn : Int32) (x : Int32) (y : Int32) (hn : n ≤ 16 ∧ m2 ≤ 3 ∧ ln ≤ 24 ∧ rn ≤ 8) (hj : j < m2) (hval : ∀ t, t < ln → ga t ≤ gb t ∧ gb t < n) (hcn : ∀ q, q < rn → cn q < n) (hacts : ∀ t, t < 24 → E (15 + t) = .inr (0, [.int (ts t), .int (nI (ga t)), .int (nI (gb t)), .long (va t)])) (b_7 : E 7 = .inr (1, [.int (nI m2), .ref (z + 8), .ref (z + 9)])) (b_8 : E 8 = qa_I G 3 kd) (b_9 : E 9 = qa_I G 3 pa) (b_10 : E 10 = .inr (1, [.int gn, .ref (z + 11), .ref (z + 12)])) (b_11 : E 11 = qa_I G 3 gk) (b_12 : E 12 = qa_I G 3 gp) (b_13 : E 13 = .inr (2, [.int (nI ln), .ref (z + 14)])) (b_14 : E 14 = qa_A G 24 (rfA z 15)) (b_43 : E 43 = .inr (3, [.int (nI n), .ref (z + 44), .ref (z + 45)])) (b_44 : E 44 = qa_J G 16 bf) (b_45 : E 45 = qa_J G 16 bg) (b_46 : E 46 = .inr (3, [.int tn, .ref (z + 47), .ref (z + 48)])) (b_47 : E 47 = qa_J G 16 tf) (b_48 : E 48 = qa_J G 16 tg) (b_52 : E 52 = .inr (4, [.int (nI rn), .ref (z + 53), .ref (z + 54)])) (b_53 : E 53 = qa_I G 8 (rdC cn)) (b_54 : E 54 = qa_J G 8 vs) : Met l yX8_fits wsX8_fits (qh_R 4) (qh_Pre G z M E [.ref (z + 0), .int (nI j), .int x, .int y]) (qh_Q G z M (qh_i (fun r E' => r = bI (allR (fun q => decide (repF bf m2 (upd kd j x) (upd pa j y) ts ga gb va ln (cn q) = vs q)) rn = true) ∧ E' 10 = .inr (1, [.int (nI m2), .ref (z + 11), .ref (z + 12)]) ∧ E' 11 = qa_I G 3 (upd kd j x) ∧ E' 12 = qa_I G 3 (upd pa j y) ∧ E' 46 = .inr (3, [.int (nI n), .ref (z + 47), .ref (z + 48)]) ∧ E' 47 = qa_J G 16 (repF bf m2 (upd kd j x) (upd pa j y) ts ga gb va ln) ∧ E' 48 = qa_J G 16 (repH bf m2 (upd kd j x) (upd pa j y) ts ga gb va ln) ∧ ∀ x9, x9 ≠ 10 → x9 ≠ 11 → x9 ≠ 12 → x9 ≠ 46 → x9 ≠ 47 → x9 ≠ 48 → E' x9 = E x9))) 0 0 (fun q => z ≤ q) := by
  refine qh_metZ (cc := cX8_fits) (maxL := 5) (by decide) rfl (Nat.le_of_ble_eq_true rfl) ?_
  intro pZ eZ sZ mZ aZ bZ tZ cZ RR QQ ls hx hb hml hown hts hRf hRl hH hK hl hret
  have hown : sZ.vm.findClass RX8 = some mZ.cls := hown
  have hl : lv_has ls 5 [(0, .ref (z + 0)), (1, .int (nI j)), (2, .int x), (3, .int y)] := hl
  have in_X8 : ∀ w ∈ wsX80, w ∈ wsX8_fits := fun w h => List.mem_cons_of_mem _ (List.mem_append_left _ (List.mem_append_left _ (List.mem_append_left _ (List.mem_append_left _ (List.mem_append_left _ (List.mem_append_right _ h))))))
  have in_X1 : ∀ w ∈ wsX10, w ∈ wsX8_fits := fun w h => List.mem_cons_of_mem _ (List.mem_append_left _ (List.mem_append_left _ (List.mem_append_left _ (List.mem_append_left _ (List.mem_append_right _ h)))))
  have in_X2 : ∀ w ∈ wsX20, w ∈ wsX8_fits := fun w h => List.mem_cons_of_mem _ (List.mem_append_left _ (List.mem_append_left _ (List.mem_append_left _ (List.mem_append_right _ h))))
  have f_31 : qh_F G sZ mZ aZ 31 8 3 := qh_F.of hts in_X8 hown hK rfl 3 (by decide) (by decide +kernel)
  have f_27 : qh_F G sZ mZ aZ 27 8 2 := qh_F.of hts in_X8 hown hK rfl 2 (by decide) (by decide +kernel)
  have f_146 : qh_F G sZ mZ aZ 146 1 1 := qh_F.of hts in_X1 hown hK rfl 1 (by decide) (by decide +kernel)
  have f_149 : qh_F G sZ mZ aZ 149 1 2 := qh_F.of hts in_X1 hown hK rfl 2 (by decide) (by decide +kernel)
  have f_58 : qh_F G sZ mZ aZ 58 8 8 := qh_F.of hts in_X8 hown hK rfl 8 (by decide) (by decide +kernel)
  have f_55 : qh_F G sZ mZ aZ 55 8 7 := qh_F.of hts in_X8 hown hK rfl 7 (by decide) (by decide +kernel)
  have f_37 : qh_F G sZ mZ aZ 37 8 4 := qh_F.of hts in_X8 hown hK rfl 4 (by decide) (by decide +kernel)
  have f_135 : qh_F G sZ mZ aZ 135 2 0 := qh_F.of hts in_X2 hown hK rfl 0 (by decide) (by decide +kernel)
  have f_71 : qh_F G sZ mZ aZ 71 8 10 := qh_F.of hts in_X8 hown hK rfl 10 (by decide) (by decide +kernel)
  have f_286 : qh_F G sZ mZ aZ 286 2 1 := qh_F.of hts in_X2 hown hK rfl 1 (by decide) (by decide +kernel)
  refine lv_aload_n hx hb dX8_fits_0 rfl (lv_at hl 0 rfl) ?_
  refine qh_get hx hb hH f_31 (by omega) b_0 rfl dX8_fits_1 ?_
  refine lv_aload_n hx hb dX8_fits_4 rfl (lv_at hl 0 rfl) ?_
  refine qh_get hx hb hH f_27 (by omega) b_0 rfl dX8_fits_5 ?_
  refine qh_runV (As := [.ref (z + 7)]) (rest := []) (C := RX1) ⟨hx, hb, hml, hown, hts⟩ hK hH (c_X1_becomeLike l G z M E 10 11 12 7 8 9 gn (nI m2) gk gp kd pa (⟨by omega, by omega, by omega, by omega, by omega, by omega⟩) (⟨by decide, by decide, by decide, by decide, by decide, by decide, by decide, by decide, by decide, by decide, by decide, by decide⟩) b_10 b_11 b_12 b_7 b_8 b_9) (cwV 1 hts gX8_fits_X1_becomeLike rfl rfl rfl (by decide +kernel) (by rw [hRf, hRl]; exact ⟨Nat.le_of_ble_eq_true rfl, Nat.le_of_ble_eq_true rfl⟩)) (by omega) b_10 rfl rfl hl.1 rfl (Nat.le_of_ble_eq_true rfl) dX8_fits_8 ⟨Nat.zero_le _, Nat.zero_le _⟩ (qh_kkv fun E_1 H locs hpost hH => ?_)
  obtain ⟨h_10, h_11, h_12, hfr⟩ := hpost
  have hF : ∀ x9, x9 ≠ 10 → x9 ≠ 11 → x9 ≠ 12 → E_1 x9 = E x9 := fun x9 a0 a1 a2 => hfr x9 a0 a1 a2
  refine lv_aload_n hx hb dX8_fits_11 rfl (lv_at hl 0 rfl) ?_
  refine qh_get hx hb hH f_31 (by omega) ((hF 0 (by decide) (by decide) (by decide)).trans b_0) rfl dX8_fits_12 ?_
  refine qh_get hx hb hH f_146 (by omega) h_10 rfl dX8_fits_15 ?_
  refine lv_iload_n hx hb dX8_fits_18 rfl (lv_at hl 1 rfl) ?_
  refine lv_iload_n hx hb dX8_fits_19 rfl (lv_at hl 2 rfl) ?_
  refine qh_iast hx hb hK hH (by omega) h_11 (j := j) (rfl) (by omega) (by omega) dX8_fits_20 (fun E_2 H locs h_11 hfr hH _ => ?_)
  have h_10 := (hfr 10 (by decide)).trans h_10
  have h_12 := (hfr 12 (by decide)).trans h_12
  have hF : ∀ x9, x9 ≠ 10 → x9 ≠ 11 → x9 ≠ 12 → E_2 x9 = E x9 := fun x9 a0 a1 a2 => (hfr x9 a1).trans (hF x9 a0 a1 a2)
  refine lv_aload_n hx hb dX8_fits_21 rfl (lv_at hl 0 rfl) ?_
  refine qh_get hx hb hH f_31 (by omega) ((hF 0 (by decide) (by decide) (by decide)).trans b_0) rfl dX8_fits_22 ?_
  refine qh_get hx hb hH f_149 (by omega) h_10 rfl dX8_fits_25 ?_
  refine lv_iload_n hx hb dX8_fits_28 rfl (lv_at hl 1 rfl) ?_
  refine lv_iload_n hx hb dX8_fits_29 rfl (lv_at hl 3 rfl) ?_
  refine qh_iast hx hb hK hH (by omega) h_12 (j := j) (rfl) (by omega) (by omega) dX8_fits_30 (fun E_3 H locs h_12 hfr hH _ => ?_)
  have h_10 := (hfr 10 (by decide)).trans h_10
  have h_11 := (hfr 11 (by decide)).trans h_11
  have hF : ∀ x9, x9 ≠ 10 → x9 ≠ 11 → x9 ≠ 12 → E_3 x9 = E x9 := fun x9 a0 a1 a2 => (hfr x9 a2).trans (hF x9 a0 a1 a2)
  refine lv_aload_n hx hb dX8_fits_31 rfl (lv_at hl 0 rfl) ?_
  refine qh_get hx hb hH f_58 (by omega) ((hF 0 (by decide) (by decide) (by decide)).trans b_0) rfl dX8_fits_32 ?_
  refine lv_aload_n hx hb dX8_fits_35 rfl (lv_at hl 0 rfl) ?_
  refine qh_get hx hb hH f_55 (by omega) ((hF 0 (by decide) (by decide) (by decide)).trans b_0) rfl dX8_fits_36 ?_
  refine qh_runV (As := [.ref (z + 43)]) (rest := []) (C := RX3) ⟨hx, hb, hml, hown, hts⟩ hK hH (c_X3_becomeLike l G z M E_3 46 47 48 43 44 tn (nI n) tf tg bf (.ref (z + 45)) (⟨by omega, by omega, by omega, by omega, by omega⟩) (⟨by decide, by decide, by decide, by decide, by decide, by decide, by decide, by decide, by decide⟩) ((hF 46 (by decide) (by decide) (by decide)).trans b_46) ((hF 47 (by decide) (by decide) (by decide)).trans b_47) ((hF 48 (by decide) (by decide) (by decide)).trans b_48) ((hF 43 (by decide) (by decide) (by decide)).trans b_43) ((hF 44 (by decide) (by decide) (by decide)).trans b_44)) (cwV 1 hts gX8_fits_X3_becomeLike rfl rfl rfl (by decide +kernel) (by rw [hRf, hRl]; exact ⟨Nat.le_of_ble_eq_true rfl, Nat.le_of_ble_eq_true rfl⟩)) (by omega) ((hF 46 (by decide) (by decide) (by decide)).trans b_46) rfl rfl hl.1 rfl (Nat.le_of_ble_eq_true rfl) dX8_fits_39 ⟨Nat.zero_le _, Nat.zero_le _⟩ (qh_kkv fun E_4 H locs hpost hH => ?_)
  obtain ⟨h_46, h_47, h_48, hfr⟩ := hpost
  have h_10 := (hfr 10 (by decide) (by decide) (by decide)).trans h_10
  have h_11 := (hfr 11 (by decide) (by decide) (by decide)).trans h_11
  have h_12 := (hfr 12 (by decide) (by decide) (by decide)).trans h_12
  have hF : ∀ x9, x9 ≠ 10 → x9 ≠ 11 → x9 ≠ 12 → x9 ≠ 46 → x9 ≠ 47 → x9 ≠ 48 → E_4 x9 = E x9 := fun x9 a0 a1 a2 a3 a4 a5 => (hfr x9 a3 a4 a5).trans (hF x9 a0 a1 a2)
  refine lv_iconst (v := 0) hx hb dX8_fits_42 (by decide) ?_
  refine lv_istore (lv' := [(4, .int 0), (0, .ref (z + 0)), (1, .int (nI j)), (2, .int x), (3, .int y)]) hx hb dX8_fits_43 hl (by decide) rfl (fun ls hl => ?_)
  have L_45 : ∀ fu : Nat, ∀ t : Nat, (t ≤ ln) → (ln - t < fu) → ∀ Ek : Nat → va_E, Ek 10 = .inr (1, [.int (nI m2), .ref (z + 11), .ref (z + 12)]) → Ek 11 = qa_I G 3 (upd kd j x) → Ek 12 = qa_I G 3 (upd pa j y) → Ek 46 = .inr (3, [.int (nI n), .ref (z + 47), .ref (z + 48)]) → Ek 47 = qa_J G 16 (repF bf m2 (upd kd j x) (upd pa j y) ts ga gb va t) → Ek 48 = qa_J G 16 (repH bf m2 (upd kd j x) (upd pa j y) ts ga gb va t) → (∀ x9, x9 ≠ 10 → x9 ≠ 11 → x9 ≠ 12 → x9 ≠ 46 → x9 ≠ 47 → x9 ≠ 48 → Ek x9 = E x9) → ∀ (H : Heap) (locs : List Loc), qh_H G z M Ek sZ.heap H locs → ∀ ls : Array Slot, lv_has ls 5 [(0, .ref (z + 0)), (4, .int (nI t))] → W pZ l eZ RR sZ mZ aZ bZ tZ cZ H locs 0 0 QQ (F0 mZ 45 ls []) := by
    intro fu
    induction fu with
    | zero =>
      intro t ht hfuel
      exact absurd hfuel (by omega)
    | succ fu ih =>
      intro t ht hfuel Ek h_10 h_11 h_12 h_46 h_47 h_48 hF H locs hH ls hl
      refine lv_iload hx hb dX8_fits_45 (lv_at hl 1 rfl) ?_
      refine lv_aload_n hx hb dX8_fits_47 rfl (lv_at hl 0 rfl) ?_
      refine qh_get hx hb hH f_37 (by omega) ((hF 0 (by decide) (by decide) (by decide) (by decide) (by decide) (by decide)).trans b_0) rfl dX8_fits_48 ?_
      refine qh_get hx hb hH f_135 (by omega) ((hF 13 (by decide) (by decide) (by decide) (by decide) (by decide) (by decide)).trans b_13) rfl dX8_fits_51 ?_
      refine lv_icmp_ge (tgt := 85) hx hb dX8_fits_54 (by decide) (fun c_54 => ?_) (fun c_54 => ?_)
      · have hk : ln ≤ t := (nI_leI (by omega) (by omega)).mp c_54
        have hex : ln = t := by omega
        subst hex
        refine lv_aload_n hx hb dX8_fits_85 rfl (lv_at hl 0 rfl) ?_
        refine qh_get hx hb hH f_71 (by omega) ((hF 0 (by decide) (by decide) (by decide) (by decide) (by decide) (by decide)).trans b_0) rfl dX8_fits_86 ?_
        refine lv_aload_n hx hb dX8_fits_89 rfl (lv_at hl 0 rfl) ?_
        refine qh_get hx hb hH f_58 (by omega) ((hF 0 (by decide) (by decide) (by decide) (by decide) (by decide) (by decide)).trans b_0) rfl dX8_fits_90 ?_
        refine qh_runV (As := [.ref (z + 46)]) (rest := []) (C := RX4) ⟨hx, hb, hml, hown, hts⟩ hK hH (c_X4_areSoBy l G z M Ek 52 53 54 rn 46 47 n _ vs (repF bf m2 (upd kd j x) (upd pa j y) ts ga gb va ln) (.ref (z + 48)) (⟨by omega, by omega, by omega, by omega, by omega⟩) (⟨hn.2.2.2, hn.1⟩) (hcn) ((hF 52 (by decide) (by decide) (by decide) (by decide) (by decide) (by decide)).trans b_52) ((hF 53 (by decide) (by decide) (by decide) (by decide) (by decide) (by decide)).trans b_53) ((hF 54 (by decide) (by decide) (by decide) (by decide) (by decide) (by decide)).trans b_54) h_46 h_47) (cwV 1 hts gX8_fits_X4_areSoBy rfl rfl rfl (by decide +kernel) (by rw [hRf, hRl]; exact ⟨Nat.le_of_ble_eq_true rfl, Nat.le_of_ble_eq_true rfl⟩)) (by omega) ((hF 52 (by decide) (by decide) (by decide) (by decide) (by decide) (by decide)).trans b_52) rfl rfl hl.1 rfl (Nat.le_of_ble_eq_true rfl) dX8_fits_93 ⟨Nat.zero_le _, Nat.zero_le _⟩ (qh_kki fun r_93 E_5 H locs hpost hH => ?_)
        obtain ⟨rfl, rfl⟩ := hpost
        exact hret dX8_fits_96 hH bI_01 (⟨rfl, h_10, h_11, h_12, h_46, h_47, h_48, hF⟩)
      · have hk : ¬ ln ≤ t := fun w => c_54 (nI_le w (by omega))
        have hv := hval t (by omega)
        refine lv_aload_n hx hb dX8_fits_57 rfl (lv_at hl 0 rfl) ?_
        refine qh_get hx hb hH f_58 (by omega) ((hF 0 (by decide) (by decide) (by decide) (by decide) (by decide) (by decide)).trans b_0) rfl dX8_fits_58 ?_
        refine lv_aload_n hx hb dX8_fits_61 rfl (lv_at hl 0 rfl) ?_
        refine qh_get hx hb hH f_37 (by omega) ((hF 0 (by decide) (by decide) (by decide) (by decide) (by decide) (by decide)).trans b_0) rfl dX8_fits_62 ?_
        refine qh_get hx hb hH f_286 (by omega) ((hF 13 (by decide) (by decide) (by decide) (by decide) (by decide) (by decide)).trans b_13) rfl dX8_fits_65 ?_
        refine lv_iload hx hb dX8_fits_68 (lv_at hl 1 rfl) ?_
        refine qh_aaldA (a := z + (15 + t)) hx hb hK hH (by omega) ((hF 14 (by decide) (by decide) (by decide) (by decide) (by decide) (by decide)).trans b_14) (j := t) (rfl) (by omega) (by omega) (rfl) dX8_fits_70 ?_
        refine lv_aload_n hx hb dX8_fits_71 rfl (lv_at hl 0 rfl) ?_
        refine qh_get hx hb hH f_31 (by omega) ((hF 0 (by decide) (by decide) (by decide) (by decide) (by decide) (by decide)).trans b_0) rfl dX8_fits_72 ?_
        refine qh_runV (As := [.ref (z + (15 + t)), .ref (z + 10)]) (rest := []) (C := RX3) ⟨hx, hb, hml, hown, hts⟩ hK hH (c_X3_suffer l G z M Ek 46 47 48 n (15 + t) 10 11 12 m2 (ga t) (gb t) (ts t) (va t) (repF bf m2 (upd kd j x) (upd pa j y) ts ga gb va t) (repH bf m2 (upd kd j x) (upd pa j y) ts ga gb va t) (upd kd j x) (upd pa j y) (⟨by omega, by omega, by omega, by omega, by omega, by omega, by omega⟩) (⟨by decide, by decide, by decide, by omega, by omega, by decide, by decide, by decide, by decide, by decide, by decide⟩) (⟨hn.1, hn.2.1⟩) (⟨by omega, by omega⟩) h_46 h_47 h_48 ((hF (15 + t) (by omega) (by omega) (by omega) (by omega) (by omega) (by omega)).trans (hacts t (by omega))) h_10 h_11 h_12) (cwV 2 hts gX8_fits_X3_suffer rfl rfl rfl (by decide +kernel) (by rw [hRf, hRl]; exact ⟨Nat.le_of_ble_eq_true rfl, Nat.le_of_ble_eq_true rfl⟩)) (by omega) h_46 rfl rfl hl.1 rfl (Nat.le_of_ble_eq_true rfl) dX8_fits_75 ⟨Nat.zero_le _, Nat.zero_le _⟩ (qh_kki fun r_75 E_6 H locs hpost hH => ?_)
        obtain ⟨rfl, h_47, h_48, hfr⟩ := hpost
        have h_10 := (hfr 10 (by decide) (by decide)).trans h_10
        have h_11 := (hfr 11 (by decide) (by decide)).trans h_11
        have h_12 := (hfr 12 (by decide) (by decide)).trans h_12
        have h_46 := (hfr 46 (by decide) (by decide)).trans h_46
        have hF : ∀ x9, x9 ≠ 10 → x9 ≠ 11 → x9 ≠ 12 → x9 ≠ 46 → x9 ≠ 47 → x9 ≠ 48 → E_6 x9 = E x9 := fun x9 a0 a1 a2 a3 a4 a5 => (hfr x9 a4 a5).trans (hF x9 a0 a1 a2 a3 a4 a5)
        refine lv_pop hx hb dX8_fits_78 rfl ?_
        refine lv_iinc (v := nI (t + 1)) (lv' := [(4, .int (nI (t + 1))), (0, .ref (z + 0))]) hx hb dX8_fits_79 hl (k := 1) rfl (qn_inc t) (by decide) rfl (fun ls hl => ?_)
        refine lv_goto (tgt := 45) hx hb dX8_fits_82 (by decide) ?_
        exact ih (t + 1) (by omega) (by omega) E_6 h_10 h_11 h_12 h_46 h_47 h_48 (fun x9 a0 a1 a2 a3 a4 a5 => hF x9 a0 a1 a2 a3 a4 a5) _ _ hH ls (lv_sub hl [1, 0] rfl)
  exact L_45 (ln + 1) 0 (Nat.zero_le _) (by omega) E_4 h_10 h_11 h_12 h_46 h_47 h_48 (fun x9 a0 a1 a2 a3 a4 a5 => hF x9 a0 a1 a2 a3 a4 a5) _ _ hH ls (lv_sub hl [1, 0] rfl)

set_option maxHeartbeats 1000000 in
set_option maxRecDepth 100000 in
theorem c_X8_mustOpen (l : Launch) (G : qh_G) (z M : Nat) (E : Nat → va_E) (tr : Int32) (lf : Int32) (hM : 84 ≤ M) (b_0 : E 0 = .inr (8, [.ref (z + 1), .ref (z + 2), .ref (z + 7), .ref (z + 10), .ref (z + 13), .ref (z + 39), .ref (z + 40), .ref (z + 43), .ref (z + 46), .ref (z + 49), .ref (z + 52), .int tr, .int lf])) (n : Nat) (s : Nat) (a : Nat) (b : Nat) (u : Nat) (w : Nat) (f : Nat → Int64) (g : Nat → Int64) (v : Int64) (hn : n ≤ 16) (hab : a < 16 ∧ b < 16) (hs : s < 32) (hsp : spN n s = some (u, w)) (huw : u ≤ w ∧ w < 16) (b_40 : E 40 = .inr (3, [.int (nI n), .ref (z + 41), .ref (z + 42)])) (b_41 : E 41 = qa_J G 16 f) (b_42 : E 42 = qa_J G 16 g) (b_49 : E 49 = .inr (6, [.ref (z + 50), .ref (z + 51)])) (b_50 : E 50 = qa_I G 32 (spF n)) (b_51 : E 51 = qa_I G 32 (spL n)) : Met l yX8_mustOpen wsX8_mustOpen (qh_R 3) (qh_Pre G z M E [.ref (z + 0), .int (nI s), .int (nI a), .int (nI b), .long v]) (qh_Q G z M (qh_i (fun r E' => E = E' ∧ r = bI (opn f u w a b v)))) 0 0 (fun q => z ≤ q) := by
  refine qh_metZ (cc := cX8_mustOpen) (maxL := 10) (by decide) rfl (Nat.le_of_ble_eq_true rfl) ?_
  intro pZ eZ sZ mZ aZ bZ tZ cZ RR QQ ls hx hb hml hown hts hRf hRl hH hK hl hret
  have hown : sZ.vm.findClass RX8 = some mZ.cls := hown
  have hl : lv_has ls 10 [(0, .ref (z + 0)), (1, .int (nI s)), (2, .int (nI a)), (3, .int (nI b)), (4, .long v)] := hl
  have in_X8 : ∀ w ∈ wsX80, w ∈ wsX8_mustOpen := fun w h => List.mem_cons_of_mem _ (List.mem_append_left _ (List.mem_append_left _ (List.mem_append_right _ h)))
  have in_X6 : ∀ w ∈ wsX60, w ∈ wsX8_mustOpen := fun w h => List.mem_cons_of_mem _ (List.mem_append_left _ (List.mem_append_right _ h))
  have in_X3 : ∀ w ∈ wsX30, w ∈ wsX8_mustOpen := fun w h => List.mem_cons_of_mem _ (List.mem_append_right _ h)
  have f_64 : qh_F G sZ mZ aZ 64 8 9 := qh_F.of hts in_X8 hown hK rfl 9 (by decide) (by decide +kernel)
  have f_252 : qh_F G sZ mZ aZ 252 6 0 := qh_F.of hts in_X6 hown hK rfl 0 (by decide) (by decide +kernel)
  have f_255 : qh_F G sZ mZ aZ 255 6 1 := qh_F.of hts in_X6 hown hK rfl 1 (by decide) (by decide +kernel)
  have f_51 : qh_F G sZ mZ aZ 51 8 6 := qh_F.of hts in_X8 hown hK rfl 6 (by decide) (by decide +kernel)
  have f_114 : qh_F G sZ mZ aZ 114 3 1 := qh_F.of hts in_X3 hown hK rfl 1 (by decide) (by decide +kernel)
  have k_161 := hts (.constantLong RX8 161 (-9223372036854775808)) (by decide +kernel)
  refine lv_aload_n hx hb dX8_mustOpen_0 rfl (lv_at hl 0 rfl) ?_
  refine qh_get hx hb hH f_64 (by omega) b_0 rfl dX8_mustOpen_1 ?_
  refine qh_get hx hb hH f_252 (by omega) b_49 rfl dX8_mustOpen_4 ?_
  refine lv_iload_n hx hb dX8_mustOpen_7 rfl (lv_at hl 1 rfl) ?_
  refine qh_iald hx hb hK hH (by omega) b_50 (j := s) (rfl) (by omega) (by omega) dX8_mustOpen_8 ?_
  refine qh_topi (y := nI u) (by rw [spF, hsp]) ?_
  refine lv_istore (lv' := [(6, .int (nI u)), (0, .ref (z + 0)), (1, .int (nI s)), (2, .int (nI a)), (3, .int (nI b)), (4, .long v)]) hx hb dX8_mustOpen_9 hl (by decide) rfl (fun ls hl => ?_)
  refine lv_aload_n hx hb dX8_mustOpen_11 rfl (lv_at hl 1 rfl) ?_
  refine qh_get hx hb hH f_64 (by omega) b_0 rfl dX8_mustOpen_12 ?_
  refine qh_get hx hb hH f_255 (by omega) b_49 rfl dX8_mustOpen_15 ?_
  refine lv_iload_n hx hb dX8_mustOpen_18 rfl (lv_at hl 2 rfl) ?_
  refine qh_iald hx hb hK hH (by omega) b_51 (j := s) (rfl) (by omega) (by omega) dX8_mustOpen_19 ?_
  refine qh_topi (y := nI w) (by rw [spL, hsp]) ?_
  refine lv_istore (lv' := [(7, .int (nI w)), (6, .int (nI u)), (0, .ref (z + 0)), (1, .int (nI s)), (2, .int (nI a)), (3, .int (nI b)), (4, .long v)]) hx hb dX8_mustOpen_20 hl (by decide) rfl (fun ls hl => ?_)
  refine lv_iload hx hb dX8_mustOpen_22 (lv_at hl 0 rfl) ?_
  refine lv_iload_n hx hb dX8_mustOpen_24 rfl (lv_at hl 4 rfl) ?_
  refine lv_icmp_lt (tgt := 54) hx hb dX8_mustOpen_25 (by decide) (fun c_25 => ?_) (fun c_25 => ?_)
  · refine lv_iconst (v := 0) hx hb dX8_mustOpen_54 (by decide) ?_
    exact hret dX8_mustOpen_55 hH (Or.inl rfl) (⟨rfl, bI_0 (fun q => q.1 ((nI_ltI (by omega) (by omega)).mp c_25))⟩)
  · refine lv_iload hx hb dX8_mustOpen_28 (lv_at hl 1 rfl) ?_
    refine lv_iload_n hx hb dX8_mustOpen_30 rfl (lv_at hl 5 rfl) ?_
    refine lv_icmp_gt (tgt := 54) hx hb dX8_mustOpen_31 (by decide) (fun c_31 => ?_) (fun c_31 => ?_)
    · refine lv_iconst (v := 0) hx hb dX8_mustOpen_54 (by decide) ?_
      exact hret dX8_mustOpen_55 hH (Or.inl rfl) (⟨rfl, bI_0 (fun q => q.2.1 ((nI_ltI (by omega) (by omega)).mp c_31))⟩)
    · refine lv_aload_n hx hb dX8_mustOpen_34 rfl (lv_at hl 2 rfl) ?_
      refine qh_get hx hb hH f_51 (by omega) b_0 rfl dX8_mustOpen_35 ?_
      refine qh_get hx hb hH f_114 (by omega) b_40 rfl dX8_mustOpen_38 ?_
      refine lv_iload hx hb dX8_mustOpen_41 (lv_at hl 1 rfl) ?_
      refine lv_iload hx hb dX8_mustOpen_43 (lv_at hl 0 rfl) ?_
      refine qh_runS (As := [.ref (z + 41), .int (nI u), .int (nI w)]) (rest := []) ⟨hx, hb, hml, hown, hts⟩ hK hH (c_X8_greatest l G z M E 41 u w f (by omega) (⟨huw.1, huw.2⟩) b_41) (va_cwS 3 hts gX8_mustOpen_X8_greatest rfl rfl rfl (by decide +kernel) (by rw [hRf, hRl]; exact ⟨Nat.le_of_ble_eq_true rfl, Nat.le_of_ble_eq_true rfl⟩)) rfl hl.1 rfl (Nat.le_of_ble_eq_true rfl) dX8_mustOpen_45 ⟨Nat.zero_le _, Nat.zero_le _⟩ (qh_kkl fun r_45 E_1 H locs hpost hH => ?_)
      obtain ⟨rfl, rfl⟩ := hpost
      refine lv_lload hx hb dX8_mustOpen_48 (lv_at hl 6 rfl) ?_
      refine W.lcmp hx hb dX8_mustOpen_50 ?_
      refine lv_if_gt (tgt := 56) hx hb dX8_mustOpen_51 (by decide) (fun c_51 => ?_) (fun c_51 => ?_)
      · have c_51 := (lg_cmp_gt _ _).mp c_51
        refine lv_iload hx hb dX8_mustOpen_56 (lv_at hl 1 rfl) ?_
        refine lv_iload_n hx hb dX8_mustOpen_58 rfl (lv_at hl 4 rfl) ?_
        refine lv_icmp_lt (tgt := 68) hx hb dX8_mustOpen_59 (by decide) (fun c_59 => ?_) (fun c_59 => ?_)
        · refine lv_iconst (v := 1) hx hb dX8_mustOpen_68 (by decide) ?_
          exact hret dX8_mustOpen_69 hH (Or.inr rfl) (⟨rfl, bI_1 ⟨fun q => c_25 (nI_lt q (by omega)), fun q => c_31 (nI_lt q (by omega)), c_51, Or.inl ((nI_ltI (by omega) (by omega)).mp c_59)⟩⟩)
        · refine lv_iload hx hb dX8_mustOpen_62 (lv_at hl 0 rfl) ?_
          refine lv_iload_n hx hb dX8_mustOpen_64 rfl (lv_at hl 5 rfl) ?_
          refine lv_icmp_le (tgt := 70) hx hb dX8_mustOpen_65 (by decide) (fun c_65 => ?_) (fun c_65 => ?_)
          · refine lv_aload_n hx hb dX8_mustOpen_70 rfl (lv_at hl 2 rfl) ?_
            refine qh_get hx hb hH f_51 (by omega) b_0 rfl dX8_mustOpen_71 ?_
            refine qh_get hx hb hH f_114 (by omega) b_40 rfl dX8_mustOpen_74 ?_
            refine lv_iload hx hb dX8_mustOpen_77 (lv_at hl 1 rfl) ?_
            refine lv_iload hx hb dX8_mustOpen_79 (lv_at hl 0 rfl) ?_
            refine qh_runS (As := [.ref (z + 41), .int (nI u), .int (nI w)]) (rest := []) ⟨hx, hb, hml, hown, hts⟩ hK hH (c_X8_second l G z M E 41 u w f (by omega) (⟨huw.1, huw.2⟩) b_41) (va_cwS 3 hts gX8_mustOpen_X8_second rfl rfl rfl (by decide +kernel) (by rw [hRf, hRl]; exact ⟨Nat.le_of_ble_eq_true rfl, Nat.le_of_ble_eq_true rfl⟩)) rfl hl.1 rfl (Nat.le_of_ble_eq_true rfl) dX8_mustOpen_81 ⟨Nat.zero_le _, Nat.zero_le _⟩ (qh_kkl fun r_81 E_2 H locs hpost hH => ?_)
            obtain ⟨rfl, rfl⟩ := hpost
            refine lv_lstore (lv' := [(8, .long (secR f (maxR f u (w - u)) u (w + 1 - u))), (7, .int (nI w)), (6, .int (nI u)), (0, .ref (z + 0)), (1, .int (nI s)), (2, .int (nI a)), (3, .int (nI b)), (4, .long v)]) hx hb dX8_mustOpen_84 hl (by decide) rfl (fun ls hl => ?_)
            refine lv_lload hx hb dX8_mustOpen_86 (lv_at hl 0 rfl) ?_
            refine lv_ldc2 hx hb hown k_161 dX8_mustOpen_88 ?_
            refine qh_topl (y := LOSTv) (rfl) ?_
            refine W.lcmp hx hb dX8_mustOpen_91 ?_
            refine lv_if_eq (tgt := 107) hx hb dX8_mustOpen_92 (by decide) (fun c_92 => ?_) (fun c_92 => ?_)
            · have c_92 := (lg_cmp_eq _ _).mp c_92
              refine lv_iconst (v := 0) hx hb dX8_mustOpen_107 (by decide) ?_
              exact hret dX8_mustOpen_108 hH (Or.inl rfl) (⟨rfl, bI_0 (fun q => q.2.2.2.elim (fun q => c_59 (nI_lt q (by omega))) (fun q => q.elim (fun q => absurd ((nI_leI (by omega) (by omega)).mp c_65) (by omega)) (fun q => q.1 c_92)))⟩)
            · have c_92 := (lg_cmp_ne _ _).mp c_92
              refine lv_lload hx hb dX8_mustOpen_95 (lv_at hl 0 rfl) ?_
              refine lv_lload hx hb dX8_mustOpen_97 (lv_at hl 7 rfl) ?_
              refine W.lcmp hx hb dX8_mustOpen_99 ?_
              refine lv_if_lt (tgt := 107) hx hb dX8_mustOpen_100 (by decide) (fun c_100 => ?_) (fun c_100 => ?_)
              · have c_100 := (lg_cmp_lt _ _).mp c_100
                refine lv_iconst (v := 0) hx hb dX8_mustOpen_107 (by decide) ?_
                exact hret dX8_mustOpen_108 hH (Or.inl rfl) (⟨rfl, bI_0 (fun q => q.2.2.2.elim (fun q => c_59 (nI_lt q (by omega))) (fun q => q.elim (fun q => absurd ((nI_leI (by omega) (by omega)).mp c_65) (by omega)) (fun q => Int64.not_lt.mpr q.2 c_100)))⟩)
              · have c_100 := (not_congr (lg_cmp_lt _ _)).mp c_100
                refine lv_iconst (v := 1) hx hb dX8_mustOpen_103 (by decide) ?_
                refine lv_goto (tgt := 108) hx hb dX8_mustOpen_104 (by decide) ?_
                exact hret dX8_mustOpen_108 hH (Or.inr rfl) (⟨rfl, bI_1 ⟨fun q => c_25 (nI_lt q (by omega)), fun q => c_31 (nI_lt q (by omega)), c_51, Or.inr (Or.inr ⟨c_92, Int64.not_lt.mp c_100⟩)⟩⟩)
          · refine lv_iconst (v := 1) hx hb dX8_mustOpen_68 (by decide) ?_
            exact hret dX8_mustOpen_69 hH (Or.inr rfl) (⟨rfl, bI_1 ⟨fun q => c_25 (nI_lt q (by omega)), fun q => c_31 (nI_lt q (by omega)), c_51, Or.inr (Or.inl (Nat.lt_of_not_le (fun q => c_65 (nI_le q (by omega)))))⟩⟩)
      · have c_51 := (not_congr (lg_cmp_gt _ _)).mp c_51
        refine lv_iconst (v := 0) hx hb dX8_mustOpen_54 (by decide) ?_
        exact hret dX8_mustOpen_55 hH (Or.inl rfl) (⟨rfl, bI_0 (fun q => c_51 q.2.2.1)⟩)
