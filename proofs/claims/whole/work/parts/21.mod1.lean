/-- what is against taking cells: by sort and length of the sheet -/
def agR (so sg y q u : Int32) : Int32 := if so = -9 then 1 else if so = y then (if 0 ≤ u then (if q < 0 ∨ sg < q ∨ ¬ u ≤ sg - q then 3 else 0) else 4) else 2
def chgM (x : Int64) (t : Int32) (y : Int64) : Int64 := if t = 0 then x + y else if t = 1 then mn x y else mx x y
def stM (k p : Int32) : Int32 := if k = 0 then p else if k = 1 then p + 1 else 2 * p
def maxS (f : Nat → Int64) (a : Nat) : Nat → Int64
  | 0 => f a
  | q + 1 => maxR f a q
def minS (f : Nat → Int64) (a : Nat) : Nat → Int64
  | 0 => f a
  | q + 1 => minR f a q
theorem maxS_s (f : Nat → Int64) (a : Nat) : ∀ q, maxS f a (q + 1) = mx (maxS f a q) (f (a + q))
  | 0 => (mx_self (f a)).symm
  | _ + 1 => rfl
theorem minS_s (f : Nat → Int64) (a : Nat) : ∀ q, minS f a (q + 1) = mn (minS f a q) (f (a + q))
  | 0 => (mn_self (f a)).symm
  | _ + 1 => rfl
theorem maxS_n {f : Nat → Int64} {a q : Nat} (h : f (a + q) ≤ maxS f a q) : maxS f a (q + 1) = maxS f a q := by
  rw [maxS_s, mx, if_neg (Int64.not_lt.mpr h)]
theorem maxS_y {f : Nat → Int64} {a q : Nat} (h : ¬ f (a + q) ≤ maxS f a q) : maxS f a (q + 1) = f (a + q) := by
  rw [maxS_s, mx, if_pos (Int64.not_le.mp h)]
theorem minS_n {f : Nat → Int64} {a q : Nat} (h : minS f a q ≤ f (a + q)) : minS f a (q + 1) = minS f a q := by
  rw [minS_s, mn, if_neg (Int64.not_lt.mpr h)]
theorem minS_y {f : Nat → Int64} {a q : Nat} (h : ¬ minS f a q ≤ f (a + q)) : minS f a (q + 1) = f (a + q) := by
  rw [minS_s, mn, if_pos (Int64.not_le.mp h)]
theorem maxS_end (f : Nat → Int64) {a b : Nat} (h : a ≤ b) : maxS f a (b + 1 - a) = maxR f a (b - a) := by
  rw [show b + 1 - a = (b - a) + 1 by omega, maxS]
theorem minS_end (f : Nat → Int64) {a b : Nat} (h : a ≤ b) : minS f a (b + 1 - a) = minR f a (b - a) := by
  rw [show b + 1 - a = (b - a) + 1 by omega, minS]
theorem cnt_max {f : Nat → Int64} {a b : Nat} (h : a ≤ b) : cntR (fun k => decide (f k = maxR f a (b - a))) a (b + 1 - a) = cntR (fun k => decide (¬ f k < maxR f a (b - a))) a (b + 1 - a) := by
  refine cntR_cong (fun k h1 h2 => ?_)
  have h3 := maxR_ge f a (b - a) k h1 (by omega)
  rw [i64_le] at h3
  by_cases e : f k = maxR f a (b - a)
  · rw [decide_eq_true e, decide_eq_true]
    rw [e, i64_lt]
    omega
  · rw [decide_eq_false e, decide_eq_false]
    intro w
    rw [i64_lt] at w
    exact e (i64_eq.mpr (by omega))
theorem sec_n2 {f : Nat → Int64} {g : Int64} {a n : Nat} (h : ¬ g ≤ f (a + n)) (h2 : f (a + n) ≤ secR f g a n) : secR f g a (n + 1) = secR f g a n := by
  rw [sec_y h, mx, if_neg (Int64.not_lt.mpr h2)]
theorem sec_y2 {f : Nat → Int64} {g : Int64} {a n : Nat} (h : ¬ g ≤ f (a + n)) (h2 : ¬ f (a + n) ≤ secR f g a n) : secR f g a (n + 1) = f (a + n) := by
  rw [sec_y h, mx, if_pos (Int64.not_le.mp h2)]
set_option maxHeartbeats 1000000 in
set_option maxRecDepth 100000 in
theorem c_X9_fails (l : Launch) (G : qh_G) (z M : Nat) (E : Nat → va_E) (fa : Int32) (tm : Int32) (n : Nat) (m2 : Nat) (ln : Nat) (pt : Int32) (rm : Int32) (rh : Int32) (sf : Int32) (sl : Int32) (rn : Nat) (hM : 84 ≤ M) (b_63 : E 63 = .inr (9, [.int fa, .int tm, .ref (z + 64), .ref (z + 65), .ref (z + 66), .int (nI n), .int (nI m2), .ref (z + 67), .ref (z + 68), .ref (z + 69), .ref (z + 70), .ref (z + 71), .int (nI ln), .ref (z + 72), .ref (z + 73), .ref (z + 74), .ref (z + 75), .int pt, .int rm, .int rh, .ref (z + 76), .ref (z + 77), .ref (z + 78), .ref (z + 79), .ref (z + 80), .int sf, .int sl, .ref (z + 81), .int (nI rn), .ref (z + 82), .ref (z + 83)])) (x : Int32) : Met l yX9_fails wsX9_fails (qh_R 0) (qh_Pre G z M E [.ref (z + 63), .int x]) (qh_Q G z M (qh_i (fun r E' => r = -10 - x ∧ E' 63 = .inr (9, [.int x, .int tm, .ref (z + 64), .ref (z + 65), .ref (z + 66), .int (nI n), .int (nI m2), .ref (z + 67), .ref (z + 68), .ref (z + 69), .ref (z + 70), .ref (z + 71), .int (nI ln), .ref (z + 72), .ref (z + 73), .ref (z + 74), .ref (z + 75), .int pt, .int rm, .int rh, .ref (z + 76), .ref (z + 77), .ref (z + 78), .ref (z + 79), .ref (z + 80), .int sf, .int sl, .ref (z + 81), .int (nI rn), .ref (z + 82), .ref (z + 83)]) ∧ ∀ x9, x9 ≠ 63 → E' x9 = E x9))) 0 0 (fun q => z ≤ q) := by
  refine qh_metI (cc := cX9_fails) (maxL := 2) (by decide) rfl (Nat.le_of_ble_eq_true rfl) ?_
  intro pZ eZ sZ mZ aZ bZ tZ cZ RR QQ ls hx hb hml hown hts hRf hRl hH hK hl hret
  have hown : sZ.vm.findClass RX9 = some mZ.cls := hown
  have hl : lv_has ls 2 [(0, .ref (z + 63)), (1, .int x)] := hl
  have in_X9 : ∀ w ∈ wsX90, w ∈ wsX9_fails := fun w h => List.mem_cons_of_mem _ (List.mem_append_right _ h)
  have w_71 : qh_W G sZ mZ aZ 71 9 0 .int := qh_W.of hts in_X9 tyX9 tyX9_ok nmX9 hown hK rfl 0 (by decide) (by decide +kernel) rfl (by decide +kernel)
  refine lv_aload_n hx hb dX9_fails_0 rfl (lv_at hl 0 rfl) ?_
  refine lv_iload_n hx hb dX9_fails_1 rfl (lv_at hl 1 rfl) ?_
  refine qh_put (fs' := [.int x, .int tm, .ref (z + 64), .ref (z + 65), .ref (z + 66), .int (nI n), .int (nI m2), .ref (z + 67), .ref (z + 68), .ref (z + 69), .ref (z + 70), .ref (z + 71), .int (nI ln), .ref (z + 72), .ref (z + 73), .ref (z + 74), .ref (z + 75), .int pt, .int rm, .int rh, .ref (z + 76), .ref (z + 77), .ref (z + 78), .ref (z + 79), .ref (z + 80), .int sf, .int sl, .ref (z + 81), .int (nI rn), .ref (z + 82), .ref (z + 83)]) hx hb hH w_71 (by omega) b_63 rfl rfl (Nat.le_of_ble_eq_true rfl) rfl dX9_fails_2 (fun E_1 H locs h_63 hfr hH _ => ?_)
  have hF : ∀ x9, x9 ≠ 63 → E_1 x9 = E x9 := fun x9 a0 => hfr x9 a0
  refine lv_bipush (v := (-10)) hx hb dX9_fails_5 (by decide) ?_
  refine lv_iload_n hx hb dX9_fails_7 rfl (lv_at hl 1 rfl) ?_
  refine lv_isub hx hb dX9_fails_8 ?_
  exact hret dX9_fails_9 hH (⟨rfl, h_63, hF⟩)

set_option maxHeartbeats 1000000 in
set_option maxRecDepth 100000 in
theorem c_X9_lost (l : Launch) (G : qh_G) (z M : Nat) (E : Nat → va_E) (fa : Int32) (tm : Int32) (n : Nat) (m2 : Nat) (ln : Nat) (pt : Int32) (rm : Int32) (rh : Int32) (sf : Int32) (sl : Int32) (rn : Nat) (hM : 84 ≤ M) (b_63 : E 63 = .inr (9, [.int fa, .int tm, .ref (z + 64), .ref (z + 65), .ref (z + 66), .int (nI n), .int (nI m2), .ref (z + 67), .ref (z + 68), .ref (z + 69), .ref (z + 70), .ref (z + 71), .int (nI ln), .ref (z + 72), .ref (z + 73), .ref (z + 74), .ref (z + 75), .int pt, .int rm, .int rh, .ref (z + 76), .ref (z + 77), .ref (z + 78), .ref (z + 79), .ref (z + 80), .int sf, .int sl, .ref (z + 81), .int (nI rn), .ref (z + 82), .ref (z + 83)])) (x : Int32) : Met l yX9_lost wsX9_lost (qh_R 0) (qh_Pre G z M E [.ref (z + 63), .int x]) (qh_Q G z M (qh_l (fun r E' => r = LOSTv ∧ E' 63 = .inr (9, [.int x, .int tm, .ref (z + 64), .ref (z + 65), .ref (z + 66), .int (nI n), .int (nI m2), .ref (z + 67), .ref (z + 68), .ref (z + 69), .ref (z + 70), .ref (z + 71), .int (nI ln), .ref (z + 72), .ref (z + 73), .ref (z + 74), .ref (z + 75), .int pt, .int rm, .int rh, .ref (z + 76), .ref (z + 77), .ref (z + 78), .ref (z + 79), .ref (z + 80), .int sf, .int sl, .ref (z + 81), .int (nI rn), .ref (z + 82), .ref (z + 83)]) ∧ ∀ x9, x9 ≠ 63 → E' x9 = E x9))) 0 0 (fun q => z ≤ q) := by
  refine qh_metL (cc := cX9_lost) (maxL := 2) (by decide) rfl (Nat.le_of_ble_eq_true rfl) ?_
  intro pZ eZ sZ mZ aZ bZ tZ cZ RR QQ ls hx hb hml hown hts hRf hRl hH hK hl hret
  have hown : sZ.vm.findClass RX9 = some mZ.cls := hown
  have hl : lv_has ls 2 [(0, .ref (z + 63)), (1, .int x)] := hl
  have in_X9 : ∀ w ∈ wsX90, w ∈ wsX9_lost := fun w h => List.mem_cons_of_mem _ (List.mem_append_right _ h)
  have w_71 : qh_W G sZ mZ aZ 71 9 0 .int := qh_W.of hts in_X9 tyX9 tyX9_ok nmX9 hown hK rfl 0 (by decide) (by decide +kernel) rfl (by decide +kernel)
  have k_75 := hts (.constantLong RX9 75 (-9223372036854775808)) (by decide +kernel)
  refine lv_aload_n hx hb dX9_lost_0 rfl (lv_at hl 0 rfl) ?_
  refine lv_iload_n hx hb dX9_lost_1 rfl (lv_at hl 1 rfl) ?_
  refine qh_put (fs' := [.int x, .int tm, .ref (z + 64), .ref (z + 65), .ref (z + 66), .int (nI n), .int (nI m2), .ref (z + 67), .ref (z + 68), .ref (z + 69), .ref (z + 70), .ref (z + 71), .int (nI ln), .ref (z + 72), .ref (z + 73), .ref (z + 74), .ref (z + 75), .int pt, .int rm, .int rh, .ref (z + 76), .ref (z + 77), .ref (z + 78), .ref (z + 79), .ref (z + 80), .int sf, .int sl, .ref (z + 81), .int (nI rn), .ref (z + 82), .ref (z + 83)]) hx hb hH w_71 (by omega) b_63 rfl rfl (Nat.le_of_ble_eq_true rfl) rfl dX9_lost_2 (fun E_1 H locs h_63 hfr hH _ => ?_)
  have hF : ∀ x9, x9 ≠ 63 → E_1 x9 = E x9 := fun x9 a0 => hfr x9 a0
  refine lv_ldc2 hx hb hown k_75 dX9_lost_5 ?_
  exact hret dX9_lost_8 hH (⟨rfl, h_63, hF⟩)

set_option maxHeartbeats 1000000 in
set_option maxRecDepth 100000 in
theorem c_X9_leaves (l : Launch) (G : qh_G) (z M : Nat) (E : Nat → va_E) (fa : Int32) (tm : Int32) (n : Nat) (m2 : Nat) (ln : Nat) (pt : Int32) (rm : Int32) (rh : Int32) (sf : Int32) (sl : Int32) (rn : Nat) (hM : 84 ≤ M) (b_63 : E 63 = .inr (9, [.int fa, .int tm, .ref (z + 64), .ref (z + 65), .ref (z + 66), .int (nI n), .int (nI m2), .ref (z + 67), .ref (z + 68), .ref (z + 69), .ref (z + 70), .ref (z + 71), .int (nI ln), .ref (z + 72), .ref (z + 73), .ref (z + 74), .ref (z + 75), .int pt, .int rm, .int rh, .ref (z + 76), .ref (z + 77), .ref (z + 78), .ref (z + 79), .ref (z + 80), .int sf, .int sl, .ref (z + 81), .int (nI rn), .ref (z + 82), .ref (z + 83)])) (x : Int32) : Met l yX9_leaves wsX9_leaves (qh_R 0) (qh_Pre G z M E [.ref (z + 63), .int x]) (qh_Q G z M (qh_v (fun E' => E' 63 = .inr (9, [.int fa, .int (lvT tm x), .ref (z + 64), .ref (z + 65), .ref (z + 66), .int (nI n), .int (nI m2), .ref (z + 67), .ref (z + 68), .ref (z + 69), .ref (z + 70), .ref (z + 71), .int (nI ln), .ref (z + 72), .ref (z + 73), .ref (z + 74), .ref (z + 75), .int pt, .int rm, .int rh, .ref (z + 76), .ref (z + 77), .ref (z + 78), .ref (z + 79), .ref (z + 80), .int sf, .int sl, .ref (z + 81), .int (nI rn), .ref (z + 82), .ref (z + 83)]) ∧ ∀ x9, x9 ≠ 63 → E' x9 = E x9))) 0 0 (fun q => z ≤ q) := by
  refine qh_metV (cc := cX9_leaves) (maxL := 2) (by decide) rfl (Nat.le_of_ble_eq_true rfl) ?_
  intro pZ eZ sZ mZ aZ bZ tZ cZ RR QQ ls hx hb hml hown hts hRf hRl hH hK hl hret
  have hown : sZ.vm.findClass RX9 = some mZ.cls := hown
  have hl : lv_has ls 2 [(0, .ref (z + 63)), (1, .int x)] := hl
  have in_X9 : ∀ w ∈ wsX90, w ∈ wsX9_leaves := fun w h => List.mem_cons_of_mem _ (List.mem_append_right _ h)
  have f_236 : qh_F G sZ mZ aZ 236 9 1 := qh_F.of hts in_X9 hown hK rfl 1 (by decide) (by decide +kernel)
  have w_236 : qh_W G sZ mZ aZ 236 9 1 .int := qh_W.of hts in_X9 tyX9 tyX9_ok nmX9 hown hK rfl 1 (by decide) (by decide +kernel) rfl (by decide +kernel)
  refine lv_aload_n hx hb dX9_leaves_0 rfl (lv_at hl 0 rfl) ?_
  refine lv_bipush (v := 31) hx hb dX9_leaves_1 (by decide) ?_
  refine lv_aload_n hx hb dX9_leaves_3 rfl (lv_at hl 0 rfl) ?_
  refine qh_get hx hb hH f_236 (by omega) b_63 rfl dX9_leaves_4 ?_
  refine lv_imul hx hb dX9_leaves_7 ?_
  refine lv_iload_n hx hb dX9_leaves_8 rfl (lv_at hl 1 rfl) ?_
  refine lv_iadd hx hb dX9_leaves_9 ?_
  refine qh_topi (y := lvT tm x) (rfl) ?_
  refine qh_put (fs' := [.int fa, .int (lvT tm x), .ref (z + 64), .ref (z + 65), .ref (z + 66), .int (nI n), .int (nI m2), .ref (z + 67), .ref (z + 68), .ref (z + 69), .ref (z + 70), .ref (z + 71), .int (nI ln), .ref (z + 72), .ref (z + 73), .ref (z + 74), .ref (z + 75), .int pt, .int rm, .int rh, .ref (z + 76), .ref (z + 77), .ref (z + 78), .ref (z + 79), .ref (z + 80), .int sf, .int sl, .ref (z + 81), .int (nI rn), .ref (z + 82), .ref (z + 83)]) hx hb hH w_236 (by omega) b_63 rfl rfl (Nat.le_of_ble_eq_true rfl) rfl dX9_leaves_10 (fun E_1 H locs h_63 hfr hH _ => ?_)
  have hF : ∀ x9, x9 ≠ 63 → E_1 x9 = E x9 := fun x9 a0 => hfr x9 a0
  exact hret dX9_leaves_13 hH (⟨h_63, hF⟩)

set_option maxHeartbeats 1000000 in
set_option maxRecDepth 100000 in
theorem c_X9_within (l : Launch) (G : qh_G) (z M : Nat) (E : Nat → va_E) (x : Int32) (y : Int32) (q : Int32) : Met l yX9_within wsX9_within (qh_R 0) (qh_Pre G z M E [.int x, .int y, .int q]) (qh_Q G z M (qh_i (fun r E' => E = E' ∧ r = bI (¬ x < y ∧ ¬ q < x)))) 0 0 (fun q => z ≤ q) := by
  refine qh_metZ (cc := cX9_within) (maxL := 3) (by decide) rfl (Nat.le_of_ble_eq_true rfl) ?_
  intro pZ eZ sZ mZ aZ bZ tZ cZ RR QQ ls hx hb hml hown hts hRf hRl hH hK hl hret
  have hown : sZ.vm.findClass RX9 = some mZ.cls := hown
  have hl : lv_has ls 3 [(0, .int x), (1, .int y), (2, .int q)] := hl
  refine lv_iload_n hx hb dX9_within_0 rfl (lv_at hl 0 rfl) ?_
  refine lv_iload_n hx hb dX9_within_1 rfl (lv_at hl 1 rfl) ?_
  refine lv_icmp_lt (tgt := 14) hx hb dX9_within_2 (by decide) (fun c_2 => ?_) (fun c_2 => ?_)
  · refine lv_iconst (v := 0) hx hb dX9_within_14 (by decide) ?_
    exact hret dX9_within_15 hH (Or.inl rfl) (⟨rfl, by first | rfl | (simp [bI, c_2])⟩)
  · refine lv_iload_n hx hb dX9_within_5 rfl (lv_at hl 0 rfl) ?_
    refine lv_iload_n hx hb dX9_within_6 rfl (lv_at hl 2 rfl) ?_
    refine lv_icmp_gt (tgt := 14) hx hb dX9_within_7 (by decide) (fun c_7 => ?_) (fun c_7 => ?_)
    · refine lv_iconst (v := 0) hx hb dX9_within_14 (by decide) ?_
      exact hret dX9_within_15 hH (Or.inl rfl) (⟨rfl, by first | rfl | (simp [bI, c_2, c_7])⟩)
    · refine lv_iconst (v := 1) hx hb dX9_within_10 (by decide) ?_
      refine lv_goto (tgt := 15) hx hb dX9_within_11 (by decide) ?_
      exact hret dX9_within_15 hH (Or.inr rfl) (⟨rfl, by first | rfl | (simp [bI, c_2, c_7])⟩)

set_option maxHeartbeats 1000000 in
set_option maxRecDepth 100000 in
theorem c_X9_isBetween (l : Launch) (G : qh_G) (z M : Nat) (E : Nat → va_E) (x : Int64) (y : Int64) (q : Int64) : Met l yX9_isBetween wsX9_isBetween (qh_R 0) (qh_Pre G z M E [.long x, .long y, .long q]) (qh_Q G z M (qh_i (fun r E' => E = E' ∧ r = bI (¬ x < y ∧ ¬ q < x)))) 0 0 (fun q => z ≤ q) := by
  refine qh_metZ (cc := cX9_isBetween) (maxL := 6) (by decide) rfl (Nat.le_of_ble_eq_true rfl) ?_
  intro pZ eZ sZ mZ aZ bZ tZ cZ RR QQ ls hx hb hml hown hts hRf hRl hH hK hl hret
  have hown : sZ.vm.findClass RX9 = some mZ.cls := hown
  have hl : lv_has ls 6 [(0, .long x), (2, .long y), (4, .long q)] := hl
  refine lv_lload_n hx hb dX9_isBetween_0 rfl (lv_at hl 0 rfl) ?_
  refine lv_lload_n hx hb dX9_isBetween_1 rfl (lv_at hl 1 rfl) ?_
  refine W.lcmp hx hb dX9_isBetween_2 ?_
  refine lv_if_lt (tgt := 17) hx hb dX9_isBetween_3 (by decide) (fun c_3 => ?_) (fun c_3 => ?_)
  · have c_3 := (lg_cmp_lt _ _).mp c_3
    refine lv_iconst (v := 0) hx hb dX9_isBetween_17 (by decide) ?_
    exact hret dX9_isBetween_18 hH (Or.inl rfl) (⟨rfl, by first | rfl | (simp [bI, c_3])⟩)
  · have c_3 := (not_congr (lg_cmp_lt _ _)).mp c_3
    refine lv_lload_n hx hb dX9_isBetween_6 rfl (lv_at hl 0 rfl) ?_
    refine lv_lload hx hb dX9_isBetween_7 (lv_at hl 2 rfl) ?_
    refine W.lcmp hx hb dX9_isBetween_9 ?_
    refine lv_if_gt (tgt := 17) hx hb dX9_isBetween_10 (by decide) (fun c_10 => ?_) (fun c_10 => ?_)
    · have c_10 := (lg_cmp_gt _ _).mp c_10
      refine lv_iconst (v := 0) hx hb dX9_isBetween_17 (by decide) ?_
      exact hret dX9_isBetween_18 hH (Or.inl rfl) (⟨rfl, by first | rfl | (simp [bI, c_3, c_10])⟩)
    · have c_10 := (not_congr (lg_cmp_gt _ _)).mp c_10
      refine lv_iconst (v := 1) hx hb dX9_isBetween_13 (by decide) ?_
      refine lv_goto (tgt := 18) hx hb dX9_isBetween_14 (by decide) ?_
      exact hret dX9_isBetween_18 hH (Or.inr rfl) (⟨rfl, by first | rfl | (simp [bI, c_3, c_10])⟩)

set_option maxHeartbeats 1000000 in
set_option maxRecDepth 100000 in
theorem c_X9_isSheet (l : Launch) (G : qh_G) (z M : Nat) (E : Nat → va_E) (x : Int32) : Met l yX9_isSheet wsX9_isSheet (qh_R 1) (qh_Pre G z M E [.int x]) (qh_Q G z M (qh_i (fun r E' => E = E' ∧ r = bI (¬ x < 0 ∧ ¬ 3 < x)))) 0 0 (fun q => z ≤ q) := by
  refine qh_metZ (cc := cX9_isSheet) (maxL := 1) (by decide) rfl (Nat.le_of_ble_eq_true rfl) ?_
  intro pZ eZ sZ mZ aZ bZ tZ cZ RR QQ ls hx hb hml hown hts hRf hRl hH hK hl hret
  have hown : sZ.vm.findClass RX9 = some mZ.cls := hown
  have hl : lv_has ls 1 [(0, .int x)] := hl
  refine lv_iload_n hx hb dX9_isSheet_0 rfl (lv_at hl 0 rfl) ?_
  refine lv_iconst (v := 0) hx hb dX9_isSheet_1 (by decide) ?_
  refine lv_iconst (v := 3) hx hb dX9_isSheet_2 (by decide) ?_
  refine qh_runS (As := [.int x, .int 0, .int 3]) (rest := []) ⟨hx, hb, hml, hown, hts⟩ hK hH (c_X9_within l G z M E x 0 3) (va_cwS 3 hts gX9_isSheet_X9_within rfl rfl rfl (by decide +kernel) (by rw [hRf, hRl]; exact ⟨Nat.le_of_ble_eq_true rfl, Nat.le_of_ble_eq_true rfl⟩)) rfl hl.1 rfl (Nat.le_of_ble_eq_true rfl) dX9_isSheet_3 ⟨Nat.zero_le _, Nat.zero_le _⟩ (qh_kki fun r_3 E_1 H locs hpost hH => ?_)
  obtain ⟨rfl, rfl⟩ := hpost
  exact hret dX9_isSheet_6 hH bI_01 (⟨rfl, rfl⟩)

set_option maxHeartbeats 1000000 in
set_option maxRecDepth 100000 in
theorem c_X9_isSort (l : Launch) (G : qh_G) (z M : Nat) (E : Nat → va_E) (x : Int32) : Met l yX9_isSort wsX9_isSort (qh_R 1) (qh_Pre G z M E [.int x]) (qh_Q G z M (qh_i (fun r E' => E = E' ∧ r = bI (¬ x < 0 ∧ ¬ 2 < x)))) 0 0 (fun q => z ≤ q) := by
  refine qh_metZ (cc := cX9_isSort) (maxL := 1) (by decide) rfl (Nat.le_of_ble_eq_true rfl) ?_
  intro pZ eZ sZ mZ aZ bZ tZ cZ RR QQ ls hx hb hml hown hts hRf hRl hH hK hl hret
  have hown : sZ.vm.findClass RX9 = some mZ.cls := hown
  have hl : lv_has ls 1 [(0, .int x)] := hl
  refine lv_iload_n hx hb dX9_isSort_0 rfl (lv_at hl 0 rfl) ?_
  refine lv_iconst (v := 0) hx hb dX9_isSort_1 (by decide) ?_
  refine lv_iconst (v := 2) hx hb dX9_isSort_2 (by decide) ?_
  refine qh_runS (As := [.int x, .int 0, .int 2]) (rest := []) ⟨hx, hb, hml, hown, hts⟩ hK hH (c_X9_within l G z M E x 0 2) (va_cwS 3 hts gX9_isSort_X9_within rfl rfl rfl (by decide +kernel) (by rw [hRf, hRl]; exact ⟨Nat.le_of_ble_eq_true rfl, Nat.le_of_ble_eq_true rfl⟩)) rfl hl.1 rfl (Nat.le_of_ble_eq_true rfl) dX9_isSort_3 ⟨Nat.zero_le _, Nat.zero_le _⟩ (qh_kki fun r_3 E_1 H locs hpost hH => ?_)
  obtain ⟨rfl, rfl⟩ := hpost
  exact hret dX9_isSort_6 hH bI_01 (⟨rfl, rfl⟩)

set_option maxHeartbeats 1000000 in
set_option maxRecDepth 100000 in
theorem c_X9_isCell (l : Launch) (G : qh_G) (z M : Nat) (E : Nat → va_E) (fa : Int32) (tm : Int32) (n : Nat) (m2 : Nat) (ln : Nat) (pt : Int32) (rm : Int32) (rh : Int32) (sf : Int32) (sl : Int32) (rn : Nat) (hM : 84 ≤ M) (b_63 : E 63 = .inr (9, [.int fa, .int tm, .ref (z + 64), .ref (z + 65), .ref (z + 66), .int (nI n), .int (nI m2), .ref (z + 67), .ref (z + 68), .ref (z + 69), .ref (z + 70), .ref (z + 71), .int (nI ln), .ref (z + 72), .ref (z + 73), .ref (z + 74), .ref (z + 75), .int pt, .int rm, .int rh, .ref (z + 76), .ref (z + 77), .ref (z + 78), .ref (z + 79), .ref (z + 80), .int sf, .int sl, .ref (z + 81), .int (nI rn), .ref (z + 82), .ref (z + 83)])) (x : Int32) : Met l yX9_isCell wsX9_isCell (qh_R 0) (qh_Pre G z M E [.ref (z + 63), .int x]) (qh_Q G z M (qh_i (fun r E' => E = E' ∧ r = bI (¬ x < 0 ∧ x < nI n)))) 0 0 (fun q => z ≤ q) := by
  refine qh_metZ (cc := cX9_isCell) (maxL := 2) (by decide) rfl (Nat.le_of_ble_eq_true rfl) ?_
  intro pZ eZ sZ mZ aZ bZ tZ cZ RR QQ ls hx hb hml hown hts hRf hRl hH hK hl hret
  have hown : sZ.vm.findClass RX9 = some mZ.cls := hown
  have hl : lv_has ls 2 [(0, .ref (z + 63)), (1, .int x)] := hl
  have in_X9 : ∀ w ∈ wsX90, w ∈ wsX9_isCell := fun w h => List.mem_cons_of_mem _ (List.mem_append_right _ h)
  have f_81 : qh_F G sZ mZ aZ 81 9 5 := qh_F.of hts in_X9 hown hK rfl 5 (by decide) (by decide +kernel)
  refine lv_iload_n hx hb dX9_isCell_0 rfl (lv_at hl 1 rfl) ?_
  refine lv_if_lt (tgt := 16) hx hb dX9_isCell_1 (by decide) (fun c_1 => ?_) (fun c_1 => ?_)
  · refine lv_iconst (v := 0) hx hb dX9_isCell_16 (by decide) ?_
    exact hret dX9_isCell_17 hH (Or.inl rfl) (⟨rfl, by first | rfl | (simp [bI, c_1])⟩)
  · refine lv_iload_n hx hb dX9_isCell_4 rfl (lv_at hl 1 rfl) ?_
    refine lv_aload_n hx hb dX9_isCell_5 rfl (lv_at hl 0 rfl) ?_
    refine qh_get hx hb hH f_81 (by omega) b_63 rfl dX9_isCell_6 ?_
    refine lv_icmp_ge (tgt := 16) hx hb dX9_isCell_9 (by decide) (fun c_9 => ?_) (fun c_9 => ?_)
    · refine lv_iconst (v := 0) hx hb dX9_isCell_16 (by decide) ?_
      exact hret dX9_isCell_17 hH (Or.inl rfl) (⟨rfl, by first | rfl | (simp [bI, c_1, c_9])⟩)
    · refine lv_iconst (v := 1) hx hb dX9_isCell_12 (by decide) ?_
      refine lv_goto (tgt := 17) hx hb dX9_isCell_13 (by decide) ?_
      exact hret dX9_isCell_17 hH (Or.inr rfl) (⟨rfl, by first | rfl | (simp [bI, c_1, c_9])⟩)

set_option maxHeartbeats 1000000 in
set_option maxRecDepth 100000 in
theorem c_X9_isHelper (l : Launch) (G : qh_G) (z M : Nat) (E : Nat → va_E) (fa : Int32) (tm : Int32) (n : Nat) (m2 : Nat) (ln : Nat) (pt : Int32) (rm : Int32) (rh : Int32) (sf : Int32) (sl : Int32) (rn : Nat) (hM : 84 ≤ M) (b_63 : E 63 = .inr (9, [.int fa, .int tm, .ref (z + 64), .ref (z + 65), .ref (z + 66), .int (nI n), .int (nI m2), .ref (z + 67), .ref (z + 68), .ref (z + 69), .ref (z + 70), .ref (z + 71), .int (nI ln), .ref (z + 72), .ref (z + 73), .ref (z + 74), .ref (z + 75), .int pt, .int rm, .int rh, .ref (z + 76), .ref (z + 77), .ref (z + 78), .ref (z + 79), .ref (z + 80), .int sf, .int sl, .ref (z + 81), .int (nI rn), .ref (z + 82), .ref (z + 83)])) (x : Int32) : Met l yX9_isHelper wsX9_isHelper (qh_R 0) (qh_Pre G z M E [.ref (z + 63), .int x]) (qh_Q G z M (qh_i (fun r E' => E = E' ∧ r = bI (¬ x < 0 ∧ x < nI m2)))) 0 0 (fun q => z ≤ q) := by
  refine qh_metZ (cc := cX9_isHelper) (maxL := 2) (by decide) rfl (Nat.le_of_ble_eq_true rfl) ?_
  intro pZ eZ sZ mZ aZ bZ tZ cZ RR QQ ls hx hb hml hown hts hRf hRl hH hK hl hret
  have hown : sZ.vm.findClass RX9 = some mZ.cls := hown
  have hl : lv_has ls 2 [(0, .ref (z + 63)), (1, .int x)] := hl
  have in_X9 : ∀ w ∈ wsX90, w ∈ wsX9_isHelper := fun w h => List.mem_cons_of_mem _ (List.mem_append_right _ h)
  have f_84 : qh_F G sZ mZ aZ 84 9 6 := qh_F.of hts in_X9 hown hK rfl 6 (by decide) (by decide +kernel)
  refine lv_iload_n hx hb dX9_isHelper_0 rfl (lv_at hl 1 rfl) ?_
  refine lv_if_lt (tgt := 16) hx hb dX9_isHelper_1 (by decide) (fun c_1 => ?_) (fun c_1 => ?_)
  · refine lv_iconst (v := 0) hx hb dX9_isHelper_16 (by decide) ?_
    exact hret dX9_isHelper_17 hH (Or.inl rfl) (⟨rfl, by first | rfl | (simp [bI, c_1])⟩)
  · refine lv_iload_n hx hb dX9_isHelper_4 rfl (lv_at hl 1 rfl) ?_
    refine lv_aload_n hx hb dX9_isHelper_5 rfl (lv_at hl 0 rfl) ?_
    refine qh_get hx hb hH f_84 (by omega) b_63 rfl dX9_isHelper_6 ?_
    refine lv_icmp_ge (tgt := 16) hx hb dX9_isHelper_9 (by decide) (fun c_9 => ?_) (fun c_9 => ?_)
    · refine lv_iconst (v := 0) hx hb dX9_isHelper_16 (by decide) ?_
      exact hret dX9_isHelper_17 hH (Or.inl rfl) (⟨rfl, by first | rfl | (simp [bI, c_1, c_9])⟩)
    · refine lv_iconst (v := 1) hx hb dX9_isHelper_12 (by decide) ?_
      refine lv_goto (tgt := 17) hx hb dX9_isHelper_13 (by decide) ?_
      exact hret dX9_isHelper_17 hH (Or.inr rfl) (⟨rfl, by first | rfl | (simp [bI, c_1, c_9])⟩)

set_option maxHeartbeats 1000000 in
set_option maxRecDepth 100000 in
theorem c_X9_against (l : Launch) (G : qh_G) (z M : Nat) (E : Nat → va_E) (fa : Int32) (tm : Int32) (n : Nat) (m2 : Nat) (ln : Nat) (pt : Int32) (rm : Int32) (rh : Int32) (sf : Int32) (sl : Int32) (rn : Nat) (hM : 84 ≤ M) (b_63 : E 63 = .inr (9, [.int fa, .int tm, .ref (z + 64), .ref (z + 65), .ref (z + 66), .int (nI n), .int (nI m2), .ref (z + 67), .ref (z + 68), .ref (z + 69), .ref (z + 70), .ref (z + 71), .int (nI ln), .ref (z + 72), .ref (z + 73), .ref (z + 74), .ref (z + 75), .int pt, .int rm, .int rh, .ref (z + 76), .ref (z + 77), .ref (z + 78), .ref (z + 79), .ref (z + 80), .int sf, .int sl, .ref (z + 81), .int (nI rn), .ref (z + 82), .ref (z + 83)])) (k : Nat) (so : Nat → Int32) (sg : Nat → Int32) (y : Int32) (q : Int32) (u : Int32) (hk : k < 4) (b_64 : E 64 = qa_I G 4 so) (b_65 : E 65 = qa_I G 4 sg) : Met l yX9_against wsX9_against (qh_R 0) (qh_Pre G z M E [.ref (z + 63), .int (nI k), .int y, .int q, .int u]) (qh_Q G z M (qh_i (fun r E' => E = E' ∧ r = agR (so k) (sg k) y q u))) 0 0 (fun q => z ≤ q) := by
  refine qh_metI (cc := cX9_against) (maxL := 5) (by decide) rfl (Nat.le_of_ble_eq_true rfl) ?_
  intro pZ eZ sZ mZ aZ bZ tZ cZ RR QQ ls hx hb hml hown hts hRf hRl hH hK hl hret
  have hown : sZ.vm.findClass RX9 = some mZ.cls := hown
  have hl : lv_has ls 5 [(0, .ref (z + 63)), (1, .int (nI k)), (2, .int y), (3, .int q), (4, .int u)] := hl
  have in_X9 : ∀ w ∈ wsX90, w ∈ wsX9_against := fun w h => List.mem_cons_of_mem _ (List.mem_append_right _ h)
  have f_9 : qh_F G sZ mZ aZ 9 9 2 := qh_F.of hts in_X9 hown hK rfl 2 (by decide) (by decide +kernel)
  have f_13 : qh_F G sZ mZ aZ 13 9 3 := qh_F.of hts in_X9 hown hK rfl 3 (by decide) (by decide +kernel)
  refine lv_aload_n hx hb dX9_against_0 rfl (lv_at hl 0 rfl) ?_
  refine qh_get hx hb hH f_9 (by omega) b_63 rfl dX9_against_1 ?_
  refine lv_iload_n hx hb dX9_against_4 rfl (lv_at hl 1 rfl) ?_
  refine qh_iald hx hb hK hH (by omega) b_64 (j := k) (rfl) (by omega) (by omega) dX9_against_5 ?_
  refine lv_bipush (v := (-9)) hx hb dX9_against_6 (by decide) ?_
  refine lv_icmp_eq (tgt := 23) hx hb dX9_against_8 (by decide) (fun c_8 => ?_) (fun c_8 => ?_)
  · refine lv_aload_n hx hb dX9_against_23 rfl (lv_at hl 0 rfl) ?_
    refine qh_get hx hb hH f_9 (by omega) b_63 rfl dX9_against_24 ?_
    refine lv_iload_n hx hb dX9_against_27 rfl (lv_at hl 1 rfl) ?_
    refine qh_iald hx hb hK hH (by omega) b_64 (j := k) (rfl) (by omega) (by omega) dX9_against_28 ?_
    refine lv_bipush (v := (-9)) hx hb dX9_against_29 (by decide) ?_
    refine lv_icmp_ne (tgt := 36) hx hb dX9_against_31 (by decide) (fun c_31 => ?_) (fun c_31 => ?_)
    · exact absurd c_8 c_31
    · refine lv_iconst (v := 1) hx hb dX9_against_34 (by decide) ?_
      exact hret dX9_against_35 hH (⟨rfl, by rw [agR, if_pos c_8]⟩)
  · refine lv_aload_n hx hb dX9_against_11 rfl (lv_at hl 0 rfl) ?_
    refine qh_get hx hb hH f_9 (by omega) b_63 rfl dX9_against_12 ?_
    refine lv_iload_n hx hb dX9_against_15 rfl (lv_at hl 1 rfl) ?_
    refine qh_iald hx hb hK hH (by omega) b_64 (j := k) (rfl) (by omega) (by omega) dX9_against_16 ?_
    refine lv_iload_n hx hb dX9_against_17 rfl (lv_at hl 2 rfl) ?_
    refine lv_icmp_eq (tgt := 23) hx hb dX9_against_18 (by decide) (fun c_18 => ?_) (fun c_18 => ?_)
    · refine lv_aload_n hx hb dX9_against_23 rfl (lv_at hl 0 rfl) ?_
      refine qh_get hx hb hH f_9 (by omega) b_63 rfl dX9_against_24 ?_
      refine lv_iload_n hx hb dX9_against_27 rfl (lv_at hl 1 rfl) ?_
      refine qh_iald hx hb hK hH (by omega) b_64 (j := k) (rfl) (by omega) (by omega) dX9_against_28 ?_
      refine lv_bipush (v := (-9)) hx hb dX9_against_29 (by decide) ?_
      refine lv_icmp_ne (tgt := 36) hx hb dX9_against_31 (by decide) (fun c_31 => ?_) (fun c_31 => ?_)
      · refine lv_iload hx hb dX9_against_36 (lv_at hl 4 rfl) ?_
        refine lv_if_ge (tgt := 43) hx hb dX9_against_38 (by decide) (fun c_38 => ?_) (fun c_38 => ?_)
        · refine lv_iload_n hx hb dX9_against_43 rfl (lv_at hl 3 rfl) ?_
          refine lv_if_lt (tgt := 70) hx hb dX9_against_44 (by decide) (fun c_44 => ?_) (fun c_44 => ?_)
          · refine lv_iconst (v := 3) hx hb dX9_against_70 (by decide) ?_
            refine lv_goto (tgt := 75) hx hb dX9_against_71 (by decide) ?_
            exact hret dX9_against_75 hH (⟨rfl, by rw [agR, if_neg c_8, if_pos c_18, if_pos c_38, if_pos (Or.inl c_44)]⟩)
          · refine lv_iload_n hx hb dX9_against_47 rfl (lv_at hl 3 rfl) ?_
            refine lv_aload_n hx hb dX9_against_48 rfl (lv_at hl 0 rfl) ?_
            refine qh_get hx hb hH f_13 (by omega) b_63 rfl dX9_against_49 ?_
            refine lv_iload_n hx hb dX9_against_52 rfl (lv_at hl 1 rfl) ?_
            refine qh_iald hx hb hK hH (by omega) b_65 (j := k) (rfl) (by omega) (by omega) dX9_against_53 ?_
            refine lv_icmp_gt (tgt := 70) hx hb dX9_against_54 (by decide) (fun c_54 => ?_) (fun c_54 => ?_)
            · refine lv_iconst (v := 3) hx hb dX9_against_70 (by decide) ?_
              refine lv_goto (tgt := 75) hx hb dX9_against_71 (by decide) ?_
              exact hret dX9_against_75 hH (⟨rfl, by rw [agR, if_neg c_8, if_pos c_18, if_pos c_38, if_pos (Or.inr (Or.inl c_54))]⟩)
            · refine lv_iload hx hb dX9_against_57 (lv_at hl 4 rfl) ?_
              refine lv_aload_n hx hb dX9_against_59 rfl (lv_at hl 0 rfl) ?_
              refine qh_get hx hb hH f_13 (by omega) b_63 rfl dX9_against_60 ?_
              refine lv_iload_n hx hb dX9_against_63 rfl (lv_at hl 1 rfl) ?_
              refine qh_iald hx hb hK hH (by omega) b_65 (j := k) (rfl) (by omega) (by omega) dX9_against_64 ?_
              refine lv_iload_n hx hb dX9_against_65 rfl (lv_at hl 3 rfl) ?_
              refine lv_isub hx hb dX9_against_66 ?_
              refine lv_icmp_le (tgt := 74) hx hb dX9_against_67 (by decide) (fun c_67 => ?_) (fun c_67 => ?_)
              · refine lv_iconst (v := 0) hx hb dX9_against_74 (by decide) ?_
                exact hret dX9_against_75 hH (⟨rfl, by rw [agR, if_neg c_8, if_pos c_18, if_pos c_38, if_neg (fun w => w.elim c_44 (fun w => w.elim c_54 (fun w => w c_67)))]⟩)
              · refine lv_iconst (v := 3) hx hb dX9_against_70 (by decide) ?_
                refine lv_goto (tgt := 75) hx hb dX9_against_71 (by decide) ?_
                exact hret dX9_against_75 hH (⟨rfl, by rw [agR, if_neg c_8, if_pos c_18, if_pos c_38, if_pos (Or.inr (Or.inr c_67))]⟩)
        · refine lv_iconst (v := 4) hx hb dX9_against_41 (by decide) ?_
          exact hret dX9_against_42 hH (⟨rfl, by rw [agR, if_neg c_8, if_pos c_18, if_neg c_38]⟩)
      · exact absurd c_31 c_8
    · refine lv_iconst (v := 2) hx hb dX9_against_21 (by decide) ?_
      exact hret dX9_against_22 hH (⟨rfl, by rw [agR, if_neg c_8, if_neg c_18]⟩)

set_option maxHeartbeats 1000000 in
set_option maxRecDepth 100000 in
theorem c_X9_changed (l : Launch) (G : qh_G) (z M : Nat) (E : Nat → va_E) (i : Nat) (x : Int64) (y : Int64) (t : Int32) : Met l yX9_changed wsX9_changed (qh_R 0) (qh_Pre G z M E [.ref (z + i), .long x, .int t, .long y]) (qh_Q G z M (qh_l (fun r E' => E = E' ∧ r = chgM x t y))) 0 0 (fun q => z ≤ q) := by
  refine qh_metL (cc := cX9_changed) (maxL := 6) (by decide) rfl (Nat.le_of_ble_eq_true rfl) ?_
  intro pZ eZ sZ mZ aZ bZ tZ cZ RR QQ ls hx hb hml hown hts hRf hRl hH hK hl hret
  have hown : sZ.vm.findClass RX9 = some mZ.cls := hown
  have hl : lv_has ls 6 [(0, .ref (z + i)), (1, .long x), (3, .int t), (4, .long y)] := hl
  refine lv_iload_n hx hb dX9_changed_0 rfl (lv_at hl 2 rfl) ?_
  refine lv_if_ne (tgt := 9) hx hb dX9_changed_1 (by decide) (fun c_1 => ?_) (fun c_1 => ?_)
  · refine lv_iload_n hx hb dX9_changed_9 rfl (lv_at hl 2 rfl) ?_
    refine lv_iconst (v := 1) hx hb dX9_changed_10 (by decide) ?_
    refine lv_icmp_ne (tgt := 28) hx hb dX9_changed_11 (by decide) (fun c_11 => ?_) (fun c_11 => ?_)
    · refine lv_lload_n hx hb dX9_changed_28 rfl (lv_at hl 1 rfl) ?_
      refine lv_lload hx hb dX9_changed_29 (lv_at hl 3 rfl) ?_
      refine W.lcmp hx hb dX9_changed_31 ?_
      refine lv_if_ge (tgt := 40) hx hb dX9_changed_32 (by decide) (fun c_32 => ?_) (fun c_32 => ?_)
      · have c_32 := (lg_cmp_ge _ _).mp c_32
        refine lv_lload_n hx hb dX9_changed_40 rfl (lv_at hl 1 rfl) ?_
        exact hret dX9_changed_41 hH (⟨rfl, by rw [chgM, if_neg c_1, if_neg c_11, mx, if_neg (Int64.not_lt.mpr c_32)]⟩)
      · have c_32 := (not_congr (lg_cmp_ge _ _)).mp c_32
        refine lv_lload hx hb dX9_changed_35 (lv_at hl 3 rfl) ?_
        refine lv_goto (tgt := 41) hx hb dX9_changed_37 (by decide) ?_
        exact hret dX9_changed_41 hH (⟨rfl, by rw [chgM, if_neg c_1, if_neg c_11, mx, if_pos (Int64.not_le.mp c_32)]⟩)
    · refine lv_lload_n hx hb dX9_changed_14 rfl (lv_at hl 1 rfl) ?_
      refine lv_lload hx hb dX9_changed_15 (lv_at hl 3 rfl) ?_
      refine W.lcmp hx hb dX9_changed_17 ?_
      refine lv_if_le (tgt := 26) hx hb dX9_changed_18 (by decide) (fun c_18 => ?_) (fun c_18 => ?_)
      · have c_18 := (lg_cmp_le _ _).mp c_18
        refine lv_lload_n hx hb dX9_changed_26 rfl (lv_at hl 1 rfl) ?_
        exact hret dX9_changed_27 hH (⟨rfl, by rw [chgM, if_neg c_1, if_pos c_11, mn, if_neg (Int64.not_lt.mpr c_18)]⟩)
      · have c_18 := (not_congr (lg_cmp_le _ _)).mp c_18
        refine lv_lload hx hb dX9_changed_21 (lv_at hl 3 rfl) ?_
        refine lv_goto (tgt := 27) hx hb dX9_changed_23 (by decide) ?_
        exact hret dX9_changed_27 hH (⟨rfl, by rw [chgM, if_neg c_1, if_pos c_11, mn, if_pos (Int64.not_le.mp c_18)]⟩)
  · refine lv_lload_n hx hb dX9_changed_4 rfl (lv_at hl 1 rfl) ?_
    refine lv_lload hx hb dX9_changed_5 (lv_at hl 3 rfl) ?_
    refine lv_ladd hx hb dX9_changed_7 ?_
    exact hret dX9_changed_8 hH (⟨rfl, by rw [chgM, if_pos c_1]⟩)

set_option maxHeartbeats 1000000 in
set_option maxRecDepth 100000 in
theorem c_X9_strengthOf (l : Launch) (G : qh_G) (z M : Nat) (E : Nat → va_E) (fa : Int32) (tm : Int32) (n : Nat) (m2 : Nat) (ln : Nat) (pt : Int32) (rm : Int32) (rh : Int32) (sf : Int32) (sl : Int32) (rn : Nat) (hM : 84 ≤ M) (b_63 : E 63 = .inr (9, [.int fa, .int tm, .ref (z + 64), .ref (z + 65), .ref (z + 66), .int (nI n), .int (nI m2), .ref (z + 67), .ref (z + 68), .ref (z + 69), .ref (z + 70), .ref (z + 71), .int (nI ln), .ref (z + 72), .ref (z + 73), .ref (z + 74), .ref (z + 75), .int pt, .int rm, .int rh, .ref (z + 76), .ref (z + 77), .ref (z + 78), .ref (z + 79), .ref (z + 80), .int sf, .int sl, .ref (z + 81), .int (nI rn), .ref (z + 82), .ref (z + 83)])) (j : Nat) (kd : Nat → Int32) (pa : Nat → Int32) (hj : j < 3) (b_70 : E 70 = qa_I G 3 kd) (b_71 : E 71 = qa_I G 3 pa) : Met l yX9_strengthOf wsX9_strengthOf (qh_R 0) (qh_Pre G z M E [.ref (z + 63), .int (nI j)]) (qh_Q G z M (qh_i (fun r E' => E = E' ∧ r = stM (kd j) (pa j)))) 0 0 (fun q => z ≤ q) := by
  refine qh_metI (cc := cX9_strengthOf) (maxL := 2) (by decide) rfl (Nat.le_of_ble_eq_true rfl) ?_
  intro pZ eZ sZ mZ aZ bZ tZ cZ RR QQ ls hx hb hml hown hts hRf hRl hH hK hl hret
  have hown : sZ.vm.findClass RX9 = some mZ.cls := hown
  have hl : lv_has ls 2 [(0, .ref (z + 63)), (1, .int (nI j))] := hl
  have in_X9 : ∀ w ∈ wsX90, w ∈ wsX9_strengthOf := fun w h => List.mem_cons_of_mem _ (List.mem_append_right _ h)
  have f_29 : qh_F G sZ mZ aZ 29 9 10 := qh_F.of hts in_X9 hown hK rfl 10 (by decide) (by decide +kernel)
  have f_32 : qh_F G sZ mZ aZ 32 9 11 := qh_F.of hts in_X9 hown hK rfl 11 (by decide) (by decide +kernel)
  refine lv_aload_n hx hb dX9_strengthOf_0 rfl (lv_at hl 0 rfl) ?_
  refine qh_get hx hb hH f_29 (by omega) b_63 rfl dX9_strengthOf_1 ?_
  refine lv_iload_n hx hb dX9_strengthOf_4 rfl (lv_at hl 1 rfl) ?_
  refine qh_iald hx hb hK hH (by omega) b_70 (j := j) (rfl) (by omega) (by omega) dX9_strengthOf_5 ?_
  refine lv_if_ne (tgt := 18) hx hb dX9_strengthOf_6 (by decide) (fun c_6 => ?_) (fun c_6 => ?_)
  · refine lv_aload_n hx hb dX9_strengthOf_18 rfl (lv_at hl 0 rfl) ?_
    refine qh_get hx hb hH f_29 (by omega) b_63 rfl dX9_strengthOf_19 ?_
    refine lv_iload_n hx hb dX9_strengthOf_22 rfl (lv_at hl 1 rfl) ?_
    refine qh_iald hx hb hK hH (by omega) b_70 (j := j) (rfl) (by omega) (by omega) dX9_strengthOf_23 ?_
    refine lv_iconst (v := 1) hx hb dX9_strengthOf_24 (by decide) ?_
    refine lv_icmp_ne (tgt := 39) hx hb dX9_strengthOf_25 (by decide) (fun c_25 => ?_) (fun c_25 => ?_)
    · refine lv_iconst (v := 2) hx hb dX9_strengthOf_39 (by decide) ?_
      refine lv_aload_n hx hb dX9_strengthOf_40 rfl (lv_at hl 0 rfl) ?_
      refine qh_get hx hb hH f_32 (by omega) b_63 rfl dX9_strengthOf_41 ?_
      refine lv_iload_n hx hb dX9_strengthOf_44 rfl (lv_at hl 1 rfl) ?_
      refine qh_iald hx hb hK hH (by omega) b_71 (j := j) (rfl) (by omega) (by omega) dX9_strengthOf_45 ?_
      refine lv_imul hx hb dX9_strengthOf_46 ?_
      exact hret dX9_strengthOf_47 hH (⟨rfl, by simp [stM, c_6, c_25]⟩)
    · refine lv_aload_n hx hb dX9_strengthOf_28 rfl (lv_at hl 0 rfl) ?_
      refine qh_get hx hb hH f_32 (by omega) b_63 rfl dX9_strengthOf_29 ?_
      refine lv_iload_n hx hb dX9_strengthOf_32 rfl (lv_at hl 1 rfl) ?_
      refine qh_iald hx hb hK hH (by omega) b_71 (j := j) (rfl) (by omega) (by omega) dX9_strengthOf_33 ?_
      refine lv_iconst (v := 1) hx hb dX9_strengthOf_34 (by decide) ?_
      refine lv_iadd hx hb dX9_strengthOf_35 ?_
      refine lv_goto (tgt := 47) hx hb dX9_strengthOf_36 (by decide) ?_
      exact hret dX9_strengthOf_47 hH (⟨rfl, by simp [stM, c_6, c_25]⟩)
  · refine lv_aload_n hx hb dX9_strengthOf_9 rfl (lv_at hl 0 rfl) ?_
    refine qh_get hx hb hH f_32 (by omega) b_63 rfl dX9_strengthOf_10 ?_
    refine lv_iload_n hx hb dX9_strengthOf_13 rfl (lv_at hl 1 rfl) ?_
    refine qh_iald hx hb hK hH (by omega) b_71 (j := j) (rfl) (by omega) (by omega) dX9_strengthOf_14 ?_
    refine lv_goto (tgt := 47) hx hb dX9_strengthOf_15 (by decide) ?_
    exact hret dX9_strengthOf_47 hH (⟨rfl, by simp [stM, c_6]⟩)

set_option maxHeartbeats 1000000 in
set_option maxRecDepth 100000 in
theorem c_X9_sumOf (l : Launch) (G : qh_G) (z M : Nat) (E : Nat → va_E) (fa : Int32) (tm : Int32) (n : Nat) (m2 : Nat) (ln : Nat) (pt : Int32) (rm : Int32) (rh : Int32) (sf : Int32) (sl : Int32) (rn : Nat) (hM : 84 ≤ M) (b_63 : E 63 = .inr (9, [.int fa, .int tm, .ref (z + 64), .ref (z + 65), .ref (z + 66), .int (nI n), .int (nI m2), .ref (z + 67), .ref (z + 68), .ref (z + 69), .ref (z + 70), .ref (z + 71), .int (nI ln), .ref (z + 72), .ref (z + 73), .ref (z + 74), .ref (z + 75), .int pt, .int rm, .int rh, .ref (z + 76), .ref (z + 77), .ref (z + 78), .ref (z + 79), .ref (z + 80), .int sf, .int sl, .ref (z + 81), .int (nI rn), .ref (z + 82), .ref (z + 83)])) (a : Nat) (b : Nat) (f : Nat → Int64) (hab : a ≤ b ∧ b < 16) (b_67 : E 67 = qa_J G 16 f) : Met l yX9_sumOf wsX9_sumOf (qh_R 0) (qh_Pre G z M E [.ref (z + 63), .int (nI a), .int (nI b)]) (qh_Q G z M (qh_l (fun r E' => E = E' ∧ r = sumR f a (b + 1 - a)))) 0 0 (fun q => z ≤ q) := by
  refine qh_metL (cc := cX9_sumOf) (maxL := 6) (by decide) rfl (Nat.le_of_ble_eq_true rfl) ?_
  intro pZ eZ sZ mZ aZ bZ tZ cZ RR QQ ls hx hb hml hown hts hRf hRl hH hK hl hret
  have hown : sZ.vm.findClass RX9 = some mZ.cls := hown
  have hl : lv_has ls 6 [(0, .ref (z + 63)), (1, .int (nI a)), (2, .int (nI b))] := hl
  have in_X9 : ∀ w ∈ wsX90, w ∈ wsX9_sumOf := fun w h => List.mem_cons_of_mem _ (List.mem_append_right _ h)
  have f_19 : qh_F G sZ mZ aZ 19 9 7 := qh_F.of hts in_X9 hown hK rfl 7 (by decide) (by decide +kernel)
  refine lv_lconst (v := 0) hx hb dX9_sumOf_0 (by decide) ?_
  refine lv_lstore_n (lv' := [(3, .long 0), (0, .ref (z + 63)), (1, .int (nI a)), (2, .int (nI b))]) hx hb dX9_sumOf_1 rfl hl (by decide) rfl (fun ls hl => ?_)
  refine lv_iload_n hx hb dX9_sumOf_2 rfl (lv_at hl 2 rfl) ?_
  refine lv_istore (lv' := [(5, .int (nI a)), (3, .long 0), (0, .ref (z + 63)), (1, .int (nI a)), (2, .int (nI b))]) hx hb dX9_sumOf_3 hl (by decide) rfl (fun ls hl => ?_)
  have L_5 : ∀ fu_5 : Nat, ∀ q : Nat, (q ≤ b + 1 - a) → (b + 1 - a - q < fu_5) → ∀ (H : Heap) (locs : List Loc), qh_H G z M E sZ.heap H locs → ∀ ls : Array Slot, lv_has ls 6 [(0, .ref (z + 63)), (1, .int (nI a)), (2, .int (nI b)), (3, .long (sumR f a q)), (5, .int (nI (a + q)))] → W pZ l eZ RR sZ mZ aZ bZ tZ cZ H locs 0 0 QQ (F0 mZ 5 ls []) := by
    intro fu_5
    induction fu_5 with
    | zero =>
      intro q hq hfuel
      exact absurd hfuel (by omega)
    | succ fu_5 ih_5 =>
      intro q hq hfuel H locs hH ls hl
      refine lv_iload hx hb dX9_sumOf_5 (lv_at hl 4 rfl) ?_
      refine lv_iload_n hx hb dX9_sumOf_7 rfl (lv_at hl 2 rfl) ?_
      refine lv_icmp_gt (tgt := 27) hx hb dX9_sumOf_8 (by decide) (fun c_8 => ?_) (fun c_8 => ?_)
      · have hk : b < a + q := (nI_ltI (by omega) (by omega)).mp c_8
        have hex : b + 1 - a = q := by omega
        subst hex
        refine lv_lload_n hx hb dX9_sumOf_27 rfl (lv_at hl 3 rfl) ?_
        exact hret dX9_sumOf_28 hH (⟨rfl, rfl⟩)
      · have hk : ¬ b < a + q := fun w => c_8 (nI_lt w (by omega))
        refine lv_lload_n hx hb dX9_sumOf_11 rfl (lv_at hl 3 rfl) ?_
        refine lv_aload_n hx hb dX9_sumOf_12 rfl (lv_at hl 0 rfl) ?_
        refine qh_get hx hb hH f_19 (by omega) b_63 rfl dX9_sumOf_13 ?_
        refine lv_iload hx hb dX9_sumOf_16 (lv_at hl 4 rfl) ?_
        refine qh_lald hx hb hK hH (by omega) b_67 (j := a + q) (rfl) (by omega) (by omega) dX9_sumOf_18 ?_
        refine lv_ladd hx hb dX9_sumOf_19 ?_
        refine lv_lstore_n (lv' := [(3, .long ((sumR f a q) + (f (a + q)))), (0, .ref (z + 63)), (1, .int (nI a)), (2, .int (nI b)), (5, .int (nI (a + q)))]) hx hb dX9_sumOf_20 rfl hl (by decide) rfl (fun ls hl => ?_)
        refine lv_iinc (v := nI ((a + q) + 1)) (lv' := [(5, .int (nI ((a + q) + 1))), (3, .long ((sumR f a q) + (f (a + q)))), (0, .ref (z + 63)), (1, .int (nI a)), (2, .int (nI b))]) hx hb dX9_sumOf_21 hl (k := 4) rfl (qn_inc (a + q)) (by decide) rfl (fun ls hl => ?_)
        refine lv_goto (tgt := 5) hx hb dX9_sumOf_24 (by decide) ?_
        exact ih_5 (q + 1) (by omega) (by omega) _ _ hH ls (lv_sub hl [2, 3, 4, 1, 0] rfl)
  exact L_5 (b + 1 - a + 1) 0 (Nat.zero_le _) (by omega) _ _ hH ls (lv_sub hl [2, 3, 4, 1, 0] rfl)

set_option maxHeartbeats 1000000 in
set_option maxRecDepth 100000 in
theorem c_X9_greatestOf (l : Launch) (G : qh_G) (z M : Nat) (E : Nat → va_E) (fa : Int32) (tm : Int32) (n : Nat) (m2 : Nat) (ln : Nat) (pt : Int32) (rm : Int32) (rh : Int32) (sf : Int32) (sl : Int32) (rn : Nat) (hM : 84 ≤ M) (b_63 : E 63 = .inr (9, [.int fa, .int tm, .ref (z + 64), .ref (z + 65), .ref (z + 66), .int (nI n), .int (nI m2), .ref (z + 67), .ref (z + 68), .ref (z + 69), .ref (z + 70), .ref (z + 71), .int (nI ln), .ref (z + 72), .ref (z + 73), .ref (z + 74), .ref (z + 75), .int pt, .int rm, .int rh, .ref (z + 76), .ref (z + 77), .ref (z + 78), .ref (z + 79), .ref (z + 80), .int sf, .int sl, .ref (z + 81), .int (nI rn), .ref (z + 82), .ref (z + 83)])) (a : Nat) (b : Nat) (f : Nat → Int64) (hab : a ≤ b ∧ b < 16) (b_67 : E 67 = qa_J G 16 f) : Met l yX9_greatestOf wsX9_greatestOf (qh_R 0) (qh_Pre G z M E [.ref (z + 63), .int (nI a), .int (nI b)]) (qh_Q G z M (qh_l (fun r E' => E = E' ∧ r = maxR f a (b - a)))) 0 0 (fun q => z ≤ q) := by
  refine qh_metL (cc := cX9_greatestOf) (maxL := 6) (by decide) rfl (Nat.le_of_ble_eq_true rfl) ?_
  intro pZ eZ sZ mZ aZ bZ tZ cZ RR QQ ls hx hb hml hown hts hRf hRl hH hK hl hret
  have hown : sZ.vm.findClass RX9 = some mZ.cls := hown
  have hl : lv_has ls 6 [(0, .ref (z + 63)), (1, .int (nI a)), (2, .int (nI b))] := hl
  have in_X9 : ∀ w ∈ wsX90, w ∈ wsX9_greatestOf := fun w h => List.mem_cons_of_mem _ (List.mem_append_right _ h)
  have f_19 : qh_F G sZ mZ aZ 19 9 7 := qh_F.of hts in_X9 hown hK rfl 7 (by decide) (by decide +kernel)
  refine lv_aload_n hx hb dX9_greatestOf_0 rfl (lv_at hl 0 rfl) ?_
  refine qh_get hx hb hH f_19 (by omega) b_63 rfl dX9_greatestOf_1 ?_
  refine lv_iload_n hx hb dX9_greatestOf_4 rfl (lv_at hl 1 rfl) ?_
  refine qh_lald hx hb hK hH (by omega) b_67 (j := a) (rfl) (by omega) (by omega) dX9_greatestOf_5 ?_
  refine lv_lstore_n (lv' := [(3, .long (f a)), (0, .ref (z + 63)), (1, .int (nI a)), (2, .int (nI b))]) hx hb dX9_greatestOf_6 rfl hl (by decide) rfl (fun ls hl => ?_)
  refine lv_iload_n hx hb dX9_greatestOf_7 rfl (lv_at hl 2 rfl) ?_
  refine lv_istore (lv' := [(5, .int (nI a)), (3, .long (f a)), (0, .ref (z + 63)), (1, .int (nI a)), (2, .int (nI b))]) hx hb dX9_greatestOf_8 hl (by decide) rfl (fun ls hl => ?_)
  have L_10 : ∀ fu_10 : Nat, ∀ q : Nat, (q ≤ b + 1 - a) → (b + 1 - a - q < fu_10) → ∀ (H : Heap) (locs : List Loc), qh_H G z M E sZ.heap H locs → ∀ ls : Array Slot, lv_has ls 6 [(0, .ref (z + 63)), (1, .int (nI a)), (2, .int (nI b)), (3, .long (maxS f a q)), (5, .int (nI (a + q)))] → W pZ l eZ RR sZ mZ aZ bZ tZ cZ H locs 0 0 QQ (F0 mZ 10 ls []) := by
    intro fu_10
    induction fu_10 with
    | zero =>
      intro q hq hfuel
      exact absurd hfuel (by omega)
    | succ fu_10 ih_10 =>
      intro q hq hfuel H locs hH ls hl
      refine lv_iload hx hb dX9_greatestOf_10 (lv_at hl 4 rfl) ?_
      refine lv_iload_n hx hb dX9_greatestOf_12 rfl (lv_at hl 2 rfl) ?_
      refine lv_icmp_gt (tgt := 46) hx hb dX9_greatestOf_13 (by decide) (fun c_13 => ?_) (fun c_13 => ?_)
      · have hk : b < a + q := (nI_ltI (by omega) (by omega)).mp c_13
        have hend := maxS_end f hab.1
        have hex : b + 1 - a = q := by omega
        subst hex
        refine lv_lload_n hx hb dX9_greatestOf_46 rfl (lv_at hl 3 rfl) ?_
        exact hret dX9_greatestOf_47 hH (⟨rfl, hend⟩)
      · have hk : ¬ b < a + q := fun w => c_13 (nI_lt w (by omega))
        refine lv_aload_n hx hb dX9_greatestOf_16 rfl (lv_at hl 0 rfl) ?_
        refine qh_get hx hb hH f_19 (by omega) b_63 rfl dX9_greatestOf_17 ?_
        refine lv_iload hx hb dX9_greatestOf_20 (lv_at hl 4 rfl) ?_
        refine qh_lald hx hb hK hH (by omega) b_67 (j := a + q) (rfl) (by omega) (by omega) dX9_greatestOf_22 ?_
        refine lv_lload_n hx hb dX9_greatestOf_23 rfl (lv_at hl 3 rfl) ?_
        refine W.lcmp hx hb dX9_greatestOf_24 ?_
        refine lv_if_le (tgt := 38) hx hb dX9_greatestOf_25 (by decide) (fun c_25 => ?_) (fun c_25 => ?_)
        · have c_25 := (lg_cmp_le _ _).mp c_25
          refine lv_lload_n hx hb dX9_greatestOf_38 rfl (lv_at hl 3 rfl) ?_
          refine lv_lstore_n (lv' := [(3, .long (maxS f a q)), (0, .ref (z + 63)), (1, .int (nI a)), (2, .int (nI b)), (5, .int (nI (a + q)))]) hx hb dX9_greatestOf_39 rfl hl (by decide) rfl (fun ls hl => ?_)
          refine lv_iinc (v := nI ((a + q) + 1)) (lv' := [(5, .int (nI ((a + q) + 1))), (3, .long (maxS f a q)), (0, .ref (z + 63)), (1, .int (nI a)), (2, .int (nI b))]) hx hb dX9_greatestOf_40 hl (k := 4) rfl (qn_inc (a + q)) (by decide) rfl (fun ls hl => ?_)
          refine lv_goto (tgt := 10) hx hb dX9_greatestOf_43 (by decide) ?_
          rw [← maxS_n c_25] at hl
          exact ih_10 (q + 1) (by omega) (by omega) _ _ hH ls (lv_sub hl [2, 3, 4, 1, 0] rfl)
        · have c_25 := (not_congr (lg_cmp_le _ _)).mp c_25
          refine lv_aload_n hx hb dX9_greatestOf_28 rfl (lv_at hl 0 rfl) ?_
          refine qh_get hx hb hH f_19 (by omega) b_63 rfl dX9_greatestOf_29 ?_
          refine lv_iload hx hb dX9_greatestOf_32 (lv_at hl 4 rfl) ?_
          refine qh_lald hx hb hK hH (by omega) b_67 (j := a + q) (rfl) (by omega) (by omega) dX9_greatestOf_34 ?_
          refine lv_goto (tgt := 39) hx hb dX9_greatestOf_35 (by decide) ?_
          refine lv_lstore_n (lv' := [(3, .long (f (a + q))), (0, .ref (z + 63)), (1, .int (nI a)), (2, .int (nI b)), (5, .int (nI (a + q)))]) hx hb dX9_greatestOf_39 rfl hl (by decide) rfl (fun ls hl => ?_)
          refine lv_iinc (v := nI ((a + q) + 1)) (lv' := [(5, .int (nI ((a + q) + 1))), (3, .long (f (a + q))), (0, .ref (z + 63)), (1, .int (nI a)), (2, .int (nI b))]) hx hb dX9_greatestOf_40 hl (k := 4) rfl (qn_inc (a + q)) (by decide) rfl (fun ls hl => ?_)
          refine lv_goto (tgt := 10) hx hb dX9_greatestOf_43 (by decide) ?_
          rw [← maxS_y c_25] at hl
          exact ih_10 (q + 1) (by omega) (by omega) _ _ hH ls (lv_sub hl [2, 3, 4, 1, 0] rfl)
  exact L_10 (b + 1 - a + 1) 0 (Nat.zero_le _) (by omega) _ _ hH ls (lv_sub hl [2, 3, 4, 1, 0] rfl)

set_option maxHeartbeats 1000000 in
set_option maxRecDepth 100000 in
theorem c_X9_leastOf (l : Launch) (G : qh_G) (z M : Nat) (E : Nat → va_E) (fa : Int32) (tm : Int32) (n : Nat) (m2 : Nat) (ln : Nat) (pt : Int32) (rm : Int32) (rh : Int32) (sf : Int32) (sl : Int32) (rn : Nat) (hM : 84 ≤ M) (b_63 : E 63 = .inr (9, [.int fa, .int tm, .ref (z + 64), .ref (z + 65), .ref (z + 66), .int (nI n), .int (nI m2), .ref (z + 67), .ref (z + 68), .ref (z + 69), .ref (z + 70), .ref (z + 71), .int (nI ln), .ref (z + 72), .ref (z + 73), .ref (z + 74), .ref (z + 75), .int pt, .int rm, .int rh, .ref (z + 76), .ref (z + 77), .ref (z + 78), .ref (z + 79), .ref (z + 80), .int sf, .int sl, .ref (z + 81), .int (nI rn), .ref (z + 82), .ref (z + 83)])) (a : Nat) (b : Nat) (f : Nat → Int64) (hab : a ≤ b ∧ b < 16) (b_67 : E 67 = qa_J G 16 f) : Met l yX9_leastOf wsX9_leastOf (qh_R 0) (qh_Pre G z M E [.ref (z + 63), .int (nI a), .int (nI b)]) (qh_Q G z M (qh_l (fun r E' => E = E' ∧ r = minR f a (b - a)))) 0 0 (fun q => z ≤ q) := by
  refine qh_metL (cc := cX9_leastOf) (maxL := 6) (by decide) rfl (Nat.le_of_ble_eq_true rfl) ?_
  intro pZ eZ sZ mZ aZ bZ tZ cZ RR QQ ls hx hb hml hown hts hRf hRl hH hK hl hret
  have hown : sZ.vm.findClass RX9 = some mZ.cls := hown
  have hl : lv_has ls 6 [(0, .ref (z + 63)), (1, .int (nI a)), (2, .int (nI b))] := hl
  have in_X9 : ∀ w ∈ wsX90, w ∈ wsX9_leastOf := fun w h => List.mem_cons_of_mem _ (List.mem_append_right _ h)
  have f_19 : qh_F G sZ mZ aZ 19 9 7 := qh_F.of hts in_X9 hown hK rfl 7 (by decide) (by decide +kernel)
  refine lv_aload_n hx hb dX9_leastOf_0 rfl (lv_at hl 0 rfl) ?_
  refine qh_get hx hb hH f_19 (by omega) b_63 rfl dX9_leastOf_1 ?_
  refine lv_iload_n hx hb dX9_leastOf_4 rfl (lv_at hl 1 rfl) ?_
  refine qh_lald hx hb hK hH (by omega) b_67 (j := a) (rfl) (by omega) (by omega) dX9_leastOf_5 ?_
  refine lv_lstore_n (lv' := [(3, .long (f a)), (0, .ref (z + 63)), (1, .int (nI a)), (2, .int (nI b))]) hx hb dX9_leastOf_6 rfl hl (by decide) rfl (fun ls hl => ?_)
  refine lv_iload_n hx hb dX9_leastOf_7 rfl (lv_at hl 2 rfl) ?_
  refine lv_istore (lv' := [(5, .int (nI a)), (3, .long (f a)), (0, .ref (z + 63)), (1, .int (nI a)), (2, .int (nI b))]) hx hb dX9_leastOf_8 hl (by decide) rfl (fun ls hl => ?_)
  have L_10 : ∀ fu_10 : Nat, ∀ q : Nat, (q ≤ b + 1 - a) → (b + 1 - a - q < fu_10) → ∀ (H : Heap) (locs : List Loc), qh_H G z M E sZ.heap H locs → ∀ ls : Array Slot, lv_has ls 6 [(0, .ref (z + 63)), (1, .int (nI a)), (2, .int (nI b)), (3, .long (minS f a q)), (5, .int (nI (a + q)))] → W pZ l eZ RR sZ mZ aZ bZ tZ cZ H locs 0 0 QQ (F0 mZ 10 ls []) := by
    intro fu_10
    induction fu_10 with
    | zero =>
      intro q hq hfuel
      exact absurd hfuel (by omega)
    | succ fu_10 ih_10 =>
      intro q hq hfuel H locs hH ls hl
      refine lv_iload hx hb dX9_leastOf_10 (lv_at hl 4 rfl) ?_
      refine lv_iload_n hx hb dX9_leastOf_12 rfl (lv_at hl 2 rfl) ?_
      refine lv_icmp_gt (tgt := 46) hx hb dX9_leastOf_13 (by decide) (fun c_13 => ?_) (fun c_13 => ?_)
      · have hk : b < a + q := (nI_ltI (by omega) (by omega)).mp c_13
        have hend := minS_end f hab.1
        have hex : b + 1 - a = q := by omega
        subst hex
        refine lv_lload_n hx hb dX9_leastOf_46 rfl (lv_at hl 3 rfl) ?_
        exact hret dX9_leastOf_47 hH (⟨rfl, hend⟩)
      · have hk : ¬ b < a + q := fun w => c_13 (nI_lt w (by omega))
        refine lv_aload_n hx hb dX9_leastOf_16 rfl (lv_at hl 0 rfl) ?_
        refine qh_get hx hb hH f_19 (by omega) b_63 rfl dX9_leastOf_17 ?_
        refine lv_iload hx hb dX9_leastOf_20 (lv_at hl 4 rfl) ?_
        refine qh_lald hx hb hK hH (by omega) b_67 (j := a + q) (rfl) (by omega) (by omega) dX9_leastOf_22 ?_
        refine lv_lload_n hx hb dX9_leastOf_23 rfl (lv_at hl 3 rfl) ?_
        refine W.lcmp hx hb dX9_leastOf_24 ?_
        refine lv_if_ge (tgt := 38) hx hb dX9_leastOf_25 (by decide) (fun c_25 => ?_) (fun c_25 => ?_)
        · have c_25 := (lg_cmp_ge _ _).mp c_25
          refine lv_lload_n hx hb dX9_leastOf_38 rfl (lv_at hl 3 rfl) ?_
          refine lv_lstore_n (lv' := [(3, .long (minS f a q)), (0, .ref (z + 63)), (1, .int (nI a)), (2, .int (nI b)), (5, .int (nI (a + q)))]) hx hb dX9_leastOf_39 rfl hl (by decide) rfl (fun ls hl => ?_)
          refine lv_iinc (v := nI ((a + q) + 1)) (lv' := [(5, .int (nI ((a + q) + 1))), (3, .long (minS f a q)), (0, .ref (z + 63)), (1, .int (nI a)), (2, .int (nI b))]) hx hb dX9_leastOf_40 hl (k := 4) rfl (qn_inc (a + q)) (by decide) rfl (fun ls hl => ?_)
          refine lv_goto (tgt := 10) hx hb dX9_leastOf_43 (by decide) ?_
          rw [← minS_n c_25] at hl
          exact ih_10 (q + 1) (by omega) (by omega) _ _ hH ls (lv_sub hl [2, 3, 4, 1, 0] rfl)
        · have c_25 := (not_congr (lg_cmp_ge _ _)).mp c_25
          refine lv_aload_n hx hb dX9_leastOf_28 rfl (lv_at hl 0 rfl) ?_
          refine qh_get hx hb hH f_19 (by omega) b_63 rfl dX9_leastOf_29 ?_
          refine lv_iload hx hb dX9_leastOf_32 (lv_at hl 4 rfl) ?_
          refine qh_lald hx hb hK hH (by omega) b_67 (j := a + q) (rfl) (by omega) (by omega) dX9_leastOf_34 ?_
          refine lv_goto (tgt := 39) hx hb dX9_leastOf_35 (by decide) ?_
          refine lv_lstore_n (lv' := [(3, .long (f (a + q))), (0, .ref (z + 63)), (1, .int (nI a)), (2, .int (nI b)), (5, .int (nI (a + q)))]) hx hb dX9_leastOf_39 rfl hl (by decide) rfl (fun ls hl => ?_)
          refine lv_iinc (v := nI ((a + q) + 1)) (lv' := [(5, .int (nI ((a + q) + 1))), (3, .long (f (a + q))), (0, .ref (z + 63)), (1, .int (nI a)), (2, .int (nI b))]) hx hb dX9_leastOf_40 hl (k := 4) rfl (qn_inc (a + q)) (by decide) rfl (fun ls hl => ?_)
          refine lv_goto (tgt := 10) hx hb dX9_leastOf_43 (by decide) ?_
          rw [← minS_y c_25] at hl
          exact ih_10 (q + 1) (by omega) (by omega) _ _ hH ls (lv_sub hl [2, 3, 4, 1, 0] rfl)
  exact L_10 (b + 1 - a + 1) 0 (Nat.zero_le _) (by omega) _ _ hH ls (lv_sub hl [2, 3, 4, 1, 0] rfl)

set_option maxHeartbeats 1000000 in
set_option maxRecDepth 100000 in
theorem c_X9_greatestEver (l : Launch) (G : qh_G) (z M : Nat) (E : Nat → va_E) (fa : Int32) (tm : Int32) (n : Nat) (m2 : Nat) (ln : Nat) (pt : Int32) (rm : Int32) (rh : Int32) (sf : Int32) (sl : Int32) (rn : Nat) (hM : 84 ≤ M) (b_63 : E 63 = .inr (9, [.int fa, .int tm, .ref (z + 64), .ref (z + 65), .ref (z + 66), .int (nI n), .int (nI m2), .ref (z + 67), .ref (z + 68), .ref (z + 69), .ref (z + 70), .ref (z + 71), .int (nI ln), .ref (z + 72), .ref (z + 73), .ref (z + 74), .ref (z + 75), .int pt, .int rm, .int rh, .ref (z + 76), .ref (z + 77), .ref (z + 78), .ref (z + 79), .ref (z + 80), .int sf, .int sl, .ref (z + 81), .int (nI rn), .ref (z + 82), .ref (z + 83)])) (a : Nat) (b : Nat) (f : Nat → Int64) (hab : a ≤ b ∧ b < 16) (b_68 : E 68 = qa_J G 16 f) : Met l yX9_greatestEver wsX9_greatestEver (qh_R 0) (qh_Pre G z M E [.ref (z + 63), .int (nI a), .int (nI b)]) (qh_Q G z M (qh_l (fun r E' => E = E' ∧ r = maxR f a (b - a)))) 0 0 (fun q => z ≤ q) := by
  refine qh_metL (cc := cX9_greatestEver) (maxL := 6) (by decide) rfl (Nat.le_of_ble_eq_true rfl) ?_
  intro pZ eZ sZ mZ aZ bZ tZ cZ RR QQ ls hx hb hml hown hts hRf hRl hH hK hl hret
  have hown : sZ.vm.findClass RX9 = some mZ.cls := hown
  have hl : lv_has ls 6 [(0, .ref (z + 63)), (1, .int (nI a)), (2, .int (nI b))] := hl
  have in_X9 : ∀ w ∈ wsX90, w ∈ wsX9_greatestEver := fun w h => List.mem_cons_of_mem _ (List.mem_append_right _ h)
  have f_23 : qh_F G sZ mZ aZ 23 9 8 := qh_F.of hts in_X9 hown hK rfl 8 (by decide) (by decide +kernel)
  refine lv_aload_n hx hb dX9_greatestEver_0 rfl (lv_at hl 0 rfl) ?_
  refine qh_get hx hb hH f_23 (by omega) b_63 rfl dX9_greatestEver_1 ?_
  refine lv_iload_n hx hb dX9_greatestEver_4 rfl (lv_at hl 1 rfl) ?_
  refine qh_lald hx hb hK hH (by omega) b_68 (j := a) (rfl) (by omega) (by omega) dX9_greatestEver_5 ?_
  refine lv_lstore_n (lv' := [(3, .long (f a)), (0, .ref (z + 63)), (1, .int (nI a)), (2, .int (nI b))]) hx hb dX9_greatestEver_6 rfl hl (by decide) rfl (fun ls hl => ?_)
  refine lv_iload_n hx hb dX9_greatestEver_7 rfl (lv_at hl 2 rfl) ?_
  refine lv_istore (lv' := [(5, .int (nI a)), (3, .long (f a)), (0, .ref (z + 63)), (1, .int (nI a)), (2, .int (nI b))]) hx hb dX9_greatestEver_8 hl (by decide) rfl (fun ls hl => ?_)
  have L_10 : ∀ fu_10 : Nat, ∀ q : Nat, (q ≤ b + 1 - a) → (b + 1 - a - q < fu_10) → ∀ (H : Heap) (locs : List Loc), qh_H G z M E sZ.heap H locs → ∀ ls : Array Slot, lv_has ls 6 [(0, .ref (z + 63)), (1, .int (nI a)), (2, .int (nI b)), (3, .long (maxS f a q)), (5, .int (nI (a + q)))] → W pZ l eZ RR sZ mZ aZ bZ tZ cZ H locs 0 0 QQ (F0 mZ 10 ls []) := by
    intro fu_10
    induction fu_10 with
    | zero =>
      intro q hq hfuel
      exact absurd hfuel (by omega)
    | succ fu_10 ih_10 =>
      intro q hq hfuel H locs hH ls hl
      refine lv_iload hx hb dX9_greatestEver_10 (lv_at hl 4 rfl) ?_
      refine lv_iload_n hx hb dX9_greatestEver_12 rfl (lv_at hl 2 rfl) ?_
      refine lv_icmp_gt (tgt := 46) hx hb dX9_greatestEver_13 (by decide) (fun c_13 => ?_) (fun c_13 => ?_)
      · have hk : b < a + q := (nI_ltI (by omega) (by omega)).mp c_13
        have hend := maxS_end f hab.1
        have hex : b + 1 - a = q := by omega
        subst hex
        refine lv_lload_n hx hb dX9_greatestEver_46 rfl (lv_at hl 3 rfl) ?_
        exact hret dX9_greatestEver_47 hH (⟨rfl, hend⟩)
      · have hk : ¬ b < a + q := fun w => c_13 (nI_lt w (by omega))
        refine lv_aload_n hx hb dX9_greatestEver_16 rfl (lv_at hl 0 rfl) ?_
        refine qh_get hx hb hH f_23 (by omega) b_63 rfl dX9_greatestEver_17 ?_
        refine lv_iload hx hb dX9_greatestEver_20 (lv_at hl 4 rfl) ?_
        refine qh_lald hx hb hK hH (by omega) b_68 (j := a + q) (rfl) (by omega) (by omega) dX9_greatestEver_22 ?_
        refine lv_lload_n hx hb dX9_greatestEver_23 rfl (lv_at hl 3 rfl) ?_
        refine W.lcmp hx hb dX9_greatestEver_24 ?_
        refine lv_if_le (tgt := 38) hx hb dX9_greatestEver_25 (by decide) (fun c_25 => ?_) (fun c_25 => ?_)
        · have c_25 := (lg_cmp_le _ _).mp c_25
          refine lv_lload_n hx hb dX9_greatestEver_38 rfl (lv_at hl 3 rfl) ?_
          refine lv_lstore_n (lv' := [(3, .long (maxS f a q)), (0, .ref (z + 63)), (1, .int (nI a)), (2, .int (nI b)), (5, .int (nI (a + q)))]) hx hb dX9_greatestEver_39 rfl hl (by decide) rfl (fun ls hl => ?_)
          refine lv_iinc (v := nI ((a + q) + 1)) (lv' := [(5, .int (nI ((a + q) + 1))), (3, .long (maxS f a q)), (0, .ref (z + 63)), (1, .int (nI a)), (2, .int (nI b))]) hx hb dX9_greatestEver_40 hl (k := 4) rfl (qn_inc (a + q)) (by decide) rfl (fun ls hl => ?_)
          refine lv_goto (tgt := 10) hx hb dX9_greatestEver_43 (by decide) ?_
          rw [← maxS_n c_25] at hl
          exact ih_10 (q + 1) (by omega) (by omega) _ _ hH ls (lv_sub hl [2, 3, 4, 1, 0] rfl)
        · have c_25 := (not_congr (lg_cmp_le _ _)).mp c_25
          refine lv_aload_n hx hb dX9_greatestEver_28 rfl (lv_at hl 0 rfl) ?_
          refine qh_get hx hb hH f_23 (by omega) b_63 rfl dX9_greatestEver_29 ?_
          refine lv_iload hx hb dX9_greatestEver_32 (lv_at hl 4 rfl) ?_
          refine qh_lald hx hb hK hH (by omega) b_68 (j := a + q) (rfl) (by omega) (by omega) dX9_greatestEver_34 ?_
          refine lv_goto (tgt := 39) hx hb dX9_greatestEver_35 (by decide) ?_
          refine lv_lstore_n (lv' := [(3, .long (f (a + q))), (0, .ref (z + 63)), (1, .int (nI a)), (2, .int (nI b)), (5, .int (nI (a + q)))]) hx hb dX9_greatestEver_39 rfl hl (by decide) rfl (fun ls hl => ?_)
          refine lv_iinc (v := nI ((a + q) + 1)) (lv' := [(5, .int (nI ((a + q) + 1))), (3, .long (f (a + q))), (0, .ref (z + 63)), (1, .int (nI a)), (2, .int (nI b))]) hx hb dX9_greatestEver_40 hl (k := 4) rfl (qn_inc (a + q)) (by decide) rfl (fun ls hl => ?_)
          refine lv_goto (tgt := 10) hx hb dX9_greatestEver_43 (by decide) ?_
          rw [← maxS_y c_25] at hl
          exact ih_10 (q + 1) (by omega) (by omega) _ _ hH ls (lv_sub hl [2, 3, 4, 1, 0] rfl)
  exact L_10 (b + 1 - a + 1) 0 (Nat.zero_le _) (by omega) _ _ hH ls (lv_sub hl [2, 3, 4, 1, 0] rfl)

set_option maxHeartbeats 1000000 in
set_option maxRecDepth 100000 in
theorem c_X9_manyGreatest (l : Launch) (G : qh_G) (z M : Nat) (E : Nat → va_E) (fa : Int32) (tm : Int32) (n : Nat) (m2 : Nat) (ln : Nat) (pt : Int32) (rm : Int32) (rh : Int32) (sf : Int32) (sl : Int32) (rn : Nat) (hM : 84 ≤ M) (b_63 : E 63 = .inr (9, [.int fa, .int tm, .ref (z + 64), .ref (z + 65), .ref (z + 66), .int (nI n), .int (nI m2), .ref (z + 67), .ref (z + 68), .ref (z + 69), .ref (z + 70), .ref (z + 71), .int (nI ln), .ref (z + 72), .ref (z + 73), .ref (z + 74), .ref (z + 75), .int pt, .int rm, .int rh, .ref (z + 76), .ref (z + 77), .ref (z + 78), .ref (z + 79), .ref (z + 80), .int sf, .int sl, .ref (z + 81), .int (nI rn), .ref (z + 82), .ref (z + 83)])) (a : Nat) (b : Nat) (f : Nat → Int64) (hab : a ≤ b ∧ b < 16) (b_67 : E 67 = qa_J G 16 f) : Met l yX9_manyGreatest wsX9_manyGreatest (qh_R 1) (qh_Pre G z M E [.ref (z + 63), .int (nI a), .int (nI b)]) (qh_Q G z M (qh_i (fun r E' => E = E' ∧ r = nI (cntR (fun k => decide (¬ f k < maxR f a (b - a))) a (b + 1 - a))))) 0 0 (fun q => z ≤ q) := by
  refine qh_metI (cc := cX9_manyGreatest) (maxL := 7) (by decide) rfl (Nat.le_of_ble_eq_true rfl) ?_
  intro pZ eZ sZ mZ aZ bZ tZ cZ RR QQ ls hx hb hml hown hts hRf hRl hH hK hl hret
  have hown : sZ.vm.findClass RX9 = some mZ.cls := hown
  have hl : lv_has ls 7 [(0, .ref (z + 63)), (1, .int (nI a)), (2, .int (nI b))] := hl
  have in_X9 : ∀ w ∈ wsX90, w ∈ wsX9_manyGreatest := fun w h => List.mem_cons_of_mem _ (List.mem_append_right _ h)
  have f_19 : qh_F G sZ mZ aZ 19 9 7 := qh_F.of hts in_X9 hown hK rfl 7 (by decide) (by decide +kernel)
  refine lv_aload_n hx hb dX9_manyGreatest_0 rfl (lv_at hl 0 rfl) ?_
  refine lv_iload_n hx hb dX9_manyGreatest_1 rfl (lv_at hl 1 rfl) ?_
  refine lv_iload_n hx hb dX9_manyGreatest_2 rfl (lv_at hl 2 rfl) ?_
  refine qh_runV (As := [.int (nI a), .int (nI b)]) (rest := []) (C := RX9) ⟨hx, hb, hml, hown, hts⟩ hK hH (c_X9_greatestOf l G z M E fa tm n m2 ln pt rm rh sf sl rn (hM) b_63 a b f (⟨hab.1, hab.2⟩) b_67) (cwV 2 hts gX9_manyGreatest_X9_greatestOf rfl rfl rfl (by decide +kernel) (by rw [hRf, hRl]; exact ⟨Nat.le_of_ble_eq_true rfl, Nat.le_of_ble_eq_true rfl⟩)) (by omega) b_63 rfl rfl hl.1 rfl (Nat.le_of_ble_eq_true rfl) dX9_manyGreatest_3 ⟨Nat.zero_le _, Nat.zero_le _⟩ (qh_kkl fun r_3 E_1 H locs hpost hH => ?_)
  obtain ⟨rfl, rfl⟩ := hpost
  refine lv_lstore_n (lv' := [(3, .long (maxR f a (b - a))), (0, .ref (z + 63)), (1, .int (nI a)), (2, .int (nI b))]) hx hb dX9_manyGreatest_6 rfl hl (by decide) rfl (fun ls hl => ?_)
  refine lv_iconst (v := 0) hx hb dX9_manyGreatest_7 (by decide) ?_
  refine lv_istore (lv' := [(5, .int 0), (3, .long (maxR f a (b - a))), (0, .ref (z + 63)), (1, .int (nI a)), (2, .int (nI b))]) hx hb dX9_manyGreatest_8 hl (by decide) rfl (fun ls hl => ?_)
  refine lv_iload_n hx hb dX9_manyGreatest_10 rfl (lv_at hl 3 rfl) ?_
  refine lv_istore (lv' := [(6, .int (nI a)), (5, .int 0), (3, .long (maxR f a (b - a))), (0, .ref (z + 63)), (1, .int (nI a)), (2, .int (nI b))]) hx hb dX9_manyGreatest_11 hl (by decide) rfl (fun ls hl => ?_)
  have L_13 : ∀ fu_13 : Nat, ∀ q : Nat, (q ≤ b + 1 - a) → (b + 1 - a - q < fu_13) → ∀ (H : Heap) (locs : List Loc), qh_H G z M E sZ.heap H locs → ∀ ls : Array Slot, lv_has ls 7 [(0, .ref (z + 63)), (1, .int (nI a)), (2, .int (nI b)), (3, .long (maxR f a (b - a))), (5, .int (nI (cntR (fun k => decide (f k = maxR f a (b - a))) a q))), (6, .int (nI (a + q)))] → W pZ l eZ RR sZ mZ aZ bZ tZ cZ H locs 0 0 QQ (F0 mZ 13 ls []) := by
    intro fu_13
    induction fu_13 with
    | zero =>
      intro q hq hfuel
      exact absurd hfuel (by omega)
    | succ fu_13 ih_13 =>
      intro q hq hfuel H locs hH ls hl
      refine lv_iload hx hb dX9_manyGreatest_13 (lv_at hl 5 rfl) ?_
      refine lv_iload_n hx hb dX9_manyGreatest_15 rfl (lv_at hl 2 rfl) ?_
      refine lv_icmp_gt (tgt := 47) hx hb dX9_manyGreatest_16 (by decide) (fun c_16 => ?_) (fun c_16 => ?_)
      · have hk : b < a + q := (nI_ltI (by omega) (by omega)).mp c_16
        have hex : b + 1 - a = q := by omega
        subst hex
        refine lv_iload hx hb dX9_manyGreatest_47 (lv_at hl 4 rfl) ?_
        exact hret dX9_manyGreatest_49 hH (⟨rfl, by rw [cnt_max hab.1]⟩)
      · have hk : ¬ b < a + q := fun w => c_16 (nI_lt w (by omega))
        refine lv_iload hx hb dX9_manyGreatest_19 (lv_at hl 4 rfl) ?_
        refine lv_aload_n hx hb dX9_manyGreatest_21 rfl (lv_at hl 0 rfl) ?_
        refine qh_get hx hb hH f_19 (by omega) b_63 rfl dX9_manyGreatest_22 ?_
        refine lv_iload hx hb dX9_manyGreatest_25 (lv_at hl 5 rfl) ?_
        refine qh_lald hx hb hK hH (by omega) b_67 (j := a + q) (rfl) (by omega) (by omega) dX9_manyGreatest_27 ?_
        refine lv_lload_n hx hb dX9_manyGreatest_28 rfl (lv_at hl 3 rfl) ?_
        refine W.lcmp hx hb dX9_manyGreatest_29 ?_
        refine lv_if_ne (tgt := 37) hx hb dX9_manyGreatest_30 (by decide) (fun c_30 => ?_) (fun c_30 => ?_)
        · have c_30 := (lg_cmp_ne _ _).mp c_30
          refine lv_iconst (v := 0) hx hb dX9_manyGreatest_37 (by decide) ?_
          refine lv_iadd hx hb dX9_manyGreatest_38 ?_
          refine qh_topi (y := nI (cntR (fun k => decide (f k = maxR f a (b - a))) a q)) (Int32.add_zero _) ?_
          refine lv_istore (lv' := [(5, .int (nI (cntR (fun k => decide (f k = maxR f a (b - a))) a q))), (0, .ref (z + 63)), (1, .int (nI a)), (2, .int (nI b)), (3, .long (maxR f a (b - a))), (6, .int (nI (a + q)))]) hx hb dX9_manyGreatest_39 hl (by decide) rfl (fun ls hl => ?_)
          refine lv_iinc (v := nI ((a + q) + 1)) (lv' := [(6, .int (nI ((a + q) + 1))), (5, .int (nI (cntR (fun k => decide (f k = maxR f a (b - a))) a q))), (0, .ref (z + 63)), (1, .int (nI a)), (2, .int (nI b)), (3, .long (maxR f a (b - a)))]) hx hb dX9_manyGreatest_41 hl (k := 5) rfl (qn_inc (a + q)) (by decide) rfl (fun ls hl => ?_)
          refine lv_goto (tgt := 13) hx hb dX9_manyGreatest_44 (by decide) ?_
          rw [← cnt_n (q := (fun k => decide (f k = maxR f a (b - a)))) (by simp [c_30])] at hl
          exact ih_13 (q + 1) (by omega) (by omega) _ _ hH ls (lv_sub hl [2, 3, 4, 5, 1, 0] rfl)
        · have c_30 := (lg_cmp_eq _ _).mp c_30
          refine lv_iconst (v := 1) hx hb dX9_manyGreatest_33 (by decide) ?_
          refine lv_goto (tgt := 38) hx hb dX9_manyGreatest_34 (by decide) ?_
          refine lv_iadd hx hb dX9_manyGreatest_38 ?_
          refine qh_topi (y := nI (cntR (fun k => decide (f k = maxR f a (b - a))) a q + 1)) (nI_1 _) ?_
          refine lv_istore (lv' := [(5, .int (nI (cntR (fun k => decide (f k = maxR f a (b - a))) a q + 1))), (0, .ref (z + 63)), (1, .int (nI a)), (2, .int (nI b)), (3, .long (maxR f a (b - a))), (6, .int (nI (a + q)))]) hx hb dX9_manyGreatest_39 hl (by decide) rfl (fun ls hl => ?_)
          refine lv_iinc (v := nI ((a + q) + 1)) (lv' := [(6, .int (nI ((a + q) + 1))), (5, .int (nI (cntR (fun k => decide (f k = maxR f a (b - a))) a q + 1))), (0, .ref (z + 63)), (1, .int (nI a)), (2, .int (nI b)), (3, .long (maxR f a (b - a)))]) hx hb dX9_manyGreatest_41 hl (k := 5) rfl (qn_inc (a + q)) (by decide) rfl (fun ls hl => ?_)
          refine lv_goto (tgt := 13) hx hb dX9_manyGreatest_44 (by decide) ?_
          rw [← cnt_y (q := (fun k => decide (f k = maxR f a (b - a)))) (by simp [c_30])] at hl
          exact ih_13 (q + 1) (by omega) (by omega) _ _ hH ls (lv_sub hl [2, 3, 4, 5, 1, 0] rfl)
  exact L_13 (b + 1 - a + 1) 0 (Nat.zero_le _) (by omega) _ _ hH ls (lv_sub hl [3, 4, 5, 2, 1, 0] rfl)

set_option maxHeartbeats 1000000 in
set_option maxRecDepth 100000 in
theorem c_X9_secondOf (l : Launch) (G : qh_G) (z M : Nat) (E : Nat → va_E) (fa : Int32) (tm : Int32) (n : Nat) (m2 : Nat) (ln : Nat) (pt : Int32) (rm : Int32) (rh : Int32) (sf : Int32) (sl : Int32) (rn : Nat) (hM : 84 ≤ M) (b_63 : E 63 = .inr (9, [.int fa, .int tm, .ref (z + 64), .ref (z + 65), .ref (z + 66), .int (nI n), .int (nI m2), .ref (z + 67), .ref (z + 68), .ref (z + 69), .ref (z + 70), .ref (z + 71), .int (nI ln), .ref (z + 72), .ref (z + 73), .ref (z + 74), .ref (z + 75), .int pt, .int rm, .int rh, .ref (z + 76), .ref (z + 77), .ref (z + 78), .ref (z + 79), .ref (z + 80), .int sf, .int sl, .ref (z + 81), .int (nI rn), .ref (z + 82), .ref (z + 83)])) (a : Nat) (b : Nat) (f : Nat → Int64) (hab : a ≤ b ∧ b < 16) (b_67 : E 67 = qa_J G 16 f) : Met l yX9_secondOf wsX9_secondOf (qh_R 1) (qh_Pre G z M E [.ref (z + 63), .int (nI a), .int (nI b)]) (qh_Q G z M (qh_l (fun r E' => E = E' ∧ r = secR f (maxR f a (b - a)) a (b + 1 - a)))) 0 0 (fun q => z ≤ q) := by
  refine qh_metL (cc := cX9_secondOf) (maxL := 8) (by decide) rfl (Nat.le_of_ble_eq_true rfl) ?_
  intro pZ eZ sZ mZ aZ bZ tZ cZ RR QQ ls hx hb hml hown hts hRf hRl hH hK hl hret
  have hown : sZ.vm.findClass RX9 = some mZ.cls := hown
  have hl : lv_has ls 8 [(0, .ref (z + 63)), (1, .int (nI a)), (2, .int (nI b))] := hl
  have in_X9 : ∀ w ∈ wsX90, w ∈ wsX9_secondOf := fun w h => List.mem_cons_of_mem _ (List.mem_append_right _ h)
  have k_75 := hts (.constantLong RX9 75 (-9223372036854775808)) (by decide +kernel)
  have f_19 : qh_F G sZ mZ aZ 19 9 7 := qh_F.of hts in_X9 hown hK rfl 7 (by decide) (by decide +kernel)
  refine lv_aload_n hx hb dX9_secondOf_0 rfl (lv_at hl 0 rfl) ?_
  refine lv_iload_n hx hb dX9_secondOf_1 rfl (lv_at hl 1 rfl) ?_
  refine lv_iload_n hx hb dX9_secondOf_2 rfl (lv_at hl 2 rfl) ?_
  refine qh_runV (As := [.int (nI a), .int (nI b)]) (rest := []) (C := RX9) ⟨hx, hb, hml, hown, hts⟩ hK hH (c_X9_greatestOf l G z M E fa tm n m2 ln pt rm rh sf sl rn (hM) b_63 a b f (⟨hab.1, hab.2⟩) b_67) (cwV 2 hts gX9_secondOf_X9_greatestOf rfl rfl rfl (by decide +kernel) (by rw [hRf, hRl]; exact ⟨Nat.le_of_ble_eq_true rfl, Nat.le_of_ble_eq_true rfl⟩)) (by omega) b_63 rfl rfl hl.1 rfl (Nat.le_of_ble_eq_true rfl) dX9_secondOf_3 ⟨Nat.zero_le _, Nat.zero_le _⟩ (qh_kkl fun r_3 E_1 H locs hpost hH => ?_)
  obtain ⟨rfl, rfl⟩ := hpost
  refine lv_lstore_n (lv' := [(3, .long (maxR f a (b - a))), (0, .ref (z + 63)), (1, .int (nI a)), (2, .int (nI b))]) hx hb dX9_secondOf_6 rfl hl (by decide) rfl (fun ls hl => ?_)
  refine lv_ldc2 hx hb hown k_75 dX9_secondOf_7 ?_
  refine qh_topl (y := LOSTv) (rfl) ?_
  refine lv_lstore (lv' := [(5, .long LOSTv), (3, .long (maxR f a (b - a))), (0, .ref (z + 63)), (1, .int (nI a)), (2, .int (nI b))]) hx hb dX9_secondOf_10 hl (by decide) rfl (fun ls hl => ?_)
  refine lv_iload_n hx hb dX9_secondOf_12 rfl (lv_at hl 3 rfl) ?_
  refine lv_istore (lv' := [(7, .int (nI a)), (5, .long LOSTv), (3, .long (maxR f a (b - a))), (0, .ref (z + 63)), (1, .int (nI a)), (2, .int (nI b))]) hx hb dX9_secondOf_13 hl (by decide) rfl (fun ls hl => ?_)
  have L_15 : ∀ fu_15 : Nat, ∀ q : Nat, (q ≤ b + 1 - a) → (b + 1 - a - q < fu_15) → ∀ (H : Heap) (locs : List Loc), qh_H G z M E sZ.heap H locs → ∀ ls : Array Slot, lv_has ls 8 [(0, .ref (z + 63)), (1, .int (nI a)), (2, .int (nI b)), (3, .long (maxR f a (b - a))), (5, .long (secR f (maxR f a (b - a)) a q)), (7, .int (nI (a + q)))] → W pZ l eZ RR sZ mZ aZ bZ tZ cZ H locs 0 0 QQ (F0 mZ 15 ls []) := by
    intro fu_15
    induction fu_15 with
    | zero =>
      intro q hq hfuel
      exact absurd hfuel (by omega)
    | succ fu_15 ih_15 =>
      intro q hq hfuel H locs hH ls hl
      refine lv_iload hx hb dX9_secondOf_15 (lv_at hl 5 rfl) ?_
      refine lv_iload_n hx hb dX9_secondOf_17 rfl (lv_at hl 2 rfl) ?_
      refine lv_icmp_gt (tgt := 66) hx hb dX9_secondOf_18 (by decide) (fun c_18 => ?_) (fun c_18 => ?_)
      · have hk : b < a + q := (nI_ltI (by omega) (by omega)).mp c_18
        have hex : b + 1 - a = q := by omega
        subst hex
        refine lv_lload hx hb dX9_secondOf_66 (lv_at hl 4 rfl) ?_
        exact hret dX9_secondOf_68 hH (⟨rfl, rfl⟩)
      · have hk : ¬ b < a + q := fun w => c_18 (nI_lt w (by omega))
        refine lv_aload_n hx hb dX9_secondOf_21 rfl (lv_at hl 0 rfl) ?_
        refine qh_get hx hb hH f_19 (by omega) b_63 rfl dX9_secondOf_22 ?_
        refine lv_iload hx hb dX9_secondOf_25 (lv_at hl 5 rfl) ?_
        refine qh_lald hx hb hK hH (by omega) b_67 (j := a + q) (rfl) (by omega) (by omega) dX9_secondOf_27 ?_
        refine lv_lload_n hx hb dX9_secondOf_28 rfl (lv_at hl 3 rfl) ?_
        refine W.lcmp hx hb dX9_secondOf_29 ?_
        refine lv_if_ge (tgt := 56) hx hb dX9_secondOf_30 (by decide) (fun c_30 => ?_) (fun c_30 => ?_)
        · have c_30 := (lg_cmp_ge _ _).mp c_30
          refine lv_lload hx hb dX9_secondOf_56 (lv_at hl 4 rfl) ?_
          refine lv_lstore (lv' := [(5, .long (secR f (maxR f a (b - a)) a q)), (0, .ref (z + 63)), (1, .int (nI a)), (2, .int (nI b)), (3, .long (maxR f a (b - a))), (7, .int (nI (a + q)))]) hx hb dX9_secondOf_58 hl (by decide) rfl (fun ls hl => ?_)
          refine lv_iinc (v := nI ((a + q) + 1)) (lv' := [(7, .int (nI ((a + q) + 1))), (5, .long (secR f (maxR f a (b - a)) a q)), (0, .ref (z + 63)), (1, .int (nI a)), (2, .int (nI b)), (3, .long (maxR f a (b - a)))]) hx hb dX9_secondOf_60 hl (k := 5) rfl (qn_inc (a + q)) (by decide) rfl (fun ls hl => ?_)
          refine lv_goto (tgt := 15) hx hb dX9_secondOf_63 (by decide) ?_
          rw [← sec_n c_30] at hl
          exact ih_15 (q + 1) (by omega) (by omega) _ _ hH ls (lv_sub hl [2, 3, 4, 5, 1, 0] rfl)
        · have c_30 := (not_congr (lg_cmp_ge _ _)).mp c_30
          refine lv_aload_n hx hb dX9_secondOf_33 rfl (lv_at hl 0 rfl) ?_
          refine qh_get hx hb hH f_19 (by omega) b_63 rfl dX9_secondOf_34 ?_
          refine lv_iload hx hb dX9_secondOf_37 (lv_at hl 5 rfl) ?_
          refine qh_lald hx hb hK hH (by omega) b_67 (j := a + q) (rfl) (by omega) (by omega) dX9_secondOf_39 ?_
          refine lv_lload hx hb dX9_secondOf_40 (lv_at hl 4 rfl) ?_
          refine W.lcmp hx hb dX9_secondOf_42 ?_
          refine lv_if_le (tgt := 56) hx hb dX9_secondOf_43 (by decide) (fun c_43 => ?_) (fun c_43 => ?_)
          · have c_43 := (lg_cmp_le _ _).mp c_43
            refine lv_lload hx hb dX9_secondOf_56 (lv_at hl 4 rfl) ?_
            refine lv_lstore (lv' := [(5, .long (secR f (maxR f a (b - a)) a q)), (0, .ref (z + 63)), (1, .int (nI a)), (2, .int (nI b)), (3, .long (maxR f a (b - a))), (7, .int (nI (a + q)))]) hx hb dX9_secondOf_58 hl (by decide) rfl (fun ls hl => ?_)
            refine lv_iinc (v := nI ((a + q) + 1)) (lv' := [(7, .int (nI ((a + q) + 1))), (5, .long (secR f (maxR f a (b - a)) a q)), (0, .ref (z + 63)), (1, .int (nI a)), (2, .int (nI b)), (3, .long (maxR f a (b - a)))]) hx hb dX9_secondOf_60 hl (k := 5) rfl (qn_inc (a + q)) (by decide) rfl (fun ls hl => ?_)
            refine lv_goto (tgt := 15) hx hb dX9_secondOf_63 (by decide) ?_
            rw [← sec_n2 c_30 c_43] at hl
            exact ih_15 (q + 1) (by omega) (by omega) _ _ hH ls (lv_sub hl [2, 3, 4, 5, 1, 0] rfl)
          · have c_43 := (not_congr (lg_cmp_le _ _)).mp c_43
            refine lv_aload_n hx hb dX9_secondOf_46 rfl (lv_at hl 0 rfl) ?_
            refine qh_get hx hb hH f_19 (by omega) b_63 rfl dX9_secondOf_47 ?_
            refine lv_iload hx hb dX9_secondOf_50 (lv_at hl 5 rfl) ?_
            refine qh_lald hx hb hK hH (by omega) b_67 (j := a + q) (rfl) (by omega) (by omega) dX9_secondOf_52 ?_
            refine lv_goto (tgt := 58) hx hb dX9_secondOf_53 (by decide) ?_
            refine lv_lstore (lv' := [(5, .long (f (a + q))), (0, .ref (z + 63)), (1, .int (nI a)), (2, .int (nI b)), (3, .long (maxR f a (b - a))), (7, .int (nI (a + q)))]) hx hb dX9_secondOf_58 hl (by decide) rfl (fun ls hl => ?_)
            refine lv_iinc (v := nI ((a + q) + 1)) (lv' := [(7, .int (nI ((a + q) + 1))), (5, .long (f (a + q))), (0, .ref (z + 63)), (1, .int (nI a)), (2, .int (nI b)), (3, .long (maxR f a (b - a)))]) hx hb dX9_secondOf_60 hl (k := 5) rfl (qn_inc (a + q)) (by decide) rfl (fun ls hl => ?_)
            refine lv_goto (tgt := 15) hx hb dX9_secondOf_63 (by decide) ?_
            rw [← sec_y2 c_30 c_43] at hl
            exact ih_15 (q + 1) (by omega) (by omega) _ _ hH ls (lv_sub hl [2, 3, 4, 5, 1, 0] rfl)
  exact L_15 (b + 1 - a + 1) 0 (Nat.zero_le _) (by omega) _ _ hH ls (lv_sub hl [3, 4, 5, 2, 1, 0] rfl)
