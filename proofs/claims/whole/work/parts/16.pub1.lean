/-! the class's world: what its cells hold, by the numbers that matter; what is only scratch is any -/
def shR (z : Nat) : Nat → Option Nat := fun k => some (z + (55 + 2 * k))
def XE (G : qh_G) (z : Nat) (E : Nat → va_E) (tr : Int32) (lf : Int32) (n : Nat) (f : Nat → Int64) (g : Nat → Int64) (bf : Nat → Int64) (m2 : Nat) (kd : Nat → Int32) (pa : Nat → Int32) (ln : Nat) (ts : Nat → Int32) (ga : Nat → Nat) (gb : Nat → Nat) (va : Nat → Int64) (rn : Nat) (cn : Nat → Nat) (vs : Nat → Int64) (hr : Nat → Int32) (la : Nat → Int32) (lg : Nat → Nat) (sc : Nat → Nat → Int32) : Prop := ∃ (tc : Int32) (dg : Nat → Int32) (hn0 : Int32) (tk : Nat → Int32) (tp : Nat → Int32) (gn : Int32) (gk : Nat → Int32) (gp : Nat → Int32) (t0 : Int32) (a0 : Int32) (b0 : Int32) (v0 : Int64) (bg : Nat → Int64) (tn : Int32) (tf : Nat → Int64) (tg : Nat → Int64), E 0 = .inr (8, [.ref (z + 1), .ref (z + 2), .ref (z + 7), .ref (z + 10), .ref (z + 13), .ref (z + 39), .ref (z + 40), .ref (z + 43), .ref (z + 46), .ref (z + 49), .ref (z + 52), .int tr, .int lf]) ∧ E 1 = qa_S G 4 (shR z) ∧ E 2 = .inr (7, [.int tc, .ref (z + 3), .ref (z + 4)]) ∧ E 3 = qa_I G 16 dg ∧ E 4 = .inr (1, [.int hn0, .ref (z + 5), .ref (z + 6)]) ∧ E 5 = qa_I G 3 tk ∧ E 6 = qa_I G 3 tp ∧ E 7 = .inr (1, [.int (nI m2), .ref (z + 8), .ref (z + 9)]) ∧ E 8 = qa_I G 3 kd ∧ E 9 = qa_I G 3 pa ∧ E 10 = .inr (1, [.int gn, .ref (z + 11), .ref (z + 12)]) ∧ E 11 = qa_I G 3 gk ∧ E 12 = qa_I G 3 gp ∧ E 13 = .inr (2, [.int (nI ln), .ref (z + 14)]) ∧ E 14 = qa_A G 24 (rfA z 15) ∧ E 39 = .inr (0, [.int t0, .int a0, .int b0, .long v0]) ∧ E 40 = .inr (3, [.int (nI n), .ref (z + 41), .ref (z + 42)]) ∧ E 41 = qa_J G 16 f ∧ E 42 = qa_J G 16 g ∧ E 43 = .inr (3, [.int (nI n), .ref (z + 44), .ref (z + 45)]) ∧ E 44 = qa_J G 16 bf ∧ E 45 = qa_J G 16 bg ∧ E 46 = .inr (3, [.int tn, .ref (z + 47), .ref (z + 48)]) ∧ E 47 = qa_J G 16 tf ∧ E 48 = qa_J G 16 tg ∧ E 49 = .inr (6, [.ref (z + 50), .ref (z + 51)]) ∧ E 50 = qa_I G 32 (spF n) ∧ E 51 = qa_I G 32 (spL n) ∧ E 52 = .inr (4, [.int (nI rn), .ref (z + 53), .ref (z + 54)]) ∧ E 53 = qa_I G 8 (rdC cn) ∧ E 54 = qa_J G 8 vs ∧ (∀ t, t < 24 → E (15 + t) = .inr (0, [.int (ts t), .int (nI (ga t)), .int (nI (gb t)), .long (va t)])) ∧ (∀ k, k < 4 → E (55 + 2 * k) = .inr (5, [.int (hr k), .int (la k), .int (nI (lg k)), .ref (z + (56 + 2 * k))]) ∧ E (56 + 2 * k) = qa_I G 60 (sc k))
/-- what holds of the class's numbers at any time -/
def XW (n m2 ln rn : Nat) (ga gb cn lg : Nat → Nat) (hr : Nat → Int32) : Prop := (n ≤ 16 ∧ m2 ≤ 3 ∧ ln ≤ 24 ∧ rn ≤ 8) ∧ (∀ t, t < ln → ga t ≤ gb t ∧ gb t < n) ∧ (∀ q, q < rn → cn q < n) ∧ (∀ k, k < 4 → lg k ≤ 60) ∧ (∀ k, k < 4 → hr k = 0 ∨ hr k = 1)
theorem rfR_ok {n : Nat} {x y : Int32} (hn : n ≤ 16) (h : rfR n x y = 0) : ∃ a b, a ≤ b ∧ b < n ∧ x = nI a ∧ y = nI b := by
  unfold rfR at h
  by_cases h1 : (¬ x < 0 ∧ x < nI n) ∧ (¬ y < 0 ∧ y < nI n)
  · rw [if_pos h1] at h
    obtain ⟨a, ha, rfl⟩ := nI_of_in (by omega) h1.1
    obtain ⟨b, hb, rfl⟩ := nI_of_in (by omega) h1.2
    by_cases h2 : nI b < nI a
    · rw [if_pos h2] at h
      exact absurd h (by decide)
    · refine ⟨a, b, ?_, hb, rfl, rfl⟩
      rcases Nat.lt_or_ge b a with w | w
      · exact absurd (nI_lt w (by omega)) h2
      · exact w
  · rw [if_neg h1] at h
    exact absurd h (by decide)
theorem rmR_ok {n : Nat} {x y : Int32} {v : Int64} (h : rmR n x y v = 0) : rfR n x y = 0 := by
  unfold rmR at h
  by_cases h1 : rfR n x y = 0
  · exact h1
  · rw [if_neg h1] at h
    exact absurd h h1
theorem i2l_lt0 (x : Int32) : x.toInt64 < 0 ↔ x < 0 := by
  rw [i64_lt, i32_lt, Int32.toInt_toInt64]
  rfl
theorem i2l_lt (x y : Int32) : x.toInt64 < y.toInt64 ↔ x < y := by
  rw [i64_lt, i32_lt, Int32.toInt_toInt64, Int32.toInt_toInt64]
/-- whether a helper is there, of an int -/
theorem hlp_has {m2 : Nat} {x : Int32} (h : m2 ≤ 3) : (¬ x.toInt64 < 0 ∧ x.toInt64 < (nI m2).toInt64) ↔ (¬ x < 0 ∧ x < nI m2) := by
  rw [i2l_lt0, i2l_lt]
def manR (n m2 ln rn : Nat) (x : Int32) : Int32 := if x = 0 then nI n else if x = 1 then nI m2 else if x = 2 then nI ln else if x = 3 then nI (cntR (fun s => (spN n s).isSome) 1 31) else if x = 4 then nI rn else -2
def atR (n : Nat) (f g : Nat → Int64) (x y : Int32) : Int64 := if ¬ x < 0 ∧ x < nI n then (if y = 0 then f x.toNatClampNeg else if y = 1 then g x.toNatClampNeg else LOSTv) else LOSTv
def ohR (m2 : Nat) (kd pa : Nat → Int32) (ln : Nat) (ts : Nat → Int32) (va : Nat → Int64) (x y : Int32) : Int32 := if ¬ x < 0 ∧ x < nI m2 then (if y = 0 then kd x.toNatClampNeg else if y = 1 then pa x.toNatClampNeg else if y = 2 then strg m2 kd pa x.toInt64 else if y = 3 then nI (cntR (fun t => decide ((ts t = 3 ∨ ts t = 4) ∧ va t = x.toInt64)) 0 ln) else -2) else -1
def askR (n : Nat) (f g : Nat → Int64) (x y w : Int32) : Int64 := if rfR n x y = 0 then (if w = 0 then sumR f x.toNatClampNeg (y.toNatClampNeg + 1 - x.toNatClampNeg) else if w = 1 then maxR f x.toNatClampNeg (y.toNatClampNeg - x.toNatClampNeg) else if w = 2 then minR f x.toNatClampNeg (y.toNatClampNeg - x.toNatClampNeg) else if w = 3 then (nI (cntR (fun k => decide (¬ f k < maxR f x.toNatClampNeg (y.toNatClampNeg - x.toNatClampNeg))) x.toNatClampNeg (y.toNatClampNeg + 1 - x.toNatClampNeg))).toInt64 else if w = 4 then secR f (maxR f x.toNatClampNeg (y.toNatClampNeg - x.toNatClampNeg)) x.toNatClampNeg (y.toNatClampNeg + 1 - x.toNatClampNeg) else if w = 5 then (nI (unlR f x.toNatClampNeg (y.toNatClampNeg + 1 - x.toNatClampNeg))).toInt64 else if w = 6 then maxR g x.toNatClampNeg (y.toNatClampNeg - x.toNatClampNeg) else if w = 7 then sumR g x.toNatClampNeg (y.toNatClampNeg + 1 - x.toNatClampNeg) else LOSTv) else LOSTv
/-- how many of a run are v or more -/
def odN (f : Nat → Int64) (a b : Nat) (v : Int64) : Nat := cntR (fun k => decide (¬ f k < v)) a (b + 1 - a)
theorem odN_le (f : Nat → Int64) (a b : Nat) (v : Int64) : odN f a b v ≤ b + 1 - a := cntR_le _ _ _
def oddR (n : Nat) (f : Nat → Int64) (x y : Int32) (v : Int64) (w : Int32) : Int64 := if rfR n x y = 0 ∧ (w = 0 ∨ w = 1) then (if w = 0 then (nI (odN f x.toNatClampNeg y.toNatClampNeg v / Nat.gcd (odN f x.toNatClampNeg y.toNatClampNeg v) (y.toNatClampNeg - x.toNatClampNeg + 1))).toInt64 else (nI ((y.toNatClampNeg - x.toNatClampNeg + 1) / Nat.gcd (odN f x.toNatClampNeg y.toNatClampNeg v) (y.toNatClampNeg - x.toNatClampNeg + 1))).toInt64) else LOSTv
set_option maxHeartbeats 1000000 in
set_option maxRecDepth 100000 in
theorem c_X8_trace (l : Launch) (G : qh_G) (z M : Nat) (E : Nat → va_E) (tr : Int32) (lf : Int32) (n : Nat) (f : Nat → Int64) (g : Nat → Int64) (bf : Nat → Int64) (m2 : Nat) (kd : Nat → Int32) (pa : Nat → Int32) (ln : Nat) (ts : Nat → Int32) (ga : Nat → Nat) (gb : Nat → Nat) (va : Nat → Int64) (rn : Nat) (cn : Nat → Nat) (vs : Nat → Int64) (hr : Nat → Int32) (la : Nat → Int32) (lg : Nat → Nat) (sc : Nat → Nat → Int32) (hM : 84 ≤ M) (hX : XE G z E tr lf n f g bf m2 kd pa ln ts ga gb va rn cn vs hr la lg sc) (hW : XW n m2 ln rn ga gb cn lg hr) : Met l yX8_trace wsX8_trace (qh_R 0) (qh_Pre G z M E [.ref (z + 0)]) (qh_Q G z M (qh_i (fun r E' => E = E' ∧ r = tr))) 0 0 (fun q => z ≤ q) := by
  refine qh_metI (cc := cX8_trace) (maxL := 1) (by decide) rfl (Nat.le_of_ble_eq_true rfl) ?_
  intro pZ eZ sZ mZ aZ bZ tZ cZ RR QQ ls hx hb hml hown hts hRf hRl hH hK hl hret
  have hown : sZ.vm.findClass RX8 = some mZ.cls := hown
  have hl : lv_has ls 1 [(0, .ref (z + 0))] := hl
  obtain ⟨tc, dg, hn0, tk, tp, gn, gk, gp, t0, a0, b0, v0, bg, tn, tf, tg, b_0, b_1, b_2, b_3, b_4, b_5, b_6, b_7, b_8, b_9, b_10, b_11, b_12, b_13, b_14, b_39, b_40, b_41, b_42, b_43, b_44, b_45, b_46, b_47, b_48, b_49, b_50, b_51, b_52, b_53, b_54, hacts, hsh⟩ := hX
  obtain ⟨⟨hn16, hm3, hl24, hr8⟩, hval, hcn, hlg, hhr⟩ := hW
  have in_X8 : ∀ w ∈ wsX80, w ∈ wsX8_trace := fun w h => List.mem_cons_of_mem _ (List.mem_append_right _ h)
  have f_75 : qh_F G sZ mZ aZ 75 8 11 := qh_F.of hts in_X8 hown hK rfl 11 (by decide) (by decide +kernel)
  refine lv_aload_n hx hb dX8_trace_0 rfl (lv_at hl 0 rfl) ?_
  refine qh_get hx hb hH f_75 (by omega) b_0 rfl dX8_trace_1 ?_
  exact hret dX8_trace_4 hH (⟨rfl, rfl⟩)

set_option maxHeartbeats 1000000 in
set_option maxRecDepth 100000 in
theorem c_X8_fault (l : Launch) (G : qh_G) (z M : Nat) (E : Nat → va_E) (tr : Int32) (lf : Int32) (n : Nat) (f : Nat → Int64) (g : Nat → Int64) (bf : Nat → Int64) (m2 : Nat) (kd : Nat → Int32) (pa : Nat → Int32) (ln : Nat) (ts : Nat → Int32) (ga : Nat → Nat) (gb : Nat → Nat) (va : Nat → Int64) (rn : Nat) (cn : Nat → Nat) (vs : Nat → Int64) (hr : Nat → Int32) (la : Nat → Int32) (lg : Nat → Nat) (sc : Nat → Nat → Int32) (hM : 84 ≤ M) (hX : XE G z E tr lf n f g bf m2 kd pa ln ts ga gb va rn cn vs hr la lg sc) (hW : XW n m2 ln rn ga gb cn lg hr) : Met l yX8_fault wsX8_fault (qh_R 0) (qh_Pre G z M E [.ref (z + 0)]) (qh_Q G z M (qh_i (fun r E' => E = E' ∧ r = lf))) 0 0 (fun q => z ≤ q) := by
  refine qh_metI (cc := cX8_fault) (maxL := 1) (by decide) rfl (Nat.le_of_ble_eq_true rfl) ?_
  intro pZ eZ sZ mZ aZ bZ tZ cZ RR QQ ls hx hb hml hown hts hRf hRl hH hK hl hret
  have hown : sZ.vm.findClass RX8 = some mZ.cls := hown
  have hl : lv_has ls 1 [(0, .ref (z + 0))] := hl
  obtain ⟨tc, dg, hn0, tk, tp, gn, gk, gp, t0, a0, b0, v0, bg, tn, tf, tg, b_0, b_1, b_2, b_3, b_4, b_5, b_6, b_7, b_8, b_9, b_10, b_11, b_12, b_13, b_14, b_39, b_40, b_41, b_42, b_43, b_44, b_45, b_46, b_47, b_48, b_49, b_50, b_51, b_52, b_53, b_54, hacts, hsh⟩ := hX
  obtain ⟨⟨hn16, hm3, hl24, hr8⟩, hval, hcn, hlg, hhr⟩ := hW
  have in_X8 : ∀ w ∈ wsX80, w ∈ wsX8_fault := fun w h => List.mem_cons_of_mem _ (List.mem_append_right _ h)
  have f_79 : qh_F G sZ mZ aZ 79 8 12 := qh_F.of hts in_X8 hown hK rfl 12 (by decide) (by decide +kernel)
  refine lv_aload_n hx hb dX8_fault_0 rfl (lv_at hl 0 rfl) ?_
  refine qh_get hx hb hH f_79 (by omega) b_0 rfl dX8_fault_1 ?_
  exact hret dX8_fault_4 hH (⟨rfl, rfl⟩)

set_option maxHeartbeats 1000000 in
set_option maxRecDepth 100000 in
theorem c_X8_many (l : Launch) (G : qh_G) (z M : Nat) (E : Nat → va_E) (tr : Int32) (lf : Int32) (n : Nat) (f : Nat → Int64) (g : Nat → Int64) (bf : Nat → Int64) (m2 : Nat) (kd : Nat → Int32) (pa : Nat → Int32) (ln : Nat) (ts : Nat → Int32) (ga : Nat → Nat) (gb : Nat → Nat) (va : Nat → Int64) (rn : Nat) (cn : Nat → Nat) (vs : Nat → Int64) (hr : Nat → Int32) (la : Nat → Int32) (lg : Nat → Nat) (sc : Nat → Nat → Int32) (hM : 84 ≤ M) (hX : XE G z E tr lf n f g bf m2 kd pa ln ts ga gb va rn cn vs hr la lg sc) (hW : XW n m2 ln rn ga gb cn lg hr) (x : Int32) : Met l yX8_many wsX8_many (qh_R 2) (qh_Pre G z M E [.ref (z + 0), .int x]) (qh_Q G z M (qh_i (fun r E' => E = E' ∧ r = manR n m2 ln rn x))) 0 0 (fun q => z ≤ q) := by
  refine qh_metI (cc := cX8_many) (maxL := 2) (by decide) rfl (Nat.le_of_ble_eq_true rfl) ?_
  intro pZ eZ sZ mZ aZ bZ tZ cZ RR QQ ls hx hb hml hown hts hRf hRl hH hK hl hret
  have hown : sZ.vm.findClass RX8 = some mZ.cls := hown
  have hl : lv_has ls 2 [(0, .ref (z + 0)), (1, .int x)] := hl
  obtain ⟨tc, dg, hn0, tk, tp, gn, gk, gp, t0, a0, b0, v0, bg, tn, tf, tg, b_0, b_1, b_2, b_3, b_4, b_5, b_6, b_7, b_8, b_9, b_10, b_11, b_12, b_13, b_14, b_39, b_40, b_41, b_42, b_43, b_44, b_45, b_46, b_47, b_48, b_49, b_50, b_51, b_52, b_53, b_54, hacts, hsh⟩ := hX
  obtain ⟨⟨hn16, hm3, hl24, hr8⟩, hval, hcn, hlg, hhr⟩ := hW
  have in_X8 : ∀ w ∈ wsX80, w ∈ wsX8_many := fun w h => List.mem_cons_of_mem _ (List.mem_append_left _ (List.mem_append_left _ (List.mem_append_left _ (List.mem_append_left _ (List.mem_append_left _ (List.mem_append_right _ h))))))
  have in_X3 : ∀ w ∈ wsX30, w ∈ wsX8_many := fun w h => List.mem_cons_of_mem _ (List.mem_append_left _ (List.mem_append_left _ (List.mem_append_left _ (List.mem_append_left _ (List.mem_append_right _ h)))))
  have in_X1 : ∀ w ∈ wsX10, w ∈ wsX8_many := fun w h => List.mem_cons_of_mem _ (List.mem_append_left _ (List.mem_append_left _ (List.mem_append_left _ (List.mem_append_right _ h))))
  have in_X2 : ∀ w ∈ wsX20, w ∈ wsX8_many := fun w h => List.mem_cons_of_mem _ (List.mem_append_left _ (List.mem_append_left _ (List.mem_append_right _ h)))
  have in_X4 : ∀ w ∈ wsX40, w ∈ wsX8_many := fun w h => List.mem_cons_of_mem _ (List.mem_append_left _ (List.mem_append_right _ h))
  have f_51 : qh_F G sZ mZ aZ 51 8 6 := qh_F.of hts in_X8 hown hK rfl 6 (by decide) (by decide +kernel)
  have f_108 : qh_F G sZ mZ aZ 108 3 0 := qh_F.of hts in_X3 hown hK rfl 0 (by decide) (by decide +kernel)
  have f_27 : qh_F G sZ mZ aZ 27 8 2 := qh_F.of hts in_X8 hown hK rfl 2 (by decide) (by decide +kernel)
  have f_331 : qh_F G sZ mZ aZ 331 1 0 := qh_F.of hts in_X1 hown hK rfl 0 (by decide) (by decide +kernel)
  have f_37 : qh_F G sZ mZ aZ 37 8 4 := qh_F.of hts in_X8 hown hK rfl 4 (by decide) (by decide +kernel)
  have f_135 : qh_F G sZ mZ aZ 135 2 0 := qh_F.of hts in_X2 hown hK rfl 0 (by decide) (by decide +kernel)
  have f_64 : qh_F G sZ mZ aZ 64 8 9 := qh_F.of hts in_X8 hown hK rfl 9 (by decide) (by decide +kernel)
  have f_71 : qh_F G sZ mZ aZ 71 8 10 := qh_F.of hts in_X8 hown hK rfl 10 (by decide) (by decide +kernel)
  have f_131 : qh_F G sZ mZ aZ 131 4 0 := qh_F.of hts in_X4 hown hK rfl 0 (by decide) (by decide +kernel)
  refine lv_iload_n hx hb dX8_many_0 rfl (lv_at hl 1 rfl) ?_
  by_cases c_1_0 : x = 0
  · refine lv_tableIn (tgt := 36) (off := 35) hx hb dX8_many_1 (by rw [c_1_0]; decide) (by rw [c_1_0]; decide) (by rw [c_1_0]; decide) (by decide) ?_
    refine lv_aload_n hx hb dX8_many_36 rfl (lv_at hl 0 rfl) ?_
    refine qh_get hx hb hH f_51 (by omega) b_0 rfl dX8_many_37 ?_
    refine qh_get hx hb hH f_108 (by omega) b_40 rfl dX8_many_40 ?_
    exact hret dX8_many_43 hH (⟨rfl, by rw [manR, if_pos c_1_0]⟩)
  by_cases c_1_1 : x = 1
  · refine lv_tableIn (tgt := 44) (off := 43) hx hb dX8_many_1 (by rw [c_1_1]; decide) (by rw [c_1_1]; decide) (by rw [c_1_1]; decide) (by decide) ?_
    refine lv_aload_n hx hb dX8_many_44 rfl (lv_at hl 0 rfl) ?_
    refine qh_get hx hb hH f_27 (by omega) b_0 rfl dX8_many_45 ?_
    refine qh_get hx hb hH f_331 (by omega) b_7 rfl dX8_many_48 ?_
    exact hret dX8_many_51 hH (⟨rfl, by rw [manR, if_neg c_1_0, if_pos c_1_1]⟩)
  by_cases c_1_2 : x = 2
  · refine lv_tableIn (tgt := 52) (off := 51) hx hb dX8_many_1 (by rw [c_1_2]; decide) (by rw [c_1_2]; decide) (by rw [c_1_2]; decide) (by decide) ?_
    refine lv_aload_n hx hb dX8_many_52 rfl (lv_at hl 0 rfl) ?_
    refine qh_get hx hb hH f_37 (by omega) b_0 rfl dX8_many_53 ?_
    refine qh_get hx hb hH f_135 (by omega) b_13 rfl dX8_many_56 ?_
    exact hret dX8_many_59 hH (⟨rfl, by rw [manR, if_neg c_1_0, if_neg c_1_1, if_pos c_1_2]⟩)
  by_cases c_1_3 : x = 3
  · refine lv_tableIn (tgt := 60) (off := 59) hx hb dX8_many_1 (by rw [c_1_3]; decide) (by rw [c_1_3]; decide) (by rw [c_1_3]; decide) (by decide) ?_
    refine lv_aload_n hx hb dX8_many_60 rfl (lv_at hl 0 rfl) ?_
    refine qh_get hx hb hH f_64 (by omega) b_0 rfl dX8_many_61 ?_
    refine qh_runV (As := []) (rest := []) (C := RX6) ⟨hx, hb, hml, hown, hts⟩ hK hH (c_X6_count l G z M E 49 50 51 n (⟨by omega, by omega, by omega⟩) (by omega) b_49 b_50 b_51) (cwV 0 hts gX8_many_X6_count rfl rfl rfl (by decide +kernel) (by rw [hRf, hRl]; exact ⟨Nat.le_of_ble_eq_true rfl, Nat.le_of_ble_eq_true rfl⟩)) (by omega) b_49 rfl rfl hl.1 rfl (Nat.le_of_ble_eq_true rfl) dX8_many_64 ⟨Nat.zero_le _, Nat.zero_le _⟩ (qh_kki fun r_64 E_1 H locs hpost hH => ?_)
    obtain ⟨rfl, rfl⟩ := hpost
    exact hret dX8_many_67 hH (⟨rfl, by rw [manR, if_neg c_1_0, if_neg c_1_1, if_neg c_1_2, if_pos c_1_3]⟩)
  by_cases c_1_4 : x = 4
  · refine lv_tableIn (tgt := 68) (off := 67) hx hb dX8_many_1 (by rw [c_1_4]; decide) (by rw [c_1_4]; decide) (by rw [c_1_4]; decide) (by decide) ?_
    refine lv_aload_n hx hb dX8_many_68 rfl (lv_at hl 0 rfl) ?_
    refine qh_get hx hb hH f_71 (by omega) b_0 rfl dX8_many_69 ?_
    refine qh_get hx hb hH f_131 (by omega) b_52 rfl dX8_many_72 ?_
    exact hret dX8_many_75 hH (⟨rfl, by rw [manR, if_neg c_1_0, if_neg c_1_1, if_neg c_1_2, if_neg c_1_3, if_pos c_1_4]⟩)
  refine lv_tableOut (tgt := 76) hx hb dX8_many_1 (qs_out5 c_1_0 c_1_1 c_1_2 c_1_3 c_1_4) (by decide) ?_
  refine lv_bipush (v := (-2)) hx hb dX8_many_76 (by decide) ?_
  exact hret dX8_many_78 hH (⟨rfl, by rw [manR, if_neg c_1_0, if_neg c_1_1, if_neg c_1_2, if_neg c_1_3, if_neg c_1_4]⟩)

set_option maxHeartbeats 1000000 in
set_option maxRecDepth 100000 in
theorem c_X8_at (l : Launch) (G : qh_G) (z M : Nat) (E : Nat → va_E) (tr : Int32) (lf : Int32) (n : Nat) (f : Nat → Int64) (g : Nat → Int64) (bf : Nat → Int64) (m2 : Nat) (kd : Nat → Int32) (pa : Nat → Int32) (ln : Nat) (ts : Nat → Int32) (ga : Nat → Nat) (gb : Nat → Nat) (va : Nat → Int64) (rn : Nat) (cn : Nat → Nat) (vs : Nat → Int64) (hr : Nat → Int32) (la : Nat → Int32) (lg : Nat → Nat) (sc : Nat → Nat → Int32) (hM : 84 ≤ M) (hX : XE G z E tr lf n f g bf m2 kd pa ln ts ga gb va rn cn vs hr la lg sc) (hW : XW n m2 ln rn ga gb cn lg hr) (x : Int32) (y : Int32) : Met l yX8_at wsX8_at (qh_R 1) (qh_Pre G z M E [.ref (z + 0), .int x, .int y]) (qh_Q G z M (qh_l (fun r E' => E = E' ∧ r = atR n f g x y))) 0 0 (fun q => z ≤ q) := by
  refine qh_metL (cc := cX8_at) (maxL := 3) (by decide) rfl (Nat.le_of_ble_eq_true rfl) ?_
  intro pZ eZ sZ mZ aZ bZ tZ cZ RR QQ ls hx hb hml hown hts hRf hRl hH hK hl hret
  have hown : sZ.vm.findClass RX8 = some mZ.cls := hown
  have hl : lv_has ls 3 [(0, .ref (z + 0)), (1, .int x), (2, .int y)] := hl
  obtain ⟨tc, dg, hn0, tk, tp, gn, gk, gp, t0, a0, b0, v0, bg, tn, tf, tg, b_0, b_1, b_2, b_3, b_4, b_5, b_6, b_7, b_8, b_9, b_10, b_11, b_12, b_13, b_14, b_39, b_40, b_41, b_42, b_43, b_44, b_45, b_46, b_47, b_48, b_49, b_50, b_51, b_52, b_53, b_54, hacts, hsh⟩ := hX
  obtain ⟨⟨hn16, hm3, hl24, hr8⟩, hval, hcn, hlg, hhr⟩ := hW
  have in_X8 : ∀ w ∈ wsX80, w ∈ wsX8_at := fun w h => List.mem_cons_of_mem _ (List.mem_append_left _ (List.mem_append_right _ h))
  have in_X3 : ∀ w ∈ wsX30, w ∈ wsX8_at := fun w h => List.mem_cons_of_mem _ (List.mem_append_right _ h)
  have f_51 : qh_F G sZ mZ aZ 51 8 6 := qh_F.of hts in_X8 hown hK rfl 6 (by decide) (by decide +kernel)
  have f_114 : qh_F G sZ mZ aZ 114 3 1 := qh_F.of hts in_X3 hown hK rfl 1 (by decide) (by decide +kernel)
  have f_163 : qh_F G sZ mZ aZ 163 3 2 := qh_F.of hts in_X3 hown hK rfl 2 (by decide) (by decide +kernel)
  have k_161 := hts (.constantLong RX8 161 (-9223372036854775808)) (by decide +kernel)
  refine lv_aload_n hx hb dX8_at_0 rfl (lv_at hl 0 rfl) ?_
  refine qh_get hx hb hH f_51 (by omega) b_0 rfl dX8_at_1 ?_
  refine lv_iload_n hx hb dX8_at_4 rfl (lv_at hl 1 rfl) ?_
  refine qh_runV (As := [.int x]) (rest := []) (C := RX3) ⟨hx, hb, hml, hown, hts⟩ hK hH (c_X3_has l G z M E 40 (by omega) (nI n) (.ref (z + 41)) (.ref (z + 42)) x b_40) (cwV 1 hts gX8_at_X3_has rfl rfl rfl (by decide +kernel) (by rw [hRf, hRl]; exact ⟨Nat.le_of_ble_eq_true rfl, Nat.le_of_ble_eq_true rfl⟩)) (by omega) b_40 rfl rfl hl.1 rfl (Nat.le_of_ble_eq_true rfl) dX8_at_5 ⟨Nat.zero_le _, Nat.zero_le _⟩ (qh_kki fun r_5 E_1 H locs hpost hH => ?_)
  obtain ⟨rfl, rfl⟩ := hpost
  refine lv_if_ne (tgt := 15) hx hb dX8_at_8 (by decide) (fun c_8 => ?_) (fun c_8 => ?_)
  · have c_8 := bI_ne.mp c_8
    obtain ⟨t, ht, et⟩ := nI_of_in (by omega) c_8
    have ec : x.toNatClampNeg = t := by rw [et]; exact nI_clamp (by omega)
    refine lv_iload_n hx hb dX8_at_15 rfl (lv_at hl 2 rfl) ?_
    by_cases c_16_0 : y = 0
    · refine lv_lookup (tgt := 44) (off := 28) hx hb dX8_at_16 (by decide) (by rw [c_16_0] <;> decide) (by decide) ?_
      refine lv_aload_n hx hb dX8_at_44 rfl (lv_at hl 0 rfl) ?_
      refine qh_get hx hb hH f_51 (by omega) b_0 rfl dX8_at_45 ?_
      refine qh_get hx hb hH f_114 (by omega) b_40 rfl dX8_at_48 ?_
      refine lv_iload_n hx hb dX8_at_51 rfl (lv_at hl 1 rfl) ?_
      refine qh_lald hx hb hK hH (by omega) b_41 (j := t) (et) (by omega) (by omega) dX8_at_52 ?_
      exact hret dX8_at_53 hH (⟨rfl, by rw [atR, if_pos c_8, if_pos c_16_0, ec]⟩)
    by_cases c_16_1 : y = 1
    · refine lv_lookup (tgt := 54) (off := 38) hx hb dX8_at_16 (by decide) (by rw [c_16_1] <;> decide) (by decide) ?_
      refine lv_aload_n hx hb dX8_at_54 rfl (lv_at hl 0 rfl) ?_
      refine qh_get hx hb hH f_51 (by omega) b_0 rfl dX8_at_55 ?_
      refine qh_get hx hb hH f_163 (by omega) b_40 rfl dX8_at_58 ?_
      refine lv_iload_n hx hb dX8_at_61 rfl (lv_at hl 1 rfl) ?_
      refine qh_lald hx hb hK hH (by omega) b_42 (j := t) (et) (by omega) (by omega) dX8_at_62 ?_
      exact hret dX8_at_63 hH (⟨rfl, by rw [atR, if_pos c_8, if_neg c_16_0, if_pos c_16_1, ec]⟩)
    refine lv_lookup (tgt := 64) (off := 48) hx hb dX8_at_16 (by decide) (by rw [lv_osw (k := 0) c_16_0 (by decide), lv_osw (k := 1) c_16_1 (by decide)] <;> rfl) (by decide) ?_
    refine lv_ldc2 hx hb hown k_161 dX8_at_64 ?_
    refine qh_topl (y := LOSTv) (rfl) ?_
    exact hret dX8_at_67 hH (⟨rfl, by rw [atR, if_pos c_8, if_neg c_16_0, if_neg c_16_1]⟩)
  · have c_8 := bI_eq.mp c_8
    refine lv_ldc2 hx hb hown k_161 dX8_at_11 ?_
    refine qh_topl (y := LOSTv) (rfl) ?_
    exact hret dX8_at_14 hH (⟨rfl, by rw [atR, if_neg c_8]⟩)

set_option maxHeartbeats 1000000 in
set_option maxRecDepth 100000 in
theorem c_X8_ofHelper (l : Launch) (G : qh_G) (z M : Nat) (E : Nat → va_E) (tr : Int32) (lf : Int32) (n : Nat) (f : Nat → Int64) (g : Nat → Int64) (bf : Nat → Int64) (m2 : Nat) (kd : Nat → Int32) (pa : Nat → Int32) (ln : Nat) (ts : Nat → Int32) (ga : Nat → Nat) (gb : Nat → Nat) (va : Nat → Int64) (rn : Nat) (cn : Nat → Nat) (vs : Nat → Int64) (hr : Nat → Int32) (la : Nat → Int32) (lg : Nat → Nat) (sc : Nat → Nat → Int32) (hM : 84 ≤ M) (hX : XE G z E tr lf n f g bf m2 kd pa ln ts ga gb va rn cn vs hr la lg sc) (hW : XW n m2 ln rn ga gb cn lg hr) (x : Int32) (y : Int32) : Met l yX8_ofHelper wsX8_ofHelper (qh_R 2) (qh_Pre G z M E [.ref (z + 0), .int x, .int y]) (qh_Q G z M (qh_i (fun r E' => E = E' ∧ r = ohR m2 kd pa ln ts va x y))) 0 0 (fun q => z ≤ q) := by
  refine qh_metI (cc := cX8_ofHelper) (maxL := 3) (by decide) rfl (Nat.le_of_ble_eq_true rfl) ?_
  intro pZ eZ sZ mZ aZ bZ tZ cZ RR QQ ls hx hb hml hown hts hRf hRl hH hK hl hret
  have hown : sZ.vm.findClass RX8 = some mZ.cls := hown
  have hl : lv_has ls 3 [(0, .ref (z + 0)), (1, .int x), (2, .int y)] := hl
  obtain ⟨tc, dg, hn0, tk, tp, gn, gk, gp, t0, a0, b0, v0, bg, tn, tf, tg, b_0, b_1, b_2, b_3, b_4, b_5, b_6, b_7, b_8, b_9, b_10, b_11, b_12, b_13, b_14, b_39, b_40, b_41, b_42, b_43, b_44, b_45, b_46, b_47, b_48, b_49, b_50, b_51, b_52, b_53, b_54, hacts, hsh⟩ := hX
  obtain ⟨⟨hn16, hm3, hl24, hr8⟩, hval, hcn, hlg, hhr⟩ := hW
  have in_X8 : ∀ w ∈ wsX80, w ∈ wsX8_ofHelper := fun w h => List.mem_cons_of_mem _ (List.mem_append_left _ (List.mem_append_left _ (List.mem_append_left _ (List.mem_append_right _ h))))
  have in_X1 : ∀ w ∈ wsX10, w ∈ wsX8_ofHelper := fun w h => List.mem_cons_of_mem _ (List.mem_append_left _ (List.mem_append_left _ (List.mem_append_right _ h)))
  have f_27 : qh_F G sZ mZ aZ 27 8 2 := qh_F.of hts in_X8 hown hK rfl 2 (by decide) (by decide +kernel)
  have f_146 : qh_F G sZ mZ aZ 146 1 1 := qh_F.of hts in_X1 hown hK rfl 1 (by decide) (by decide +kernel)
  have f_149 : qh_F G sZ mZ aZ 149 1 2 := qh_F.of hts in_X1 hown hK rfl 2 (by decide) (by decide +kernel)
  have f_37 : qh_F G sZ mZ aZ 37 8 4 := qh_F.of hts in_X8 hown hK rfl 4 (by decide) (by decide +kernel)
  refine lv_aload_n hx hb dX8_ofHelper_0 rfl (lv_at hl 0 rfl) ?_
  refine qh_get hx hb hH f_27 (by omega) b_0 rfl dX8_ofHelper_1 ?_
  refine lv_iload_n hx hb dX8_ofHelper_4 rfl (lv_at hl 1 rfl) ?_
  refine lv_i2l (v := x.toInt64) hx hb dX8_ofHelper_5 rfl ?_
  refine qh_runV (As := [.long (x.toInt64)]) (rest := []) (C := RX1) ⟨hx, hb, hml, hown, hts⟩ hK hH (c_X1_has l G z M E 7 (by omega) (nI m2) (.ref (z + 8)) (.ref (z + 9)) (x.toInt64) b_7) (cwV 1 hts gX8_ofHelper_X1_has rfl rfl rfl (by decide +kernel) (by rw [hRf, hRl]; exact ⟨Nat.le_of_ble_eq_true rfl, Nat.le_of_ble_eq_true rfl⟩)) (by omega) b_7 rfl rfl hl.1 rfl (Nat.le_of_ble_eq_true rfl) dX8_ofHelper_6 ⟨Nat.zero_le _, Nat.zero_le _⟩ (qh_kki fun r_6 E_1 H locs hpost hH => ?_)
  obtain ⟨rfl, rfl⟩ := hpost
  refine lv_if_ne (tgt := 14) hx hb dX8_ofHelper_9 (by decide) (fun c_9 => ?_) (fun c_9 => ?_)
  · have c_9 := bI_ne.mp c_9
    have hhas := (hlp_has hm3).mp c_9
    obtain ⟨t, ht, et⟩ := nI_of_in (by omega) hhas
    have ec : x.toNatClampNeg = t := by rw [et]; exact nI_clamp (by omega)
    refine lv_iload_n hx hb dX8_ofHelper_14 rfl (lv_at hl 2 rfl) ?_
    by_cases c_15_0 : y = 0
    · refine lv_tableIn (tgt := 44) (off := 29) hx hb dX8_ofHelper_15 (by rw [c_15_0]; decide) (by rw [c_15_0]; decide) (by rw [c_15_0]; decide) (by decide) ?_
      refine lv_aload_n hx hb dX8_ofHelper_44 rfl (lv_at hl 0 rfl) ?_
      refine qh_get hx hb hH f_27 (by omega) b_0 rfl dX8_ofHelper_45 ?_
      refine qh_get hx hb hH f_146 (by omega) b_7 rfl dX8_ofHelper_48 ?_
      refine lv_iload_n hx hb dX8_ofHelper_51 rfl (lv_at hl 1 rfl) ?_
      refine qh_iald hx hb hK hH (by omega) b_8 (j := t) (et) (by omega) (by omega) dX8_ofHelper_52 ?_
      exact hret dX8_ofHelper_53 hH (⟨rfl, by rw [ohR, if_pos hhas, if_pos c_15_0, ec]⟩)
    by_cases c_15_1 : y = 1
    · refine lv_tableIn (tgt := 54) (off := 39) hx hb dX8_ofHelper_15 (by rw [c_15_1]; decide) (by rw [c_15_1]; decide) (by rw [c_15_1]; decide) (by decide) ?_
      refine lv_aload_n hx hb dX8_ofHelper_54 rfl (lv_at hl 0 rfl) ?_
      refine qh_get hx hb hH f_27 (by omega) b_0 rfl dX8_ofHelper_55 ?_
      refine qh_get hx hb hH f_149 (by omega) b_7 rfl dX8_ofHelper_58 ?_
      refine lv_iload_n hx hb dX8_ofHelper_61 rfl (lv_at hl 1 rfl) ?_
      refine qh_iald hx hb hK hH (by omega) b_9 (j := t) (et) (by omega) (by omega) dX8_ofHelper_62 ?_
      exact hret dX8_ofHelper_63 hH (⟨rfl, by rw [ohR, if_pos hhas, if_neg c_15_0, if_pos c_15_1, ec]⟩)
    by_cases c_15_2 : y = 2
    · refine lv_tableIn (tgt := 64) (off := 49) hx hb dX8_ofHelper_15 (by rw [c_15_2]; decide) (by rw [c_15_2]; decide) (by rw [c_15_2]; decide) (by decide) ?_
      refine lv_aload_n hx hb dX8_ofHelper_64 rfl (lv_at hl 0 rfl) ?_
      refine qh_get hx hb hH f_27 (by omega) b_0 rfl dX8_ofHelper_65 ?_
      refine lv_iload_n hx hb dX8_ofHelper_68 rfl (lv_at hl 1 rfl) ?_
      refine lv_i2l (v := x.toInt64) hx hb dX8_ofHelper_69 rfl ?_
      refine qh_runV (As := [.long (x.toInt64)]) (rest := []) (C := RX1) ⟨hx, hb, hml, hown, hts⟩ hK hH (c_X1_strength l G z M E 7 8 9 m2 kd pa (x.toInt64) (⟨by omega, by omega, by omega⟩) (by omega) b_7 b_8 b_9) (cwV 1 hts gX8_ofHelper_X1_strength rfl rfl rfl (by decide +kernel) (by rw [hRf, hRl]; exact ⟨Nat.le_of_ble_eq_true rfl, Nat.le_of_ble_eq_true rfl⟩)) (by omega) b_7 rfl rfl hl.1 rfl (Nat.le_of_ble_eq_true rfl) dX8_ofHelper_70 ⟨Nat.zero_le _, Nat.zero_le _⟩ (qh_kki fun r_70 E_2 H locs hpost hH => ?_)
      obtain ⟨rfl, rfl⟩ := hpost
      exact hret dX8_ofHelper_73 hH (⟨rfl, by rw [ohR, if_pos hhas, if_neg c_15_0, if_neg c_15_1, if_pos c_15_2]⟩)
    by_cases c_15_3 : y = 3
    · refine lv_tableIn (tgt := 74) (off := 59) hx hb dX8_ofHelper_15 (by rw [c_15_3]; decide) (by rw [c_15_3]; decide) (by rw [c_15_3]; decide) (by decide) ?_
      refine lv_aload_n hx hb dX8_ofHelper_74 rfl (lv_at hl 0 rfl) ?_
      refine qh_get hx hb hH f_37 (by omega) b_0 rfl dX8_ofHelper_75 ?_
      refine lv_iload_n hx hb dX8_ofHelper_78 rfl (lv_at hl 1 rfl) ?_
      refine qh_runV (As := [.int x]) (rest := []) (C := RX2) ⟨hx, hb, hml, hown, hts⟩ hK hH (c_X2_actsOf l G z M E 13 14 15 ln _ (fun t => nI (ga t)) (fun t => nI (gb t)) _ x (⟨by omega, by omega, by omega⟩) (by omega) b_13 b_14 (fun t ht => hacts t (by omega))) (cwV 1 hts gX8_ofHelper_X2_actsOf rfl rfl rfl (by decide +kernel) (by rw [hRf, hRl]; exact ⟨Nat.le_of_ble_eq_true rfl, Nat.le_of_ble_eq_true rfl⟩)) (by omega) b_13 rfl rfl hl.1 rfl (Nat.le_of_ble_eq_true rfl) dX8_ofHelper_79 ⟨Nat.zero_le _, Nat.zero_le _⟩ (qh_kki fun r_79 E_3 H locs hpost hH => ?_)
      obtain ⟨rfl, rfl⟩ := hpost
      exact hret dX8_ofHelper_82 hH (⟨rfl, by rw [ohR, if_pos hhas, if_neg c_15_0, if_neg c_15_1, if_neg c_15_2, if_pos c_15_3]⟩)
    refine lv_tableOut (tgt := 83) hx hb dX8_ofHelper_15 (qs_out4 c_15_0 c_15_1 c_15_2 c_15_3) (by decide) ?_
    refine lv_bipush (v := (-2)) hx hb dX8_ofHelper_83 (by decide) ?_
    exact hret dX8_ofHelper_85 hH (⟨rfl, by rw [ohR, if_pos hhas, if_neg c_15_0, if_neg c_15_1, if_neg c_15_2, if_neg c_15_3]⟩)
  · have c_9 := bI_eq.mp c_9
    have hhas := (not_congr (hlp_has hm3)).mp c_9
    refine lv_iconst (v := (-1)) hx hb dX8_ofHelper_12 (by decide) ?_
    exact hret dX8_ofHelper_13 hH (⟨rfl, by rw [ohR, if_neg hhas]⟩)

set_option maxHeartbeats 1000000 in
set_option maxRecDepth 100000 in
theorem c_X8_ask (l : Launch) (G : qh_G) (z M : Nat) (E : Nat → va_E) (tr : Int32) (lf : Int32) (n : Nat) (f : Nat → Int64) (g : Nat → Int64) (bf : Nat → Int64) (m2 : Nat) (kd : Nat → Int32) (pa : Nat → Int32) (ln : Nat) (ts : Nat → Int32) (ga : Nat → Nat) (gb : Nat → Nat) (va : Nat → Int64) (rn : Nat) (cn : Nat → Nat) (vs : Nat → Int64) (hr : Nat → Int32) (la : Nat → Int32) (lg : Nat → Nat) (sc : Nat → Nat → Int32) (hM : 84 ≤ M) (hX : XE G z E tr lf n f g bf m2 kd pa ln ts ga gb va rn cn vs hr la lg sc) (hW : XW n m2 ln rn ga gb cn lg hr) (x : Int32) (y : Int32) (w : Int32) : Met l yX8_ask wsX8_ask (qh_R 3) (qh_Pre G z M E [.ref (z + 0), .int x, .int y, .int w]) (qh_Q G z M (qh_l (fun r E' => E = E' ∧ r = askR n f g x y w))) 0 0 (fun q => z ≤ q) := by
  refine qh_metL (cc := cX8_ask) (maxL := 4) (by decide) rfl (Nat.le_of_ble_eq_true rfl) ?_
  intro pZ eZ sZ mZ aZ bZ tZ cZ RR QQ ls hx hb hml hown hts hRf hRl hH hK hl hret
  have hown : sZ.vm.findClass RX8 = some mZ.cls := hown
  have hl : lv_has ls 4 [(0, .ref (z + 0)), (1, .int x), (2, .int y), (3, .int w)] := hl
  obtain ⟨tc, dg, hn0, tk, tp, gn, gk, gp, t0, a0, b0, v0, bg, tn, tf, tg, b_0, b_1, b_2, b_3, b_4, b_5, b_6, b_7, b_8, b_9, b_10, b_11, b_12, b_13, b_14, b_39, b_40, b_41, b_42, b_43, b_44, b_45, b_46, b_47, b_48, b_49, b_50, b_51, b_52, b_53, b_54, hacts, hsh⟩ := hX
  obtain ⟨⟨hn16, hm3, hl24, hr8⟩, hval, hcn, hlg, hhr⟩ := hW
  have in_X8 : ∀ w ∈ wsX80, w ∈ wsX8_ask := fun w h => List.mem_cons_of_mem _ (List.mem_append_left _ (List.mem_append_right _ h))
  have in_X3 : ∀ w ∈ wsX30, w ∈ wsX8_ask := fun w h => List.mem_cons_of_mem _ (List.mem_append_right _ h)
  have f_51 : qh_F G sZ mZ aZ 51 8 6 := qh_F.of hts in_X8 hown hK rfl 6 (by decide) (by decide +kernel)
  have f_114 : qh_F G sZ mZ aZ 114 3 1 := qh_F.of hts in_X3 hown hK rfl 1 (by decide) (by decide +kernel)
  have f_163 : qh_F G sZ mZ aZ 163 3 2 := qh_F.of hts in_X3 hown hK rfl 2 (by decide) (by decide +kernel)
  have k_161 := hts (.constantLong RX8 161 (-9223372036854775808)) (by decide +kernel)
  refine lv_aload_n hx hb dX8_ask_0 rfl (lv_at hl 0 rfl) ?_
  refine lv_iload_n hx hb dX8_ask_1 rfl (lv_at hl 1 rfl) ?_
  refine lv_iload_n hx hb dX8_ask_2 rfl (lv_at hl 2 rfl) ?_
  refine qh_runV (As := [.int x, .int y]) (rest := []) (C := RX8) ⟨hx, hb, hml, hown, hts⟩ hK hH (c_X8_refusedRun l G z M E tr lf (hM) b_0 n x y b_40) (cwV 2 hts gX8_ask_X8_refusedRun rfl rfl rfl (by decide +kernel) (by rw [hRf, hRl]; exact ⟨Nat.le_of_ble_eq_true rfl, Nat.le_of_ble_eq_true rfl⟩)) (by omega) b_0 rfl rfl hl.1 rfl (Nat.le_of_ble_eq_true rfl) dX8_ask_3 ⟨Nat.zero_le _, Nat.zero_le _⟩ (qh_kki fun r_3 E_1 H locs hpost hH => ?_)
  obtain ⟨rfl, rfl⟩ := hpost
  refine lv_if_eq (tgt := 13) hx hb dX8_ask_6 (by decide) (fun c_6 => ?_) (fun c_6 => ?_)
  · obtain ⟨a, b, hab, hbn, ea, eb⟩ := rfR_ok hn16 c_6
    have eA : x.toNatClampNeg = a := by rw [ea]; exact nI_clamp (by omega)
    have eB : y.toNatClampNeg = b := by rw [eb]; exact nI_clamp (by omega)
    have hl : lv_has ls 4 [(0, .ref (z + 0)), (1, .int (nI a)), (2, .int y), (3, .int w)] := by rw [ea] at hl; exact hl
    have hl : lv_has ls 4 [(0, .ref (z + 0)), (1, .int (nI a)), (2, .int (nI b)), (3, .int w)] := by rw [eb] at hl; exact hl
    refine lv_iload_n hx hb dX8_ask_13 rfl (lv_at hl 3 rfl) ?_
    by_cases c_14_0 : w = 0
    · refine lv_tableIn (tgt := 60) (off := 46) hx hb dX8_ask_14 (by rw [c_14_0]; decide) (by rw [c_14_0]; decide) (by rw [c_14_0]; decide) (by decide) ?_
      refine lv_aload_n hx hb dX8_ask_60 rfl (lv_at hl 0 rfl) ?_
      refine qh_get hx hb hH f_51 (by omega) b_0 rfl dX8_ask_61 ?_
      refine qh_get hx hb hH f_114 (by omega) b_40 rfl dX8_ask_64 ?_
      refine lv_iload_n hx hb dX8_ask_67 rfl (lv_at hl 1 rfl) ?_
      refine lv_iload_n hx hb dX8_ask_68 rfl (lv_at hl 2 rfl) ?_
      refine qh_runS (As := [.ref (z + 41), .int (nI a), .int (nI b)]) (rest := []) ⟨hx, hb, hml, hown, hts⟩ hK hH (c_X8_sum l G z M E 41 a b f (by omega) (⟨by omega, by omega⟩) b_41) (va_cwS 3 hts gX8_ask_X8_sum rfl rfl rfl (by decide +kernel) (by rw [hRf, hRl]; exact ⟨Nat.le_of_ble_eq_true rfl, Nat.le_of_ble_eq_true rfl⟩)) rfl hl.1 rfl (Nat.le_of_ble_eq_true rfl) dX8_ask_69 ⟨Nat.zero_le _, Nat.zero_le _⟩ (qh_kkl fun r_69 E_2 H locs hpost hH => ?_)
      obtain ⟨rfl, rfl⟩ := hpost
      exact hret dX8_ask_72 hH (⟨rfl, by rw [askR, if_pos c_6, if_pos c_14_0, eA, eB]⟩)
    by_cases c_14_1 : w = 1
    · refine lv_tableIn (tgt := 73) (off := 59) hx hb dX8_ask_14 (by rw [c_14_1]; decide) (by rw [c_14_1]; decide) (by rw [c_14_1]; decide) (by decide) ?_
      refine lv_aload_n hx hb dX8_ask_73 rfl (lv_at hl 0 rfl) ?_
      refine qh_get hx hb hH f_51 (by omega) b_0 rfl dX8_ask_74 ?_
      refine qh_get hx hb hH f_114 (by omega) b_40 rfl dX8_ask_77 ?_
      refine lv_iload_n hx hb dX8_ask_80 rfl (lv_at hl 1 rfl) ?_
      refine lv_iload_n hx hb dX8_ask_81 rfl (lv_at hl 2 rfl) ?_
      refine qh_runS (As := [.ref (z + 41), .int (nI a), .int (nI b)]) (rest := []) ⟨hx, hb, hml, hown, hts⟩ hK hH (c_X8_greatest l G z M E 41 a b f (by omega) (⟨by omega, by omega⟩) b_41) (va_cwS 3 hts gX8_ask_X8_greatest rfl rfl rfl (by decide +kernel) (by rw [hRf, hRl]; exact ⟨Nat.le_of_ble_eq_true rfl, Nat.le_of_ble_eq_true rfl⟩)) rfl hl.1 rfl (Nat.le_of_ble_eq_true rfl) dX8_ask_82 ⟨Nat.zero_le _, Nat.zero_le _⟩ (qh_kkl fun r_82 E_3 H locs hpost hH => ?_)
      obtain ⟨rfl, rfl⟩ := hpost
      exact hret dX8_ask_85 hH (⟨rfl, by rw [askR, if_pos c_6, if_neg c_14_0, if_pos c_14_1, eA, eB]⟩)
    by_cases c_14_2 : w = 2
    · refine lv_tableIn (tgt := 86) (off := 72) hx hb dX8_ask_14 (by rw [c_14_2]; decide) (by rw [c_14_2]; decide) (by rw [c_14_2]; decide) (by decide) ?_
      refine lv_aload_n hx hb dX8_ask_86 rfl (lv_at hl 0 rfl) ?_
      refine qh_get hx hb hH f_51 (by omega) b_0 rfl dX8_ask_87 ?_
      refine qh_get hx hb hH f_114 (by omega) b_40 rfl dX8_ask_90 ?_
      refine lv_iload_n hx hb dX8_ask_93 rfl (lv_at hl 1 rfl) ?_
      refine lv_iload_n hx hb dX8_ask_94 rfl (lv_at hl 2 rfl) ?_
      refine qh_runS (As := [.ref (z + 41), .int (nI a), .int (nI b)]) (rest := []) ⟨hx, hb, hml, hown, hts⟩ hK hH (c_X8_least l G z M E 41 a b f (by omega) (⟨by omega, by omega⟩) b_41) (va_cwS 3 hts gX8_ask_X8_least rfl rfl rfl (by decide +kernel) (by rw [hRf, hRl]; exact ⟨Nat.le_of_ble_eq_true rfl, Nat.le_of_ble_eq_true rfl⟩)) rfl hl.1 rfl (Nat.le_of_ble_eq_true rfl) dX8_ask_95 ⟨Nat.zero_le _, Nat.zero_le _⟩ (qh_kkl fun r_95 E_4 H locs hpost hH => ?_)
      obtain ⟨rfl, rfl⟩ := hpost
      exact hret dX8_ask_98 hH (⟨rfl, by rw [askR, if_pos c_6, if_neg c_14_0, if_neg c_14_1, if_pos c_14_2, eA, eB]⟩)
    by_cases c_14_3 : w = 3
    · refine lv_tableIn (tgt := 99) (off := 85) hx hb dX8_ask_14 (by rw [c_14_3]; decide) (by rw [c_14_3]; decide) (by rw [c_14_3]; decide) (by decide) ?_
      refine lv_aload_n hx hb dX8_ask_99 rfl (lv_at hl 0 rfl) ?_
      refine qh_get hx hb hH f_51 (by omega) b_0 rfl dX8_ask_100 ?_
      refine qh_get hx hb hH f_114 (by omega) b_40 rfl dX8_ask_103 ?_
      refine lv_iload_n hx hb dX8_ask_106 rfl (lv_at hl 1 rfl) ?_
      refine lv_iload_n hx hb dX8_ask_107 rfl (lv_at hl 2 rfl) ?_
      refine qh_runS (As := [.ref (z + 41), .int (nI a), .int (nI b)]) (rest := []) ⟨hx, hb, hml, hown, hts⟩ hK hH (c_X8_howManyGreatest l G z M E 41 a b f (by omega) (⟨by omega, by omega⟩) b_41) (va_cwS 3 hts gX8_ask_X8_howManyGreatest rfl rfl rfl (by decide +kernel) (by rw [hRf, hRl]; exact ⟨Nat.le_of_ble_eq_true rfl, Nat.le_of_ble_eq_true rfl⟩)) rfl hl.1 rfl (Nat.le_of_ble_eq_true rfl) dX8_ask_108 ⟨Nat.zero_le _, Nat.zero_le _⟩ (qh_kki fun r_108 E_5 H locs hpost hH => ?_)
      obtain ⟨rfl, rfl⟩ := hpost
      refine lv_i2l (v := (nI (cntR (fun k => decide (¬ f k < maxR f a (b - a))) a (b + 1 - a))).toInt64) hx hb dX8_ask_111 rfl ?_
      exact hret dX8_ask_112 hH (⟨rfl, by rw [askR, if_pos c_6, if_neg c_14_0, if_neg c_14_1, if_neg c_14_2, if_pos c_14_3, eA, eB]⟩)
    by_cases c_14_4 : w = 4
    · refine lv_tableIn (tgt := 113) (off := 99) hx hb dX8_ask_14 (by rw [c_14_4]; decide) (by rw [c_14_4]; decide) (by rw [c_14_4]; decide) (by decide) ?_
      refine lv_aload_n hx hb dX8_ask_113 rfl (lv_at hl 0 rfl) ?_
      refine qh_get hx hb hH f_51 (by omega) b_0 rfl dX8_ask_114 ?_
      refine qh_get hx hb hH f_114 (by omega) b_40 rfl dX8_ask_117 ?_
      refine lv_iload_n hx hb dX8_ask_120 rfl (lv_at hl 1 rfl) ?_
      refine lv_iload_n hx hb dX8_ask_121 rfl (lv_at hl 2 rfl) ?_
      refine qh_runS (As := [.ref (z + 41), .int (nI a), .int (nI b)]) (rest := []) ⟨hx, hb, hml, hown, hts⟩ hK hH (c_X8_second l G z M E 41 a b f (by omega) (⟨by omega, by omega⟩) b_41) (va_cwS 3 hts gX8_ask_X8_second rfl rfl rfl (by decide +kernel) (by rw [hRf, hRl]; exact ⟨Nat.le_of_ble_eq_true rfl, Nat.le_of_ble_eq_true rfl⟩)) rfl hl.1 rfl (Nat.le_of_ble_eq_true rfl) dX8_ask_122 ⟨Nat.zero_le _, Nat.zero_le _⟩ (qh_kkl fun r_122 E_6 H locs hpost hH => ?_)
      obtain ⟨rfl, rfl⟩ := hpost
      exact hret dX8_ask_125 hH (⟨rfl, by rw [askR, if_pos c_6, if_neg c_14_0, if_neg c_14_1, if_neg c_14_2, if_neg c_14_3, if_pos c_14_4, eA, eB]⟩)
    by_cases c_14_5 : w = 5
    · refine lv_tableIn (tgt := 126) (off := 112) hx hb dX8_ask_14 (by rw [c_14_5]; decide) (by rw [c_14_5]; decide) (by rw [c_14_5]; decide) (by decide) ?_
      refine lv_aload_n hx hb dX8_ask_126 rfl (lv_at hl 0 rfl) ?_
      refine qh_get hx hb hH f_51 (by omega) b_0 rfl dX8_ask_127 ?_
      refine qh_get hx hb hH f_114 (by omega) b_40 rfl dX8_ask_130 ?_
      refine lv_iload_n hx hb dX8_ask_133 rfl (lv_at hl 1 rfl) ?_
      refine lv_iload_n hx hb dX8_ask_134 rfl (lv_at hl 2 rfl) ?_
      refine qh_runS (As := [.ref (z + 41), .int (nI a), .int (nI b)]) (rest := []) ⟨hx, hb, hml, hown, hts⟩ hK hH (c_X8_howManyUnlike l G z M E 41 a b f (by omega) (⟨by omega, by omega⟩) b_41) (va_cwS 3 hts gX8_ask_X8_howManyUnlike rfl rfl rfl (by decide +kernel) (by rw [hRf, hRl]; exact ⟨Nat.le_of_ble_eq_true rfl, Nat.le_of_ble_eq_true rfl⟩)) rfl hl.1 rfl (Nat.le_of_ble_eq_true rfl) dX8_ask_135 ⟨Nat.zero_le _, Nat.zero_le _⟩ (qh_kki fun r_135 E_7 H locs hpost hH => ?_)
      obtain ⟨rfl, rfl⟩ := hpost
      refine lv_i2l (v := (nI (unlR f a (b + 1 - a))).toInt64) hx hb dX8_ask_138 rfl ?_
      exact hret dX8_ask_139 hH (⟨rfl, by rw [askR, if_pos c_6, if_neg c_14_0, if_neg c_14_1, if_neg c_14_2, if_neg c_14_3, if_neg c_14_4, if_pos c_14_5, eA, eB]⟩)
    by_cases c_14_6 : w = 6
    · refine lv_tableIn (tgt := 140) (off := 126) hx hb dX8_ask_14 (by rw [c_14_6]; decide) (by rw [c_14_6]; decide) (by rw [c_14_6]; decide) (by decide) ?_
      refine lv_aload_n hx hb dX8_ask_140 rfl (lv_at hl 0 rfl) ?_
      refine qh_get hx hb hH f_51 (by omega) b_0 rfl dX8_ask_141 ?_
      refine qh_get hx hb hH f_163 (by omega) b_40 rfl dX8_ask_144 ?_
      refine lv_iload_n hx hb dX8_ask_147 rfl (lv_at hl 1 rfl) ?_
      refine lv_iload_n hx hb dX8_ask_148 rfl (lv_at hl 2 rfl) ?_
      refine qh_runS (As := [.ref (z + 42), .int (nI a), .int (nI b)]) (rest := []) ⟨hx, hb, hml, hown, hts⟩ hK hH (c_X8_greatest l G z M E 42 a b g (by omega) (⟨by omega, by omega⟩) b_42) (va_cwS 3 hts gX8_ask_X8_greatest rfl rfl rfl (by decide +kernel) (by rw [hRf, hRl]; exact ⟨Nat.le_of_ble_eq_true rfl, Nat.le_of_ble_eq_true rfl⟩)) rfl hl.1 rfl (Nat.le_of_ble_eq_true rfl) dX8_ask_149 ⟨Nat.zero_le _, Nat.zero_le _⟩ (qh_kkl fun r_149 E_8 H locs hpost hH => ?_)
      obtain ⟨rfl, rfl⟩ := hpost
      exact hret dX8_ask_152 hH (⟨rfl, by rw [askR, if_pos c_6, if_neg c_14_0, if_neg c_14_1, if_neg c_14_2, if_neg c_14_3, if_neg c_14_4, if_neg c_14_5, if_pos c_14_6, eA, eB]⟩)
    by_cases c_14_7 : w = 7
    · refine lv_tableIn (tgt := 153) (off := 139) hx hb dX8_ask_14 (by rw [c_14_7]; decide) (by rw [c_14_7]; decide) (by rw [c_14_7]; decide) (by decide) ?_
      refine lv_aload_n hx hb dX8_ask_153 rfl (lv_at hl 0 rfl) ?_
      refine qh_get hx hb hH f_51 (by omega) b_0 rfl dX8_ask_154 ?_
      refine qh_get hx hb hH f_163 (by omega) b_40 rfl dX8_ask_157 ?_
      refine lv_iload_n hx hb dX8_ask_160 rfl (lv_at hl 1 rfl) ?_
      refine lv_iload_n hx hb dX8_ask_161 rfl (lv_at hl 2 rfl) ?_
      refine qh_runS (As := [.ref (z + 42), .int (nI a), .int (nI b)]) (rest := []) ⟨hx, hb, hml, hown, hts⟩ hK hH (c_X8_sum l G z M E 42 a b g (by omega) (⟨by omega, by omega⟩) b_42) (va_cwS 3 hts gX8_ask_X8_sum rfl rfl rfl (by decide +kernel) (by rw [hRf, hRl]; exact ⟨Nat.le_of_ble_eq_true rfl, Nat.le_of_ble_eq_true rfl⟩)) rfl hl.1 rfl (Nat.le_of_ble_eq_true rfl) dX8_ask_162 ⟨Nat.zero_le _, Nat.zero_le _⟩ (qh_kkl fun r_162 E_9 H locs hpost hH => ?_)
      obtain ⟨rfl, rfl⟩ := hpost
      exact hret dX8_ask_165 hH (⟨rfl, by rw [askR, if_pos c_6, if_neg c_14_0, if_neg c_14_1, if_neg c_14_2, if_neg c_14_3, if_neg c_14_4, if_neg c_14_5, if_neg c_14_6, if_pos c_14_7, eA, eB]⟩)
    refine lv_tableOut (tgt := 166) hx hb dX8_ask_14 (qs_out8 c_14_0 c_14_1 c_14_2 c_14_3 c_14_4 c_14_5 c_14_6 c_14_7) (by decide) ?_
    refine lv_ldc2 hx hb hown k_161 dX8_ask_166 ?_
    refine qh_topl (y := LOSTv) (rfl) ?_
    exact hret dX8_ask_169 hH (⟨rfl, by rw [askR, if_pos c_6, if_neg c_14_0, if_neg c_14_1, if_neg c_14_2, if_neg c_14_3, if_neg c_14_4, if_neg c_14_5, if_neg c_14_6, if_neg c_14_7]⟩)
  · refine lv_ldc2 hx hb hown k_161 dX8_ask_9 ?_
    refine qh_topl (y := LOSTv) (rfl) ?_
    exact hret dX8_ask_12 hH (⟨rfl, by rw [askR, if_neg c_6]⟩)

set_option maxHeartbeats 1000000 in
set_option maxRecDepth 100000 in
theorem c_X8_odds (l : Launch) (G : qh_G) (z M : Nat) (E : Nat → va_E) (tr : Int32) (lf : Int32) (n : Nat) (f : Nat → Int64) (g : Nat → Int64) (bf : Nat → Int64) (m2 : Nat) (kd : Nat → Int32) (pa : Nat → Int32) (ln : Nat) (ts : Nat → Int32) (ga : Nat → Nat) (gb : Nat → Nat) (va : Nat → Int64) (rn : Nat) (cn : Nat → Nat) (vs : Nat → Int64) (hr : Nat → Int32) (la : Nat → Int32) (lg : Nat → Nat) (sc : Nat → Nat → Int32) (hM : 84 ≤ M) (hX : XE G z E tr lf n f g bf m2 kd pa ln ts ga gb va rn cn vs hr la lg sc) (hW : XW n m2 ln rn ga gb cn lg hr) (x : Int32) (y : Int32) (v : Int64) (w : Int32) : Met l yX8_odds wsX8_odds (qh_R 2) (qh_Pre G z M E [.ref (z + 0), .int x, .int y, .long v, .int w]) (qh_Q G z M (qh_l (fun r E' => E = E' ∧ r = oddR n f x y v w))) 0 0 (fun q => z ≤ q) := by
  refine qh_metL (cc := cX8_odds) (maxL := 9) (by decide) rfl (Nat.le_of_ble_eq_true rfl) ?_
  intro pZ eZ sZ mZ aZ bZ tZ cZ RR QQ ls hx hb hml hown hts hRf hRl hH hK hl hret
  have hown : sZ.vm.findClass RX8 = some mZ.cls := hown
  have hl : lv_has ls 9 [(0, .ref (z + 0)), (1, .int x), (2, .int y), (3, .long v), (5, .int w)] := hl
  obtain ⟨tc, dg, hn0, tk, tp, gn, gk, gp, t0, a0, b0, v0, bg, tn, tf, tg, b_0, b_1, b_2, b_3, b_4, b_5, b_6, b_7, b_8, b_9, b_10, b_11, b_12, b_13, b_14, b_39, b_40, b_41, b_42, b_43, b_44, b_45, b_46, b_47, b_48, b_49, b_50, b_51, b_52, b_53, b_54, hacts, hsh⟩ := hX
  obtain ⟨⟨hn16, hm3, hl24, hr8⟩, hval, hcn, hlg, hhr⟩ := hW
  have in_X8 : ∀ w ∈ wsX80, w ∈ wsX8_odds := fun w h => List.mem_cons_of_mem _ (List.mem_append_left _ (List.mem_append_right _ h))
  have in_X3 : ∀ w ∈ wsX30, w ∈ wsX8_odds := fun w h => List.mem_cons_of_mem _ (List.mem_append_right _ h)
  have k_161 := hts (.constantLong RX8 161 (-9223372036854775808)) (by decide +kernel)
  have f_51 : qh_F G sZ mZ aZ 51 8 6 := qh_F.of hts in_X8 hown hK rfl 6 (by decide) (by decide +kernel)
  have f_114 : qh_F G sZ mZ aZ 114 3 1 := qh_F.of hts in_X3 hown hK rfl 1 (by decide) (by decide +kernel)
  refine lv_aload_n hx hb dX8_odds_0 rfl (lv_at hl 0 rfl) ?_
  refine lv_iload_n hx hb dX8_odds_1 rfl (lv_at hl 1 rfl) ?_
  refine lv_iload_n hx hb dX8_odds_2 rfl (lv_at hl 2 rfl) ?_
  refine qh_runV (As := [.int x, .int y]) (rest := []) (C := RX8) ⟨hx, hb, hml, hown, hts⟩ hK hH (c_X8_refusedRun l G z M E tr lf (hM) b_0 n x y b_40) (cwV 2 hts gX8_odds_X8_refusedRun rfl rfl rfl (by decide +kernel) (by rw [hRf, hRl]; exact ⟨Nat.le_of_ble_eq_true rfl, Nat.le_of_ble_eq_true rfl⟩)) (by omega) b_0 rfl rfl hl.1 rfl (Nat.le_of_ble_eq_true rfl) dX8_odds_3 ⟨Nat.zero_le _, Nat.zero_le _⟩ (qh_kki fun r_3 E_1 H locs hpost hH => ?_)
  obtain ⟨rfl, rfl⟩ := hpost
  refine lv_if_ne (tgt := 20) hx hb dX8_odds_6 (by decide) (fun c_6 => ?_) (fun c_6 => ?_)
  · refine lv_ldc2 hx hb hown k_161 dX8_odds_20 ?_
    refine qh_topl (y := LOSTv) (rfl) ?_
    exact hret dX8_odds_23 hH (⟨rfl, by rw [oddR, if_neg (fun q => c_6 q.1)]⟩)
  · obtain ⟨a, b, hab, hbn, ea, eb⟩ := rfR_ok hn16 c_6
    have eA : x.toNatClampNeg = a := by rw [ea]; exact nI_clamp (by omega)
    have eB : y.toNatClampNeg = b := by rw [eb]; exact nI_clamp (by omega)
    have hl : lv_has ls 9 [(0, .ref (z + 0)), (1, .int (nI a)), (2, .int y), (3, .long v), (5, .int w)] := by rw [ea] at hl; exact hl
    have hl : lv_has ls 9 [(0, .ref (z + 0)), (1, .int (nI a)), (2, .int (nI b)), (3, .long v), (5, .int w)] := by rw [eb] at hl; exact hl
    refine lv_iload hx hb dX8_odds_9 (lv_at hl 4 rfl) ?_
    refine lv_if_eq (tgt := 24) hx hb dX8_odds_11 (by decide) (fun c_11 => ?_) (fun c_11 => ?_)
    · have hw : w = 0 ∨ w = 1 := Or.inl c_11
      have hoN := odN_le f a b v
      have hgp : 0 < Nat.gcd (odN f a b v) (b - a + 1) := Nat.gcd_pos_of_pos_right _ (by omega)
      have hgl := Nat.le_of_dvd (show 0 < b - a + 1 by omega) (Nat.gcd_dvd_right (odN f a b v) (b - a + 1))
      refine lv_iload_n hx hb dX8_odds_24 rfl (lv_at hl 2 rfl) ?_
      refine lv_iload_n hx hb dX8_odds_25 rfl (lv_at hl 1 rfl) ?_
      refine lv_isub hx hb dX8_odds_26 ?_
      refine qh_topi (y := nI (b - a)) (pk_sub hab) ?_
      refine lv_iconst (v := 1) hx hb dX8_odds_27 (by decide) ?_
      refine lv_iadd hx hb dX8_odds_28 ?_
      refine qh_topi (y := nI (b - a + 1)) (nI_1 _) ?_
      refine lv_istore (lv' := [(6, .int (nI (b - a + 1))), (0, .ref (z + 0)), (1, .int (nI a)), (2, .int (nI b)), (3, .long v), (5, .int w)]) hx hb dX8_odds_29 hl (by decide) rfl (fun ls hl => ?_)
      refine lv_aload_n hx hb dX8_odds_31 rfl (lv_at hl 1 rfl) ?_
      refine qh_get hx hb hH f_51 (by omega) b_0 rfl dX8_odds_32 ?_
      refine qh_get hx hb hH f_114 (by omega) b_40 rfl dX8_odds_35 ?_
      refine lv_iload_n hx hb dX8_odds_38 rfl (lv_at hl 2 rfl) ?_
      refine lv_iload_n hx hb dX8_odds_39 rfl (lv_at hl 3 rfl) ?_
      refine lv_lload_n hx hb dX8_odds_40 rfl (lv_at hl 4 rfl) ?_
      refine qh_runS (As := [.ref (z + 41), .int (nI a), .int (nI b), .long v]) (rest := []) ⟨hx, hb, hml, hown, hts⟩ hK hH (c_X8_howManyFrom l G z M E 41 a b f v (by omega) (⟨by omega, by omega⟩) b_41) (va_cwS 4 hts gX8_odds_X8_howManyFrom rfl rfl rfl (by decide +kernel) (by rw [hRf, hRl]; exact ⟨Nat.le_of_ble_eq_true rfl, Nat.le_of_ble_eq_true rfl⟩)) rfl hl.1 rfl (Nat.le_of_ble_eq_true rfl) dX8_odds_41 ⟨Nat.zero_le _, Nat.zero_le _⟩ (qh_kki fun r_41 E_2 H locs hpost hH => ?_)
      obtain ⟨rfl, rfl⟩ := hpost
      refine qh_topi (y := nI (odN f a b v)) (rfl) ?_
      refine lv_istore (lv' := [(7, .int (nI (odN f a b v))), (6, .int (nI (b - a + 1))), (0, .ref (z + 0)), (1, .int (nI a)), (2, .int (nI b)), (3, .long v), (5, .int w)]) hx hb dX8_odds_44 hl (by decide) rfl (fun ls hl => ?_)
      refine lv_iload hx hb dX8_odds_46 (lv_at hl 0 rfl) ?_
      refine lv_iload hx hb dX8_odds_48 (lv_at hl 1 rfl) ?_
      refine qh_runS (As := [.int (nI (odN f a b v)), .int (nI (b - a + 1))]) (rest := []) ⟨hx, hb, hml, hown, hts⟩ hK hH (c_X8_commonDivisor l G z M E (odN f a b v) (b - a + 1) (⟨by omega, by omega, by omega⟩)) (va_cwS 2 hts gX8_odds_X8_commonDivisor rfl rfl rfl (by decide +kernel) (by rw [hRf, hRl]; exact ⟨Nat.le_of_ble_eq_true rfl, Nat.le_of_ble_eq_true rfl⟩)) rfl hl.1 rfl (Nat.le_of_ble_eq_true rfl) dX8_odds_50 ⟨Nat.zero_le _, Nat.zero_le _⟩ (qh_kki fun r_50 E_3 H locs hpost hH => ?_)
      obtain ⟨rfl, rfl⟩ := hpost
      refine lv_istore (lv' := [(8, .int (nI (Nat.gcd (odN f a b v) (b - a + 1)))), (7, .int (nI (odN f a b v))), (6, .int (nI (b - a + 1))), (0, .ref (z + 0)), (1, .int (nI a)), (2, .int (nI b)), (3, .long v), (5, .int w)]) hx hb dX8_odds_53 hl (by decide) rfl (fun ls hl => ?_)
      refine lv_iload hx hb dX8_odds_55 (lv_at hl 7 rfl) ?_
      refine lv_if_ne (tgt := 69) hx hb dX8_odds_57 (by decide) (fun c_57 => ?_) (fun c_57 => ?_)
      · have hw1 : w = 1 := hw.resolve_left c_57
        refine lv_iload hx hb dX8_odds_69 (lv_at hl 2 rfl) ?_
        refine lv_iload hx hb dX8_odds_71 (lv_at hl 0 rfl) ?_
        refine lv_idiv hx hb dX8_odds_73 (nI_ne0 hgp (by omega)) ?_
        refine qh_topi (y := nI ((b - a + 1) / Nat.gcd (odN f a b v) (b - a + 1))) (pk_div (by omega) hgp (by omega)) ?_
        refine lv_i2l (v := (nI ((b - a + 1) / Nat.gcd (odN f a b v) (b - a + 1))).toInt64) hx hb dX8_odds_74 rfl ?_
        exact hret dX8_odds_75 hH (⟨rfl, by rw [oddR, if_pos ⟨c_6, hw⟩, if_neg c_57, eA, eB]⟩)
      · refine lv_iload hx hb dX8_odds_60 (lv_at hl 1 rfl) ?_
        refine lv_iload hx hb dX8_odds_62 (lv_at hl 0 rfl) ?_
        refine lv_idiv hx hb dX8_odds_64 (nI_ne0 hgp (by omega)) ?_
        refine qh_topi (y := nI (odN f a b v / Nat.gcd (odN f a b v) (b - a + 1))) (pk_div (by omega) hgp (by omega)) ?_
        refine lv_i2l (v := (nI (odN f a b v / Nat.gcd (odN f a b v) (b - a + 1))).toInt64) hx hb dX8_odds_65 rfl ?_
        refine lv_goto (tgt := 75) hx hb dX8_odds_66 (by decide) ?_
        exact hret dX8_odds_75 hH (⟨rfl, by rw [oddR, if_pos ⟨c_6, hw⟩, if_pos c_57, eA, eB]⟩)
    · refine lv_iload hx hb dX8_odds_14 (lv_at hl 4 rfl) ?_
      refine lv_iconst (v := 1) hx hb dX8_odds_16 (by decide) ?_
      refine lv_icmp_eq (tgt := 24) hx hb dX8_odds_17 (by decide) (fun c_17 => ?_) (fun c_17 => ?_)
      · have hw : w = 0 ∨ w = 1 := Or.inr c_17
        have hoN := odN_le f a b v
        have hgp : 0 < Nat.gcd (odN f a b v) (b - a + 1) := Nat.gcd_pos_of_pos_right _ (by omega)
        have hgl := Nat.le_of_dvd (show 0 < b - a + 1 by omega) (Nat.gcd_dvd_right (odN f a b v) (b - a + 1))
        refine lv_iload_n hx hb dX8_odds_24 rfl (lv_at hl 2 rfl) ?_
        refine lv_iload_n hx hb dX8_odds_25 rfl (lv_at hl 1 rfl) ?_
        refine lv_isub hx hb dX8_odds_26 ?_
        refine qh_topi (y := nI (b - a)) (pk_sub hab) ?_
        refine lv_iconst (v := 1) hx hb dX8_odds_27 (by decide) ?_
        refine lv_iadd hx hb dX8_odds_28 ?_
        refine qh_topi (y := nI (b - a + 1)) (nI_1 _) ?_
        refine lv_istore (lv' := [(6, .int (nI (b - a + 1))), (0, .ref (z + 0)), (1, .int (nI a)), (2, .int (nI b)), (3, .long v), (5, .int w)]) hx hb dX8_odds_29 hl (by decide) rfl (fun ls hl => ?_)
        refine lv_aload_n hx hb dX8_odds_31 rfl (lv_at hl 1 rfl) ?_
        refine qh_get hx hb hH f_51 (by omega) b_0 rfl dX8_odds_32 ?_
        refine qh_get hx hb hH f_114 (by omega) b_40 rfl dX8_odds_35 ?_
        refine lv_iload_n hx hb dX8_odds_38 rfl (lv_at hl 2 rfl) ?_
        refine lv_iload_n hx hb dX8_odds_39 rfl (lv_at hl 3 rfl) ?_
        refine lv_lload_n hx hb dX8_odds_40 rfl (lv_at hl 4 rfl) ?_
        refine qh_runS (As := [.ref (z + 41), .int (nI a), .int (nI b), .long v]) (rest := []) ⟨hx, hb, hml, hown, hts⟩ hK hH (c_X8_howManyFrom l G z M E 41 a b f v (by omega) (⟨by omega, by omega⟩) b_41) (va_cwS 4 hts gX8_odds_X8_howManyFrom rfl rfl rfl (by decide +kernel) (by rw [hRf, hRl]; exact ⟨Nat.le_of_ble_eq_true rfl, Nat.le_of_ble_eq_true rfl⟩)) rfl hl.1 rfl (Nat.le_of_ble_eq_true rfl) dX8_odds_41 ⟨Nat.zero_le _, Nat.zero_le _⟩ (qh_kki fun r_41 E_4 H locs hpost hH => ?_)
        obtain ⟨rfl, rfl⟩ := hpost
        refine qh_topi (y := nI (odN f a b v)) (rfl) ?_
        refine lv_istore (lv' := [(7, .int (nI (odN f a b v))), (6, .int (nI (b - a + 1))), (0, .ref (z + 0)), (1, .int (nI a)), (2, .int (nI b)), (3, .long v), (5, .int w)]) hx hb dX8_odds_44 hl (by decide) rfl (fun ls hl => ?_)
        refine lv_iload hx hb dX8_odds_46 (lv_at hl 0 rfl) ?_
        refine lv_iload hx hb dX8_odds_48 (lv_at hl 1 rfl) ?_
        refine qh_runS (As := [.int (nI (odN f a b v)), .int (nI (b - a + 1))]) (rest := []) ⟨hx, hb, hml, hown, hts⟩ hK hH (c_X8_commonDivisor l G z M E (odN f a b v) (b - a + 1) (⟨by omega, by omega, by omega⟩)) (va_cwS 2 hts gX8_odds_X8_commonDivisor rfl rfl rfl (by decide +kernel) (by rw [hRf, hRl]; exact ⟨Nat.le_of_ble_eq_true rfl, Nat.le_of_ble_eq_true rfl⟩)) rfl hl.1 rfl (Nat.le_of_ble_eq_true rfl) dX8_odds_50 ⟨Nat.zero_le _, Nat.zero_le _⟩ (qh_kki fun r_50 E_5 H locs hpost hH => ?_)
        obtain ⟨rfl, rfl⟩ := hpost
        refine lv_istore (lv' := [(8, .int (nI (Nat.gcd (odN f a b v) (b - a + 1)))), (7, .int (nI (odN f a b v))), (6, .int (nI (b - a + 1))), (0, .ref (z + 0)), (1, .int (nI a)), (2, .int (nI b)), (3, .long v), (5, .int w)]) hx hb dX8_odds_53 hl (by decide) rfl (fun ls hl => ?_)
        refine lv_iload hx hb dX8_odds_55 (lv_at hl 7 rfl) ?_
        refine lv_if_ne (tgt := 69) hx hb dX8_odds_57 (by decide) (fun c_57 => ?_) (fun c_57 => ?_)
        · have hw1 : w = 1 := hw.resolve_left c_57
          refine lv_iload hx hb dX8_odds_69 (lv_at hl 2 rfl) ?_
          refine lv_iload hx hb dX8_odds_71 (lv_at hl 0 rfl) ?_
          refine lv_idiv hx hb dX8_odds_73 (nI_ne0 hgp (by omega)) ?_
          refine qh_topi (y := nI ((b - a + 1) / Nat.gcd (odN f a b v) (b - a + 1))) (pk_div (by omega) hgp (by omega)) ?_
          refine lv_i2l (v := (nI ((b - a + 1) / Nat.gcd (odN f a b v) (b - a + 1))).toInt64) hx hb dX8_odds_74 rfl ?_
          exact hret dX8_odds_75 hH (⟨rfl, by rw [oddR, if_pos ⟨c_6, hw⟩, if_neg c_57, eA, eB]⟩)
        · refine lv_iload hx hb dX8_odds_60 (lv_at hl 1 rfl) ?_
          refine lv_iload hx hb dX8_odds_62 (lv_at hl 0 rfl) ?_
          refine lv_idiv hx hb dX8_odds_64 (nI_ne0 hgp (by omega)) ?_
          refine qh_topi (y := nI (odN f a b v / Nat.gcd (odN f a b v) (b - a + 1))) (pk_div (by omega) hgp (by omega)) ?_
          refine lv_i2l (v := (nI (odN f a b v / Nat.gcd (odN f a b v) (b - a + 1))).toInt64) hx hb dX8_odds_65 rfl ?_
          refine lv_goto (tgt := 75) hx hb dX8_odds_66 (by decide) ?_
          exact hret dX8_odds_75 hH (⟨rfl, by rw [oddR, if_pos ⟨c_6, hw⟩, if_pos c_57, eA, eB]⟩)
      · refine lv_ldc2 hx hb hown k_161 dX8_odds_20 ?_
        refine qh_topl (y := LOSTv) (rfl) ?_
        exact hret dX8_odds_23 hH (⟨rfl, by rw [oddR, if_neg (fun q => q.2.elim c_11 c_17)]⟩)
