/-- the first q of one row, the rest of another -/
def mixL (a b : Nat → Int64) (q : Nat) : Nat → Int64 := fun k => if k < q then a k else b k
theorem mixL_0 (a b : Nat → Int64) : mixL a b 0 = b := by
  funext k
  exact if_neg (Nat.not_lt_zero k)
theorem mixL_s (a b : Nat → Int64) (q : Nat) : vp_updL (mixL a b q) q (a q) = mixL a b (q + 1) := by
  funext k
  simp only [vp_updL, mixL]
  by_cases h : k = q
  · subst h
    rw [if_pos rfl, if_pos (by omega)]
  · rw [if_neg h]
    by_cases h2 : k < q
    · rw [if_pos h2, if_pos (by omega)]
    · rw [if_neg h2, if_neg (by omega)]
theorem mixL_lt {a b : Nat → Int64} {q k : Nat} (h : k < q) : mixL a b q k = a k := if_pos h
theorem mixL_ge {a b : Nat → Int64} {q k : Nat} (h : ¬ k < q) : mixL a b q k = b k := if_neg h
/-- the greatest ever, from a row of its own on -/
def repK (h f : Nat → Int64) (m2 : Nat) (kd pa ts : Nat → Int32) (ga gb : Nat → Nat) (va : Nat → Int64) : Nat → Nat → Int64
  | 0 => h
  | t + 1 => hisF (repK h f m2 kd pa ts ga gb va t) (repF f m2 kd pa ts ga gb va t) (ts t) (amt (ts t) m2 kd pa (va t)) (ga t) (gb t + 1 - ga t)
theorem repF_out {f : Nat → Int64} {m2 n k : Nat} {kd pa ts : Nat → Int32} {ga gb : Nat → Nat} {va : Nat → Int64} (hk : ¬ k < n) : ∀ {T : Nat}, (∀ t, t < T → ga t ≤ gb t ∧ gb t < n) → repF f m2 kd pa ts ga gb va T k = f k
  | 0, _ => rfl
  | T + 1, h => by
    have hT := h T (by omega)
    rw [repF, actF, if_neg (by omega)]
    exact repF_out hk (fun t ht => h t (by omega))
theorem repK_out {h0 f : Nat → Int64} {m2 n k : Nat} {kd pa ts : Nat → Int32} {ga gb : Nat → Nat} {va : Nat → Int64} (hk : ¬ k < n) : ∀ {T : Nat}, (∀ t, t < T → ga t ≤ gb t ∧ gb t < n) → repK h0 f m2 kd pa ts ga gb va T k = h0 k
  | 0, _ => rfl
  | T + 1, h => by
    have hT := h T (by omega)
    rw [repK, hisF, if_neg (by omega)]
    exact repK_out hk (fun t ht => h t (by omega))
theorem back_f {f mb k1 : Nat → Int64} {m2 n ln k : Nat} {kd pa ts : Nat → Int32} {ga gb : Nat → Nat} {va : Nat → Int64} (h : ∀ t, t < ln → ga t ≤ gb t ∧ gb t < n) (_ : k < 16) : mixL (mixL f k1 n) (repF (mixL mb f n) m2 kd pa ts ga gb va ln) n k = f k := by
  by_cases hk : k < n
  · rw [mixL_lt hk, mixL_lt hk]
  · rw [mixL_ge hk, repF_out hk h, mixL_ge hk]
theorem back_g {g F k2 : Nat → Int64} {m2 n ln k : Nat} {kd pa ts : Nat → Int32} {ga gb : Nat → Nat} {va : Nat → Int64} (h : ∀ t, t < ln → ga t ≤ gb t ∧ gb t < n) (_ : k < 16) : mixL (mixL g k2 n) (repK g F m2 kd pa ts ga gb va ln) n k = g k := by
  by_cases hk : k < n
  · rw [mixL_lt hk, mixL_lt hk]
  · rw [mixL_ge hk, repK_out hk h]
theorem allR_pre {q : Nat → Bool} {n : Nat} (h : allR q (n + 1) = true) : allR q n = true := by
  simp only [allR, Bool.and_eq_true] at h
  exact h.1
set_option maxHeartbeats 1000000 in
set_option maxRecDepth 100000 in
theorem c_X9_begins (l : Launch) (G : qh_G) (z M : Nat) (E : Nat → va_E) (fa : Int32) (tm : Int32) (n : Nat) (m2 : Nat) (ln : Nat) (pt : Int32) (rm : Int32) (rh : Int32) (sf : Int32) (sl : Int32) (rn : Nat) (hM : 84 ≤ M) (b_63 : E 63 = .inr (9, [.int fa, .int tm, .ref (z + 64), .ref (z + 65), .ref (z + 66), .int (nI n), .int (nI m2), .ref (z + 67), .ref (z + 68), .ref (z + 69), .ref (z + 70), .ref (z + 71), .int (nI ln), .ref (z + 72), .ref (z + 73), .ref (z + 74), .ref (z + 75), .int pt, .int rm, .int rh, .ref (z + 76), .ref (z + 77), .ref (z + 78), .ref (z + 79), .ref (z + 80), .int sf, .int sl, .ref (z + 81), .int (nI rn), .ref (z + 82), .ref (z + 83)])) (f : Nat → Int64) (g : Nat → Int64) (mb : Nat → Int64) (hn16 : n ≤ 16) (b_67 : E 67 = qa_J G 16 f) (b_68 : E 68 = qa_J G 16 g) (b_69 : E 69 = qa_J G 16 mb) : Met l yX9_begins wsX9_begins (qh_R 0) (qh_Pre G z M E [.ref (z + 63)]) (qh_Q G z M (qh_v (fun E' => E' 63 = .inr (9, [.int fa, .int tm, .ref (z + 64), .ref (z + 65), .ref (z + 66), .int (nI n), .int (nI m2), .ref (z + 67), .ref (z + 68), .ref (z + 69), .ref (z + 70), .ref (z + 71), .int 0, .ref (z + 72), .ref (z + 73), .ref (z + 74), .ref (z + 75), .int pt, .int rm, .int rh, .ref (z + 76), .ref (z + 77), .ref (z + 78), .ref (z + 79), .ref (z + 80), .int sf, .int sl, .ref (z + 81), .int (nI rn), .ref (z + 82), .ref (z + 83)]) ∧ E' 68 = qa_J G 16 (mixL f g n) ∧ E' 69 = qa_J G 16 (mixL f mb n) ∧ ∀ x9, x9 ≠ 63 → x9 ≠ 68 → x9 ≠ 69 → E' x9 = E x9))) 0 0 (fun q => z ≤ q) := by
  refine qh_metV (cc := cX9_begins) (maxL := 2) (by decide) rfl (Nat.le_of_ble_eq_true rfl) ?_
  intro pZ eZ sZ mZ aZ bZ tZ cZ RR QQ ls hx hb hml hown hts hRf hRl hH hK hl hret
  have hown : sZ.vm.findClass RX9 = some mZ.cls := hown
  have hl : lv_has ls 2 [(0, .ref (z + 63))] := hl
  have in_X9 : ∀ w ∈ wsX90, w ∈ wsX9_begins := fun w h => List.mem_cons_of_mem _ (List.mem_append_right _ h)
  have w_120 : qh_W G sZ mZ aZ 120 9 12 .int := qh_W.of hts in_X9 tyX9 tyX9_ok nmX9 hown hK rfl 12 (by decide) (by decide +kernel) rfl (by decide +kernel)
  have f_81 : qh_F G sZ mZ aZ 81 9 5 := qh_F.of hts in_X9 hown hK rfl 5 (by decide) (by decide +kernel)
  have f_23 : qh_F G sZ mZ aZ 23 9 8 := qh_F.of hts in_X9 hown hK rfl 8 (by decide) (by decide +kernel)
  have f_19 : qh_F G sZ mZ aZ 19 9 7 := qh_F.of hts in_X9 hown hK rfl 7 (by decide) (by decide +kernel)
  have f_26 : qh_F G sZ mZ aZ 26 9 9 := qh_F.of hts in_X9 hown hK rfl 9 (by decide) (by decide +kernel)
  refine lv_aload_n hx hb dX9_begins_0 rfl (lv_at hl 0 rfl) ?_
  refine lv_iconst (v := 0) hx hb dX9_begins_1 (by decide) ?_
  refine qh_put (fs' := [.int fa, .int tm, .ref (z + 64), .ref (z + 65), .ref (z + 66), .int (nI n), .int (nI m2), .ref (z + 67), .ref (z + 68), .ref (z + 69), .ref (z + 70), .ref (z + 71), .int 0, .ref (z + 72), .ref (z + 73), .ref (z + 74), .ref (z + 75), .int pt, .int rm, .int rh, .ref (z + 76), .ref (z + 77), .ref (z + 78), .ref (z + 79), .ref (z + 80), .int sf, .int sl, .ref (z + 81), .int (nI rn), .ref (z + 82), .ref (z + 83)]) hx hb hH w_120 (by omega) b_63 rfl rfl (Nat.le_of_ble_eq_true rfl) rfl dX9_begins_2 (fun E_1 H locs h_63 hfr hH _ => ?_)
  have hF : ∀ x9, x9 ≠ 63 → E_1 x9 = E x9 := fun x9 a0 => hfr x9 a0
  refine lv_iconst (v := 0) hx hb dX9_begins_5 (by decide) ?_
  refine lv_istore_n (lv' := [(1, .int 0), (0, .ref (z + 63))]) hx hb dX9_begins_6 rfl hl (by decide) rfl (fun ls hl => ?_)
  have L_7 : ∀ fu_7 : Nat, ∀ q : Nat, (q ≤ n) → (n - q < fu_7) → ∀ Ek : Nat → va_E, Ek 63 = .inr (9, [.int fa, .int tm, .ref (z + 64), .ref (z + 65), .ref (z + 66), .int (nI n), .int (nI m2), .ref (z + 67), .ref (z + 68), .ref (z + 69), .ref (z + 70), .ref (z + 71), .int 0, .ref (z + 72), .ref (z + 73), .ref (z + 74), .ref (z + 75), .int pt, .int rm, .int rh, .ref (z + 76), .ref (z + 77), .ref (z + 78), .ref (z + 79), .ref (z + 80), .int sf, .int sl, .ref (z + 81), .int (nI rn), .ref (z + 82), .ref (z + 83)]) → Ek 68 = qa_J G 16 (mixL f g q) → Ek 69 = qa_J G 16 (mixL f mb q) → (∀ x9, x9 ≠ 63 → x9 ≠ 68 → x9 ≠ 69 → Ek x9 = E x9) → ∀ (H : Heap) (locs : List Loc), qh_H G z M Ek sZ.heap H locs → ∀ ls : Array Slot, lv_has ls 2 [(0, .ref (z + 63)), (1, .int (nI q))] → W pZ l eZ RR sZ mZ aZ bZ tZ cZ H locs 0 0 QQ (F0 mZ 7 ls []) := by
    intro fu_7
    induction fu_7 with
    | zero =>
      intro q hq hfuel
      exact absurd hfuel (by omega)
    | succ fu_7 ih_7 =>
      intro q hq hfuel Ek h_63 h_68 h_69 hF H locs hH ls hl
      refine lv_iload_n hx hb dX9_begins_7 rfl (lv_at hl 1 rfl) ?_
      refine lv_aload_n hx hb dX9_begins_8 rfl (lv_at hl 0 rfl) ?_
      refine qh_get hx hb hH f_81 (by omega) h_63 rfl dX9_begins_9 ?_
      refine lv_icmp_ge (tgt := 45) hx hb dX9_begins_12 (by decide) (fun c_12 => ?_) (fun c_12 => ?_)
      · have hk : n ≤ q := (nI_leI (by omega) (by omega)).mp c_12
        have hex : n = q := by omega
        subst hex
        exact hret dX9_begins_45 hH (⟨h_63, h_68, h_69, hF⟩)
      · have hk : ¬ n ≤ q := fun w => c_12 (nI_le w (by omega))
        refine lv_aload_n hx hb dX9_begins_15 rfl (lv_at hl 0 rfl) ?_
        refine qh_get hx hb hH f_23 (by omega) h_63 rfl dX9_begins_16 ?_
        refine lv_iload_n hx hb dX9_begins_19 rfl (lv_at hl 1 rfl) ?_
        refine lv_aload_n hx hb dX9_begins_20 rfl (lv_at hl 0 rfl) ?_
        refine qh_get hx hb hH f_19 (by omega) h_63 rfl dX9_begins_21 ?_
        refine lv_iload_n hx hb dX9_begins_24 rfl (lv_at hl 1 rfl) ?_
        refine qh_lald hx hb hK hH (by omega) ((hF 67 (by decide) (by decide) (by decide)).trans b_67) (j := q) (rfl) (by omega) (by omega) dX9_begins_25 ?_
        refine qh_last hx hb hK hH (by omega) h_68 (j := q) (rfl) (by omega) (by omega) dX9_begins_26 (fun E_2 H locs h_68 hfr hH _ => ?_)
        have h_68 : E_2 68 = qa_J G 16 (mixL f g (q + 1)) := h_68.trans (congrArg (qa_J G 16) (mixL_s ..))
        have h_63 := (hfr 63 (by decide)).trans h_63
        have h_69 := (hfr 69 (by decide)).trans h_69
        have hF : ∀ x9, x9 ≠ 63 → x9 ≠ 68 → x9 ≠ 69 → E_2 x9 = E x9 := fun x9 a0 a1 a2 => (hfr x9 a1).trans (hF x9 a0 a1 a2)
        refine lv_aload_n hx hb dX9_begins_27 rfl (lv_at hl 0 rfl) ?_
        refine qh_get hx hb hH f_26 (by omega) h_63 rfl dX9_begins_28 ?_
        refine lv_iload_n hx hb dX9_begins_31 rfl (lv_at hl 1 rfl) ?_
        refine lv_aload_n hx hb dX9_begins_32 rfl (lv_at hl 0 rfl) ?_
        refine qh_get hx hb hH f_19 (by omega) h_63 rfl dX9_begins_33 ?_
        refine lv_iload_n hx hb dX9_begins_36 rfl (lv_at hl 1 rfl) ?_
        refine qh_lald hx hb hK hH (by omega) ((hF 67 (by decide) (by decide) (by decide)).trans b_67) (j := q) (rfl) (by omega) (by omega) dX9_begins_37 ?_
        refine qh_last hx hb hK hH (by omega) h_69 (j := q) (rfl) (by omega) (by omega) dX9_begins_38 (fun E_3 H locs h_69 hfr hH _ => ?_)
        have h_69 : E_3 69 = qa_J G 16 (mixL f mb (q + 1)) := h_69.trans (congrArg (qa_J G 16) (mixL_s ..))
        have h_63 := (hfr 63 (by decide)).trans h_63
        have h_68 := (hfr 68 (by decide)).trans h_68
        have hF : ∀ x9, x9 ≠ 63 → x9 ≠ 68 → x9 ≠ 69 → E_3 x9 = E x9 := fun x9 a0 a1 a2 => (hfr x9 a2).trans (hF x9 a0 a1 a2)
        refine lv_iinc (v := nI (q + 1)) (lv' := [(1, .int (nI (q + 1))), (0, .ref (z + 63))]) hx hb dX9_begins_39 hl (k := 1) rfl (qn_inc q) (by decide) rfl (fun ls hl => ?_)
        refine lv_goto (tgt := 7) hx hb dX9_begins_42 (by decide) ?_
        exact ih_7 (q + 1) (by omega) (by omega) E_3 h_63 h_68 h_69 (fun x9 a0 a1 a2 => hF x9 a0 a1 a2) _ _ hH ls (lv_sub hl [1, 0] rfl)
  exact L_7 (n + 1) 0 (Nat.zero_le _) (by omega) E_1 h_63 (((hF 68 (by decide)).trans b_68).trans (congrArg (qa_J G 16) (mixL_0 ..).symm)) (((hF 69 (by decide)).trans b_69).trans (congrArg (qa_J G 16) (mixL_0 ..).symm)) (fun x9 a0 a1 a2 => hF x9 a0) _ _ hH ls (lv_sub hl [1, 0] rfl)

set_option maxHeartbeats 1000000 in
set_option maxRecDepth 100000 in
theorem c_X9_keep (l : Launch) (G : qh_G) (z M : Nat) (E : Nat → va_E) (fa : Int32) (tm : Int32) (n : Nat) (m2 : Nat) (ln : Nat) (pt : Int32) (rm : Int32) (rh : Int32) (sf : Int32) (sl : Int32) (rn : Nat) (hM : 84 ≤ M) (b_63 : E 63 = .inr (9, [.int fa, .int tm, .ref (z + 64), .ref (z + 65), .ref (z + 66), .int (nI n), .int (nI m2), .ref (z + 67), .ref (z + 68), .ref (z + 69), .ref (z + 70), .ref (z + 71), .int (nI ln), .ref (z + 72), .ref (z + 73), .ref (z + 74), .ref (z + 75), .int pt, .int rm, .int rh, .ref (z + 76), .ref (z + 77), .ref (z + 78), .ref (z + 79), .ref (z + 80), .int sf, .int sl, .ref (z + 81), .int (nI rn), .ref (z + 82), .ref (z + 83)])) (f : Nat → Int64) (g : Nat → Int64) (k1 : Nat → Int64) (k2 : Nat → Int64) (hn16 : n ≤ 16) (b_67 : E 67 = qa_J G 16 f) (b_68 : E 68 = qa_J G 16 g) (b_79 : E 79 = qa_J G 16 k1) (b_80 : E 80 = qa_J G 16 k2) : Met l yX9_keep wsX9_keep (qh_R 0) (qh_Pre G z M E [.ref (z + 63)]) (qh_Q G z M (qh_v (fun E' => E' 79 = qa_J G 16 (mixL f k1 n) ∧ E' 80 = qa_J G 16 (mixL g k2 n) ∧ ∀ x9, x9 ≠ 79 → x9 ≠ 80 → E' x9 = E x9))) 0 0 (fun q => z ≤ q) := by
  refine qh_metV (cc := cX9_keep) (maxL := 2) (by decide) rfl (Nat.le_of_ble_eq_true rfl) ?_
  intro pZ eZ sZ mZ aZ bZ tZ cZ RR QQ ls hx hb hml hown hts hRf hRl hH hK hl hret
  have hown : sZ.vm.findClass RX9 = some mZ.cls := hown
  have hl : lv_has ls 2 [(0, .ref (z + 63))] := hl
  have in_X9 : ∀ w ∈ wsX90, w ∈ wsX9_keep := fun w h => List.mem_cons_of_mem _ (List.mem_append_right _ h)
  have f_81 : qh_F G sZ mZ aZ 81 9 5 := qh_F.of hts in_X9 hown hK rfl 5 (by decide) (by decide +kernel)
  have f_56 : qh_F G sZ mZ aZ 56 9 23 := qh_F.of hts in_X9 hown hK rfl 23 (by decide) (by decide +kernel)
  have f_19 : qh_F G sZ mZ aZ 19 9 7 := qh_F.of hts in_X9 hown hK rfl 7 (by decide) (by decide +kernel)
  have f_59 : qh_F G sZ mZ aZ 59 9 24 := qh_F.of hts in_X9 hown hK rfl 24 (by decide) (by decide +kernel)
  have f_23 : qh_F G sZ mZ aZ 23 9 8 := qh_F.of hts in_X9 hown hK rfl 8 (by decide) (by decide +kernel)
  refine lv_iconst (v := 0) hx hb dX9_keep_0 (by decide) ?_
  refine lv_istore_n (lv' := [(1, .int 0), (0, .ref (z + 63))]) hx hb dX9_keep_1 rfl hl (by decide) rfl (fun ls hl => ?_)
  have L_2 : ∀ fu_2 : Nat, ∀ q : Nat, (q ≤ n) → (n - q < fu_2) → ∀ Ek : Nat → va_E, Ek 79 = qa_J G 16 (mixL f k1 q) → Ek 80 = qa_J G 16 (mixL g k2 q) → (∀ x9, x9 ≠ 79 → x9 ≠ 80 → Ek x9 = E x9) → ∀ (H : Heap) (locs : List Loc), qh_H G z M Ek sZ.heap H locs → ∀ ls : Array Slot, lv_has ls 2 [(0, .ref (z + 63)), (1, .int (nI q))] → W pZ l eZ RR sZ mZ aZ bZ tZ cZ H locs 0 0 QQ (F0 mZ 2 ls []) := by
    intro fu_2
    induction fu_2 with
    | zero =>
      intro q hq hfuel
      exact absurd hfuel (by omega)
    | succ fu_2 ih_2 =>
      intro q hq hfuel Ek h_79 h_80 hF H locs hH ls hl
      refine lv_iload_n hx hb dX9_keep_2 rfl (lv_at hl 1 rfl) ?_
      refine lv_aload_n hx hb dX9_keep_3 rfl (lv_at hl 0 rfl) ?_
      refine qh_get hx hb hH f_81 (by omega) ((hF 63 (by decide) (by decide)).trans b_63) rfl dX9_keep_4 ?_
      refine lv_icmp_ge (tgt := 40) hx hb dX9_keep_7 (by decide) (fun c_7 => ?_) (fun c_7 => ?_)
      · have hk : n ≤ q := (nI_leI (by omega) (by omega)).mp c_7
        have hex : n = q := by omega
        subst hex
        exact hret dX9_keep_40 hH (⟨h_79, h_80, hF⟩)
      · have hk : ¬ n ≤ q := fun w => c_7 (nI_le w (by omega))
        refine lv_aload_n hx hb dX9_keep_10 rfl (lv_at hl 0 rfl) ?_
        refine qh_get hx hb hH f_56 (by omega) ((hF 63 (by decide) (by decide)).trans b_63) rfl dX9_keep_11 ?_
        refine lv_iload_n hx hb dX9_keep_14 rfl (lv_at hl 1 rfl) ?_
        refine lv_aload_n hx hb dX9_keep_15 rfl (lv_at hl 0 rfl) ?_
        refine qh_get hx hb hH f_19 (by omega) ((hF 63 (by decide) (by decide)).trans b_63) rfl dX9_keep_16 ?_
        refine lv_iload_n hx hb dX9_keep_19 rfl (lv_at hl 1 rfl) ?_
        refine qh_lald hx hb hK hH (by omega) ((hF 67 (by decide) (by decide)).trans b_67) (j := q) (rfl) (by omega) (by omega) dX9_keep_20 ?_
        refine qh_last hx hb hK hH (by omega) h_79 (j := q) (rfl) (by omega) (by omega) dX9_keep_21 (fun E_1 H locs h_79 hfr hH _ => ?_)
        have h_79 : E_1 79 = qa_J G 16 (mixL f k1 (q + 1)) := h_79.trans (congrArg (qa_J G 16) (mixL_s ..))
        have h_80 := (hfr 80 (by decide)).trans h_80
        have hF : ∀ x9, x9 ≠ 79 → x9 ≠ 80 → E_1 x9 = E x9 := fun x9 a0 a1 => (hfr x9 a0).trans (hF x9 a0 a1)
        refine lv_aload_n hx hb dX9_keep_22 rfl (lv_at hl 0 rfl) ?_
        refine qh_get hx hb hH f_59 (by omega) ((hF 63 (by decide) (by decide)).trans b_63) rfl dX9_keep_23 ?_
        refine lv_iload_n hx hb dX9_keep_26 rfl (lv_at hl 1 rfl) ?_
        refine lv_aload_n hx hb dX9_keep_27 rfl (lv_at hl 0 rfl) ?_
        refine qh_get hx hb hH f_23 (by omega) ((hF 63 (by decide) (by decide)).trans b_63) rfl dX9_keep_28 ?_
        refine lv_iload_n hx hb dX9_keep_31 rfl (lv_at hl 1 rfl) ?_
        refine qh_lald hx hb hK hH (by omega) ((hF 68 (by decide) (by decide)).trans b_68) (j := q) (rfl) (by omega) (by omega) dX9_keep_32 ?_
        refine qh_last hx hb hK hH (by omega) h_80 (j := q) (rfl) (by omega) (by omega) dX9_keep_33 (fun E_2 H locs h_80 hfr hH _ => ?_)
        have h_80 : E_2 80 = qa_J G 16 (mixL g k2 (q + 1)) := h_80.trans (congrArg (qa_J G 16) (mixL_s ..))
        have h_79 := (hfr 79 (by decide)).trans h_79
        have hF : ∀ x9, x9 ≠ 79 → x9 ≠ 80 → E_2 x9 = E x9 := fun x9 a0 a1 => (hfr x9 a1).trans (hF x9 a0 a1)
        refine lv_iinc (v := nI (q + 1)) (lv' := [(1, .int (nI (q + 1))), (0, .ref (z + 63))]) hx hb dX9_keep_34 hl (k := 1) rfl (qn_inc q) (by decide) rfl (fun ls hl => ?_)
        refine lv_goto (tgt := 2) hx hb dX9_keep_37 (by decide) ?_
        exact ih_2 (q + 1) (by omega) (by omega) E_2 h_79 h_80 (fun x9 a0 a1 => hF x9 a0 a1) _ _ hH ls (lv_sub hl [1, 0] rfl)
  exact L_2 (n + 1) 0 (Nat.zero_le _) (by omega) E (b_79.trans (congrArg (qa_J G 16) (mixL_0 ..).symm)) (b_80.trans (congrArg (qa_J G 16) (mixL_0 ..).symm)) (fun x9 a0 a1 => rfl) _ _ hH ls (lv_sub hl [1, 0] rfl)

set_option maxHeartbeats 1000000 in
set_option maxRecDepth 100000 in
theorem c_X9_putBack (l : Launch) (G : qh_G) (z M : Nat) (E : Nat → va_E) (fa : Int32) (tm : Int32) (n : Nat) (m2 : Nat) (ln : Nat) (pt : Int32) (rm : Int32) (rh : Int32) (sf : Int32) (sl : Int32) (rn : Nat) (hM : 84 ≤ M) (b_63 : E 63 = .inr (9, [.int fa, .int tm, .ref (z + 64), .ref (z + 65), .ref (z + 66), .int (nI n), .int (nI m2), .ref (z + 67), .ref (z + 68), .ref (z + 69), .ref (z + 70), .ref (z + 71), .int (nI ln), .ref (z + 72), .ref (z + 73), .ref (z + 74), .ref (z + 75), .int pt, .int rm, .int rh, .ref (z + 76), .ref (z + 77), .ref (z + 78), .ref (z + 79), .ref (z + 80), .int sf, .int sl, .ref (z + 81), .int (nI rn), .ref (z + 82), .ref (z + 83)])) (f : Nat → Int64) (g : Nat → Int64) (k1 : Nat → Int64) (k2 : Nat → Int64) (hn16 : n ≤ 16) (b_67 : E 67 = qa_J G 16 f) (b_68 : E 68 = qa_J G 16 g) (b_79 : E 79 = qa_J G 16 k1) (b_80 : E 80 = qa_J G 16 k2) : Met l yX9_putBack wsX9_putBack (qh_R 0) (qh_Pre G z M E [.ref (z + 63)]) (qh_Q G z M (qh_v (fun E' => E' 67 = qa_J G 16 (mixL k1 f n) ∧ E' 68 = qa_J G 16 (mixL k2 g n) ∧ ∀ x9, x9 ≠ 67 → x9 ≠ 68 → E' x9 = E x9))) 0 0 (fun q => z ≤ q) := by
  refine qh_metV (cc := cX9_putBack) (maxL := 2) (by decide) rfl (Nat.le_of_ble_eq_true rfl) ?_
  intro pZ eZ sZ mZ aZ bZ tZ cZ RR QQ ls hx hb hml hown hts hRf hRl hH hK hl hret
  have hown : sZ.vm.findClass RX9 = some mZ.cls := hown
  have hl : lv_has ls 2 [(0, .ref (z + 63))] := hl
  have in_X9 : ∀ w ∈ wsX90, w ∈ wsX9_putBack := fun w h => List.mem_cons_of_mem _ (List.mem_append_right _ h)
  have f_81 : qh_F G sZ mZ aZ 81 9 5 := qh_F.of hts in_X9 hown hK rfl 5 (by decide) (by decide +kernel)
  have f_19 : qh_F G sZ mZ aZ 19 9 7 := qh_F.of hts in_X9 hown hK rfl 7 (by decide) (by decide +kernel)
  have f_56 : qh_F G sZ mZ aZ 56 9 23 := qh_F.of hts in_X9 hown hK rfl 23 (by decide) (by decide +kernel)
  have f_23 : qh_F G sZ mZ aZ 23 9 8 := qh_F.of hts in_X9 hown hK rfl 8 (by decide) (by decide +kernel)
  have f_59 : qh_F G sZ mZ aZ 59 9 24 := qh_F.of hts in_X9 hown hK rfl 24 (by decide) (by decide +kernel)
  refine lv_iconst (v := 0) hx hb dX9_putBack_0 (by decide) ?_
  refine lv_istore_n (lv' := [(1, .int 0), (0, .ref (z + 63))]) hx hb dX9_putBack_1 rfl hl (by decide) rfl (fun ls hl => ?_)
  have L_2 : ∀ fu_2 : Nat, ∀ q : Nat, (q ≤ n) → (n - q < fu_2) → ∀ Ek : Nat → va_E, Ek 67 = qa_J G 16 (mixL k1 f q) → Ek 68 = qa_J G 16 (mixL k2 g q) → (∀ x9, x9 ≠ 67 → x9 ≠ 68 → Ek x9 = E x9) → ∀ (H : Heap) (locs : List Loc), qh_H G z M Ek sZ.heap H locs → ∀ ls : Array Slot, lv_has ls 2 [(0, .ref (z + 63)), (1, .int (nI q))] → W pZ l eZ RR sZ mZ aZ bZ tZ cZ H locs 0 0 QQ (F0 mZ 2 ls []) := by
    intro fu_2
    induction fu_2 with
    | zero =>
      intro q hq hfuel
      exact absurd hfuel (by omega)
    | succ fu_2 ih_2 =>
      intro q hq hfuel Ek h_67 h_68 hF H locs hH ls hl
      refine lv_iload_n hx hb dX9_putBack_2 rfl (lv_at hl 1 rfl) ?_
      refine lv_aload_n hx hb dX9_putBack_3 rfl (lv_at hl 0 rfl) ?_
      refine qh_get hx hb hH f_81 (by omega) ((hF 63 (by decide) (by decide)).trans b_63) rfl dX9_putBack_4 ?_
      refine lv_icmp_ge (tgt := 40) hx hb dX9_putBack_7 (by decide) (fun c_7 => ?_) (fun c_7 => ?_)
      · have hk : n ≤ q := (nI_leI (by omega) (by omega)).mp c_7
        have hex : n = q := by omega
        subst hex
        exact hret dX9_putBack_40 hH (⟨h_67, h_68, hF⟩)
      · have hk : ¬ n ≤ q := fun w => c_7 (nI_le w (by omega))
        refine lv_aload_n hx hb dX9_putBack_10 rfl (lv_at hl 0 rfl) ?_
        refine qh_get hx hb hH f_19 (by omega) ((hF 63 (by decide) (by decide)).trans b_63) rfl dX9_putBack_11 ?_
        refine lv_iload_n hx hb dX9_putBack_14 rfl (lv_at hl 1 rfl) ?_
        refine lv_aload_n hx hb dX9_putBack_15 rfl (lv_at hl 0 rfl) ?_
        refine qh_get hx hb hH f_56 (by omega) ((hF 63 (by decide) (by decide)).trans b_63) rfl dX9_putBack_16 ?_
        refine lv_iload_n hx hb dX9_putBack_19 rfl (lv_at hl 1 rfl) ?_
        refine qh_lald hx hb hK hH (by omega) ((hF 79 (by decide) (by decide)).trans b_79) (j := q) (rfl) (by omega) (by omega) dX9_putBack_20 ?_
        refine qh_last hx hb hK hH (by omega) h_67 (j := q) (rfl) (by omega) (by omega) dX9_putBack_21 (fun E_1 H locs h_67 hfr hH _ => ?_)
        have h_67 : E_1 67 = qa_J G 16 (mixL k1 f (q + 1)) := h_67.trans (congrArg (qa_J G 16) (mixL_s ..))
        have h_68 := (hfr 68 (by decide)).trans h_68
        have hF : ∀ x9, x9 ≠ 67 → x9 ≠ 68 → E_1 x9 = E x9 := fun x9 a0 a1 => (hfr x9 a0).trans (hF x9 a0 a1)
        refine lv_aload_n hx hb dX9_putBack_22 rfl (lv_at hl 0 rfl) ?_
        refine qh_get hx hb hH f_23 (by omega) ((hF 63 (by decide) (by decide)).trans b_63) rfl dX9_putBack_23 ?_
        refine lv_iload_n hx hb dX9_putBack_26 rfl (lv_at hl 1 rfl) ?_
        refine lv_aload_n hx hb dX9_putBack_27 rfl (lv_at hl 0 rfl) ?_
        refine qh_get hx hb hH f_59 (by omega) ((hF 63 (by decide) (by decide)).trans b_63) rfl dX9_putBack_28 ?_
        refine lv_iload_n hx hb dX9_putBack_31 rfl (lv_at hl 1 rfl) ?_
        refine qh_lald hx hb hK hH (by omega) ((hF 80 (by decide) (by decide)).trans b_80) (j := q) (rfl) (by omega) (by omega) dX9_putBack_32 ?_
        refine qh_last hx hb hK hH (by omega) h_68 (j := q) (rfl) (by omega) (by omega) dX9_putBack_33 (fun E_2 H locs h_68 hfr hH _ => ?_)
        have h_68 : E_2 68 = qa_J G 16 (mixL k2 g (q + 1)) := h_68.trans (congrArg (qa_J G 16) (mixL_s ..))
        have h_67 := (hfr 67 (by decide)).trans h_67
        have hF : ∀ x9, x9 ≠ 67 → x9 ≠ 68 → E_2 x9 = E x9 := fun x9 a0 a1 => (hfr x9 a1).trans (hF x9 a0 a1)
        refine lv_iinc (v := nI (q + 1)) (lv' := [(1, .int (nI (q + 1))), (0, .ref (z + 63))]) hx hb dX9_putBack_34 hl (k := 1) rfl (qn_inc q) (by decide) rfl (fun ls hl => ?_)
        refine lv_goto (tgt := 2) hx hb dX9_putBack_37 (by decide) ?_
        exact ih_2 (q + 1) (by omega) (by omega) E_2 h_67 h_68 (fun x9 a0 a1 => hF x9 a0 a1) _ _ hH ls (lv_sub hl [1, 0] rfl)
  exact L_2 (n + 1) 0 (Nat.zero_le _) (by omega) E (b_67.trans (congrArg (qa_J G 16) (mixL_0 ..).symm)) (b_68.trans (congrArg (qa_J G 16) (mixL_0 ..).symm)) (fun x9 a0 a1 => rfl) _ _ hH ls (lv_sub hl [1, 0] rfl)

set_option maxHeartbeats 1000000 in
set_option maxRecDepth 100000 in
theorem c_X9_inLeastTerms (l : Launch) (G : qh_G) (z M : Nat) (E : Nat → va_E) (s : Nat) (t : Nat) (w : Int32) (hst : s ≤ 16 ∧ 1 ≤ t ∧ t ≤ 16) : Met l yX9_inLeastTerms wsX9_inLeastTerms (qh_R 0) (qh_Pre G z M E [.long (lN s), .long (lN t), .int w]) (qh_Q G z M (qh_l (fun r E' => E = E' ∧ r = (if w = 0 then lN (s / Nat.gcd s t) else lN (t / Nat.gcd s t))))) 0 0 (fun q => z ≤ q) := by
  refine qh_metL (cc := cX9_inLeastTerms) (maxL := 11) (by decide) rfl (Nat.le_of_ble_eq_true rfl) ?_
  intro pZ eZ sZ mZ aZ bZ tZ cZ RR QQ ls hx hb hml hown hts hRf hRl hH hK hl hret
  have hown : sZ.vm.findClass RX9 = some mZ.cls := hown
  have hl : lv_has ls 11 [(0, .long (lN s)), (2, .long (lN t)), (4, .int w)] := hl
  refine lv_lload_n hx hb dX9_inLeastTerms_0 rfl (lv_at hl 0 rfl) ?_
  refine lv_lstore (lv' := [(5, .long (lN s)), (0, .long (lN s)), (2, .long (lN t)), (4, .int w)]) hx hb dX9_inLeastTerms_1 hl (by decide) rfl (fun ls hl => ?_)
  refine lv_lload_n hx hb dX9_inLeastTerms_3 rfl (lv_at hl 2 rfl) ?_
  refine lv_lstore (lv' := [(7, .long (lN t)), (5, .long (lN s)), (0, .long (lN s)), (2, .long (lN t)), (4, .int w)]) hx hb dX9_inLeastTerms_4 hl (by decide) rfl (fun ls hl => ?_)
  have L_6 : ∀ fu_6 : Nat, ∀ x : Nat, ∀ y : Nat, (x ≤ 16 ∧ y ≤ 16) → (Nat.gcd x y = Nat.gcd s t) → (y < fu_6) → ∀ (H : Heap) (locs : List Loc), qh_H G z M E sZ.heap H locs → ∀ ls : Array Slot, lv_has ls 11 [(0, .long (lN s)), (2, .long (lN t)), (4, .int w), (5, .long (lN x)), (7, .long (lN y))] → W pZ l eZ RR sZ mZ aZ bZ tZ cZ H locs 0 0 QQ (F0 mZ 6 ls []) := by
    intro fu_6
    induction fu_6 with
    | zero =>
      intro x y hxy hg hfuel
      exact absurd hfuel (by omega)
    | succ fu_6 ih_6 =>
      intro x y hxy hg hfuel H locs hH ls hl
      refine lv_lload hx hb dX9_inLeastTerms_6 (lv_at hl 4 rfl) ?_
      refine lv_lconst (v := 0) hx hb dX9_inLeastTerms_8 (by decide) ?_
      refine W.lcmp hx hb dX9_inLeastTerms_9 ?_
      refine lv_if_eq (tgt := 31) hx hb dX9_inLeastTerms_10 (by decide) (fun c_10 => ?_) (fun c_10 => ?_)
      · have c_10 := (lg_cmp_eq _ _).mp c_10
        have hy0 : y = 0 := (pk_lEQ (b := 0) (by omega) (by decide)).mp c_10
        have hxg : x = Nat.gcd s t := by rw [← hg, hy0, Nat.gcd_zero_right]
        have hgp : 0 < Nat.gcd s t := Nat.gcd_pos_of_pos_right s (by omega)
        have hx0 : ¬ lN x = 0 := fun w => absurd ((pk_lEQ (b := 0) (by omega) (by decide)).mp w) (by omega)
        refine lv_iload hx hb dX9_inLeastTerms_31 (lv_at hl 2 rfl) ?_
        refine lv_if_ne (tgt := 43) hx hb dX9_inLeastTerms_33 (by decide) (fun c_33 => ?_) (fun c_33 => ?_)
        · refine lv_lload_n hx hb dX9_inLeastTerms_43 rfl (lv_at hl 1 rfl) ?_
          refine lv_lload hx hb dX9_inLeastTerms_44 (lv_at hl 3 rfl) ?_
          refine lv_ldiv hx hb dX9_inLeastTerms_46 (hx0) ?_
          refine qh_topl (y := lN (t / x)) (pk_lDiv (by omega) (by omega) (by omega)) ?_
          exact hret dX9_inLeastTerms_47 hH (⟨rfl, by rw [if_neg c_33, ← hxg]⟩)
        · refine lv_lload_n hx hb dX9_inLeastTerms_36 rfl (lv_at hl 0 rfl) ?_
          refine lv_lload hx hb dX9_inLeastTerms_37 (lv_at hl 3 rfl) ?_
          refine lv_ldiv hx hb dX9_inLeastTerms_39 (hx0) ?_
          refine qh_topl (y := lN (s / x)) (pk_lDiv (by omega) (by omega) (by omega)) ?_
          refine lv_goto (tgt := 47) hx hb dX9_inLeastTerms_40 (by decide) ?_
          exact hret dX9_inLeastTerms_47 hH (⟨rfl, by rw [if_pos c_33, ← hxg]⟩)
      · have c_10 := (lg_cmp_ne _ _).mp c_10
        have hy0 : 0 < y := by
          rcases Nat.eq_zero_or_pos y with w | w
          · exact absurd (by rw [w]; rfl) c_10
          · exact w
        have hmod := Nat.mod_lt x hy0
        refine lv_lload hx hb dX9_inLeastTerms_13 (lv_at hl 3 rfl) ?_
        refine lv_lload hx hb dX9_inLeastTerms_15 (lv_at hl 4 rfl) ?_
        refine lv_lrem hx hb dX9_inLeastTerms_17 (c_10) ?_
        refine qh_topl (y := lN (x % y)) (pk_lRem (by omega) hy0 (by omega)) ?_
        refine lv_lstore (lv' := [(9, .long (lN (x % y))), (0, .long (lN s)), (2, .long (lN t)), (4, .int w), (5, .long (lN x)), (7, .long (lN y))]) hx hb dX9_inLeastTerms_18 hl (by decide) rfl (fun ls hl => ?_)
        refine lv_lload hx hb dX9_inLeastTerms_20 (lv_at hl 5 rfl) ?_
        refine lv_lstore (lv' := [(5, .long (lN y)), (9, .long (lN (x % y))), (0, .long (lN s)), (2, .long (lN t)), (4, .int w), (7, .long (lN y))]) hx hb dX9_inLeastTerms_22 hl (by decide) rfl (fun ls hl => ?_)
        refine lv_lload hx hb dX9_inLeastTerms_24 (lv_at hl 1 rfl) ?_
        refine lv_lstore (lv' := [(7, .long (lN (x % y))), (5, .long (lN y)), (9, .long (lN (x % y))), (0, .long (lN s)), (2, .long (lN t)), (4, .int w)]) hx hb dX9_inLeastTerms_26 hl (by decide) rfl (fun ls hl => ?_)
        refine lv_goto (tgt := 6) hx hb dX9_inLeastTerms_28 (by decide) ?_
        exact ih_6 y (x % y) (by omega) (by rw [← hg, Nat.gcd_comm x y, Nat.gcd_rec y x, Nat.gcd_comm]) (by omega) _ _ hH ls (lv_sub hl [3, 4, 5, 1, 0] rfl)
  exact L_6 (t + 1) s t (by omega) rfl (by omega) _ _ hH ls (lv_sub hl [2, 3, 4, 1, 0] rfl)

set_option maxHeartbeats 1000000 in
set_option maxRecDepth 100000 in
theorem c_X9_areSo (l : Launch) (G : qh_G) (z M : Nat) (E : Nat → va_E) (fa : Int32) (tm : Int32) (n : Nat) (m2 : Nat) (ln : Nat) (pt : Int32) (rm : Int32) (rh : Int32) (sf : Int32) (sl : Int32) (rn : Nat) (hM : 84 ≤ M) (b_63 : E 63 = .inr (9, [.int fa, .int tm, .ref (z + 64), .ref (z + 65), .ref (z + 66), .int (nI n), .int (nI m2), .ref (z + 67), .ref (z + 68), .ref (z + 69), .ref (z + 70), .ref (z + 71), .int (nI ln), .ref (z + 72), .ref (z + 73), .ref (z + 74), .ref (z + 75), .int pt, .int rm, .int rh, .ref (z + 76), .ref (z + 77), .ref (z + 78), .ref (z + 79), .ref (z + 80), .int sf, .int sl, .ref (z + 81), .int (nI rn), .ref (z + 82), .ref (z + 83)])) (f : Nat → Int64) (g : Nat → Int64) (mb : Nat → Int64) (k1 : Nat → Int64) (k2 : Nat → Int64) (vs : Nat → Int64) (ts : Nat → Int32) (ga : Nat → Nat) (gb : Nat → Nat) (va : Nat → Int64) (kd : Nat → Int32) (pa : Nat → Int32) (cn : Nat → Nat) (hn : n ≤ 16 ∧ m2 ≤ 3 ∧ ln ≤ 24 ∧ rn ≤ 8) (hval : ∀ t, t < ln → ga t ≤ gb t ∧ gb t < n) (htt : ∀ t, t < ln → okS (ts t)) (hvh : ∀ t, t < ln → (ts t = 3 ∨ ts t = 4) → ∃ j, j < m2 ∧ va t = lN j) (hkd : ∀ j, j < m2 → kd j = 0 ∨ kd j = 1 ∨ kd j = 2) (hcn : ∀ q, q < rn → cn q < n) (b_67 : E 67 = qa_J G 16 f) (b_68 : E 68 = qa_J G 16 g) (b_79 : E 79 = qa_J G 16 k1) (b_80 : E 80 = qa_J G 16 k2) (b_69 : E 69 = qa_J G 16 mb) (b_72 : E 72 = qa_I G 24 ts) (b_73 : E 73 = qa_I G 24 (rdC ga)) (b_74 : E 74 = qa_I G 24 (rdC gb)) (b_75 : E 75 = qa_J G 24 va) (b_70 : E 70 = qa_I G 3 kd) (b_71 : E 71 = qa_I G 3 pa) (b_82 : E 82 = qa_I G 8 (rdC cn)) (b_83 : E 83 = qa_J G 8 vs) : Met l yX9_areSo wsX9_areSo (qh_R 2) (qh_Pre G z M E [.ref (z + 63)]) (qh_Q G z M (qh_i (fun r E' => r = bI (allR (fun q => decide (repF (mixL mb f n) m2 kd pa ts ga gb va ln (cn q) = vs q)) rn = true) ∧ E' 79 = qa_J G 16 (mixL f k1 n) ∧ E' 80 = qa_J G 16 (mixL g k2 n) ∧ E' 67 = qa_J G 16 f ∧ E' 68 = qa_J G 16 g ∧ ∀ x9, x9 ≠ 79 → x9 ≠ 80 → x9 ≠ 67 → x9 ≠ 68 → E' x9 = E x9))) 0 0 (fun q => z ≤ q) := by
  refine qh_metZ (cc := cX9_areSo) (maxL := 3) (by decide) rfl (Nat.le_of_ble_eq_true rfl) ?_
  intro pZ eZ sZ mZ aZ bZ tZ cZ RR QQ ls hx hb hml hown hts hRf hRl hH hK hl hret
  have hown : sZ.vm.findClass RX9 = some mZ.cls := hown
  have hl : lv_has ls 3 [(0, .ref (z + 63))] := hl
  have in_X9 : ∀ w ∈ wsX90, w ∈ wsX9_areSo := fun w h => List.mem_cons_of_mem _ (List.mem_append_right _ h)
  have f_81 : qh_F G sZ mZ aZ 81 9 5 := qh_F.of hts in_X9 hown hK rfl 5 (by decide) (by decide +kernel)
  have f_120 : qh_F G sZ mZ aZ 120 9 12 := qh_F.of hts in_X9 hown hK rfl 12 (by decide) (by decide +kernel)
  have f_117 : qh_F G sZ mZ aZ 117 9 28 := qh_F.of hts in_X9 hown hK rfl 28 (by decide) (by decide +kernel)
  have f_19 : qh_F G sZ mZ aZ 19 9 7 := qh_F.of hts in_X9 hown hK rfl 7 (by decide) (by decide +kernel)
  have f_65 : qh_F G sZ mZ aZ 65 9 29 := qh_F.of hts in_X9 hown hK rfl 29 (by decide) (by decide +kernel)
  have f_68 : qh_F G sZ mZ aZ 68 9 30 := qh_F.of hts in_X9 hown hK rfl 30 (by decide) (by decide +kernel)
  have f_35 : qh_F G sZ mZ aZ 35 9 13 := qh_F.of hts in_X9 hown hK rfl 13 (by decide) (by decide +kernel)
  have f_38 : qh_F G sZ mZ aZ 38 9 14 := qh_F.of hts in_X9 hown hK rfl 14 (by decide) (by decide +kernel)
  have f_41 : qh_F G sZ mZ aZ 41 9 15 := qh_F.of hts in_X9 hown hK rfl 15 (by decide) (by decide +kernel)
  have f_44 : qh_F G sZ mZ aZ 44 9 16 := qh_F.of hts in_X9 hown hK rfl 16 (by decide) (by decide +kernel)
  have f_26 : qh_F G sZ mZ aZ 26 9 9 := qh_F.of hts in_X9 hown hK rfl 9 (by decide) (by decide +kernel)
  refine lv_aload_n hx hb dX9_areSo_0 rfl (lv_at hl 0 rfl) ?_
  refine qh_runV (As := []) (rest := []) (C := RX9) ⟨hx, hb, hml, hown, hts⟩ hK hH (c_X9_keep l G z M E fa tm n m2 ln pt rm rh sf sl rn (hM) b_63 f g k1 k2 (hn.1) b_67 b_68 b_79 b_80) (cwV 0 hts gX9_areSo_X9_keep rfl rfl rfl (by decide +kernel) (by rw [hRf, hRl]; exact ⟨Nat.le_of_ble_eq_true rfl, Nat.le_of_ble_eq_true rfl⟩)) (by omega) b_63 rfl rfl hl.1 rfl (Nat.le_of_ble_eq_true rfl) dX9_areSo_1 ⟨Nat.zero_le _, Nat.zero_le _⟩ (qh_kkv fun E_1 H locs hpost hH => ?_)
  obtain ⟨h_79, h_80, hfr⟩ := hpost
  have hF : ∀ x9, x9 ≠ 79 → x9 ≠ 80 → E_1 x9 = E x9 := fun x9 a0 a1 => hfr x9 a0 a1
  refine lv_iconst (v := 0) hx hb dX9_areSo_4 (by decide) ?_
  refine lv_istore_n (lv' := [(1, .int 0), (0, .ref (z + 63))]) hx hb dX9_areSo_5 rfl hl (by decide) rfl (fun ls hl => ?_)
  have L_6 : ∀ fu_6 : Nat, ∀ q : Nat, (q ≤ n) → (n - q < fu_6) → ∀ Ek : Nat → va_E, Ek 79 = qa_J G 16 (mixL f k1 n) → Ek 80 = qa_J G 16 (mixL g k2 n) → Ek 67 = qa_J G 16 (mixL mb f q) → (∀ x9, x9 ≠ 79 → x9 ≠ 80 → x9 ≠ 67 → Ek x9 = E x9) → ∀ (H : Heap) (locs : List Loc), qh_H G z M Ek sZ.heap H locs → ∀ ls : Array Slot, lv_has ls 3 [(0, .ref (z + 63)), (1, .int (nI q))] → W pZ l eZ RR sZ mZ aZ bZ tZ cZ H locs 0 0 QQ (F0 mZ 6 ls []) := by
    intro fu_6
    induction fu_6 with
    | zero =>
      intro q hq hfuel
      exact absurd hfuel (by omega)
    | succ fu_6 ih_6 =>
      intro q hq hfuel Ek h_79 h_80 h_67 hF H locs hH ls hl
      refine lv_iload_n hx hb dX9_areSo_6 rfl (lv_at hl 1 rfl) ?_
      refine lv_aload_n hx hb dX9_areSo_7 rfl (lv_at hl 0 rfl) ?_
      refine qh_get hx hb hH f_81 (by omega) ((hF 63 (by decide) (by decide) (by decide)).trans b_63) rfl dX9_areSo_8 ?_
      refine lv_icmp_ge (tgt := 32) hx hb dX9_areSo_11 (by decide) (fun c_11 => ?_) (fun c_11 => ?_)
      · have hk : n ≤ q := (nI_leI (by omega) (by omega)).mp c_11
        have hex : n = q := by omega
        subst hex
        refine lv_iconst (v := 0) hx hb dX9_areSo_32 (by decide) ?_
        refine lv_istore_n (lv' := [(1, .int 0), (0, .ref (z + 63))]) hx hb dX9_areSo_33 rfl hl (by decide) rfl (fun ls hl => ?_)
        have L_34 : ∀ fu_34 : Nat, ∀ t : Nat, (t ≤ ln) → (ln - t < fu_34) → ∀ Ek : Nat → va_E, Ek 79 = qa_J G 16 (mixL f k1 n) → Ek 80 = qa_J G 16 (mixL g k2 n) → Ek 67 = qa_J G 16 (repF (mixL mb f n) m2 kd pa ts ga gb va t) → Ek 68 = qa_J G 16 (repK g (mixL mb f n) m2 kd pa ts ga gb va t) → (∀ x9, x9 ≠ 79 → x9 ≠ 80 → x9 ≠ 67 → x9 ≠ 68 → Ek x9 = E x9) → ∀ (H : Heap) (locs : List Loc), qh_H G z M Ek sZ.heap H locs → ∀ ls : Array Slot, lv_has ls 3 [(0, .ref (z + 63)), (1, .int (nI t))] → W pZ l eZ RR sZ mZ aZ bZ tZ cZ H locs 0 0 QQ (F0 mZ 34 ls []) := by
          intro fu_34
          induction fu_34 with
          | zero =>
            intro t ht hfuel
            exact absurd hfuel (by omega)
          | succ fu_34 ih_34 =>
            intro t ht hfuel Ek h_79 h_80 h_67 h_68 hF H locs hH ls hl
            refine lv_iload_n hx hb dX9_areSo_34 rfl (lv_at hl 1 rfl) ?_
            refine lv_aload_n hx hb dX9_areSo_35 rfl (lv_at hl 0 rfl) ?_
            refine qh_get hx hb hH f_120 (by omega) ((hF 63 (by decide) (by decide) (by decide) (by decide)).trans b_63) rfl dX9_areSo_36 ?_
            refine lv_icmp_ge (tgt := 77) hx hb dX9_areSo_39 (by decide) (fun c_39 => ?_) (fun c_39 => ?_)
            · have hk : ln ≤ t := (nI_leI (by omega) (by omega)).mp c_39
              have hex : ln = t := by omega
              subst hex
              refine lv_iconst (v := 1) hx hb dX9_areSo_77 (by decide) ?_
              refine lv_istore_n (lv' := [(1, .int 1), (0, .ref (z + 63))]) hx hb dX9_areSo_78 rfl hl (by decide) rfl (fun ls hl => ?_)
              rw [show (1 : Int32) = bI (allR (fun q => decide (repF (mixL mb f n) m2 kd pa ts ga gb va ln (cn q) = vs q)) 0 = true) from (bI_1 rfl)] at hl
              refine lv_iconst (v := 0) hx hb dX9_areSo_79 (by decide) ?_
              refine lv_istore_n (lv' := [(2, .int 0), (1, .int (bI (allR (fun q => decide (repF (mixL mb f n) m2 kd pa ts ga gb va ln (cn q) = vs q)) 0 = true))), (0, .ref (z + 63))]) hx hb dX9_areSo_80 rfl hl (by decide) rfl (fun ls hl => ?_)
              have L_81 : ∀ fu_81 : Nat, ∀ q : Nat, (q ≤ rn) → (rn - q < fu_81) → ∀ Ek : Nat → va_E, Ek 79 = qa_J G 16 (mixL f k1 n) → Ek 80 = qa_J G 16 (mixL g k2 n) → Ek 67 = qa_J G 16 (repF (mixL mb f n) m2 kd pa ts ga gb va ln) → Ek 68 = qa_J G 16 (repK g (mixL mb f n) m2 kd pa ts ga gb va ln) → (∀ x9, x9 ≠ 79 → x9 ≠ 80 → x9 ≠ 67 → x9 ≠ 68 → Ek x9 = E x9) → ∀ (H : Heap) (locs : List Loc), qh_H G z M Ek sZ.heap H locs → ∀ ls : Array Slot, lv_has ls 3 [(0, .ref (z + 63)), (1, .int (bI (allR (fun q => decide (repF (mixL mb f n) m2 kd pa ts ga gb va ln (cn q) = vs q)) q = true))), (2, .int (nI q))] → W pZ l eZ RR sZ mZ aZ bZ tZ cZ H locs 0 0 QQ (F0 mZ 81 ls []) := by
                intro fu_81
                induction fu_81 with
                | zero =>
                  intro q hq hfuel
                  exact absurd hfuel (by omega)
                | succ fu_81 ih_81 =>
                  intro q hq hfuel Ek h_79 h_80 h_67 h_68 hF H locs hH ls hl
                  refine lv_iload_n hx hb dX9_areSo_81 rfl (lv_at hl 2 rfl) ?_
                  refine lv_aload_n hx hb dX9_areSo_82 rfl (lv_at hl 0 rfl) ?_
                  refine qh_get hx hb hH f_117 (by omega) ((hF 63 (by decide) (by decide) (by decide) (by decide)).trans b_63) rfl dX9_areSo_83 ?_
                  refine lv_icmp_ge (tgt := 126) hx hb dX9_areSo_86 (by decide) (fun c_86 => ?_) (fun c_86 => ?_)
                  · have hk : rn ≤ q := (nI_leI (by omega) (by omega)).mp c_86
                    have hex : rn = q := by omega
                    subst hex
                    refine lv_aload_n hx hb dX9_areSo_126 rfl (lv_at hl 0 rfl) ?_
                    refine qh_runV (As := []) (rest := []) (C := RX9) ⟨hx, hb, hml, hown, hts⟩ hK hH (c_X9_putBack l G z M Ek fa tm n m2 ln pt rm rh sf sl rn (hM) ((hF 63 (by decide) (by decide) (by decide) (by decide)).trans b_63) (repF (mixL mb f n) m2 kd pa ts ga gb va ln) (repK g (mixL mb f n) m2 kd pa ts ga gb va ln) (mixL f k1 n) (mixL g k2 n) (hn.1) h_67 h_68 h_79 h_80) (cwV 0 hts gX9_areSo_X9_putBack rfl rfl rfl (by decide +kernel) (by rw [hRf, hRl]; exact ⟨Nat.le_of_ble_eq_true rfl, Nat.le_of_ble_eq_true rfl⟩)) (by omega) ((hF 63 (by decide) (by decide) (by decide) (by decide)).trans b_63) rfl rfl hl.1 rfl (Nat.le_of_ble_eq_true rfl) dX9_areSo_127 ⟨Nat.zero_le _, Nat.zero_le _⟩ (qh_kkv fun E_2 H locs hpost hH => ?_)
                    obtain ⟨h_67, h_68, hfr⟩ := hpost
                    have h_79 := (hfr 79 (by decide) (by decide)).trans h_79
                    have h_80 := (hfr 80 (by decide) (by decide)).trans h_80
                    have hF : ∀ x9, x9 ≠ 79 → x9 ≠ 80 → x9 ≠ 67 → x9 ≠ 68 → E_2 x9 = E x9 := fun x9 a0 a1 a2 a3 => (hfr x9 a2 a3).trans (hF x9 a0 a1 a2 a3)
                    refine lv_iload_n hx hb dX9_areSo_130 rfl (lv_at hl 1 rfl) ?_
                    have hz : True := trivial
                    obtain ⟨E7, h_67, hfr, hH⟩ := qh_renJ (g := f) hH h_67 (fun _ _ => rfl) (fun k hk => back_f hval hk)
                    have h_68 := (hfr 68 (by decide)).trans h_68
                    have h_79 := (hfr 79 (by decide)).trans h_79
                    have h_80 := (hfr 80 (by decide)).trans h_80
                    have hF7 := fun x9 a0 a1 a2 a3 => (hfr x9 a2).trans (hF x9 a0 a1 a2 a3)
                    obtain ⟨E8, h_68, hfr, hH⟩ := qh_renJ (g := g) hH h_68 (fun _ _ => rfl) (fun k hk => back_g hval hk)
                    exact hret dX9_areSo_131 hH bI_01 (⟨rfl, (hfr 79 (by decide)).trans h_79, (hfr 80 (by decide)).trans h_80, (hfr 67 (by decide)).trans h_67, h_68, fun x9 a0 a1 a2 a3 => (hfr x9 a3).trans (hF7 x9 a0 a1 a2 a3)⟩)
                  · have hk : ¬ rn ≤ q := fun w => c_86 (nI_le w (by omega))
                    have hcq := hcn q (by omega)
                    refine lv_iload_n hx hb dX9_areSo_89 rfl (lv_at hl 1 rfl) ?_
                    refine lv_if_eq (tgt := 118) hx hb dX9_areSo_90 (by decide) (fun c_90 => ?_) (fun c_90 => ?_)
                    · have c_90 := bI_eq.mp c_90
                      refine lv_iconst (v := 0) hx hb dX9_areSo_118 (by decide) ?_
                      refine lv_istore_n (lv' := [(1, .int 0), (0, .ref (z + 63)), (2, .int (nI q))]) hx hb dX9_areSo_119 rfl hl (by decide) rfl (fun ls hl => ?_)
                      refine lv_iinc (v := nI (q + 1)) (lv' := [(2, .int (nI (q + 1))), (1, .int 0), (0, .ref (z + 63))]) hx hb dX9_areSo_120 hl (k := 2) rfl (qn_inc q) (by decide) rfl (fun ls hl => ?_)
                      refine lv_goto (tgt := 81) hx hb dX9_areSo_123 (by decide) ?_
                      rw [show (0 : Int32) = bI (allR (fun q => decide (repF (mixL mb f n) m2 kd pa ts ga gb va ln (cn q) = vs q)) (q + 1) = true) from bI_0 (fun w => c_90 (allR_pre w))] at hl
                      exact ih_81 (q + 1) (by omega) (by omega) Ek h_79 h_80 h_67 h_68 (fun x9 a0 a1 a2 a3 => hF x9 a0 a1 a2 a3) _ _ hH ls (lv_sub hl [2, 1, 0] rfl)
                    · have c_90 := bI_ne.mp c_90
                      refine lv_aload_n hx hb dX9_areSo_93 rfl (lv_at hl 0 rfl) ?_
                      refine qh_get hx hb hH f_19 (by omega) ((hF 63 (by decide) (by decide) (by decide) (by decide)).trans b_63) rfl dX9_areSo_94 ?_
                      refine lv_aload_n hx hb dX9_areSo_97 rfl (lv_at hl 0 rfl) ?_
                      refine qh_get hx hb hH f_65 (by omega) ((hF 63 (by decide) (by decide) (by decide) (by decide)).trans b_63) rfl dX9_areSo_98 ?_
                      refine lv_iload_n hx hb dX9_areSo_101 rfl (lv_at hl 2 rfl) ?_
                      refine qh_iald hx hb hK hH (by omega) ((hF 82 (by decide) (by decide) (by decide) (by decide)).trans b_82) (j := q) (rfl) (by omega) (by omega) dX9_areSo_102 ?_
                      refine qh_lald hx hb hK hH (by omega) h_67 (j := (cn q)) (rfl) (by omega) (by omega) dX9_areSo_103 ?_
                      refine lv_aload_n hx hb dX9_areSo_104 rfl (lv_at hl 0 rfl) ?_
                      refine qh_get hx hb hH f_68 (by omega) ((hF 63 (by decide) (by decide) (by decide) (by decide)).trans b_63) rfl dX9_areSo_105 ?_
                      refine lv_iload_n hx hb dX9_areSo_108 rfl (lv_at hl 2 rfl) ?_
                      refine qh_lald hx hb hK hH (by omega) ((hF 83 (by decide) (by decide) (by decide) (by decide)).trans b_83) (j := q) (rfl) (by omega) (by omega) dX9_areSo_109 ?_
                      refine W.lcmp hx hb dX9_areSo_110 ?_
                      refine lv_if_ne (tgt := 118) hx hb dX9_areSo_111 (by decide) (fun c_111 => ?_) (fun c_111 => ?_)
                      · have c_111 := (lg_cmp_ne _ _).mp c_111
                        refine lv_iconst (v := 0) hx hb dX9_areSo_118 (by decide) ?_
                        refine lv_istore_n (lv' := [(1, .int 0), (0, .ref (z + 63)), (2, .int (nI q))]) hx hb dX9_areSo_119 rfl hl (by decide) rfl (fun ls hl => ?_)
                        refine lv_iinc (v := nI (q + 1)) (lv' := [(2, .int (nI (q + 1))), (1, .int 0), (0, .ref (z + 63))]) hx hb dX9_areSo_120 hl (k := 2) rfl (qn_inc q) (by decide) rfl (fun ls hl => ?_)
                        refine lv_goto (tgt := 81) hx hb dX9_areSo_123 (by decide) ?_
                        rw [show (0 : Int32) = bI (allR (fun q => decide (repF (mixL mb f n) m2 kd pa ts ga gb va ln (cn q) = vs q)) (q + 1) = true) from bI_0 (fun w => c_111 (of_decide_eq_true (allR_at w (Nat.lt_succ_self q))))] at hl
                        exact ih_81 (q + 1) (by omega) (by omega) Ek h_79 h_80 h_67 h_68 (fun x9 a0 a1 a2 a3 => hF x9 a0 a1 a2 a3) _ _ hH ls (lv_sub hl [2, 1, 0] rfl)
                      · have c_111 := (lg_cmp_eq _ _).mp c_111
                        refine lv_iconst (v := 1) hx hb dX9_areSo_114 (by decide) ?_
                        refine lv_goto (tgt := 119) hx hb dX9_areSo_115 (by decide) ?_
                        refine lv_istore_n (lv' := [(1, .int 1), (0, .ref (z + 63)), (2, .int (nI q))]) hx hb dX9_areSo_119 rfl hl (by decide) rfl (fun ls hl => ?_)
                        refine lv_iinc (v := nI (q + 1)) (lv' := [(2, .int (nI (q + 1))), (1, .int 1), (0, .ref (z + 63))]) hx hb dX9_areSo_120 hl (k := 2) rfl (qn_inc q) (by decide) rfl (fun ls hl => ?_)
                        refine lv_goto (tgt := 81) hx hb dX9_areSo_123 (by decide) ?_
                        rw [show (1 : Int32) = bI (allR (fun q => decide (repF (mixL mb f n) m2 kd pa ts ga gb va ln (cn q) = vs q)) (q + 1) = true) from bI_1 (by rw [allR, c_90]; simp [c_111])] at hl
                        exact ih_81 (q + 1) (by omega) (by omega) Ek h_79 h_80 h_67 h_68 (fun x9 a0 a1 a2 a3 => hF x9 a0 a1 a2 a3) _ _ hH ls (lv_sub hl [2, 1, 0] rfl)
              exact L_81 (rn + 1) 0 (Nat.zero_le _) (by omega) Ek h_79 h_80 h_67 h_68 (fun x9 a0 a1 a2 a3 => hF x9 a0 a1 a2 a3) _ _ hH ls (lv_sub hl [2, 1, 0] rfl)
            · have hk : ¬ ln ≤ t := fun w => c_39 (nI_le w (by omega))
              have hv := hval t (by omega)
              refine lv_aload_n hx hb dX9_areSo_42 rfl (lv_at hl 0 rfl) ?_
              refine lv_aload_n hx hb dX9_areSo_43 rfl (lv_at hl 0 rfl) ?_
              refine qh_get hx hb hH f_35 (by omega) ((hF 63 (by decide) (by decide) (by decide) (by decide)).trans b_63) rfl dX9_areSo_44 ?_
              refine lv_iload_n hx hb dX9_areSo_47 rfl (lv_at hl 1 rfl) ?_
              refine qh_iald hx hb hK hH (by omega) ((hF 72 (by decide) (by decide) (by decide) (by decide)).trans b_72) (j := t) (rfl) (by omega) (by omega) dX9_areSo_48 ?_
              refine lv_aload_n hx hb dX9_areSo_49 rfl (lv_at hl 0 rfl) ?_
              refine qh_get hx hb hH f_38 (by omega) ((hF 63 (by decide) (by decide) (by decide) (by decide)).trans b_63) rfl dX9_areSo_50 ?_
              refine lv_iload_n hx hb dX9_areSo_53 rfl (lv_at hl 1 rfl) ?_
              refine qh_iald hx hb hK hH (by omega) ((hF 73 (by decide) (by decide) (by decide) (by decide)).trans b_73) (j := t) (rfl) (by omega) (by omega) dX9_areSo_54 ?_
              refine qh_topi (y := nI (ga t)) (rfl) ?_
              refine lv_aload_n hx hb dX9_areSo_55 rfl (lv_at hl 0 rfl) ?_
              refine qh_get hx hb hH f_41 (by omega) ((hF 63 (by decide) (by decide) (by decide) (by decide)).trans b_63) rfl dX9_areSo_56 ?_
              refine lv_iload_n hx hb dX9_areSo_59 rfl (lv_at hl 1 rfl) ?_
              refine qh_iald hx hb hK hH (by omega) ((hF 74 (by decide) (by decide) (by decide) (by decide)).trans b_74) (j := t) (rfl) (by omega) (by omega) dX9_areSo_60 ?_
              refine qh_topi (y := nI (gb t)) (rfl) ?_
              refine lv_aload_n hx hb dX9_areSo_61 rfl (lv_at hl 0 rfl) ?_
              refine qh_get hx hb hH f_44 (by omega) ((hF 63 (by decide) (by decide) (by decide) (by decide)).trans b_63) rfl dX9_areSo_62 ?_
              refine lv_iload_n hx hb dX9_areSo_65 rfl (lv_at hl 1 rfl) ?_
              refine qh_lald hx hb hK hH (by omega) ((hF 75 (by decide) (by decide) (by decide) (by decide)).trans b_75) (j := t) (rfl) (by omega) (by omega) dX9_areSo_66 ?_
              refine qh_runV (As := [.int (ts t), .int (nI (ga t)), .int (nI (gb t)), .long (va t)]) (rest := []) (C := RX9) ⟨hx, hb, hml, hown, hts⟩ hK hH (c_X9_does l G z M Ek fa tm n m2 ln pt rm rh sf sl rn (hM) ((hF 63 (by decide) (by decide) (by decide) (by decide)).trans b_63) (ga t) (gb t) (repF (mixL mb f n) m2 kd pa ts ga gb va t) (repK g (mixL mb f n) m2 kd pa ts ga gb va t) kd pa (ts t) (va t) (⟨hn.1, hn.2.1⟩) (⟨by omega, by omega⟩) (htt t (by omega)) (hvh t (by omega)) (hkd) h_67 h_68 ((hF 70 (by decide) (by decide) (by decide) (by decide)).trans b_70) ((hF 71 (by decide) (by decide) (by decide) (by decide)).trans b_71)) (cwV 4 hts gX9_areSo_X9_does rfl rfl rfl (by decide +kernel) (by rw [hRf, hRl]; exact ⟨Nat.le_of_ble_eq_true rfl, Nat.le_of_ble_eq_true rfl⟩)) (by omega) ((hF 63 (by decide) (by decide) (by decide) (by decide)).trans b_63) rfl rfl hl.1 rfl (Nat.le_of_ble_eq_true rfl) dX9_areSo_67 ⟨Nat.zero_le _, Nat.zero_le _⟩ (qh_kki fun r_67 E_3 H locs hpost hH => ?_)
              obtain ⟨rfl, h_67, h_68, hfr⟩ := hpost
              have h_79 := (hfr 79 (by decide) (by decide)).trans h_79
              have h_80 := (hfr 80 (by decide) (by decide)).trans h_80
              have hF : ∀ x9, x9 ≠ 79 → x9 ≠ 80 → x9 ≠ 67 → x9 ≠ 68 → E_3 x9 = E x9 := fun x9 a0 a1 a2 a3 => (hfr x9 a2 a3).trans (hF x9 a0 a1 a2 a3)
              refine lv_pop hx hb dX9_areSo_70 rfl ?_
              refine lv_iinc (v := nI (t + 1)) (lv' := [(1, .int (nI (t + 1))), (0, .ref (z + 63))]) hx hb dX9_areSo_71 hl (k := 1) rfl (qn_inc t) (by decide) rfl (fun ls hl => ?_)
              refine lv_goto (tgt := 34) hx hb dX9_areSo_74 (by decide) ?_
              exact ih_34 (t + 1) (by omega) (by omega) E_3 h_79 h_80 h_67 h_68 (fun x9 a0 a1 a2 a3 => hF x9 a0 a1 a2 a3) _ _ hH ls (lv_sub hl [1, 0] rfl)
        exact L_34 (ln + 1) 0 (Nat.zero_le _) (by omega) Ek h_79 h_80 h_67 ((hF 68 (by decide) (by decide) (by decide)).trans b_68) (fun x9 a0 a1 a2 a3 => hF x9 a0 a1 a2) _ _ hH ls (lv_sub hl [1, 0] rfl)
      · have hk : ¬ n ≤ q := fun w => c_11 (nI_le w (by omega))
        refine lv_aload_n hx hb dX9_areSo_14 rfl (lv_at hl 0 rfl) ?_
        refine qh_get hx hb hH f_19 (by omega) ((hF 63 (by decide) (by decide) (by decide)).trans b_63) rfl dX9_areSo_15 ?_
        refine lv_iload_n hx hb dX9_areSo_18 rfl (lv_at hl 1 rfl) ?_
        refine lv_aload_n hx hb dX9_areSo_19 rfl (lv_at hl 0 rfl) ?_
        refine qh_get hx hb hH f_26 (by omega) ((hF 63 (by decide) (by decide) (by decide)).trans b_63) rfl dX9_areSo_20 ?_
        refine lv_iload_n hx hb dX9_areSo_23 rfl (lv_at hl 1 rfl) ?_
        refine qh_lald hx hb hK hH (by omega) ((hF 69 (by decide) (by decide) (by decide)).trans b_69) (j := q) (rfl) (by omega) (by omega) dX9_areSo_24 ?_
        refine qh_last hx hb hK hH (by omega) h_67 (j := q) (rfl) (by omega) (by omega) dX9_areSo_25 (fun E_4 H locs h_67 hfr hH _ => ?_)
        have h_67 : E_4 67 = qa_J G 16 (mixL mb f (q + 1)) := h_67.trans (congrArg (qa_J G 16) (mixL_s ..))
        have h_79 := (hfr 79 (by decide)).trans h_79
        have h_80 := (hfr 80 (by decide)).trans h_80
        have hF : ∀ x9, x9 ≠ 79 → x9 ≠ 80 → x9 ≠ 67 → E_4 x9 = E x9 := fun x9 a0 a1 a2 => (hfr x9 a2).trans (hF x9 a0 a1 a2)
        refine lv_iinc (v := nI (q + 1)) (lv' := [(1, .int (nI (q + 1))), (0, .ref (z + 63))]) hx hb dX9_areSo_26 hl (k := 1) rfl (qn_inc q) (by decide) rfl (fun ls hl => ?_)
        refine lv_goto (tgt := 6) hx hb dX9_areSo_29 (by decide) ?_
        exact ih_6 (q + 1) (by omega) (by omega) E_4 h_79 h_80 h_67 (fun x9 a0 a1 a2 => hF x9 a0 a1 a2) _ _ hH ls (lv_sub hl [1, 0] rfl)
  exact L_6 (n + 1) 0 (Nat.zero_le _) (by omega) E_1 h_79 h_80 (((hF 67 (by decide) (by decide)).trans b_67).trans (congrArg (qa_J G 16) (mixL_0 ..).symm)) (fun x9 a0 a1 a2 => hF x9 a0 a1) _ _ hH ls (lv_sub hl [1, 0] rfl)
