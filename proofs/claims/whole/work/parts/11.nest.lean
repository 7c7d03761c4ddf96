def strg (n : Nat) (kd pa : Nat → Int32) (h : Int64) : Int32 := if ¬ h < 0 ∧ h < (nI n).toInt64 then stv (kd h.toInt32.toNatClampNeg) (pa h.toInt32.toNatClampNeg) else 0
def amt (t : Int32) (n : Nat) (kd pa : Nat → Int32) (v : Int64) : Int64 := if t = 3 then (strg n kd pa v).toInt64 else if t = 4 then (-(strg n kd pa v)).toInt64 else v
def codF (f : Nat → Int32) (q : Nat) (x : Int32) : Int32 := if ¬ x < 0 ∧ x < nI q then f x.toNatClampNeg else -9
def cutF (b x : Int32) : Int32 := if b = 0 then x.toInt8.toInt32 else if b = 1 then x.toInt16.toInt32 else x
/-- how many of n numbers from a on an act makes others -/
def othN (f : Nat → Int64) (t : Int32) (y : Int64) (a n : Nat) : Nat := cntR (fun k => decide (¬ chg (f k) t y = f k)) a n
theorem othN_y {f : Nat → Int64} {t : Int32} {y : Int64} {a n : Nat} (h : ¬ chg (f (a + n)) t y = f (a + n)) : othN f t y a (n + 1) = othN f t y a n + 1 := by
  simp only [othN, cntR_succ, decide_eq_true_eq]
  rw [if_pos h]
theorem othN_n {f : Nat → Int64} {t : Int32} {y : Int64} {a n : Nat} (h : chg (f (a + n)) t y = f (a + n)) : othN f t y a (n + 1) = othN f t y a n := by
  simp only [othN, cntR_succ, decide_eq_true_eq]
  rw [if_neg (fun w => w h)]
  rfl
set_option maxHeartbeats 1000000 in
set_option maxRecDepth 100000 in
theorem c_X1_join (l : Launch) (G : qh_G) (z M : Nat) (E : Nat → va_E) (i : Nat) (j : Nat) (k : Nat) (n : Nat) (kd : Nat → Int32) (pa : Nat → Int32) (a : Int32) (b : Int32) (hi : i < M ∧ j < M ∧ k < M) (hn : n < 3) (hd : i ≠ j ∧ i ≠ k ∧ j ≠ k) (b_i : E i = .inr (1, [.int (nI n), .ref (z + j), .ref (z + k)])) (b_j : E j = qa_I G 3 kd) (b_k : E k = qa_I G 3 pa) : Met l yX1_join wsX1_join (qh_R 0) (qh_Pre G z M E [.ref (z + i), .int a, .int b]) (qh_Q G z M (qh_v (fun E' => E' i = .inr (1, [.int (nI (n + 1)), .ref (z + j), .ref (z + k)]) ∧ E' j = qa_I G 3 (upd kd n a) ∧ E' k = qa_I G 3 (upd pa n b) ∧ ∀ x9, x9 ≠ i → x9 ≠ j → x9 ≠ k → E' x9 = E x9))) 0 0 (fun q => z ≤ q) := by
  refine qh_metV (cc := cX1_join) (maxL := 3) (by decide) rfl (Nat.le_of_ble_eq_true rfl) ?_
  intro pZ eZ sZ mZ aZ bZ tZ cZ RR QQ ls hx hb hml hown hts hRf hRl hH hK hl hret
  have hown : sZ.vm.findClass RX1 = some mZ.cls := hown
  have hl : lv_has ls 3 [(0, .ref (z + i)), (1, .int a), (2, .int b)] := hl
  have in_X1 : ∀ w ∈ wsX10, w ∈ wsX1_join := fun w h => List.mem_cons_of_mem _ (List.mem_append_right _ h)
  have f_9 : qh_F G sZ mZ aZ 9 1 0 := qh_F.of hts in_X1 hown hK rfl 0 (by decide) (by decide +kernel)
  have f_15 : qh_F G sZ mZ aZ 15 1 1 := qh_F.of hts in_X1 hown hK rfl 1 (by decide) (by decide +kernel)
  have f_19 : qh_F G sZ mZ aZ 19 1 2 := qh_F.of hts in_X1 hown hK rfl 2 (by decide) (by decide +kernel)
  have w_9 : qh_W G sZ mZ aZ 9 1 0 .int := qh_W.of hts in_X1 tyX1 tyX1_ok nmX1 hown hK rfl 0 (by decide) (by decide +kernel) rfl (by decide +kernel)
  refine lv_aload_n hx hb dX1_join_0 rfl (lv_at hl 0 rfl) ?_
  refine qh_get hx hb hH f_9 (hi.1) b_i rfl dX1_join_1 ?_
  refine lv_iconst (v := 3) hx hb dX1_join_4 (by decide) ?_
  refine lv_icmp_ge (tgt := 38) hx hb dX1_join_5 (by decide) (fun c_5 => ?_) (fun c_5 => ?_)
  · exact absurd c_5 (nI_ge (a := n) (b := 3) hn (by decide))
  · refine lv_aload_n hx hb dX1_join_8 rfl (lv_at hl 0 rfl) ?_
    refine qh_get hx hb hH f_15 (hi.1) b_i rfl dX1_join_9 ?_
    refine lv_aload_n hx hb dX1_join_12 rfl (lv_at hl 0 rfl) ?_
    refine qh_get hx hb hH f_9 (hi.1) b_i rfl dX1_join_13 ?_
    refine lv_iload_n hx hb dX1_join_16 rfl (lv_at hl 1 rfl) ?_
    refine qh_iast hx hb hK hH (hi.2.1) b_j (j := n) (rfl) (by omega) (by omega) dX1_join_17 (fun E_1 H locs h_j hfr hH _ => ?_)
    have hF : ∀ x9, x9 ≠ j → E_1 x9 = E x9 := fun x9 a0 => hfr x9 a0
    refine lv_aload_n hx hb dX1_join_18 rfl (lv_at hl 0 rfl) ?_
    refine qh_get hx hb hH f_19 (hi.1) ((hF i (hd.1)).trans b_i) rfl dX1_join_19 ?_
    refine lv_aload_n hx hb dX1_join_22 rfl (lv_at hl 0 rfl) ?_
    refine qh_get hx hb hH f_9 (hi.1) ((hF i (hd.1)).trans b_i) rfl dX1_join_23 ?_
    refine lv_iload_n hx hb dX1_join_26 rfl (lv_at hl 2 rfl) ?_
    refine qh_iast hx hb hK hH (hi.2.2) ((hF k (Ne.symm hd.2.2)).trans b_k) (j := n) (rfl) (by omega) (by omega) dX1_join_27 (fun E_2 H locs h_k hfr hH _ => ?_)
    have h_j := (hfr j (hd.2.2)).trans h_j
    have hF : ∀ x9, x9 ≠ j → x9 ≠ k → E_2 x9 = E x9 := fun x9 a0 a1 => (hfr x9 a1).trans (hF x9 a0)
    refine lv_aload_n hx hb dX1_join_28 rfl (lv_at hl 0 rfl) ?_
    refine lv_dup hx hb dX1_join_29 rfl ?_
    refine qh_get hx hb hH f_9 (hi.1) ((hF i (hd.1) (hd.2.1)).trans b_i) rfl dX1_join_30 ?_
    refine lv_iconst (v := 1) hx hb dX1_join_33 (by decide) ?_
    refine lv_iadd hx hb dX1_join_34 ?_
    refine qh_topi (y := nI (n + 1)) (nI_1 n) ?_
    refine qh_put (fs' := [.int (nI (n + 1)), .ref (z + j), .ref (z + k)]) hx hb hH w_9 (hi.1) ((hF i (hd.1) (hd.2.1)).trans b_i) rfl rfl (Nat.le_of_ble_eq_true rfl) rfl dX1_join_35 (fun E_3 H locs h_i hfr hH _ => ?_)
    have h_j := (hfr j (Ne.symm hd.1)).trans h_j
    have h_k := (hfr k (Ne.symm hd.2.1)).trans h_k
    have hF : ∀ x9, x9 ≠ j → x9 ≠ k → x9 ≠ i → E_3 x9 = E x9 := fun x9 a0 a1 a2 => (hfr x9 a2).trans (hF x9 a0 a1)
    exact hret dX1_join_38 hH (⟨h_i, h_j, h_k, fun j a b c => hF j b c a⟩)

set_option maxHeartbeats 1000000 in
set_option maxRecDepth 100000 in
theorem c_X1_becomeLike (l : Launch) (G : qh_G) (z M : Nat) (E : Nat → va_E) (i : Nat) (j : Nat) (k : Nat) (i2 : Nat) (j2 : Nat) (k2 : Nat) (n : Int32) (n2 : Int32) (kd : Nat → Int32) (pa : Nat → Int32) (kd2 : Nat → Int32) (pa2 : Nat → Int32) (hi : i < M ∧ j < M ∧ k < M ∧ i2 < M ∧ j2 < M ∧ k2 < M) (hd : i ≠ j ∧ i ≠ k ∧ j ≠ k ∧ i2 ≠ i ∧ i2 ≠ j ∧ i2 ≠ k ∧ j2 ≠ i ∧ j2 ≠ j ∧ j2 ≠ k ∧ k2 ≠ i ∧ k2 ≠ j ∧ k2 ≠ k) (b_i : E i = .inr (1, [.int n, .ref (z + j), .ref (z + k)])) (b_j : E j = qa_I G 3 kd) (b_k : E k = qa_I G 3 pa) (b_i2 : E i2 = .inr (1, [.int n2, .ref (z + j2), .ref (z + k2)])) (b_j2 : E j2 = qa_I G 3 kd2) (b_k2 : E k2 = qa_I G 3 pa2) : Met l yX1_becomeLike wsX1_becomeLike (qh_R 1) (qh_Pre G z M E [.ref (z + i), .ref (z + i2)]) (qh_Q G z M (qh_v (fun E' => E' i = .inr (1, [.int n2, .ref (z + j), .ref (z + k)]) ∧ E' j = qa_I G 3 kd2 ∧ E' k = qa_I G 3 pa2 ∧ ∀ x9, x9 ≠ i → x9 ≠ j → x9 ≠ k → E' x9 = E x9))) 0 0 (fun q => z ≤ q) := by
  refine qh_metV (cc := cX1_becomeLike) (maxL := 2) (by decide) rfl (Nat.le_of_ble_eq_true rfl) ?_
  intro pZ eZ sZ mZ aZ bZ tZ cZ RR QQ ls hx hb hml hown hts hRf hRl hH hK hl hret
  have hown : sZ.vm.findClass RX1 = some mZ.cls := hown
  have hl : lv_has ls 2 [(0, .ref (z + i)), (1, .ref (z + i2))] := hl
  have in_X1 : ∀ w ∈ wsX10, w ∈ wsX1_becomeLike := fun w h => List.mem_cons_of_mem _ (List.mem_append_right _ h)
  have f_9 : qh_F G sZ mZ aZ 9 1 0 := qh_F.of hts in_X1 hown hK rfl 0 (by decide) (by decide +kernel)
  have w_9 : qh_W G sZ mZ aZ 9 1 0 .int := qh_W.of hts in_X1 tyX1 tyX1_ok nmX1 hown hK rfl 0 (by decide) (by decide +kernel) rfl (by decide +kernel)
  have f_15 : qh_F G sZ mZ aZ 15 1 1 := qh_F.of hts in_X1 hown hK rfl 1 (by decide) (by decide +kernel)
  have j_22 := hts (.methodLink RX1 22 arraycopyName) (by decide +kernel)
  have jn_22 := hts (.native arraycopyName) (by decide +kernel)
  have js_22 := hts (.static arraycopyName) (by decide +kernel)
  have ji_22 := hts (.initialized "java/lang/System") (by decide +kernel)
  have f_19 : qh_F G sZ mZ aZ 19 1 2 := qh_F.of hts in_X1 hown hK rfl 2 (by decide) (by decide +kernel)
  refine lv_aload_n hx hb dX1_becomeLike_0 rfl (lv_at hl 0 rfl) ?_
  refine lv_aload_n hx hb dX1_becomeLike_1 rfl (lv_at hl 1 rfl) ?_
  refine qh_get hx hb hH f_9 (hi.2.2.2.1) b_i2 rfl dX1_becomeLike_2 ?_
  refine qh_put (fs' := [.int n2, .ref (z + j), .ref (z + k)]) hx hb hH w_9 (hi.1) b_i rfl rfl (Nat.le_of_ble_eq_true rfl) rfl dX1_becomeLike_5 (fun E_1 H locs h_i hfr hH _ => ?_)
  have hF : ∀ x9, x9 ≠ i → E_1 x9 = E x9 := fun x9 a0 => hfr x9 a0
  refine lv_aload_n hx hb dX1_becomeLike_8 rfl (lv_at hl 1 rfl) ?_
  refine qh_get hx hb hH f_15 (hi.2.2.2.1) ((hF i2 (hd.2.2.2.1)).trans b_i2) rfl dX1_becomeLike_9 ?_
  refine lv_iconst (v := 0) hx hb dX1_becomeLike_12 (by decide) ?_
  refine lv_aload_n hx hb dX1_becomeLike_13 rfl (lv_at hl 0 rfl) ?_
  refine qh_get hx hb hH f_15 (hi.1) h_i rfl dX1_becomeLike_14 ?_
  refine lv_iconst (v := 0) hx hb dX1_becomeLike_17 (by decide) ?_
  refine lv_iconst (v := 3) hx hb dX1_becomeLike_18 (by decide) ?_
  refine qh_copyI hx hb (hml.trans hl.1.symm) hown j_22 jn_22 js_22 ji_22 hK hH (hi.2.2.2.2.1) (hi.2.1) ((hF j2 (hd.2.2.2.2.2.2.1)).trans b_j2) ((hF j (Ne.symm hd.1)).trans b_j) (sp := 0) (dp := 0) (n := 3) (rfl) (rfl) (rfl) (by omega) (by omega) (by decide) (by decide) (by rw [hRf]; exact Nat.le_of_ble_eq_true rfl) (by rw [hRl]; exact Nat.le_of_ble_eq_true rfl) dX1_becomeLike_19 (fun E_2 H locs h_j hfr hH => ?_)
  obtain ⟨E_3, h_j, hfr, hH⟩ := qh_renI (g := kd2) hH h_j hfr (fun k hk => cpy_0 hk)
  have h_i := (hfr i (hd.1)).trans h_i
  have hF : ∀ x9, x9 ≠ i → x9 ≠ j → E_3 x9 = E x9 := fun x9 a0 a1 => (hfr x9 a1).trans (hF x9 a0)
  refine lv_aload_n hx hb dX1_becomeLike_22 rfl (lv_at hl 1 rfl) ?_
  refine qh_get hx hb hH f_19 (hi.2.2.2.1) ((hF i2 (hd.2.2.2.1) (hd.2.2.2.2.1)).trans b_i2) rfl dX1_becomeLike_23 ?_
  refine lv_iconst (v := 0) hx hb dX1_becomeLike_26 (by decide) ?_
  refine lv_aload_n hx hb dX1_becomeLike_27 rfl (lv_at hl 0 rfl) ?_
  refine qh_get hx hb hH f_19 (hi.1) h_i rfl dX1_becomeLike_28 ?_
  refine lv_iconst (v := 0) hx hb dX1_becomeLike_31 (by decide) ?_
  refine lv_iconst (v := 3) hx hb dX1_becomeLike_32 (by decide) ?_
  refine qh_copyI hx hb (hml.trans hl.1.symm) hown j_22 jn_22 js_22 ji_22 hK hH (hi.2.2.2.2.2) (hi.2.2.1) ((hF k2 (hd.2.2.2.2.2.2.2.2.2.1) (hd.2.2.2.2.2.2.2.2.2.2.1)).trans b_k2) ((hF k (Ne.symm hd.2.1) (Ne.symm hd.2.2.1)).trans b_k) (sp := 0) (dp := 0) (n := 3) (rfl) (rfl) (rfl) (by omega) (by omega) (by decide) (by decide) (by rw [hRf]; exact Nat.le_of_ble_eq_true rfl) (by rw [hRl]; exact Nat.le_of_ble_eq_true rfl) dX1_becomeLike_33 (fun E_4 H locs h_k hfr hH => ?_)
  obtain ⟨E_5, h_k, hfr, hH⟩ := qh_renI (g := pa2) hH h_k hfr (fun k hk => cpy_0 hk)
  have h_i := (hfr i (hd.2.1)).trans h_i
  have h_j := (hfr j (hd.2.2.1)).trans h_j
  have hF : ∀ x9, x9 ≠ i → x9 ≠ j → x9 ≠ k → E_5 x9 = E x9 := fun x9 a0 a1 a2 => (hfr x9 a2).trans (hF x9 a0 a1)
  exact hret dX1_becomeLike_36 hH (⟨h_i, h_j, h_k, hF⟩)

set_option maxHeartbeats 1000000 in
set_option maxRecDepth 100000 in
theorem c_X1_strength (l : Launch) (G : qh_G) (z M : Nat) (E : Nat → va_E) (i : Nat) (j : Nat) (k : Nat) (n : Nat) (kd : Nat → Int32) (pa : Nat → Int32) (h : Int64) (hi : i < M ∧ j < M ∧ k < M) (hn : n ≤ 3) (b_i : E i = .inr (1, [.int (nI n), .ref (z + j), .ref (z + k)])) (b_j : E j = qa_I G 3 kd) (b_k : E k = qa_I G 3 pa) : Met l yX1_strength wsX1_strength (qh_R 1) (qh_Pre G z M E [.ref (z + i), .long h]) (qh_Q G z M (qh_i (fun r E' => E = E' ∧ r = strg n kd pa h))) 0 0 (fun q => z ≤ q) := by
  refine qh_metI (cc := cX1_strength) (maxL := 4) (by decide) rfl (Nat.le_of_ble_eq_true rfl) ?_
  intro pZ eZ sZ mZ aZ bZ tZ cZ RR QQ ls hx hb hml hown hts hRf hRl hH hK hl hret
  have hown : sZ.vm.findClass RX1 = some mZ.cls := hown
  have hl : lv_has ls 4 [(0, .ref (z + i)), (1, .long h)] := hl
  have in_X1 : ∀ w ∈ wsX10, w ∈ wsX1_strength := fun w h => List.mem_cons_of_mem _ (List.mem_append_right _ h)
  have f_19 : qh_F G sZ mZ aZ 19 1 2 := qh_F.of hts in_X1 hown hK rfl 2 (by decide) (by decide +kernel)
  have f_15 : qh_F G sZ mZ aZ 15 1 1 := qh_F.of hts in_X1 hown hK rfl 1 (by decide) (by decide +kernel)
  refine lv_aload_n hx hb dX1_strength_0 rfl (lv_at hl 0 rfl) ?_
  refine lv_lload_n hx hb dX1_strength_1 rfl (lv_at hl 1 rfl) ?_
  refine qh_runV (As := [.long h]) (rest := []) (C := RX1) ⟨hx, hb, hml, hown, hts⟩ hK hH (c_X1_has l G z M E i (hi.1) (nI n) (.ref (z + j)) (.ref (z + k)) h b_i) (cwV 1 hts gX1_strength_X1_has rfl rfl rfl (by decide +kernel) (by rw [hRf, hRl]; exact ⟨Nat.le_of_ble_eq_true rfl, Nat.le_of_ble_eq_true rfl⟩)) (hi.1) b_i rfl rfl hl.1 rfl (Nat.le_of_ble_eq_true rfl) dX1_strength_2 ⟨Nat.zero_le _, Nat.zero_le _⟩ (qh_kki fun r_2 E_1 H locs hpost hH => ?_)
  obtain ⟨rfl, rfl⟩ := hpost
  refine lv_if_ne (tgt := 10) hx hb dX1_strength_5 (by decide) (fun c_5 => ?_) (fun c_5 => ?_)
  · have c_5 := bI_ne.mp c_5
    obtain ⟨q, hq, ej⟩ := lN_of (by omega) c_5
    have hs : strg n kd pa h = stv (kd q) (pa q) := by rw [strg, if_pos c_5, ej, lN_i, nI_clamp (by omega)]
    refine lv_aload_n hx hb dX1_strength_10 rfl (lv_at hl 0 rfl) ?_
    refine qh_get hx hb hH f_19 (hi.1) b_i rfl dX1_strength_11 ?_
    refine lv_lload_n hx hb dX1_strength_14 rfl (lv_at hl 1 rfl) ?_
    refine lv_l2i (v := h.toInt32) hx hb dX1_strength_15 rfl ?_
    refine qh_iald hx hb hK hH (hi.2.2) b_k (j := q) (by rw [ej]; exact lN_i q) (by omega) (by omega) dX1_strength_16 ?_
    refine lv_istore_n (lv' := [(3, .int (pa q)), (0, .ref (z + i)), (1, .long h)]) hx hb dX1_strength_17 rfl hl (by decide) rfl (fun ls hl => ?_)
    refine lv_aload_n hx hb dX1_strength_18 rfl (lv_at hl 1 rfl) ?_
    refine qh_get hx hb hH f_15 (hi.1) b_i rfl dX1_strength_19 ?_
    refine lv_lload_n hx hb dX1_strength_22 rfl (lv_at hl 2 rfl) ?_
    refine lv_l2i (v := h.toInt32) hx hb dX1_strength_23 rfl ?_
    refine qh_iald hx hb hK hH (hi.2.1) b_j (j := q) (by rw [ej]; exact lN_i q) (by omega) (by omega) dX1_strength_24 ?_
    by_cases c_25_1 : kd q = 1
    · refine lv_lookup (tgt := 52) (off := 27) hx hb dX1_strength_25 (by decide) (by rw [c_25_1] <;> decide) (by decide) ?_
      refine lv_iload_n hx hb dX1_strength_52 rfl (lv_at hl 0 rfl) ?_
      refine lv_iconst (v := 1) hx hb dX1_strength_53 (by decide) ?_
      refine lv_iadd hx hb dX1_strength_54 ?_
      exact hret dX1_strength_55 hH (⟨rfl, by rw [hs, stv, if_pos c_25_1]⟩)
    by_cases c_25_2 : kd q = 2
    · refine lv_lookup (tgt := 56) (off := 31) hx hb dX1_strength_25 (by decide) (by rw [c_25_2] <;> decide) (by decide) ?_
      refine lv_iconst (v := 2) hx hb dX1_strength_56 (by decide) ?_
      refine lv_iload_n hx hb dX1_strength_57 rfl (lv_at hl 0 rfl) ?_
      refine lv_imul hx hb dX1_strength_58 ?_
      exact hret dX1_strength_59 hH (⟨rfl, by rw [hs, stv, if_neg c_25_1, if_pos c_25_2]⟩)
    refine lv_lookup (tgt := 60) (off := 35) hx hb dX1_strength_25 (by decide) (by rw [lv_osw (k := 1) c_25_1 (by decide), lv_osw (k := 2) c_25_2 (by decide)] <;> rfl) (by decide) ?_
    refine lv_iload_n hx hb dX1_strength_60 rfl (lv_at hl 0 rfl) ?_
    exact hret dX1_strength_61 hH (⟨rfl, by rw [hs, stv, if_neg c_25_1, if_neg c_25_2]⟩)
  · have c_5 := bI_eq.mp c_5
    refine lv_iconst (v := 0) hx hb dX1_strength_8 (by decide) ?_
    exact hret dX1_strength_9 hH (⟨rfl, by rw [strg, if_neg c_5]⟩)

set_option maxHeartbeats 1000000 in
set_option maxRecDepth 100000 in
theorem c_J7_fill_53178 (l : Launch) (G : qh_G) (z M : Nat) (E : Nat → va_E) (i : Nat) (n : Nat) (f : Nat → Int32) (v : Int32) (hi : i < M) (hn : n < 2 ^ 31) (b_i : E i = qa_I G n f) : Met l yJ7_fill_53178 wsJ7_fill_53178 (qh_R 0) (qh_Pre G z M E [.ref (z + i), .int v]) (qh_Q G z M (qh_v (fun E' => E' i = qa_I G n (fun _ => v) ∧ ∀ x9, x9 ≠ i → E' x9 = E x9))) 0 0 (fun q => z ≤ q) := by
  refine qh_metV (cc := cJ7_fill_53178) (maxL := 4) (by decide) rfl (Nat.le_of_ble_eq_true rfl) ?_
  intro pZ eZ sZ mZ aZ bZ tZ cZ RR QQ ls hx hb hml hown hts hRf hRl hH hK hl hret
  have hown : sZ.vm.findClass RJ7 = some mZ.cls := hown
  have hl : lv_has ls 4 [(0, .ref (z + i)), (1, .int v)] := hl
  refine lv_iconst (v := 0) hx hb dJ7_fill_53178_0 (by decide) ?_
  refine lv_istore_n (lv' := [(2, .int 0), (0, .ref (z + i)), (1, .int v)]) hx hb dJ7_fill_53178_1 rfl hl (by decide) rfl (fun ls hl => ?_)
  refine lv_aload_n hx hb dJ7_fill_53178_2 rfl (lv_at hl 1 rfl) ?_
  refine qh_alenI hx hb hK hH (hi) b_i dJ7_fill_53178_3 ?_
  refine lv_istore_n (lv' := [(3, .int (nI n)), (2, .int 0), (0, .ref (z + i)), (1, .int v)]) hx hb dJ7_fill_53178_4 rfl hl (by decide) rfl (fun ls hl => ?_)
  have L_5 : ∀ fu : Nat, ∀ k : Nat, (k ≤ n) → (n - k < fu) → ∀ Ek : Nat → va_E, Ek i = qa_I G n (fun t => if t < k then v else f t) → (∀ x9, x9 ≠ i → Ek x9 = E x9) → ∀ (H : Heap) (locs : List Loc), qh_H G z M Ek sZ.heap H locs → ∀ ls : Array Slot, lv_has ls 4 [(0, .ref (z + i)), (1, .int v), (2, .int (nI k)), (3, .int (nI n))] → W pZ l eZ RR sZ mZ aZ bZ tZ cZ H locs 0 0 QQ (F0 mZ 5 ls []) := by
    intro fu
    induction fu with
    | zero =>
      intro k hk hfuel
      exact absurd hfuel (by omega)
    | succ fu ih =>
      intro k hk hfuel Ek h_i hF H locs hH ls hl
      refine lv_iload_n hx hb dJ7_fill_53178_5 rfl (lv_at hl 2 rfl) ?_
      refine lv_iload_n hx hb dJ7_fill_53178_6 rfl (lv_at hl 3 rfl) ?_
      refine lv_icmp_ge (tgt := 20) hx hb dJ7_fill_53178_7 (by decide) (fun c_7 => ?_) (fun c_7 => ?_)
      · have hkn : k = n := by
          rcases Nat.lt_or_ge k n with q | q
          · exact absurd c_7 (nI_ge q hn)
          · omega
        subst hkn
        obtain ⟨E2, h2, hf2, hH⟩ := qh_renI (g := fun _ => v) hH h_i (fun j hj => hF j hj) (fun t ht => if_pos ht)
        exact hret dJ7_fill_53178_20 hH (⟨h2, hf2⟩)
      · have hkn : k < n := by
          rcases Nat.lt_or_ge k n with q | q
          · exact q
          · exact absurd (nI_le q (by omega)) c_7
        refine lv_aload_n hx hb dJ7_fill_53178_10 rfl (lv_at hl 0 rfl) ?_
        refine lv_iload_n hx hb dJ7_fill_53178_11 rfl (lv_at hl 2 rfl) ?_
        refine lv_iload_n hx hb dJ7_fill_53178_12 rfl (lv_at hl 1 rfl) ?_
        refine qh_iast hx hb hK hH (hi) h_i (j := k) (rfl) (hkn) (by omega) dJ7_fill_53178_13 (fun E_1 H locs h_i hfr hH _ => ?_)
        have h_i : E_1 i = qa_I G n (fun t => if t < k + 1 then v else f t) := h_i.trans (congrArg (qa_I G n) (by funext t; simp only [upd]; split <;> split <;> (try split) <;> first | rfl | omega))
        have hF : ∀ x9, x9 ≠ i → E_1 x9 = E x9 := fun x9 a0 => (hfr x9 a0).trans (hF x9 a0)
        refine lv_iinc (v := nI (k + 1)) (lv' := [(2, .int (nI (k + 1))), (0, .ref (z + i)), (1, .int v), (3, .int (nI n))]) hx hb dJ7_fill_53178_14 hl (k := 2) rfl (qn_inc k) (by decide) rfl (fun ls hl => ?_)
        refine lv_goto (tgt := 5) hx hb dJ7_fill_53178_17 (by decide) ?_
        exact ih (k + 1) (by omega) (by omega) E_1 h_i (fun x9 a0 => hF x9 a0) _ _ hH ls (lv_sub hl [1, 2, 0, 3] rfl)
  exact L_5 (n + 1) 0 (Nat.zero_le n) (by omega) E (b_i.trans (congrArg (qa_I G n) (by funext t; simp))) (fun x9 a0 => rfl) _ _ hH ls (lv_sub hl [2, 3, 1, 0] rfl)

set_option maxHeartbeats 1000000 in
set_option maxRecDepth 100000 in
theorem c_X5_getRow (l : Launch) (G : qh_G) (z M : Nat) (E : Nat → va_E) (i : Nat) (j : Nat) (a : Int32) (b : Int32) (cc : Int32) (ln : Int32) (n : Int32) (f : Nat → Int32) (hi : i < M ∧ j < M ∧ i ≠ j) (b_i : E i = .inr (5, [.int a, .int b, .int cc, .ref (z + j)])) (b_j : E j = qa_I G 60 f) : Met l yX5_getRow wsX5_getRow (qh_R 1) (qh_Pre G z M E [.ref (z + i), .int ln, .int n]) (qh_Q G z M (qh_v (fun E' => E' i = .inr (5, [.int 1, .int ln, .int n, .ref (z + j)]) ∧ E' j = qa_I G 60 (fun _ => 0) ∧ ∀ x9, x9 ≠ i → x9 ≠ j → E' x9 = E x9))) 0 0 (fun q => z ≤ q) := by
  refine qh_metV (cc := cX5_getRow) (maxL := 3) (by decide) rfl (Nat.le_of_ble_eq_true rfl) ?_
  intro pZ eZ sZ mZ aZ bZ tZ cZ RR QQ ls hx hb hml hown hts hRf hRl hH hK hl hret
  have hown : sZ.vm.findClass RX5 = some mZ.cls := hown
  have hl : lv_has ls 3 [(0, .ref (z + i)), (1, .int ln), (2, .int n)] := hl
  have in_X5 : ∀ w ∈ wsX50, w ∈ wsX5_getRow := fun w h => List.mem_cons_of_mem _ (List.mem_append_right _ h)
  have w_9 : qh_W G sZ mZ aZ 9 5 0 .boolean := qh_W.of hts in_X5 tyX5 tyX5_ok nmX5 hown hK rfl 0 (by decide) (by decide +kernel) rfl (by decide +kernel)
  have w_15 : qh_W G sZ mZ aZ 15 5 1 .int := qh_W.of hts in_X5 tyX5 tyX5_ok nmX5 hown hK rfl 1 (by decide) (by decide +kernel) rfl (by decide +kernel)
  have w_19 : qh_W G sZ mZ aZ 19 5 2 .int := qh_W.of hts in_X5 tyX5 tyX5_ok nmX5 hown hK rfl 2 (by decide) (by decide +kernel) rfl (by decide +kernel)
  have f_22 : qh_F G sZ mZ aZ 22 5 3 := qh_F.of hts in_X5 hown hK rfl 3 (by decide) (by decide +kernel)
  refine lv_aload_n hx hb dX5_getRow_0 rfl (lv_at hl 0 rfl) ?_
  refine lv_iconst (v := 1) hx hb dX5_getRow_1 (by decide) ?_
  refine qh_put (fs' := [.int 1, .int b, .int cc, .ref (z + j)]) hx hb hH w_9 (hi.1) b_i rfl rfl (Nat.le_of_ble_eq_true rfl) rfl dX5_getRow_2 (fun E_1 H locs h_i hfr hH _ => ?_)
  have hF : ∀ x9, x9 ≠ i → E_1 x9 = E x9 := fun x9 a0 => hfr x9 a0
  refine lv_aload_n hx hb dX5_getRow_5 rfl (lv_at hl 0 rfl) ?_
  refine lv_iload_n hx hb dX5_getRow_6 rfl (lv_at hl 1 rfl) ?_
  refine qh_put (fs' := [.int 1, .int ln, .int cc, .ref (z + j)]) hx hb hH w_15 (hi.1) h_i rfl rfl (Nat.le_of_ble_eq_true rfl) rfl dX5_getRow_7 (fun E_2 H locs h_i hfr hH _ => ?_)
  have hF : ∀ x9, x9 ≠ i → E_2 x9 = E x9 := fun x9 a0 => (hfr x9 a0).trans (hF x9 a0)
  refine lv_aload_n hx hb dX5_getRow_10 rfl (lv_at hl 0 rfl) ?_
  refine lv_iload_n hx hb dX5_getRow_11 rfl (lv_at hl 2 rfl) ?_
  refine qh_put (fs' := [.int 1, .int ln, .int n, .ref (z + j)]) hx hb hH w_19 (hi.1) h_i rfl rfl (Nat.le_of_ble_eq_true rfl) rfl dX5_getRow_12 (fun E_3 H locs h_i hfr hH _ => ?_)
  have hF : ∀ x9, x9 ≠ i → E_3 x9 = E x9 := fun x9 a0 => (hfr x9 a0).trans (hF x9 a0)
  refine lv_aload_n hx hb dX5_getRow_15 rfl (lv_at hl 0 rfl) ?_
  refine qh_get hx hb hH f_22 (hi.1) h_i rfl dX5_getRow_16 ?_
  refine lv_iconst (v := 0) hx hb dX5_getRow_19 (by decide) ?_
  refine qh_runS (As := [.ref (z + j), .int 0]) (rest := []) ⟨hx, hb, hml, hown, hts⟩ hK hH (c_J7_fill_53178 l G z M E_3 j 60 f 0 (hi.2.1) (by omega) ((hF j (Ne.symm hi.2.2)).trans b_j)) (va_cwS 2 hts gX5_getRow_J7_fill_53178 rfl rfl rfl (by decide +kernel) (by rw [hRf, hRl]; exact ⟨Nat.le_of_ble_eq_true rfl, Nat.le_of_ble_eq_true rfl⟩)) rfl hl.1 rfl (Nat.le_of_ble_eq_true rfl) dX5_getRow_20 ⟨Nat.zero_le _, Nat.zero_le _⟩ (qh_kkv fun E_4 H locs hpost hH => ?_)
  obtain ⟨h_j, hfr⟩ := hpost
  have h_i := (hfr i (hi.2.2)).trans h_i
  have hF : ∀ x9, x9 ≠ i → x9 ≠ j → E_4 x9 = E x9 := fun x9 a0 a1 => (hfr x9 a1).trans (hF x9 a0)
  exact hret dX5_getRow_23 hH (⟨h_i, h_j, hF⟩)

set_option maxHeartbeats 1000000 in
set_option maxRecDepth 100000 in
theorem c_X5_loseRow (l : Launch) (G : qh_G) (z M : Nat) (E : Nat → va_E) (i : Nat) (a : Int32) (b : Int32) (cc : Int32) (u : Value) (ha : a = 0 ∨ a = 1) (hi : i < M) (b_i : E i = .inr (5, [.int a, .int b, .int cc, u])) : Met l yX5_loseRow wsX5_loseRow (qh_R 0) (qh_Pre G z M E [.ref (z + i)]) (qh_Q G z M (qh_i (fun r E' => r = a ∧ E' i = .inr (5, [.int 0, .int b, .int 0, u]) ∧ ∀ x9, x9 ≠ i → E' x9 = E x9))) 0 0 (fun q => z ≤ q) := by
  refine qh_metZ (cc := cX5_loseRow) (maxL := 2) (by decide) rfl (Nat.le_of_ble_eq_true rfl) ?_
  intro pZ eZ sZ mZ aZ bZ tZ cZ RR QQ ls hx hb hml hown hts hRf hRl hH hK hl hret
  have hown : sZ.vm.findClass RX5 = some mZ.cls := hown
  have hl : lv_has ls 2 [(0, .ref (z + i))] := hl
  have in_X5 : ∀ w ∈ wsX50, w ∈ wsX5_loseRow := fun w h => List.mem_cons_of_mem _ (List.mem_append_right _ h)
  have f_9 : qh_F G sZ mZ aZ 9 5 0 := qh_F.of hts in_X5 hown hK rfl 0 (by decide) (by decide +kernel)
  have w_9 : qh_W G sZ mZ aZ 9 5 0 .boolean := qh_W.of hts in_X5 tyX5 tyX5_ok nmX5 hown hK rfl 0 (by decide) (by decide +kernel) rfl (by decide +kernel)
  have w_19 : qh_W G sZ mZ aZ 19 5 2 .int := qh_W.of hts in_X5 tyX5 tyX5_ok nmX5 hown hK rfl 2 (by decide) (by decide +kernel) rfl (by decide +kernel)
  refine lv_aload_n hx hb dX5_loseRow_0 rfl (lv_at hl 0 rfl) ?_
  refine qh_get hx hb hH f_9 (hi) b_i rfl dX5_loseRow_1 ?_
  refine lv_istore_n (lv' := [(1, .int a), (0, .ref (z + i))]) hx hb dX5_loseRow_4 rfl hl (by decide) rfl (fun ls hl => ?_)
  refine lv_aload_n hx hb dX5_loseRow_5 rfl (lv_at hl 1 rfl) ?_
  refine lv_iconst (v := 0) hx hb dX5_loseRow_6 (by decide) ?_
  refine qh_put (fs' := [.int 0, .int b, .int cc, u]) hx hb hH w_9 (hi) b_i rfl rfl (Nat.le_of_ble_eq_true rfl) rfl dX5_loseRow_7 (fun E_1 H locs h_i hfr hH _ => ?_)
  have hF : ∀ x9, x9 ≠ i → E_1 x9 = E x9 := fun x9 a0 => hfr x9 a0
  refine lv_aload_n hx hb dX5_loseRow_10 rfl (lv_at hl 1 rfl) ?_
  refine lv_iconst (v := 0) hx hb dX5_loseRow_11 (by decide) ?_
  refine qh_put (fs' := [.int 0, .int b, .int 0, u]) hx hb hH w_19 (hi) h_i rfl rfl (Nat.le_of_ble_eq_true rfl) rfl dX5_loseRow_12 (fun E_2 H locs h_i hfr hH _ => ?_)
  have hF : ∀ x9, x9 ≠ i → E_2 x9 = E x9 := fun x9 a0 => (hfr x9 a0).trans (hF x9 a0)
  refine lv_iload_n hx hb dX5_loseRow_15 rfl (lv_at hl 0 rfl) ?_
  exact hret dX5_loseRow_16 hH (ha) (⟨rfl, h_i, hF⟩)

set_option maxHeartbeats 1000000 in
set_option maxRecDepth 100000 in
theorem c_X5_faultTakenAs (l : Launch) (G : qh_G) (z M : Nat) (E : Nat → va_E) (i : Nat) (a : Int32) (b : Int32) (cc : Int32) (ln : Int32) (u : Value) (hi : i < M) (b_i : E i = .inr (5, [.int a, .int b, .int cc, u])) : Met l yX5_faultTakenAs wsX5_faultTakenAs (qh_R 0) (qh_Pre G z M E [.ref (z + i), .int ln]) (qh_Q G z M (qh_i (fun r E' => E = E' ∧ r = (if a = 0 then 1 else if b = ln then 0 else 2 : Int32)))) 0 0 (fun q => z ≤ q) := by
  refine qh_metI (cc := cX5_faultTakenAs) (maxL := 2) (by decide) rfl (Nat.le_of_ble_eq_true rfl) ?_
  intro pZ eZ sZ mZ aZ bZ tZ cZ RR QQ ls hx hb hml hown hts hRf hRl hH hK hl hret
  have hown : sZ.vm.findClass RX5 = some mZ.cls := hown
  have hl : lv_has ls 2 [(0, .ref (z + i)), (1, .int ln)] := hl
  have in_X5 : ∀ w ∈ wsX50, w ∈ wsX5_faultTakenAs := fun w h => List.mem_cons_of_mem _ (List.mem_append_right _ h)
  have f_9 : qh_F G sZ mZ aZ 9 5 0 := qh_F.of hts in_X5 hown hK rfl 0 (by decide) (by decide +kernel)
  have f_15 : qh_F G sZ mZ aZ 15 5 1 := qh_F.of hts in_X5 hown hK rfl 1 (by decide) (by decide +kernel)
  refine lv_aload_n hx hb dX5_faultTakenAs_0 rfl (lv_at hl 0 rfl) ?_
  refine qh_get hx hb hH f_9 (hi) b_i rfl dX5_faultTakenAs_1 ?_
  refine lv_if_ne (tgt := 9) hx hb dX5_faultTakenAs_4 (by decide) (fun c_4 => ?_) (fun c_4 => ?_)
  · refine lv_aload_n hx hb dX5_faultTakenAs_9 rfl (lv_at hl 0 rfl) ?_
    refine qh_get hx hb hH f_15 (hi) b_i rfl dX5_faultTakenAs_10 ?_
    refine lv_iload_n hx hb dX5_faultTakenAs_13 rfl (lv_at hl 1 rfl) ?_
    refine lv_icmp_eq (tgt := 21) hx hb dX5_faultTakenAs_14 (by decide) (fun c_14 => ?_) (fun c_14 => ?_)
    · refine lv_iconst (v := 0) hx hb dX5_faultTakenAs_21 (by decide) ?_
      exact hret dX5_faultTakenAs_22 hH (⟨rfl, by simp [c_4, c_14]⟩)
    · refine lv_iconst (v := 2) hx hb dX5_faultTakenAs_17 (by decide) ?_
      refine lv_goto (tgt := 22) hx hb dX5_faultTakenAs_18 (by decide) ?_
      exact hret dX5_faultTakenAs_22 hH (⟨rfl, by simp [c_4, c_14]⟩)
  · refine lv_iconst (v := 1) hx hb dX5_faultTakenAs_7 (by decide) ?_
    exact hret dX5_faultTakenAs_8 hH (⟨rfl, by simp [c_4]⟩)

set_option maxHeartbeats 1000000 in
set_option maxRecDepth 100000 in
theorem c_X5_hasCells (l : Launch) (G : qh_G) (z M : Nat) (E : Nat → va_E) (i : Nat) (a : Int32) (b : Int32) (cc : Int32) (x : Int32) (n : Int32) (u : Value) (hi : i < M) (b_i : E i = .inr (5, [.int a, .int b, .int cc, u])) : Met l yX5_hasCells wsX5_hasCells (qh_R 0) (qh_Pre G z M E [.ref (z + i), .int x, .int n]) (qh_Q G z M (qh_i (fun r E' => E = E' ∧ r = bI (¬ x < 0 ∧ ¬ cc < x ∧ ¬ n < 0 ∧ ¬ cc - x < n)))) 0 0 (fun q => z ≤ q) := by
  refine qh_metZ (cc := cX5_hasCells) (maxL := 3) (by decide) rfl (Nat.le_of_ble_eq_true rfl) ?_
  intro pZ eZ sZ mZ aZ bZ tZ cZ RR QQ ls hx hb hml hown hts hRf hRl hH hK hl hret
  have hown : sZ.vm.findClass RX5 = some mZ.cls := hown
  have hl : lv_has ls 3 [(0, .ref (z + i)), (1, .int x), (2, .int n)] := hl
  have in_X5 : ∀ w ∈ wsX50, w ∈ wsX5_hasCells := fun w h => List.mem_cons_of_mem _ (List.mem_append_right _ h)
  have f_19 : qh_F G sZ mZ aZ 19 5 2 := qh_F.of hts in_X5 hown hK rfl 2 (by decide) (by decide +kernel)
  refine lv_iload_n hx hb dX5_hasCells_0 rfl (lv_at hl 1 rfl) ?_
  refine lv_if_lt (tgt := 30) hx hb dX5_hasCells_1 (by decide) (fun c_1 => ?_) (fun c_1 => ?_)
  · refine lv_iconst (v := 0) hx hb dX5_hasCells_30 (by decide) ?_
    exact hret dX5_hasCells_31 hH (Or.inl rfl) (⟨rfl, by first | rfl | (simp [bI, c_1])⟩)
  · refine lv_iload_n hx hb dX5_hasCells_4 rfl (lv_at hl 1 rfl) ?_
    refine lv_aload_n hx hb dX5_hasCells_5 rfl (lv_at hl 0 rfl) ?_
    refine qh_get hx hb hH f_19 (hi) b_i rfl dX5_hasCells_6 ?_
    refine lv_icmp_gt (tgt := 30) hx hb dX5_hasCells_9 (by decide) (fun c_9 => ?_) (fun c_9 => ?_)
    · refine lv_iconst (v := 0) hx hb dX5_hasCells_30 (by decide) ?_
      exact hret dX5_hasCells_31 hH (Or.inl rfl) (⟨rfl, by first | rfl | (simp [bI, c_1, c_9])⟩)
    · refine lv_iload_n hx hb dX5_hasCells_12 rfl (lv_at hl 2 rfl) ?_
      refine lv_if_lt (tgt := 30) hx hb dX5_hasCells_13 (by decide) (fun c_13 => ?_) (fun c_13 => ?_)
      · refine lv_iconst (v := 0) hx hb dX5_hasCells_30 (by decide) ?_
        exact hret dX5_hasCells_31 hH (Or.inl rfl) (⟨rfl, by first | rfl | (simp [bI, c_1, c_9, c_13])⟩)
      · refine lv_iload_n hx hb dX5_hasCells_16 rfl (lv_at hl 2 rfl) ?_
        refine lv_aload_n hx hb dX5_hasCells_17 rfl (lv_at hl 0 rfl) ?_
        refine qh_get hx hb hH f_19 (hi) b_i rfl dX5_hasCells_18 ?_
        refine lv_iload_n hx hb dX5_hasCells_21 rfl (lv_at hl 1 rfl) ?_
        refine lv_isub hx hb dX5_hasCells_22 ?_
        refine lv_icmp_gt (tgt := 30) hx hb dX5_hasCells_23 (by decide) (fun c_23 => ?_) (fun c_23 => ?_)
        · refine lv_iconst (v := 0) hx hb dX5_hasCells_30 (by decide) ?_
          exact hret dX5_hasCells_31 hH (Or.inl rfl) (⟨rfl, by first | rfl | (simp [bI, c_1, c_9, c_13, c_23])⟩)
        · refine lv_iconst (v := 1) hx hb dX5_hasCells_26 (by decide) ?_
          refine lv_goto (tgt := 31) hx hb dX5_hasCells_27 (by decide) ?_
          exact hret dX5_hasCells_31 hH (Or.inr rfl) (⟨rfl, by first | rfl | (simp [bI, c_1, c_9, c_13, c_23])⟩)

set_option maxHeartbeats 1000000 in
set_option maxRecDepth 100000 in
theorem c_X5_code (l : Launch) (G : qh_G) (z M : Nat) (E : Nat → va_E) (i : Nat) (j : Nat) (q : Nat) (a : Int32) (b : Int32) (x : Int32) (f : Nat → Int32) (hi : i < M ∧ j < M) (hq : q ≤ 60) (b_i : E i = .inr (5, [.int a, .int b, .int (nI q), .ref (z + j)])) (b_j : E j = qa_I G 60 f) : Met l yX5_code wsX5_code (qh_R 0) (qh_Pre G z M E [.ref (z + i), .int x]) (qh_Q G z M (qh_i (fun r E' => E = E' ∧ r = codF f q x))) 0 0 (fun q => z ≤ q) := by
  refine qh_metI (cc := cX5_code) (maxL := 2) (by decide) rfl (Nat.le_of_ble_eq_true rfl) ?_
  intro pZ eZ sZ mZ aZ bZ tZ cZ RR QQ ls hx hb hml hown hts hRf hRl hH hK hl hret
  have hown : sZ.vm.findClass RX5 = some mZ.cls := hown
  have hl : lv_has ls 2 [(0, .ref (z + i)), (1, .int x)] := hl
  have in_X5 : ∀ w ∈ wsX50, w ∈ wsX5_code := fun w h => List.mem_cons_of_mem _ (List.mem_append_right _ h)
  have f_19 : qh_F G sZ mZ aZ 19 5 2 := qh_F.of hts in_X5 hown hK rfl 2 (by decide) (by decide +kernel)
  have f_22 : qh_F G sZ mZ aZ 22 5 3 := qh_F.of hts in_X5 hown hK rfl 3 (by decide) (by decide +kernel)
  refine lv_iload_n hx hb dX5_code_0 rfl (lv_at hl 1 rfl) ?_
  refine lv_if_lt (tgt := 21) hx hb dX5_code_1 (by decide) (fun c_1 => ?_) (fun c_1 => ?_)
  · refine lv_bipush (v := (-9)) hx hb dX5_code_21 (by decide) ?_
    exact hret dX5_code_23 hH (⟨rfl, by rw [codF, if_neg (fun w => w.1 c_1)]⟩)
  · refine lv_iload_n hx hb dX5_code_4 rfl (lv_at hl 1 rfl) ?_
    refine lv_aload_n hx hb dX5_code_5 rfl (lv_at hl 0 rfl) ?_
    refine qh_get hx hb hH f_19 (hi.1) b_i rfl dX5_code_6 ?_
    refine lv_icmp_ge (tgt := 21) hx hb dX5_code_9 (by decide) (fun c_9 => ?_) (fun c_9 => ?_)
    · refine lv_bipush (v := (-9)) hx hb dX5_code_21 (by decide) ?_
      exact hret dX5_code_23 hH (⟨rfl, by rw [codF, if_neg (fun w => Int32.not_lt.mpr c_9 w.2)]⟩)
    · obtain ⟨t, ht, et⟩ := nI_of_in (k := x) (c := q) (by omega) ⟨c_1, Int32.not_le.mp c_9⟩
      refine lv_aload_n hx hb dX5_code_12 rfl (lv_at hl 0 rfl) ?_
      refine qh_get hx hb hH f_22 (hi.1) b_i rfl dX5_code_13 ?_
      refine lv_iload_n hx hb dX5_code_16 rfl (lv_at hl 1 rfl) ?_
      refine qh_iald hx hb hK hH (hi.2) b_j (j := t) (et) (by omega) (by omega) dX5_code_17 ?_
      refine lv_goto (tgt := 23) hx hb dX5_code_18 (by decide) ?_
      exact hret dX5_code_23 hH (⟨rfl, by rw [codF, if_pos ⟨c_1, Int32.not_le.mp c_9⟩, et, nI_clamp (by omega)]⟩)

set_option maxHeartbeats 1000000 in
set_option maxRecDepth 100000 in
theorem c_X5_cut (l : Launch) (G : qh_G) (z M : Nat) (E : Nat → va_E) (i : Nat) (a : Int32) (b : Int32) (cc : Int32) (x : Int32) (u : Value) (hi : i < M) (b_i : E i = .inr (5, [.int a, .int b, .int cc, u])) : Met l yX5_cut wsX5_cut (qh_R 0) (qh_Pre G z M E [.ref (z + i), .int x]) (qh_Q G z M (qh_i (fun r E' => E = E' ∧ r = cutF b x))) 0 0 (fun q => z ≤ q) := by
  refine qh_metI (cc := cX5_cut) (maxL := 2) (by decide) rfl (Nat.le_of_ble_eq_true rfl) ?_
  intro pZ eZ sZ mZ aZ bZ tZ cZ RR QQ ls hx hb hml hown hts hRf hRl hH hK hl hret
  have hown : sZ.vm.findClass RX5 = some mZ.cls := hown
  have hl : lv_has ls 2 [(0, .ref (z + i)), (1, .int x)] := hl
  have in_X5 : ∀ w ∈ wsX50, w ∈ wsX5_cut := fun w h => List.mem_cons_of_mem _ (List.mem_append_right _ h)
  have f_15 : qh_F G sZ mZ aZ 15 5 1 := qh_F.of hts in_X5 hown hK rfl 1 (by decide) (by decide +kernel)
  refine lv_aload_n hx hb dX5_cut_0 rfl (lv_at hl 0 rfl) ?_
  refine qh_get hx hb hH f_15 (hi) b_i rfl dX5_cut_1 ?_
  by_cases c_4_0 : b = 0
  · refine lv_lookup (tgt := 32) (off := 28) hx hb dX5_cut_4 (by decide) (by rw [c_4_0] <;> decide) (by decide) ?_
    refine lv_iload_n hx hb dX5_cut_32 rfl (lv_at hl 1 rfl) ?_
    refine lv_i2b (v := x.toInt8.toInt32) hx hb dX5_cut_33 rfl ?_
    exact hret dX5_cut_34 hH (⟨rfl, by simp [cutF, c_4_0]⟩)
  by_cases c_4_1 : b = 1
  · refine lv_lookup (tgt := 35) (off := 31) hx hb dX5_cut_4 (by decide) (by rw [c_4_1] <;> decide) (by decide) ?_
    refine lv_iload_n hx hb dX5_cut_35 rfl (lv_at hl 1 rfl) ?_
    refine lv_i2s (v := x.toInt16.toInt32) hx hb dX5_cut_36 rfl ?_
    exact hret dX5_cut_37 hH (⟨rfl, by simp [cutF, c_4_0, c_4_1]⟩)
  refine lv_lookup (tgt := 38) (off := 34) hx hb dX5_cut_4 (by decide) (by rw [lv_osw (k := 0) c_4_0 (by decide), lv_osw (k := 1) c_4_1 (by decide)] <;> rfl) (by decide) ?_
  refine lv_iload_n hx hb dX5_cut_38 rfl (lv_at hl 1 rfl) ?_
  exact hret dX5_cut_39 hH (⟨rfl, by simp [cutF, c_4_0, c_4_1]⟩)

set_option maxHeartbeats 1000000 in
set_option maxRecDepth 100000 in
theorem c_X0_become (l : Launch) (G : qh_G) (z M : Nat) (E : Nat → va_E) (i : Nat) (t0 : Int32) (a0 : Int32) (b0 : Int32) (v0 : Int64) (t : Int32) (a : Int32) (b : Int32) (v : Int64) (hi : i < M) (b_i : E i = .inr (0, [.int t0, .int a0, .int b0, .long v0])) : Met l yX0_become wsX0_become (qh_R 0) (qh_Pre G z M E [.ref (z + i), .int t, .int a, .int b, .long v]) (qh_Q G z M (qh_v (fun E' => E' i = .inr (0, [.int t, .int a, .int b, .long v]) ∧ ∀ x9, x9 ≠ i → E' x9 = E x9))) 0 0 (fun q => z ≤ q) := by
  refine qh_metV (cc := cX0_become) (maxL := 6) (by decide) rfl (Nat.le_of_ble_eq_true rfl) ?_
  intro pZ eZ sZ mZ aZ bZ tZ cZ RR QQ ls hx hb hml hown hts hRf hRl hH hK hl hret
  have hown : sZ.vm.findClass RX0 = some mZ.cls := hown
  have hl : lv_has ls 6 [(0, .ref (z + i)), (1, .int t), (2, .int a), (3, .int b), (4, .long v)] := hl
  have in_X0 : ∀ w ∈ wsX00, w ∈ wsX0_become := fun w h => List.mem_cons_of_mem _ (List.mem_append_right _ h)
  have w_9 : qh_W G sZ mZ aZ 9 0 0 .int := qh_W.of hts in_X0 tyX0 tyX0_ok nmX0 hown hK rfl 0 (by decide) (by decide +kernel) rfl (by decide +kernel)
  have w_15 : qh_W G sZ mZ aZ 15 0 1 .int := qh_W.of hts in_X0 tyX0 tyX0_ok nmX0 hown hK rfl 1 (by decide) (by decide +kernel) rfl (by decide +kernel)
  have w_18 : qh_W G sZ mZ aZ 18 0 2 .int := qh_W.of hts in_X0 tyX0 tyX0_ok nmX0 hown hK rfl 2 (by decide) (by decide +kernel) rfl (by decide +kernel)
  have w_21 : qh_W G sZ mZ aZ 21 0 3 .long := qh_W.of hts in_X0 tyX0 tyX0_ok nmX0 hown hK rfl 3 (by decide) (by decide +kernel) rfl (by decide +kernel)
  refine lv_aload_n hx hb dX0_become_0 rfl (lv_at hl 0 rfl) ?_
  refine lv_iload_n hx hb dX0_become_1 rfl (lv_at hl 1 rfl) ?_
  refine qh_put (fs' := [.int t, .int a0, .int b0, .long v0]) hx hb hH w_9 (hi) b_i rfl rfl (Nat.le_of_ble_eq_true rfl) rfl dX0_become_2 (fun E_1 H locs h_i hfr hH _ => ?_)
  have hF : ∀ x9, x9 ≠ i → E_1 x9 = E x9 := fun x9 a0 => hfr x9 a0
  refine lv_aload_n hx hb dX0_become_5 rfl (lv_at hl 0 rfl) ?_
  refine lv_iload_n hx hb dX0_become_6 rfl (lv_at hl 2 rfl) ?_
  refine qh_put (fs' := [.int t, .int a, .int b0, .long v0]) hx hb hH w_15 (hi) h_i rfl rfl (Nat.le_of_ble_eq_true rfl) rfl dX0_become_7 (fun E_2 H locs h_i hfr hH _ => ?_)
  have hF : ∀ x9, x9 ≠ i → E_2 x9 = E x9 := fun x9 a0 => (hfr x9 a0).trans (hF x9 a0)
  refine lv_aload_n hx hb dX0_become_10 rfl (lv_at hl 0 rfl) ?_
  refine lv_iload_n hx hb dX0_become_11 rfl (lv_at hl 3 rfl) ?_
  refine qh_put (fs' := [.int t, .int a, .int b, .long v0]) hx hb hH w_18 (hi) h_i rfl rfl (Nat.le_of_ble_eq_true rfl) rfl dX0_become_12 (fun E_3 H locs h_i hfr hH _ => ?_)
  have hF : ∀ x9, x9 ≠ i → E_3 x9 = E x9 := fun x9 a0 => (hfr x9 a0).trans (hF x9 a0)
  refine lv_aload_n hx hb dX0_become_15 rfl (lv_at hl 0 rfl) ?_
  refine lv_lload hx hb dX0_become_16 (lv_at hl 4 rfl) ?_
  refine qh_put (fs' := [.int t, .int a, .int b, .long v]) hx hb hH w_21 (hi) h_i rfl rfl (Nat.le_of_ble_eq_true rfl) rfl dX0_become_18 (fun E_4 H locs h_i hfr hH _ => ?_)
  have hF : ∀ x9, x9 ≠ i → E_4 x9 = E x9 := fun x9 a0 => (hfr x9 a0).trans (hF x9 a0)
  exact hret dX0_become_21 hH (⟨h_i, hF⟩)

set_option maxHeartbeats 1000000 in
set_option maxRecDepth 100000 in
theorem c_X0_isHelp (l : Launch) (G : qh_G) (z M : Nat) (E : Nat → va_E) (i : Nat) (t : Int32) (a : Int32) (b : Int32) (v : Int64) (hi : i < M) (b_i : E i = .inr (0, [.int t, .int a, .int b, .long v])) : Met l yX0_isHelp wsX0_isHelp (qh_R 0) (qh_Pre G z M E [.ref (z + i)]) (qh_Q G z M (qh_i (fun r E' => E = E' ∧ r = bI (t = 3 ∨ t = 4)))) 0 0 (fun q => z ≤ q) := by
  refine qh_metZ (cc := cX0_isHelp) (maxL := 1) (by decide) rfl (Nat.le_of_ble_eq_true rfl) ?_
  intro pZ eZ sZ mZ aZ bZ tZ cZ RR QQ ls hx hb hml hown hts hRf hRl hH hK hl hret
  have hown : sZ.vm.findClass RX0 = some mZ.cls := hown
  have hl : lv_has ls 1 [(0, .ref (z + i))] := hl
  have in_X0 : ∀ w ∈ wsX00, w ∈ wsX0_isHelp := fun w h => List.mem_cons_of_mem _ (List.mem_append_right _ h)
  have f_9 : qh_F G sZ mZ aZ 9 0 0 := qh_F.of hts in_X0 hown hK rfl 0 (by decide) (by decide +kernel)
  refine lv_aload_n hx hb dX0_isHelp_0 rfl (lv_at hl 0 rfl) ?_
  refine qh_get hx hb hH f_9 (hi) b_i rfl dX0_isHelp_1 ?_
  refine lv_iconst (v := 3) hx hb dX0_isHelp_4 (by decide) ?_
  refine lv_icmp_eq (tgt := 16) hx hb dX0_isHelp_5 (by decide) (fun c_5 => ?_) (fun c_5 => ?_)
  · refine lv_iconst (v := 1) hx hb dX0_isHelp_16 (by decide) ?_
    refine lv_goto (tgt := 21) hx hb dX0_isHelp_17 (by decide) ?_
    exact hret dX0_isHelp_21 hH (Or.inr rfl) (⟨rfl, by first | rfl | (simp [bI, c_5])⟩)
  · refine lv_aload_n hx hb dX0_isHelp_8 rfl (lv_at hl 0 rfl) ?_
    refine qh_get hx hb hH f_9 (hi) b_i rfl dX0_isHelp_9 ?_
    refine lv_iconst (v := 4) hx hb dX0_isHelp_12 (by decide) ?_
    refine lv_icmp_ne (tgt := 20) hx hb dX0_isHelp_13 (by decide) (fun c_13 => ?_) (fun c_13 => ?_)
    · refine lv_iconst (v := 0) hx hb dX0_isHelp_20 (by decide) ?_
      exact hret dX0_isHelp_21 hH (Or.inl rfl) (⟨rfl, by first | rfl | (simp [bI, c_5, c_13])⟩)
    · refine lv_iconst (v := 1) hx hb dX0_isHelp_16 (by decide) ?_
      refine lv_goto (tgt := 21) hx hb dX0_isHelp_17 (by decide) ?_
      exact hret dX0_isHelp_21 hH (Or.inr rfl) (⟨rfl, by first | rfl | (simp [bI, c_5, c_13])⟩)

set_option maxHeartbeats 1000000 in
set_option maxRecDepth 100000 in
theorem c_X0_amount (l : Launch) (G : qh_G) (z M : Nat) (E : Nat → va_E) (i : Nat) (i2 : Nat) (j2 : Nat) (k2 : Nat) (n : Nat) (t : Int32) (a : Int32) (b : Int32) (v : Int64) (kd : Nat → Int32) (pa : Nat → Int32) (hi : i < M ∧ i2 < M ∧ j2 < M ∧ k2 < M) (hn : n ≤ 3) (b_i : E i = .inr (0, [.int t, .int a, .int b, .long v])) (b_i2 : E i2 = .inr (1, [.int (nI n), .ref (z + j2), .ref (z + k2)])) (b_j2 : E j2 = qa_I G 3 kd) (b_k2 : E k2 = qa_I G 3 pa) : Met l yX0_amount wsX0_amount (qh_R 2) (qh_Pre G z M E [.ref (z + i), .ref (z + i2)]) (qh_Q G z M (qh_l (fun r E' => E = E' ∧ r = amt t n kd pa v))) 0 0 (fun q => z ≤ q) := by
  refine qh_metL (cc := cX0_amount) (maxL := 2) (by decide) rfl (Nat.le_of_ble_eq_true rfl) ?_
  intro pZ eZ sZ mZ aZ bZ tZ cZ RR QQ ls hx hb hml hown hts hRf hRl hH hK hl hret
  have hown : sZ.vm.findClass RX0 = some mZ.cls := hown
  have hl : lv_has ls 2 [(0, .ref (z + i)), (1, .ref (z + i2))] := hl
  have in_X0 : ∀ w ∈ wsX00, w ∈ wsX0_amount := fun w h => List.mem_cons_of_mem _ (List.mem_append_left _ (List.mem_append_right _ h))
  have f_9 : qh_F G sZ mZ aZ 9 0 0 := qh_F.of hts in_X0 hown hK rfl 0 (by decide) (by decide +kernel)
  have f_21 : qh_F G sZ mZ aZ 21 0 3 := qh_F.of hts in_X0 hown hK rfl 3 (by decide) (by decide +kernel)
  refine lv_aload_n hx hb dX0_amount_0 rfl (lv_at hl 0 rfl) ?_
  refine qh_get hx hb hH f_9 (hi.1) b_i rfl dX0_amount_1 ?_
  by_cases c_4_3 : t = 3
  · refine lv_lookup (tgt := 32) (off := 28) hx hb dX0_amount_4 (by decide) (by rw [c_4_3] <;> decide) (by decide) ?_
    refine lv_aload_n hx hb dX0_amount_32 rfl (lv_at hl 1 rfl) ?_
    refine lv_aload_n hx hb dX0_amount_33 rfl (lv_at hl 0 rfl) ?_
    refine qh_get hx hb hH f_21 (hi.1) b_i rfl dX0_amount_34 ?_
    refine qh_runV (As := [.long v]) (rest := []) (C := RX1) ⟨hx, hb, hml, hown, hts⟩ hK hH (c_X1_strength l G z M E i2 j2 k2 n kd pa v (⟨hi.2.1, hi.2.2.1, hi.2.2.2⟩) (hn) b_i2 b_j2 b_k2) (cwV 1 hts gX0_amount_X1_strength rfl rfl rfl (by decide +kernel) (by rw [hRf, hRl]; exact ⟨Nat.le_of_ble_eq_true rfl, Nat.le_of_ble_eq_true rfl⟩)) (hi.2.1) b_i2 rfl rfl hl.1 rfl (Nat.le_of_ble_eq_true rfl) dX0_amount_37 ⟨Nat.zero_le _, Nat.zero_le _⟩ (qh_kki fun r_37 E_1 H locs hpost hH => ?_)
    obtain ⟨rfl, rfl⟩ := hpost
    refine lv_i2l (v := (strg n kd pa v).toInt64) hx hb dX0_amount_40 rfl ?_
    exact hret dX0_amount_41 hH (⟨rfl, by simp [amt, c_4_3]⟩)
  by_cases c_4_4 : t = 4
  · refine lv_lookup (tgt := 42) (off := 38) hx hb dX0_amount_4 (by decide) (by rw [c_4_4] <;> decide) (by decide) ?_
    refine lv_aload_n hx hb dX0_amount_42 rfl (lv_at hl 1 rfl) ?_
    refine lv_aload_n hx hb dX0_amount_43 rfl (lv_at hl 0 rfl) ?_
    refine qh_get hx hb hH f_21 (hi.1) b_i rfl dX0_amount_44 ?_
    refine qh_runV (As := [.long v]) (rest := []) (C := RX1) ⟨hx, hb, hml, hown, hts⟩ hK hH (c_X1_strength l G z M E i2 j2 k2 n kd pa v (⟨hi.2.1, hi.2.2.1, hi.2.2.2⟩) (hn) b_i2 b_j2 b_k2) (cwV 1 hts gX0_amount_X1_strength rfl rfl rfl (by decide +kernel) (by rw [hRf, hRl]; exact ⟨Nat.le_of_ble_eq_true rfl, Nat.le_of_ble_eq_true rfl⟩)) (hi.2.1) b_i2 rfl rfl hl.1 rfl (Nat.le_of_ble_eq_true rfl) dX0_amount_47 ⟨Nat.zero_le _, Nat.zero_le _⟩ (qh_kki fun r_47 E_2 H locs hpost hH => ?_)
    obtain ⟨rfl, rfl⟩ := hpost
    refine lv_ineg hx hb dX0_amount_50 ?_
    refine lv_i2l (v := (-(strg n kd pa v)).toInt64) hx hb dX0_amount_51 rfl ?_
    exact hret dX0_amount_52 hH (⟨rfl, by simp [amt, c_4_3, c_4_4]⟩)
  refine lv_lookup (tgt := 53) (off := 49) hx hb dX0_amount_4 (by decide) (by rw [lv_osw (k := 3) c_4_3 (by decide), lv_osw (k := 4) c_4_4 (by decide)] <;> rfl) (by decide) ?_
  refine lv_aload_n hx hb dX0_amount_53 rfl (lv_at hl 0 rfl) ?_
  refine qh_get hx hb hH f_21 (hi.1) b_i rfl dX0_amount_54 ?_
  exact hret dX0_amount_57 hH (⟨rfl, by simp [amt, c_4_3, c_4_4]⟩)

set_option maxHeartbeats 1000000 in
set_option maxRecDepth 100000 in
theorem c_X3_forgetWhatWas (l : Launch) (G : qh_G) (z M : Nat) (E : Nat → va_E) (i : Nat) (j : Nat) (k : Nat) (n : Int32) (f : Nat → Int64) (g : Nat → Int64) (hi : i < M ∧ j < M ∧ k < M) (hd : i ≠ k ∧ j ≠ k) (b_i : E i = .inr (3, [.int n, .ref (z + j), .ref (z + k)])) (b_j : E j = qa_J G 16 f) (b_k : E k = qa_J G 16 g) : Met l yX3_forgetWhatWas wsX3_forgetWhatWas (qh_R 1) (qh_Pre G z M E [.ref (z + i)]) (qh_Q G z M (qh_v (fun E' => E' k = qa_J G 16 f ∧ ∀ x9, x9 ≠ k → E' x9 = E x9))) 0 0 (fun q => z ≤ q) := by
  refine qh_metV (cc := cX3_forgetWhatWas) (maxL := 1) (by decide) rfl (Nat.le_of_ble_eq_true rfl) ?_
  intro pZ eZ sZ mZ aZ bZ tZ cZ RR QQ ls hx hb hml hown hts hRf hRl hH hK hl hret
  have hown : sZ.vm.findClass RX3 = some mZ.cls := hown
  have hl : lv_has ls 1 [(0, .ref (z + i))] := hl
  have in_X3 : ∀ w ∈ wsX30, w ∈ wsX3_forgetWhatWas := fun w h => List.mem_cons_of_mem _ (List.mem_append_right _ h)
  have f_15 : qh_F G sZ mZ aZ 15 3 1 := qh_F.of hts in_X3 hown hK rfl 1 (by decide) (by decide +kernel)
  have f_19 : qh_F G sZ mZ aZ 19 3 2 := qh_F.of hts in_X3 hown hK rfl 2 (by decide) (by decide +kernel)
  have j_22 := hts (.methodLink RX3 22 arraycopyName) (by decide +kernel)
  have jn_22 := hts (.native arraycopyName) (by decide +kernel)
  have js_22 := hts (.static arraycopyName) (by decide +kernel)
  have ji_22 := hts (.initialized "java/lang/System") (by decide +kernel)
  refine lv_aload_n hx hb dX3_forgetWhatWas_0 rfl (lv_at hl 0 rfl) ?_
  refine qh_get hx hb hH f_15 (hi.1) b_i rfl dX3_forgetWhatWas_1 ?_
  refine lv_iconst (v := 0) hx hb dX3_forgetWhatWas_4 (by decide) ?_
  refine lv_aload_n hx hb dX3_forgetWhatWas_5 rfl (lv_at hl 0 rfl) ?_
  refine qh_get hx hb hH f_19 (hi.1) b_i rfl dX3_forgetWhatWas_6 ?_
  refine lv_iconst (v := 0) hx hb dX3_forgetWhatWas_9 (by decide) ?_
  refine lv_bipush (v := 16) hx hb dX3_forgetWhatWas_10 (by decide) ?_
  refine qh_copyJ hx hb (hml.trans hl.1.symm) hown j_22 jn_22 js_22 ji_22 hK hH (hi.2.1) (hi.2.2) b_j b_k (sp := 0) (dp := 0) (n := 16) (rfl) (rfl) (rfl) (by omega) (by omega) (by decide) (by decide) (by rw [hRf]; exact Nat.le_of_ble_eq_true rfl) (by rw [hRl]; exact Nat.le_of_ble_eq_true rfl) dX3_forgetWhatWas_12 (fun E_1 H locs h_k hfr hH => ?_)
  obtain ⟨E_2, h_k, hfr, hH⟩ := qh_renJ (g := f) hH h_k hfr (fun k hk => cpy_0 hk)
  have hF : ∀ x9, x9 ≠ k → E_2 x9 = E x9 := fun x9 a0 => hfr x9 a0
  exact hret dX3_forgetWhatWas_15 hH (⟨h_k, hF⟩)

set_option maxHeartbeats 1000000 in
set_option maxRecDepth 100000 in
theorem c_X3_becomeLike (l : Launch) (G : qh_G) (z M : Nat) (E : Nat → va_E) (i : Nat) (j : Nat) (k : Nat) (i2 : Nat) (j2 : Nat) (n : Int32) (n2 : Int32) (f : Nat → Int64) (g : Nat → Int64) (f2 : Nat → Int64) (u2 : Value) (hi : i < M ∧ j < M ∧ k < M ∧ i2 < M ∧ j2 < M) (hd : i ≠ j ∧ i ≠ k ∧ j ≠ k ∧ i2 ≠ i ∧ i2 ≠ j ∧ i2 ≠ k ∧ j2 ≠ i ∧ j2 ≠ j ∧ j2 ≠ k) (b_i : E i = .inr (3, [.int n, .ref (z + j), .ref (z + k)])) (b_j : E j = qa_J G 16 f) (b_k : E k = qa_J G 16 g) (b_i2 : E i2 = .inr (3, [.int n2, .ref (z + j2), u2])) (b_j2 : E j2 = qa_J G 16 f2) : Met l yX3_becomeLike wsX3_becomeLike (qh_R 2) (qh_Pre G z M E [.ref (z + i), .ref (z + i2)]) (qh_Q G z M (qh_v (fun E' => E' i = .inr (3, [.int n2, .ref (z + j), .ref (z + k)]) ∧ E' j = qa_J G 16 f2 ∧ E' k = qa_J G 16 f2 ∧ ∀ x9, x9 ≠ i → x9 ≠ j → x9 ≠ k → E' x9 = E x9))) 0 0 (fun q => z ≤ q) := by
  refine qh_metV (cc := cX3_becomeLike) (maxL := 2) (by decide) rfl (Nat.le_of_ble_eq_true rfl) ?_
  intro pZ eZ sZ mZ aZ bZ tZ cZ RR QQ ls hx hb hml hown hts hRf hRl hH hK hl hret
  have hown : sZ.vm.findClass RX3 = some mZ.cls := hown
  have hl : lv_has ls 2 [(0, .ref (z + i)), (1, .ref (z + i2))] := hl
  have in_X3 : ∀ w ∈ wsX30, w ∈ wsX3_becomeLike := fun w h => List.mem_cons_of_mem _ (List.mem_append_right _ h)
  have f_9 : qh_F G sZ mZ aZ 9 3 0 := qh_F.of hts in_X3 hown hK rfl 0 (by decide) (by decide +kernel)
  have w_9 : qh_W G sZ mZ aZ 9 3 0 .int := qh_W.of hts in_X3 tyX3 tyX3_ok nmX3 hown hK rfl 0 (by decide) (by decide +kernel) rfl (by decide +kernel)
  have f_15 : qh_F G sZ mZ aZ 15 3 1 := qh_F.of hts in_X3 hown hK rfl 1 (by decide) (by decide +kernel)
  have j_22 := hts (.methodLink RX3 22 arraycopyName) (by decide +kernel)
  have jn_22 := hts (.native arraycopyName) (by decide +kernel)
  have js_22 := hts (.static arraycopyName) (by decide +kernel)
  have ji_22 := hts (.initialized "java/lang/System") (by decide +kernel)
  refine lv_aload_n hx hb dX3_becomeLike_0 rfl (lv_at hl 0 rfl) ?_
  refine lv_aload_n hx hb dX3_becomeLike_1 rfl (lv_at hl 1 rfl) ?_
  refine qh_get hx hb hH f_9 (hi.2.2.2.1) b_i2 rfl dX3_becomeLike_2 ?_
  refine qh_put (fs' := [.int n2, .ref (z + j), .ref (z + k)]) hx hb hH w_9 (hi.1) b_i rfl rfl (Nat.le_of_ble_eq_true rfl) rfl dX3_becomeLike_5 (fun E_1 H locs h_i hfr hH _ => ?_)
  have hF : ∀ x9, x9 ≠ i → E_1 x9 = E x9 := fun x9 a0 => hfr x9 a0
  refine lv_aload_n hx hb dX3_becomeLike_8 rfl (lv_at hl 1 rfl) ?_
  refine qh_get hx hb hH f_15 (hi.2.2.2.1) ((hF i2 (hd.2.2.2.1)).trans b_i2) rfl dX3_becomeLike_9 ?_
  refine lv_iconst (v := 0) hx hb dX3_becomeLike_12 (by decide) ?_
  refine lv_aload_n hx hb dX3_becomeLike_13 rfl (lv_at hl 0 rfl) ?_
  refine qh_get hx hb hH f_15 (hi.1) h_i rfl dX3_becomeLike_14 ?_
  refine lv_iconst (v := 0) hx hb dX3_becomeLike_17 (by decide) ?_
  refine lv_bipush (v := 16) hx hb dX3_becomeLike_18 (by decide) ?_
  refine qh_copyJ hx hb (hml.trans hl.1.symm) hown j_22 jn_22 js_22 ji_22 hK hH (hi.2.2.2.2) (hi.2.1) ((hF j2 (hd.2.2.2.2.2.2.1)).trans b_j2) ((hF j (Ne.symm hd.1)).trans b_j) (sp := 0) (dp := 0) (n := 16) (rfl) (rfl) (rfl) (by omega) (by omega) (by decide) (by decide) (by rw [hRf]; exact Nat.le_of_ble_eq_true rfl) (by rw [hRl]; exact Nat.le_of_ble_eq_true rfl) dX3_becomeLike_20 (fun E_2 H locs h_j hfr hH => ?_)
  obtain ⟨E_3, h_j, hfr, hH⟩ := qh_renJ (g := f2) hH h_j hfr (fun k hk => cpy_0 hk)
  have h_i := (hfr i (hd.1)).trans h_i
  have hF : ∀ x9, x9 ≠ i → x9 ≠ j → E_3 x9 = E x9 := fun x9 a0 a1 => (hfr x9 a1).trans (hF x9 a0)
  refine lv_aload_n hx hb dX3_becomeLike_23 rfl (lv_at hl 0 rfl) ?_
  refine qh_runV (As := []) (rest := []) (C := RX3) ⟨hx, hb, hml, hown, hts⟩ hK hH (c_X3_forgetWhatWas l G z M E_3 i j k n2 f2 g (⟨hi.1, hi.2.1, hi.2.2.1⟩) (⟨hd.2.1, hd.2.2.1⟩) h_i h_j ((hF k (Ne.symm hd.2.1) (Ne.symm hd.2.2.1)).trans b_k)) (cwV 0 hts gX3_becomeLike_X3_forgetWhatWas rfl rfl rfl (by decide +kernel) (by rw [hRf, hRl]; exact ⟨Nat.le_of_ble_eq_true rfl, Nat.le_of_ble_eq_true rfl⟩)) (hi.1) h_i rfl rfl hl.1 rfl (Nat.le_of_ble_eq_true rfl) dX3_becomeLike_24 ⟨Nat.zero_le _, Nat.zero_le _⟩ (qh_kkv fun E_4 H locs hpost hH => ?_)
  obtain ⟨h_k, hfr⟩ := hpost
  have h_i := (hfr i (hd.2.1)).trans h_i
  have h_j := (hfr j (hd.2.2.1)).trans h_j
  have hF : ∀ x9, x9 ≠ i → x9 ≠ j → x9 ≠ k → E_4 x9 = E x9 := fun x9 a0 a1 a2 => (hfr x9 a2).trans (hF x9 a0 a1)
  exact hret dX3_becomeLike_27 hH (⟨h_i, h_j, h_k, hF⟩)

set_option maxHeartbeats 1000000 in
set_option maxRecDepth 100000 in
theorem c_X3_suffer (l : Launch) (G : qh_G) (z M : Nat) (E : Nat → va_E) (i : Nat) (j : Nat) (k : Nat) (n : Nat) (ia : Nat) (i2 : Nat) (j2 : Nat) (k2 : Nat) (m2 : Nat) (a : Nat) (b : Nat) (t : Int32) (v : Int64) (f : Nat → Int64) (g : Nat → Int64) (kd : Nat → Int32) (pa : Nat → Int32) (hi : i < M ∧ j < M ∧ k < M ∧ ia < M ∧ i2 < M ∧ j2 < M ∧ k2 < M) (hd : i ≠ j ∧ i ≠ k ∧ j ≠ k ∧ ia ≠ j ∧ ia ≠ k ∧ i2 ≠ j ∧ i2 ≠ k ∧ j2 ≠ j ∧ j2 ≠ k ∧ k2 ≠ j ∧ k2 ≠ k) (hn : n ≤ 16 ∧ m2 ≤ 3) (hab : a ≤ b ∧ b < n) (b_i : E i = .inr (3, [.int (nI n), .ref (z + j), .ref (z + k)])) (b_j : E j = qa_J G 16 f) (b_k : E k = qa_J G 16 g) (b_ia : E ia = .inr (0, [.int t, .int (nI a), .int (nI b), .long v])) (b_i2 : E i2 = .inr (1, [.int (nI m2), .ref (z + j2), .ref (z + k2)])) (b_j2 : E j2 = qa_I G 3 kd) (b_k2 : E k2 = qa_I G 3 pa) : Met l yX3_suffer wsX3_suffer (qh_R 3) (qh_Pre G z M E [.ref (z + i), .ref (z + ia), .ref (z + i2)]) (qh_Q G z M (qh_i (fun r E' => r = nI (othN f t (amt t m2 kd pa v) a (b + 1 - a)) ∧ E' j = qa_J G 16 (actF f t (amt t m2 kd pa v) a (b + 1 - a)) ∧ E' k = qa_J G 16 (hisF g f t (amt t m2 kd pa v) a (b + 1 - a)) ∧ ∀ x9, x9 ≠ j → x9 ≠ k → E' x9 = E x9))) 0 0 (fun q => z ≤ q) := by
  refine qh_metI (cc := cX3_suffer) (maxL := 9) (by decide) rfl (Nat.le_of_ble_eq_true rfl) ?_
  intro pZ eZ sZ mZ aZ bZ tZ cZ RR QQ ls hx hb hml hown hts hRf hRl hH hK hl hret
  have hown : sZ.vm.findClass RX3 = some mZ.cls := hown
  have hl : lv_has ls 9 [(0, .ref (z + i)), (1, .ref (z + ia)), (2, .ref (z + i2))] := hl
  have in_X0 : ∀ w ∈ wsX00, w ∈ wsX3_suffer := fun w h => List.mem_cons_of_mem _ (List.mem_append_left _ (List.mem_append_left _ (List.mem_append_right _ h)))
  have in_X3 : ∀ w ∈ wsX30, w ∈ wsX3_suffer := fun w h => List.mem_cons_of_mem _ (List.mem_append_left _ (List.mem_append_right _ h))
  have f_31 : qh_F G sZ mZ aZ 31 0 1 := qh_F.of hts in_X0 hown hK rfl 1 (by decide) (by decide +kernel)
  have f_40 : qh_F G sZ mZ aZ 40 0 2 := qh_F.of hts in_X0 hown hK rfl 2 (by decide) (by decide +kernel)
  have f_15 : qh_F G sZ mZ aZ 15 3 1 := qh_F.of hts in_X3 hown hK rfl 1 (by decide) (by decide +kernel)
  have f_47 : qh_F G sZ mZ aZ 47 0 0 := qh_F.of hts in_X0 hown hK rfl 0 (by decide) (by decide +kernel)
  have f_19 : qh_F G sZ mZ aZ 19 3 2 := qh_F.of hts in_X3 hown hK rfl 2 (by decide) (by decide +kernel)
  have j_54 := hts (.methodLink RX3 54 Lib.MathLoose.max_long.x) (by decide +kernel)
  have js_54 := hts (.static Lib.MathLoose.max_long.x) (by decide +kernel)
  have ji_Math := hts (.initialized "java/lang/Math") (by decide +kernel)
  have jc_54 := hts (.code Lib.MathLoose.max_long.x Lib.MathLoose.max_long.code 4 (some .long)) (by decide +kernel)
  refine lv_aload_n hx hb dX3_suffer_0 rfl (lv_at hl 0 rfl) ?_
  refine lv_aload_n hx hb dX3_suffer_1 rfl (lv_at hl 1 rfl) ?_
  refine qh_get hx hb hH f_31 (hi.2.2.2.1) b_ia rfl dX3_suffer_2 ?_
  refine qh_runV (As := [.int (nI a)]) (rest := []) (C := RX3) ⟨hx, hb, hml, hown, hts⟩ hK hH (c_X3_has l G z M E i (hi.1) (nI n) (.ref (z + j)) (.ref (z + k)) (nI a) b_i) (cwV 1 hts gX3_suffer_X3_has rfl rfl rfl (by decide +kernel) (by rw [hRf, hRl]; exact ⟨Nat.le_of_ble_eq_true rfl, Nat.le_of_ble_eq_true rfl⟩)) (hi.1) b_i rfl rfl hl.1 rfl (Nat.le_of_ble_eq_true rfl) dX3_suffer_5 ⟨Nat.zero_le _, Nat.zero_le _⟩ (qh_kki fun r_5 E_1 H locs hpost hH => ?_)
  obtain ⟨rfl, rfl⟩ := hpost
  refine lv_if_eq (tgt := 22) hx hb dX3_suffer_8 (by decide) (fun c_8 => ?_) (fun c_8 => ?_)
  · have c_8 := bI_eq.mp c_8
    exact absurd (nI_has (by omega) (by omega)) c_8
  · have c_8 := bI_ne.mp c_8
    refine lv_aload_n hx hb dX3_suffer_11 rfl (lv_at hl 0 rfl) ?_
    refine lv_aload_n hx hb dX3_suffer_12 rfl (lv_at hl 1 rfl) ?_
    refine qh_get hx hb hH f_40 (hi.2.2.2.1) b_ia rfl dX3_suffer_13 ?_
    refine qh_runV (As := [.int (nI b)]) (rest := []) (C := RX3) ⟨hx, hb, hml, hown, hts⟩ hK hH (c_X3_has l G z M E i (hi.1) (nI n) (.ref (z + j)) (.ref (z + k)) (nI b) b_i) (cwV 1 hts gX3_suffer_X3_has rfl rfl rfl (by decide +kernel) (by rw [hRf, hRl]; exact ⟨Nat.le_of_ble_eq_true rfl, Nat.le_of_ble_eq_true rfl⟩)) (hi.1) b_i rfl rfl hl.1 rfl (Nat.le_of_ble_eq_true rfl) dX3_suffer_16 ⟨Nat.zero_le _, Nat.zero_le _⟩ (qh_kki fun r_16 E_2 H locs hpost hH => ?_)
    obtain ⟨rfl, rfl⟩ := hpost
    refine lv_if_ne (tgt := 24) hx hb dX3_suffer_19 (by decide) (fun c_19 => ?_) (fun c_19 => ?_)
    · have c_19 := bI_ne.mp c_19
      refine lv_aload_n hx hb dX3_suffer_24 rfl (lv_at hl 1 rfl) ?_
      refine lv_aload_n hx hb dX3_suffer_25 rfl (lv_at hl 2 rfl) ?_
      refine qh_runV (As := [.ref (z + i2)]) (rest := []) (C := RX0) ⟨hx, hb, hml, hown, hts⟩ hK hH (c_X0_amount l G z M E ia i2 j2 k2 m2 t (nI a) (nI b) v kd pa (⟨hi.2.2.2.1, hi.2.2.2.2.1, hi.2.2.2.2.2.1, hi.2.2.2.2.2.2⟩) (hn.2) b_ia b_i2 b_j2 b_k2) (cwV 1 hts gX3_suffer_X0_amount rfl rfl rfl (by decide +kernel) (by rw [hRf, hRl]; exact ⟨Nat.le_of_ble_eq_true rfl, Nat.le_of_ble_eq_true rfl⟩)) (hi.2.2.2.1) b_ia rfl rfl hl.1 rfl (Nat.le_of_ble_eq_true rfl) dX3_suffer_26 ⟨Nat.zero_le _, Nat.zero_le _⟩ (qh_kkl fun r_26 E_3 H locs hpost hH => ?_)
      obtain ⟨rfl, rfl⟩ := hpost
      refine lv_lstore_n (lv' := [(3, .long (amt t m2 kd pa v)), (0, .ref (z + i)), (1, .ref (z + ia)), (2, .ref (z + i2))]) hx hb dX3_suffer_29 rfl hl (by decide) rfl (fun ls hl => ?_)
      refine lv_iconst (v := 0) hx hb dX3_suffer_30 (by decide) ?_
      refine lv_istore (lv' := [(5, .int 0), (3, .long (amt t m2 kd pa v)), (0, .ref (z + i)), (1, .ref (z + ia)), (2, .ref (z + i2))]) hx hb dX3_suffer_31 hl (by decide) rfl (fun ls hl => ?_)
      refine lv_aload_n hx hb dX3_suffer_33 rfl (lv_at hl 3 rfl) ?_
      refine qh_get hx hb hH f_31 (hi.2.2.2.1) b_ia rfl dX3_suffer_34 ?_
      refine lv_istore (lv' := [(6, .int (nI a)), (5, .int 0), (3, .long (amt t m2 kd pa v)), (0, .ref (z + i)), (1, .ref (z + ia)), (2, .ref (z + i2))]) hx hb dX3_suffer_37 hl (by decide) rfl (fun ls hl => ?_)
      have L_39 : ∀ fu : Nat, ∀ q : Nat, (q ≤ b + 1 - a) → (b + 1 - a - q < fu) → ∀ Ek : Nat → va_E, Ek j = qa_J G 16 (actF f t (amt t m2 kd pa v) a q) → Ek k = qa_J G 16 (hisF g f t (amt t m2 kd pa v) a q) → (∀ x9, x9 ≠ j → x9 ≠ k → Ek x9 = E x9) → ∀ (H : Heap) (locs : List Loc), qh_H G z M Ek sZ.heap H locs → ∀ ls : Array Slot, lv_has ls 9 [(0, .ref (z + i)), (1, .ref (z + ia)), (2, .ref (z + i2)), (3, .long (amt t m2 kd pa v)), (5, .int (nI (othN f t (amt t m2 kd pa v) a q))), (6, .int (nI (a + q)))] → W pZ l eZ RR sZ mZ aZ bZ tZ cZ H locs 0 0 QQ (F0 mZ 39 ls []) := by
        intro fu
        induction fu with
        | zero =>
          intro q hq hfuel
          exact absurd hfuel (by omega)
        | succ fu ih =>
          intro q hq hfuel Ek h_j h_k hF H locs hH ls hl
          refine lv_iload hx hb dX3_suffer_39 (lv_at hl 5 rfl) ?_
          refine lv_aload_n hx hb dX3_suffer_41 rfl (lv_at hl 1 rfl) ?_
          refine qh_get hx hb hH f_40 (hi.2.2.2.1) ((hF ia (hd.2.2.2.1) (hd.2.2.2.2.1)).trans b_ia) rfl dX3_suffer_42 ?_
          refine lv_icmp_gt (tgt := 115) hx hb dX3_suffer_45 (by decide) (fun c_45 => ?_) (fun c_45 => ?_)
          · have hk : q = b + 1 - a := by
              rcases Nat.lt_or_ge (a + q) (b + 1) with w | w
              · exact absurd c_45 (nI_nlt (by omega) (by omega))
              · omega
            subst hk
            refine lv_iload hx hb dX3_suffer_115 (lv_at hl 4 rfl) ?_
            exact hret dX3_suffer_117 hH (⟨rfl, h_j, h_k, hF⟩)
          · have hk : a + q < b + 1 := by
              rcases Nat.lt_or_ge (a + q) (b + 1) with w | w
              · exact w
              · exact absurd (nI_lt (by omega) (by omega)) c_45
            refine lv_aload_n hx hb dX3_suffer_48 rfl (lv_at hl 0 rfl) ?_
            refine qh_get hx hb hH f_15 (hi.1) ((hF i (hd.1) (hd.2.1)).trans b_i) rfl dX3_suffer_49 ?_
            refine lv_iload hx hb dX3_suffer_52 (lv_at hl 5 rfl) ?_
            refine qh_lald hx hb hK hH (hi.2.1) h_j (j := a + q) (rfl) (by omega) (by omega) dX3_suffer_54 ?_
            refine qh_topl (y := f (a + q)) (actF_at ..) ?_
            refine lv_aload_n hx hb dX3_suffer_55 rfl (lv_at hl 1 rfl) ?_
            refine qh_get hx hb hH f_47 (hi.2.2.2.1) ((hF ia (hd.2.2.2.1) (hd.2.2.2.2.1)).trans b_ia) rfl dX3_suffer_56 ?_
            refine lv_lload_n hx hb dX3_suffer_59 rfl (lv_at hl 3 rfl) ?_
            refine qh_runS (As := [.long (f (a + q)), .int t, .long (amt t m2 kd pa v)]) (rest := []) ⟨hx, hb, hml, hown, hts⟩ hK hH (c_X3_changed l G z M Ek (f (a + q)) t (amt t m2 kd pa v)) (va_cwS 3 hts gX3_suffer_X3_changed rfl rfl rfl (by decide +kernel) (by rw [hRf, hRl]; exact ⟨Nat.le_of_ble_eq_true rfl, Nat.le_of_ble_eq_true rfl⟩)) rfl hl.1 rfl (Nat.le_of_ble_eq_true rfl) dX3_suffer_60 ⟨Nat.zero_le _, Nat.zero_le _⟩ (qh_kkl fun r_60 E_4 H locs hpost hH => ?_)
            obtain ⟨rfl, rfl⟩ := hpost
            refine lv_lstore (lv' := [(7, .long (chg (f (a + q)) t (amt t m2 kd pa v))), (0, .ref (z + i)), (1, .ref (z + ia)), (2, .ref (z + i2)), (3, .long (amt t m2 kd pa v)), (5, .int (nI (othN f t (amt t m2 kd pa v) a q))), (6, .int (nI (a + q)))]) hx hb dX3_suffer_63 hl (by decide) rfl (fun ls hl => ?_)
            refine lv_lload hx hb dX3_suffer_65 (lv_at hl 0 rfl) ?_
            refine lv_aload_n hx hb dX3_suffer_67 rfl (lv_at hl 1 rfl) ?_
            refine qh_get hx hb hH f_15 (hi.1) ((hF i (hd.1) (hd.2.1)).trans b_i) rfl dX3_suffer_68 ?_
            refine lv_iload hx hb dX3_suffer_71 (lv_at hl 6 rfl) ?_
            refine qh_lald hx hb hK hH (hi.2.1) h_j (j := a + q) (rfl) (by omega) (by omega) dX3_suffer_73 ?_
            refine qh_topl (y := f (a + q)) (actF_at ..) ?_
            refine W.lcmp hx hb dX3_suffer_74 ?_
            refine lv_if_eq (tgt := 81) hx hb dX3_suffer_75 (by decide) (fun c_75 => ?_) (fun c_75 => ?_)
            · have c_75 := (lg_cmp_eq _ _).mp c_75
              refine lv_aload_n hx hb dX3_suffer_81 rfl (lv_at hl 1 rfl) ?_
              refine qh_get hx hb hH f_15 (hi.1) ((hF i (hd.1) (hd.2.1)).trans b_i) rfl dX3_suffer_82 ?_
              refine lv_iload hx hb dX3_suffer_85 (lv_at hl 6 rfl) ?_
              refine lv_lload hx hb dX3_suffer_87 (lv_at hl 0 rfl) ?_
              refine qh_last hx hb hK hH (hi.2.1) h_j (j := a + q) (rfl) (by omega) (by omega) dX3_suffer_89 (fun E_5 H locs h_j hfr hH _ => ?_)
              have h_j : E_5 j = qa_J G 16 (actF f t (amt t m2 kd pa v) a (q + 1)) := h_j.trans (congrArg (qa_J G 16) (actF_s ..))
              have h_k := (hfr k (Ne.symm hd.2.2.1)).trans h_k
              have hF : ∀ x9, x9 ≠ j → x9 ≠ k → E_5 x9 = E x9 := fun x9 a0 a1 => (hfr x9 a0).trans (hF x9 a0 a1)
              refine lv_aload_n hx hb dX3_suffer_90 rfl (lv_at hl 1 rfl) ?_
              refine qh_get hx hb hH f_19 (hi.1) ((hF i (hd.1) (hd.2.1)).trans b_i) rfl dX3_suffer_91 ?_
              refine lv_iload hx hb dX3_suffer_94 (lv_at hl 6 rfl) ?_
              refine lv_aload_n hx hb dX3_suffer_96 rfl (lv_at hl 1 rfl) ?_
              refine qh_get hx hb hH f_19 (hi.1) ((hF i (hd.1) (hd.2.1)).trans b_i) rfl dX3_suffer_97 ?_
              refine lv_iload hx hb dX3_suffer_100 (lv_at hl 6 rfl) ?_
              refine qh_lald hx hb hK hH (hi.2.2.1) h_k (j := a + q) (rfl) (by omega) (by omega) dX3_suffer_102 ?_
              refine qh_topl (y := g (a + q)) (hisF_at ..) ?_
              refine lv_lload hx hb dX3_suffer_103 (lv_at hl 0 rfl) ?_
              refine va_mmax_long hx hb (hml.trans hl.1.symm) hown j_54 js_54 ji_Math jc_54 (by rw [hRf]; exact Nat.le_of_ble_eq_true rfl) (by rw [hRl]; exact Nat.le_of_ble_eq_true rfl) (Nat.zero_le _) (Nat.zero_le _) dX3_suffer_105 ?_
              refine qh_topl (y := mx (g (a + q)) (chg (f (a + q)) t (amt t m2 kd pa v))) (mx_cls _ _) ?_
              refine qh_last hx hb hK hH (hi.2.2.1) h_k (j := a + q) (rfl) (by omega) (by omega) dX3_suffer_108 (fun E_6 H locs h_k hfr hH _ => ?_)
              have h_k : E_6 k = qa_J G 16 (hisF g f t (amt t m2 kd pa v) a (q + 1)) := h_k.trans (congrArg (qa_J G 16) (hisF_s ..))
              have h_j := (hfr j (hd.2.2.1)).trans h_j
              have hF : ∀ x9, x9 ≠ j → x9 ≠ k → E_6 x9 = E x9 := fun x9 a0 a1 => (hfr x9 a1).trans (hF x9 a0 a1)
              refine lv_iinc (v := nI ((a + q) + 1)) (lv' := [(6, .int (nI ((a + q) + 1))), (7, .long (chg (f (a + q)) t (amt t m2 kd pa v))), (0, .ref (z + i)), (1, .ref (z + ia)), (2, .ref (z + i2)), (3, .long (amt t m2 kd pa v)), (5, .int (nI (othN f t (amt t m2 kd pa v) a q)))]) hx hb dX3_suffer_109 hl (k := 6) rfl (qn_inc (a + q)) (by decide) rfl (fun ls hl => ?_)
              refine lv_goto (tgt := 39) hx hb dX3_suffer_112 (by decide) ?_
              first | rw [← othN_y c_75] at hl | rw [← othN_n c_75] at hl
              exact ih (q + 1) (by omega) (by omega) E_6 h_j h_k (fun x9 a0 a1 => hF x9 a0 a1) _ _ hH ls (lv_sub hl [2, 3, 4, 5, 6, 0] rfl)
            · have c_75 := (lg_cmp_ne _ _).mp c_75
              refine lv_iinc (v := nI ((othN f t (amt t m2 kd pa v) a q) + 1)) (lv' := [(5, .int (nI ((othN f t (amt t m2 kd pa v) a q) + 1))), (7, .long (chg (f (a + q)) t (amt t m2 kd pa v))), (0, .ref (z + i)), (1, .ref (z + ia)), (2, .ref (z + i2)), (3, .long (amt t m2 kd pa v)), (6, .int (nI (a + q)))]) hx hb dX3_suffer_78 hl (k := 5) rfl (qn_inc (othN f t (amt t m2 kd pa v) a q)) (by decide) rfl (fun ls hl => ?_)
              refine lv_aload_n hx hb dX3_suffer_81 rfl (lv_at hl 2 rfl) ?_
              refine qh_get hx hb hH f_15 (hi.1) ((hF i (hd.1) (hd.2.1)).trans b_i) rfl dX3_suffer_82 ?_
              refine lv_iload hx hb dX3_suffer_85 (lv_at hl 6 rfl) ?_
              refine lv_lload hx hb dX3_suffer_87 (lv_at hl 1 rfl) ?_
              refine qh_last hx hb hK hH (hi.2.1) h_j (j := a + q) (rfl) (by omega) (by omega) dX3_suffer_89 (fun E_7 H locs h_j hfr hH _ => ?_)
              have h_j : E_7 j = qa_J G 16 (actF f t (amt t m2 kd pa v) a (q + 1)) := h_j.trans (congrArg (qa_J G 16) (actF_s ..))
              have h_k := (hfr k (Ne.symm hd.2.2.1)).trans h_k
              have hF : ∀ x9, x9 ≠ j → x9 ≠ k → E_7 x9 = E x9 := fun x9 a0 a1 => (hfr x9 a0).trans (hF x9 a0 a1)
              refine lv_aload_n hx hb dX3_suffer_90 rfl (lv_at hl 2 rfl) ?_
              refine qh_get hx hb hH f_19 (hi.1) ((hF i (hd.1) (hd.2.1)).trans b_i) rfl dX3_suffer_91 ?_
              refine lv_iload hx hb dX3_suffer_94 (lv_at hl 6 rfl) ?_
              refine lv_aload_n hx hb dX3_suffer_96 rfl (lv_at hl 2 rfl) ?_
              refine qh_get hx hb hH f_19 (hi.1) ((hF i (hd.1) (hd.2.1)).trans b_i) rfl dX3_suffer_97 ?_
              refine lv_iload hx hb dX3_suffer_100 (lv_at hl 6 rfl) ?_
              refine qh_lald hx hb hK hH (hi.2.2.1) h_k (j := a + q) (rfl) (by omega) (by omega) dX3_suffer_102 ?_
              refine qh_topl (y := g (a + q)) (hisF_at ..) ?_
              refine lv_lload hx hb dX3_suffer_103 (lv_at hl 1 rfl) ?_
              refine va_mmax_long hx hb (hml.trans hl.1.symm) hown j_54 js_54 ji_Math jc_54 (by rw [hRf]; exact Nat.le_of_ble_eq_true rfl) (by rw [hRl]; exact Nat.le_of_ble_eq_true rfl) (Nat.zero_le _) (Nat.zero_le _) dX3_suffer_105 ?_
              refine qh_topl (y := mx (g (a + q)) (chg (f (a + q)) t (amt t m2 kd pa v))) (mx_cls _ _) ?_
              refine qh_last hx hb hK hH (hi.2.2.1) h_k (j := a + q) (rfl) (by omega) (by omega) dX3_suffer_108 (fun E_8 H locs h_k hfr hH _ => ?_)
              have h_k : E_8 k = qa_J G 16 (hisF g f t (amt t m2 kd pa v) a (q + 1)) := h_k.trans (congrArg (qa_J G 16) (hisF_s ..))
              have h_j := (hfr j (hd.2.2.1)).trans h_j
              have hF : ∀ x9, x9 ≠ j → x9 ≠ k → E_8 x9 = E x9 := fun x9 a0 a1 => (hfr x9 a1).trans (hF x9 a0 a1)
              refine lv_iinc (v := nI ((a + q) + 1)) (lv' := [(6, .int (nI ((a + q) + 1))), (5, .int (nI ((othN f t (amt t m2 kd pa v) a q) + 1))), (7, .long (chg (f (a + q)) t (amt t m2 kd pa v))), (0, .ref (z + i)), (1, .ref (z + ia)), (2, .ref (z + i2)), (3, .long (amt t m2 kd pa v))]) hx hb dX3_suffer_109 hl (k := 6) rfl (qn_inc (a + q)) (by decide) rfl (fun ls hl => ?_)
              refine lv_goto (tgt := 39) hx hb dX3_suffer_112 (by decide) ?_
              first | rw [← othN_y c_75] at hl | rw [← othN_n c_75] at hl
              exact ih (q + 1) (by omega) (by omega) E_8 h_j h_k (fun x9 a0 a1 => hF x9 a0 a1) _ _ hH ls (lv_sub hl [3, 4, 5, 6, 1, 0] rfl)
      exact L_39 (b + 1 - a + 1) 0 (Nat.zero_le _) (by omega) E (b_j.trans (congrArg (qa_J G 16) (actF_0 ..).symm)) (b_k.trans (congrArg (qa_J G 16) (hisF_0 ..).symm)) (fun x9 a0 a1 => rfl) _ _ hH ls (lv_sub hl [3, 4, 5, 2, 1, 0] rfl)
    · have c_19 := bI_eq.mp c_19
      exact absurd (nI_has (by omega) (by omega)) c_19
