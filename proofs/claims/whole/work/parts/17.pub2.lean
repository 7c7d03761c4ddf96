theorem spN_ok {n t : Nat} (hn : n ≤ 16) (ht : t < 32) (h : (spN n t).isSome = true) : ∃ u w, spN n t = some (u, w) ∧ u ≤ w ∧ w < 16 := by
  have h1 := (sp_get hn ht).1
  cases hw : spN n t with
  | none => rw [hw] at h; cases h
  | some q =>
    obtain ⟨u, w⟩ := q
    rw [hw] at h1
    have h2 : u ≤ w ∧ w < 16 := of_decide_eq_true h1
    exact ⟨u, w, rfl, h2⟩
theorem spH_ok {n : Nat} {x : Int32} (hn : n ≤ 16) (h : spH n x) : ∃ t u w, t < 32 ∧ x = nI t ∧ spN n t = some (u, w) ∧ u ≤ w ∧ w < 16 := by
  obtain ⟨t, ht, rfl⟩ := nI_of_in (k := x) (c := 32) (by decide) ⟨fun w => h.1 (Int32.lt_trans w (by decide)), h.2.1⟩
  obtain ⟨u, w, h1, h2, h3⟩ := spN_ok hn ht (spH_nI ht h)
  exact ⟨t, u, w, ht, rfl, h1, h2, h3⟩
/-- what is told of a span from u to w -/
def spvR (f : Nat → Int64) (u w : Nat) (y : Int32) : Int64 := if y = 0 then (nI u).toInt64 else if y = 1 then (nI w).toInt64 else if y = 2 then maxR f u (w - u) else if y = 3 then secR f (maxR f u (w - u)) u (w + 1 - u) else if y = 4 then (nI (cntR (fun k => decide (¬ f k < maxR f u (w - u))) u (w + 1 - u))).toInt64 else if y = 5 then sumR f u (w + 1 - u) else if y = 6 then (nI (unlR f u (w + 1 - u))).toInt64 else LOSTv
def ospR (n : Nat) (f : Nat → Int64) (x y : Int32) : Int64 := if spH n x then (match spN n x.toNatClampNeg with
  | some (u, w) => spvR f u w y
  | none => LOSTv) else LOSTv
def unkS (n : Nat) (f : Nat → Int64) : Nat → Int32
  | 0 => 0
  | q + 1 => match spN n (1 + q) with
    | some (u, w) => unkS n f q + nI (unlR f u (w + 1 - u))
    | none => unkS n f q
theorem unkS_y {n : Nat} {f : Nat → Int64} {q u w : Nat} (h : spN n (1 + q) = some (u, w)) : unkS n f (q + 1) = unkS n f q + nI (unlR f u (w + 1 - u)) := by
  rw [unkS, h]
theorem unkS_n {n : Nat} {f : Nat → Int64} {q : Nat} (h : (spN n (1 + q)).isSome = false) : unkS n f (q + 1) = unkS n f q := by
  rw [unkS]
  cases hw : spN n (1 + q) with
  | none => rfl
  | some q => rw [hw] at h; cases h
def unkR (n : Nat) (f : Nat → Int64) : Int32 := if 0 < nI n then unkS n f 31 else -3
def bakD (rn : Nat) (x : Int32) : Option Int32 := if ¬ x < 0 ∧ x ≤ nI rn then none else some (-2)
def losD (x : Int32) : Option Int32 := if ¬ x < 0 ∧ x < 4 then none else some (-1)
def upS (f : Nat → Nat → Int32) (k : Nat) (x : Nat → Int32) : Nat → Nat → Int32 := fun j => if j = k then x else f j
/-- a sheet that changed -/
theorem shs_put {G : qh_G} {z : Nat} {E E1 : Nat → va_E} {hr la : Nat → Int32} {lg : Nat → Nat} {sc : Nat → Nat → Int32} {j : Nat} {a b : Int32} {q : Nat} {f : Nat → Int32} (hj : j < 4)
    (h : ∀ k, k < 4 → E (55 + 2 * k) = .inr (5, [.int (hr k), .int (la k), .int (nI (lg k)), .ref (z + (56 + 2 * k))]) ∧ E (56 + 2 * k) = qa_I G 60 (sc k))
    (h1 : E1 (55 + 2 * j) = .inr (5, [.int a, .int b, .int (nI q), .ref (z + (56 + 2 * j))])) (h2 : E1 (56 + 2 * j) = qa_I G 60 f) (hfr : ∀ k, k < 4 → k ≠ j → E1 (55 + 2 * k) = E (55 + 2 * k) ∧ E1 (56 + 2 * k) = E (56 + 2 * k)) :
    ∀ k, k < 4 → E1 (55 + 2 * k) = .inr (5, [.int (upd hr j a k), .int (upd la j b k), .int (nI (upN lg j q k)), .ref (z + (56 + 2 * k))]) ∧ E1 (56 + 2 * k) = qa_I G 60 (upS sc j f k) := by
  intro k hk
  by_cases e : k = j
  · subst e
    simp only [upd, upN, upS, if_pos]
    exact ⟨h1, h2⟩
  · simp only [upd, upN, upS, if_neg e]
    exact ⟨(hfr k hk e).1.trans (h k hk).1, (hfr k hk e).2.trans (h k hk).2⟩
theorem upd_id (f : Nat → Int32) (j : Nat) : upd f j (f j) = f := by
  funext k
  simp only [upd]
  split
  · rename_i e; rw [e]
  · rfl
theorem upN_id (f : Nat → Nat) (j : Nat) : upN f j (f j) = f := by
  funext k
  simp only [upN]
  split
  · rename_i e; rw [e]
  · rfl
theorem upS_id (f : Nat → Nat → Int32) (j : Nat) : upS f j (f j) = f := by
  funext k
  simp only [upS]
  split
  · rename_i e; rw [e]
  · rfl
set_option maxHeartbeats 1000000 in
set_option maxRecDepth 100000 in
theorem c_X8_ofSpan (l : Launch) (G : qh_G) (z M : Nat) (E : Nat → va_E) (tr : Int32) (lf : Int32) (n : Nat) (f : Nat → Int64) (g : Nat → Int64) (bf : Nat → Int64) (m2 : Nat) (kd : Nat → Int32) (pa : Nat → Int32) (ln : Nat) (ts : Nat → Int32) (ga : Nat → Nat) (gb : Nat → Nat) (va : Nat → Int64) (rn : Nat) (cn : Nat → Nat) (vs : Nat → Int64) (hr : Nat → Int32) (la : Nat → Int32) (lg : Nat → Nat) (sc : Nat → Nat → Int32) (hM : 84 ≤ M) (hX : XE G z E tr lf n f g bf m2 kd pa ln ts ga gb va rn cn vs hr la lg sc) (hW : XW n m2 ln rn ga gb cn lg hr) (x : Int32) (y : Int32) : Met l yX8_ofSpan wsX8_ofSpan (qh_R 3) (qh_Pre G z M E [.ref (z + 0), .int x, .int y]) (qh_Q G z M (qh_l (fun r E' => E = E' ∧ r = ospR n f x y))) 0 0 (fun q => z ≤ q) := by
  refine qh_metL (cc := cX8_ofSpan) (maxL := 5) (by decide) rfl (Nat.le_of_ble_eq_true rfl) ?_
  intro pZ eZ sZ mZ aZ bZ tZ cZ RR QQ ls hx hb hml hown hts hRf hRl hH hK hl hret
  have hown : sZ.vm.findClass RX8 = some mZ.cls := hown
  have hl : lv_has ls 5 [(0, .ref (z + 0)), (1, .int x), (2, .int y)] := hl
  obtain ⟨tc, dg, hn0, tk, tp, gn, gk, gp, t0, a0, b0, v0, bg, tn, tf, tg, b_0, b_1, b_2, b_3, b_4, b_5, b_6, b_7, b_8, b_9, b_10, b_11, b_12, b_13, b_14, b_39, b_40, b_41, b_42, b_43, b_44, b_45, b_46, b_47, b_48, b_49, b_50, b_51, b_52, b_53, b_54, hacts, hsh⟩ := hX
  obtain ⟨⟨hn16, hm3, hl24, hr8⟩, hval, hcn, hlg, hhr⟩ := hW
  have in_X8 : ∀ w ∈ wsX80, w ∈ wsX8_ofSpan := fun w h => List.mem_cons_of_mem _ (List.mem_append_left _ (List.mem_append_left _ (List.mem_append_right _ h)))
  have in_X6 : ∀ w ∈ wsX60, w ∈ wsX8_ofSpan := fun w h => List.mem_cons_of_mem _ (List.mem_append_left _ (List.mem_append_right _ h))
  have in_X3 : ∀ w ∈ wsX30, w ∈ wsX8_ofSpan := fun w h => List.mem_cons_of_mem _ (List.mem_append_right _ h)
  have f_64 : qh_F G sZ mZ aZ 64 8 9 := qh_F.of hts in_X8 hown hK rfl 9 (by decide) (by decide +kernel)
  have f_252 : qh_F G sZ mZ aZ 252 6 0 := qh_F.of hts in_X6 hown hK rfl 0 (by decide) (by decide +kernel)
  have f_255 : qh_F G sZ mZ aZ 255 6 1 := qh_F.of hts in_X6 hown hK rfl 1 (by decide) (by decide +kernel)
  have f_51 : qh_F G sZ mZ aZ 51 8 6 := qh_F.of hts in_X8 hown hK rfl 6 (by decide) (by decide +kernel)
  have f_114 : qh_F G sZ mZ aZ 114 3 1 := qh_F.of hts in_X3 hown hK rfl 1 (by decide) (by decide +kernel)
  have k_161 := hts (.constantLong RX8 161 (-9223372036854775808)) (by decide +kernel)
  refine lv_aload_n hx hb dX8_ofSpan_0 rfl (lv_at hl 0 rfl) ?_
  refine qh_get hx hb hH f_64 (by omega) b_0 rfl dX8_ofSpan_1 ?_
  refine lv_iload_n hx hb dX8_ofSpan_4 rfl (lv_at hl 1 rfl) ?_
  refine qh_runV (As := [.int x]) (rest := []) (C := RX6) ⟨hx, hb, hml, hown, hts⟩ hK hH (c_X6_has l G z M E 49 50 51 n x (⟨by omega, by omega, by omega⟩) (by omega) b_49 b_50 b_51) (cwV 1 hts gX8_ofSpan_X6_has rfl rfl rfl (by decide +kernel) (by rw [hRf, hRl]; exact ⟨Nat.le_of_ble_eq_true rfl, Nat.le_of_ble_eq_true rfl⟩)) (by omega) b_49 rfl rfl hl.1 rfl (Nat.le_of_ble_eq_true rfl) dX8_ofSpan_5 ⟨Nat.zero_le _, Nat.zero_le _⟩ (qh_kki fun r_5 E_1 H locs hpost hH => ?_)
  obtain ⟨rfl, rfl⟩ := hpost
  refine lv_if_ne (tgt := 15) hx hb dX8_ofSpan_8 (by decide) (fun c_8 => ?_) (fun c_8 => ?_)
  · have c_8 := bI_ne.mp c_8
    obtain ⟨t, u, w1, ht, et, hsp, huw, hw16⟩ := spH_ok hn16 c_8
    have eT : x.toNatClampNeg = t := by rw [et]; exact nI_clamp (by omega)
    refine lv_aload_n hx hb dX8_ofSpan_15 rfl (lv_at hl 0 rfl) ?_
    refine qh_get hx hb hH f_64 (by omega) b_0 rfl dX8_ofSpan_16 ?_
    refine qh_get hx hb hH f_252 (by omega) b_49 rfl dX8_ofSpan_19 ?_
    refine lv_iload_n hx hb dX8_ofSpan_22 rfl (lv_at hl 1 rfl) ?_
    refine qh_iald hx hb hK hH (by omega) b_50 (j := t) (et) (ht) (by omega) dX8_ofSpan_23 ?_
    refine qh_topi (y := nI u) (by rw [spF, hsp]) ?_
    refine lv_istore_n (lv' := [(3, .int (nI u)), (0, .ref (z + 0)), (1, .int x), (2, .int y)]) hx hb dX8_ofSpan_24 rfl hl (by decide) rfl (fun ls hl => ?_)
    refine lv_aload_n hx hb dX8_ofSpan_25 rfl (lv_at hl 1 rfl) ?_
    refine qh_get hx hb hH f_64 (by omega) b_0 rfl dX8_ofSpan_26 ?_
    refine qh_get hx hb hH f_255 (by omega) b_49 rfl dX8_ofSpan_29 ?_
    refine lv_iload_n hx hb dX8_ofSpan_32 rfl (lv_at hl 2 rfl) ?_
    refine qh_iald hx hb hK hH (by omega) b_51 (j := t) (et) (ht) (by omega) dX8_ofSpan_33 ?_
    refine qh_topi (y := nI w1) (by rw [spL, hsp]) ?_
    refine lv_istore (lv' := [(4, .int (nI w1)), (3, .int (nI u)), (0, .ref (z + 0)), (1, .int x), (2, .int y)]) hx hb dX8_ofSpan_34 hl (by decide) rfl (fun ls hl => ?_)
    refine lv_iload_n hx hb dX8_ofSpan_36 rfl (lv_at hl 4 rfl) ?_
    by_cases c_37_0 : y = 0
    · refine lv_tableIn (tgt := 80) (off := 43) hx hb dX8_ofSpan_37 (by rw [c_37_0]; decide) (by rw [c_37_0]; decide) (by rw [c_37_0]; decide) (by decide) ?_
      refine lv_iload_n hx hb dX8_ofSpan_80 rfl (lv_at hl 1 rfl) ?_
      refine lv_i2l (v := (nI u).toInt64) hx hb dX8_ofSpan_81 rfl ?_
      exact hret dX8_ofSpan_82 hH (⟨rfl, by rw [ospR, if_pos c_8, eT, hsp]; show _ = spvR f u w1 y; rw [spvR, if_pos c_37_0]⟩)
    by_cases c_37_1 : y = 1
    · refine lv_tableIn (tgt := 83) (off := 46) hx hb dX8_ofSpan_37 (by rw [c_37_1]; decide) (by rw [c_37_1]; decide) (by rw [c_37_1]; decide) (by decide) ?_
      refine lv_iload hx hb dX8_ofSpan_83 (lv_at hl 0 rfl) ?_
      refine lv_i2l (v := (nI w1).toInt64) hx hb dX8_ofSpan_85 rfl ?_
      exact hret dX8_ofSpan_86 hH (⟨rfl, by rw [ospR, if_pos c_8, eT, hsp]; show _ = spvR f u w1 y; rw [spvR, if_neg c_37_0, if_pos c_37_1]⟩)
    by_cases c_37_2 : y = 2
    · refine lv_tableIn (tgt := 87) (off := 50) hx hb dX8_ofSpan_37 (by rw [c_37_2]; decide) (by rw [c_37_2]; decide) (by rw [c_37_2]; decide) (by decide) ?_
      refine lv_aload_n hx hb dX8_ofSpan_87 rfl (lv_at hl 2 rfl) ?_
      refine qh_get hx hb hH f_51 (by omega) b_0 rfl dX8_ofSpan_88 ?_
      refine qh_get hx hb hH f_114 (by omega) b_40 rfl dX8_ofSpan_91 ?_
      refine lv_iload_n hx hb dX8_ofSpan_94 rfl (lv_at hl 1 rfl) ?_
      refine lv_iload hx hb dX8_ofSpan_95 (lv_at hl 0 rfl) ?_
      refine qh_runS (As := [.ref (z + 41), .int (nI u), .int (nI w1)]) (rest := []) ⟨hx, hb, hml, hown, hts⟩ hK hH (c_X8_greatest l G z M E 41 u w1 f (by omega) (⟨by omega, by omega⟩) b_41) (va_cwS 3 hts gX8_ofSpan_X8_greatest rfl rfl rfl (by decide +kernel) (by rw [hRf, hRl]; exact ⟨Nat.le_of_ble_eq_true rfl, Nat.le_of_ble_eq_true rfl⟩)) rfl hl.1 rfl (Nat.le_of_ble_eq_true rfl) dX8_ofSpan_97 ⟨Nat.zero_le _, Nat.zero_le _⟩ (qh_kkl fun r_97 E_2 H locs hpost hH => ?_)
      obtain ⟨rfl, rfl⟩ := hpost
      exact hret dX8_ofSpan_100 hH (⟨rfl, by rw [ospR, if_pos c_8, eT, hsp]; show _ = spvR f u w1 y; rw [spvR, if_neg c_37_0, if_neg c_37_1, if_pos c_37_2]⟩)
    by_cases c_37_3 : y = 3
    · refine lv_tableIn (tgt := 101) (off := 64) hx hb dX8_ofSpan_37 (by rw [c_37_3]; decide) (by rw [c_37_3]; decide) (by rw [c_37_3]; decide) (by decide) ?_
      refine lv_aload_n hx hb dX8_ofSpan_101 rfl (lv_at hl 2 rfl) ?_
      refine qh_get hx hb hH f_51 (by omega) b_0 rfl dX8_ofSpan_102 ?_
      refine qh_get hx hb hH f_114 (by omega) b_40 rfl dX8_ofSpan_105 ?_
      refine lv_iload_n hx hb dX8_ofSpan_108 rfl (lv_at hl 1 rfl) ?_
      refine lv_iload hx hb dX8_ofSpan_109 (lv_at hl 0 rfl) ?_
      refine qh_runS (As := [.ref (z + 41), .int (nI u), .int (nI w1)]) (rest := []) ⟨hx, hb, hml, hown, hts⟩ hK hH (c_X8_second l G z M E 41 u w1 f (by omega) (⟨by omega, by omega⟩) b_41) (va_cwS 3 hts gX8_ofSpan_X8_second rfl rfl rfl (by decide +kernel) (by rw [hRf, hRl]; exact ⟨Nat.le_of_ble_eq_true rfl, Nat.le_of_ble_eq_true rfl⟩)) rfl hl.1 rfl (Nat.le_of_ble_eq_true rfl) dX8_ofSpan_111 ⟨Nat.zero_le _, Nat.zero_le _⟩ (qh_kkl fun r_111 E_3 H locs hpost hH => ?_)
      obtain ⟨rfl, rfl⟩ := hpost
      exact hret dX8_ofSpan_114 hH (⟨rfl, by rw [ospR, if_pos c_8, eT, hsp]; show _ = spvR f u w1 y; rw [spvR, if_neg c_37_0, if_neg c_37_1, if_neg c_37_2, if_pos c_37_3]⟩)
    by_cases c_37_4 : y = 4
    · refine lv_tableIn (tgt := 115) (off := 78) hx hb dX8_ofSpan_37 (by rw [c_37_4]; decide) (by rw [c_37_4]; decide) (by rw [c_37_4]; decide) (by decide) ?_
      refine lv_aload_n hx hb dX8_ofSpan_115 rfl (lv_at hl 2 rfl) ?_
      refine qh_get hx hb hH f_51 (by omega) b_0 rfl dX8_ofSpan_116 ?_
      refine qh_get hx hb hH f_114 (by omega) b_40 rfl dX8_ofSpan_119 ?_
      refine lv_iload_n hx hb dX8_ofSpan_122 rfl (lv_at hl 1 rfl) ?_
      refine lv_iload hx hb dX8_ofSpan_123 (lv_at hl 0 rfl) ?_
      refine qh_runS (As := [.ref (z + 41), .int (nI u), .int (nI w1)]) (rest := []) ⟨hx, hb, hml, hown, hts⟩ hK hH (c_X8_howManyGreatest l G z M E 41 u w1 f (by omega) (⟨by omega, by omega⟩) b_41) (va_cwS 3 hts gX8_ofSpan_X8_howManyGreatest rfl rfl rfl (by decide +kernel) (by rw [hRf, hRl]; exact ⟨Nat.le_of_ble_eq_true rfl, Nat.le_of_ble_eq_true rfl⟩)) rfl hl.1 rfl (Nat.le_of_ble_eq_true rfl) dX8_ofSpan_125 ⟨Nat.zero_le _, Nat.zero_le _⟩ (qh_kki fun r_125 E_4 H locs hpost hH => ?_)
      obtain ⟨rfl, rfl⟩ := hpost
      refine lv_i2l (v := (nI (cntR (fun k => decide (¬ f k < maxR f u (w1 - u))) u (w1 + 1 - u))).toInt64) hx hb dX8_ofSpan_128 rfl ?_
      exact hret dX8_ofSpan_129 hH (⟨rfl, by rw [ospR, if_pos c_8, eT, hsp]; show _ = spvR f u w1 y; rw [spvR, if_neg c_37_0, if_neg c_37_1, if_neg c_37_2, if_neg c_37_3, if_pos c_37_4]⟩)
    by_cases c_37_5 : y = 5
    · refine lv_tableIn (tgt := 130) (off := 93) hx hb dX8_ofSpan_37 (by rw [c_37_5]; decide) (by rw [c_37_5]; decide) (by rw [c_37_5]; decide) (by decide) ?_
      refine lv_aload_n hx hb dX8_ofSpan_130 rfl (lv_at hl 2 rfl) ?_
      refine qh_get hx hb hH f_51 (by omega) b_0 rfl dX8_ofSpan_131 ?_
      refine qh_get hx hb hH f_114 (by omega) b_40 rfl dX8_ofSpan_134 ?_
      refine lv_iload_n hx hb dX8_ofSpan_137 rfl (lv_at hl 1 rfl) ?_
      refine lv_iload hx hb dX8_ofSpan_138 (lv_at hl 0 rfl) ?_
      refine qh_runS (As := [.ref (z + 41), .int (nI u), .int (nI w1)]) (rest := []) ⟨hx, hb, hml, hown, hts⟩ hK hH (c_X8_sum l G z M E 41 u w1 f (by omega) (⟨by omega, by omega⟩) b_41) (va_cwS 3 hts gX8_ofSpan_X8_sum rfl rfl rfl (by decide +kernel) (by rw [hRf, hRl]; exact ⟨Nat.le_of_ble_eq_true rfl, Nat.le_of_ble_eq_true rfl⟩)) rfl hl.1 rfl (Nat.le_of_ble_eq_true rfl) dX8_ofSpan_140 ⟨Nat.zero_le _, Nat.zero_le _⟩ (qh_kkl fun r_140 E_5 H locs hpost hH => ?_)
      obtain ⟨rfl, rfl⟩ := hpost
      exact hret dX8_ofSpan_143 hH (⟨rfl, by rw [ospR, if_pos c_8, eT, hsp]; show _ = spvR f u w1 y; rw [spvR, if_neg c_37_0, if_neg c_37_1, if_neg c_37_2, if_neg c_37_3, if_neg c_37_4, if_pos c_37_5]⟩)
    by_cases c_37_6 : y = 6
    · refine lv_tableIn (tgt := 144) (off := 107) hx hb dX8_ofSpan_37 (by rw [c_37_6]; decide) (by rw [c_37_6]; decide) (by rw [c_37_6]; decide) (by decide) ?_
      refine lv_aload_n hx hb dX8_ofSpan_144 rfl (lv_at hl 2 rfl) ?_
      refine qh_get hx hb hH f_51 (by omega) b_0 rfl dX8_ofSpan_145 ?_
      refine qh_get hx hb hH f_114 (by omega) b_40 rfl dX8_ofSpan_148 ?_
      refine lv_iload_n hx hb dX8_ofSpan_151 rfl (lv_at hl 1 rfl) ?_
      refine lv_iload hx hb dX8_ofSpan_152 (lv_at hl 0 rfl) ?_
      refine qh_runS (As := [.ref (z + 41), .int (nI u), .int (nI w1)]) (rest := []) ⟨hx, hb, hml, hown, hts⟩ hK hH (c_X8_howManyUnlike l G z M E 41 u w1 f (by omega) (⟨by omega, by omega⟩) b_41) (va_cwS 3 hts gX8_ofSpan_X8_howManyUnlike rfl rfl rfl (by decide +kernel) (by rw [hRf, hRl]; exact ⟨Nat.le_of_ble_eq_true rfl, Nat.le_of_ble_eq_true rfl⟩)) rfl hl.1 rfl (Nat.le_of_ble_eq_true rfl) dX8_ofSpan_154 ⟨Nat.zero_le _, Nat.zero_le _⟩ (qh_kki fun r_154 E_6 H locs hpost hH => ?_)
      obtain ⟨rfl, rfl⟩ := hpost
      refine lv_i2l (v := (nI (unlR f u (w1 + 1 - u))).toInt64) hx hb dX8_ofSpan_157 rfl ?_
      exact hret dX8_ofSpan_158 hH (⟨rfl, by rw [ospR, if_pos c_8, eT, hsp]; show _ = spvR f u w1 y; rw [spvR, if_neg c_37_0, if_neg c_37_1, if_neg c_37_2, if_neg c_37_3, if_neg c_37_4, if_neg c_37_5, if_pos c_37_6]⟩)
    refine lv_tableOut (tgt := 159) hx hb dX8_ofSpan_37 (qs_out7 c_37_0 c_37_1 c_37_2 c_37_3 c_37_4 c_37_5 c_37_6) (by decide) ?_
    refine lv_ldc2 hx hb hown k_161 dX8_ofSpan_159 ?_
    refine qh_topl (y := LOSTv) (rfl) ?_
    exact hret dX8_ofSpan_162 hH (⟨rfl, by rw [ospR, if_pos c_8, eT, hsp]; show _ = spvR f u w1 y; rw [spvR, if_neg c_37_0, if_neg c_37_1, if_neg c_37_2, if_neg c_37_3, if_neg c_37_4, if_neg c_37_5, if_neg c_37_6]⟩)
  · have c_8 := bI_eq.mp c_8
    refine lv_ldc2 hx hb hown k_161 dX8_ofSpan_11 ?_
    refine qh_topl (y := LOSTv) (rfl) ?_
    exact hret dX8_ofSpan_14 hH (⟨rfl, by rw [ospR, if_neg c_8]⟩)

set_option maxHeartbeats 1000000 in
set_option maxRecDepth 100000 in
theorem c_X8_unlike (l : Launch) (G : qh_G) (z M : Nat) (E : Nat → va_E) (tr : Int32) (lf : Int32) (n : Nat) (f : Nat → Int64) (g : Nat → Int64) (bf : Nat → Int64) (m2 : Nat) (kd : Nat → Int32) (pa : Nat → Int32) (ln : Nat) (ts : Nat → Int32) (ga : Nat → Nat) (gb : Nat → Nat) (va : Nat → Int64) (rn : Nat) (cn : Nat → Nat) (vs : Nat → Int64) (hr : Nat → Int32) (la : Nat → Int32) (lg : Nat → Nat) (sc : Nat → Nat → Int32) (hM : 84 ≤ M) (hX : XE G z E tr lf n f g bf m2 kd pa ln ts ga gb va rn cn vs hr la lg sc) (hW : XW n m2 ln rn ga gb cn lg hr) : Met l yX8_unlike wsX8_unlike (qh_R 2) (qh_Pre G z M E [.ref (z + 0)]) (qh_Q G z M (qh_i (fun r E' => E = E' ∧ r = unkR n f))) 0 0 (fun q => z ≤ q) := by
  refine qh_metI (cc := cX8_unlike) (maxL := 3) (by decide) rfl (Nat.le_of_ble_eq_true rfl) ?_
  intro pZ eZ sZ mZ aZ bZ tZ cZ RR QQ ls hx hb hml hown hts hRf hRl hH hK hl hret
  have hown : sZ.vm.findClass RX8 = some mZ.cls := hown
  have hl : lv_has ls 3 [(0, .ref (z + 0))] := hl
  obtain ⟨tc, dg, hn0, tk, tp, gn, gk, gp, t0, a0, b0, v0, bg, tn, tf, tg, b_0, b_1, b_2, b_3, b_4, b_5, b_6, b_7, b_8, b_9, b_10, b_11, b_12, b_13, b_14, b_39, b_40, b_41, b_42, b_43, b_44, b_45, b_46, b_47, b_48, b_49, b_50, b_51, b_52, b_53, b_54, hacts, hsh⟩ := hX
  obtain ⟨⟨hn16, hm3, hl24, hr8⟩, hval, hcn, hlg, hhr⟩ := hW
  have in_X8 : ∀ w ∈ wsX80, w ∈ wsX8_unlike := fun w h => List.mem_cons_of_mem _ (List.mem_append_left _ (List.mem_append_left _ (List.mem_append_right _ h)))
  have in_X3 : ∀ w ∈ wsX30, w ∈ wsX8_unlike := fun w h => List.mem_cons_of_mem _ (List.mem_append_left _ (List.mem_append_right _ h))
  have in_X6 : ∀ w ∈ wsX60, w ∈ wsX8_unlike := fun w h => List.mem_cons_of_mem _ (List.mem_append_right _ h)
  have f_51 : qh_F G sZ mZ aZ 51 8 6 := qh_F.of hts in_X8 hown hK rfl 6 (by decide) (by decide +kernel)
  have f_64 : qh_F G sZ mZ aZ 64 8 9 := qh_F.of hts in_X8 hown hK rfl 9 (by decide) (by decide +kernel)
  have f_114 : qh_F G sZ mZ aZ 114 3 1 := qh_F.of hts in_X3 hown hK rfl 1 (by decide) (by decide +kernel)
  have f_252 : qh_F G sZ mZ aZ 252 6 0 := qh_F.of hts in_X6 hown hK rfl 0 (by decide) (by decide +kernel)
  have f_255 : qh_F G sZ mZ aZ 255 6 1 := qh_F.of hts in_X6 hown hK rfl 1 (by decide) (by decide +kernel)
  refine lv_aload_n hx hb dX8_unlike_0 rfl (lv_at hl 0 rfl) ?_
  refine qh_get hx hb hH f_51 (by omega) b_0 rfl dX8_unlike_1 ?_
  refine qh_runV (As := []) (rest := []) (C := RX3) ⟨hx, hb, hml, hown, hts⟩ hK hH (c_X3_areThere l G z M E 40 (by omega) (nI n) (.ref (z + 41)) (.ref (z + 42)) b_40) (cwV 0 hts gX8_unlike_X3_areThere rfl rfl rfl (by decide +kernel) (by rw [hRf, hRl]; exact ⟨Nat.le_of_ble_eq_true rfl, Nat.le_of_ble_eq_true rfl⟩)) (by omega) b_40 rfl rfl hl.1 rfl (Nat.le_of_ble_eq_true rfl) dX8_unlike_4 ⟨Nat.zero_le _, Nat.zero_le _⟩ (qh_kki fun r_4 E_1 H locs hpost hH => ?_)
  obtain ⟨rfl, rfl⟩ := hpost
  refine lv_if_ne (tgt := 13) hx hb dX8_unlike_7 (by decide) (fun c_7 => ?_) (fun c_7 => ?_)
  · have c_7 := bI_ne.mp c_7
    refine lv_iconst (v := 0) hx hb dX8_unlike_13 (by decide) ?_
    refine lv_istore_n (lv' := [(1, .int 0), (0, .ref (z + 0))]) hx hb dX8_unlike_14 rfl hl (by decide) rfl (fun ls hl => ?_)
    refine lv_iconst (v := 1) hx hb dX8_unlike_15 (by decide) ?_
    refine lv_istore_n (lv' := [(2, .int 1), (1, .int 0), (0, .ref (z + 0))]) hx hb dX8_unlike_16 rfl hl (by decide) rfl (fun ls hl => ?_)
    have L_17 : ∀ fu : Nat, ∀ q : Nat, (q ≤ 31) → (31 - q < fu) → ∀ (H : Heap) (locs : List Loc), qh_H G z M E sZ.heap H locs → ∀ ls : Array Slot, lv_has ls 3 [(0, .ref (z + 0)), (1, .int (unkS n f q)), (2, .int (nI (1 + q)))] → W pZ l eZ RR sZ mZ aZ bZ tZ cZ H locs 0 0 QQ (F0 mZ 17 ls []) := by
      intro fu
      induction fu with
      | zero =>
        intro q hq hfuel
        exact absurd hfuel (by omega)
      | succ fu ih =>
        intro q hq hfuel H locs hH ls hl
        refine lv_iload_n hx hb dX8_unlike_17 rfl (lv_at hl 2 rfl) ?_
        refine lv_bipush (v := 32) hx hb dX8_unlike_18 (by decide) ?_
        refine lv_icmp_ge (tgt := 71) hx hb dX8_unlike_20 (by decide) (fun c_20 => ?_) (fun c_20 => ?_)
        · have hk : 32 ≤ 1 + q := (nI_leI (by omega) (by omega)).mp c_20
          have hex : 31 = q := by omega
          subst hex
          refine lv_iload_n hx hb dX8_unlike_71 rfl (lv_at hl 1 rfl) ?_
          exact hret dX8_unlike_72 hH (⟨rfl, by rw [unkR, if_pos c_7]⟩)
        · have hk : ¬ 32 ≤ 1 + q := fun w => c_20 (nI_le w (by omega))
          refine lv_aload_n hx hb dX8_unlike_23 rfl (lv_at hl 0 rfl) ?_
          refine qh_get hx hb hH f_64 (by omega) b_0 rfl dX8_unlike_24 ?_
          refine lv_iload_n hx hb dX8_unlike_27 rfl (lv_at hl 2 rfl) ?_
          refine qh_runV (As := [.int (nI (1 + q))]) (rest := []) (C := RX6) ⟨hx, hb, hml, hown, hts⟩ hK hH (c_X6_has l G z M E 49 50 51 n (nI (1 + q)) (⟨by omega, by omega, by omega⟩) (by omega) b_49 b_50 b_51) (cwV 1 hts gX8_unlike_X6_has rfl rfl rfl (by decide +kernel) (by rw [hRf, hRl]; exact ⟨Nat.le_of_ble_eq_true rfl, Nat.le_of_ble_eq_true rfl⟩)) (by omega) b_49 rfl rfl hl.1 rfl (Nat.le_of_ble_eq_true rfl) dX8_unlike_28 ⟨Nat.zero_le _, Nat.zero_le _⟩ (qh_kki fun r_28 E_2 H locs hpost hH => ?_)
          obtain ⟨rfl, rfl⟩ := hpost
          refine lv_if_eq (tgt := 65) hx hb dX8_unlike_31 (by decide) (fun c_31 => ?_) (fun c_31 => ?_)
          · have c_31 := bI_eq.mp c_31
            have hno := spH_nI_no (by omega) (by omega) c_31
            refine lv_iinc (v := nI ((1 + q) + 1)) (lv' := [(2, .int (nI ((1 + q) + 1))), (0, .ref (z + 0)), (1, .int (unkS n f q))]) hx hb dX8_unlike_65 hl (k := 2) rfl (qn_inc (1 + q)) (by decide) rfl (fun ls hl => ?_)
            refine lv_goto (tgt := 17) hx hb dX8_unlike_68 (by decide) ?_
            rw [← unkS_n hno] at hl
            exact ih (q + 1) (by omega) (by omega) _ _ hH ls (lv_sub hl [1, 2, 0] rfl)
          · have c_31 := bI_ne.mp c_31
            obtain ⟨u, w1, hsp, huw, hw16⟩ := spN_ok hn16 (show 1 + q < 32 by omega) (spH_nI (by omega) c_31)
            refine lv_iload_n hx hb dX8_unlike_34 rfl (lv_at hl 1 rfl) ?_
            refine lv_aload_n hx hb dX8_unlike_35 rfl (lv_at hl 0 rfl) ?_
            refine qh_get hx hb hH f_51 (by omega) b_0 rfl dX8_unlike_36 ?_
            refine qh_get hx hb hH f_114 (by omega) b_40 rfl dX8_unlike_39 ?_
            refine lv_aload_n hx hb dX8_unlike_42 rfl (lv_at hl 0 rfl) ?_
            refine qh_get hx hb hH f_64 (by omega) b_0 rfl dX8_unlike_43 ?_
            refine qh_get hx hb hH f_252 (by omega) b_49 rfl dX8_unlike_46 ?_
            refine lv_iload_n hx hb dX8_unlike_49 rfl (lv_at hl 2 rfl) ?_
            refine qh_iald hx hb hK hH (by omega) b_50 (j := 1 + q) (rfl) (by omega) (by omega) dX8_unlike_50 ?_
            refine qh_topi (y := nI u) (by rw [spF, hsp]) ?_
            refine lv_aload_n hx hb dX8_unlike_51 rfl (lv_at hl 0 rfl) ?_
            refine qh_get hx hb hH f_64 (by omega) b_0 rfl dX8_unlike_52 ?_
            refine qh_get hx hb hH f_255 (by omega) b_49 rfl dX8_unlike_55 ?_
            refine lv_iload_n hx hb dX8_unlike_58 rfl (lv_at hl 2 rfl) ?_
            refine qh_iald hx hb hK hH (by omega) b_51 (j := 1 + q) (rfl) (by omega) (by omega) dX8_unlike_59 ?_
            refine qh_topi (y := nI w1) (by rw [spL, hsp]) ?_
            refine qh_runS (As := [.ref (z + 41), .int (nI u), .int (nI w1)]) (rest := [.int (unkS n f q)]) ⟨hx, hb, hml, hown, hts⟩ hK hH (c_X8_howManyUnlike l G z M E 41 u w1 f (by omega) (⟨by omega, by omega⟩) b_41) (va_cwS 3 hts gX8_unlike_X8_howManyUnlike rfl rfl rfl (by decide +kernel) (by rw [hRf, hRl]; exact ⟨Nat.le_of_ble_eq_true rfl, Nat.le_of_ble_eq_true rfl⟩)) rfl hl.1 rfl (Nat.le_of_ble_eq_true rfl) dX8_unlike_60 ⟨Nat.zero_le _, Nat.zero_le _⟩ (qh_kki fun r_60 E_3 H locs hpost hH => ?_)
            obtain ⟨rfl, rfl⟩ := hpost
            refine lv_iadd hx hb dX8_unlike_63 ?_
            refine lv_istore_n (lv' := [(1, .int ((unkS n f q) + (nI (unlR f u (w1 + 1 - u))))), (0, .ref (z + 0)), (2, .int (nI (1 + q)))]) hx hb dX8_unlike_64 rfl hl (by decide) rfl (fun ls hl => ?_)
            refine lv_iinc (v := nI ((1 + q) + 1)) (lv' := [(2, .int (nI ((1 + q) + 1))), (1, .int ((unkS n f q) + (nI (unlR f u (w1 + 1 - u))))), (0, .ref (z + 0))]) hx hb dX8_unlike_65 hl (k := 2) rfl (qn_inc (1 + q)) (by decide) rfl (fun ls hl => ?_)
            refine lv_goto (tgt := 17) hx hb dX8_unlike_68 (by decide) ?_
            rw [← unkS_y hsp] at hl
            exact ih (q + 1) (by omega) (by omega) _ _ hH ls (lv_sub hl [2, 1, 0] rfl)
    exact L_17 32 0 (Nat.zero_le _) (by omega) _ _ hH ls (lv_sub hl [2, 1, 0] rfl)
  · have c_7 := bI_eq.mp c_7
    refine lv_bipush (v := (-3)) hx hb dX8_unlike_10 (by decide) ?_
    exact hret dX8_unlike_12 hH (⟨rfl, by rw [unkR, if_neg c_7]⟩)

set_option maxHeartbeats 1000000 in
set_option maxRecDepth 100000 in
theorem c_X8_back (l : Launch) (G : qh_G) (z M : Nat) (E : Nat → va_E) (tr : Int32) (lf : Int32) (n : Nat) (f : Nat → Int64) (g : Nat → Int64) (bf : Nat → Int64) (m2 : Nat) (kd : Nat → Int32) (pa : Nat → Int32) (ln : Nat) (ts : Nat → Int32) (ga : Nat → Nat) (gb : Nat → Nat) (va : Nat → Int64) (rn : Nat) (cn : Nat → Nat) (vs : Nat → Int64) (hr : Nat → Int32) (la : Nat → Int32) (lg : Nat → Nat) (sc : Nat → Nat → Int32) (hM : 84 ≤ M) (hX : XE G z E tr lf n f g bf m2 kd pa ln ts ga gb va rn cn vs hr la lg sc) (hW : XW n m2 ln rn ga gb cn lg hr) (x : Int32) : Met l yX8_back wsX8_back (qh_R 0) (qh_Pre G z M E [.ref (z + 0), .int x]) (qh_Q G z M (qh_i (fun r E' => match bakD rn x with | some q => r = q ∧ XE G z E' tr lf n f g bf m2 kd pa ln ts ga gb va rn cn vs hr la lg sc ∧ ∀ x9, 63 ≤ x9 → E' x9 = E x9 | none => r = nI (rn - x.toNatClampNeg) ∧ XE G z E' tr lf n f g bf m2 kd pa ln ts ga gb va (rn - x.toNatClampNeg) cn vs hr la lg sc ∧ ∀ x9, 63 ≤ x9 → E' x9 = E x9))) 0 0 (fun q => z ≤ q) := by
  refine qh_metI (cc := cX8_back) (maxL := 2) (by decide) rfl (Nat.le_of_ble_eq_true rfl) ?_
  intro pZ eZ sZ mZ aZ bZ tZ cZ RR QQ ls hx hb hml hown hts hRf hRl hH hK hl hret
  have hown : sZ.vm.findClass RX8 = some mZ.cls := hown
  have hl : lv_has ls 2 [(0, .ref (z + 0)), (1, .int x)] := hl
  obtain ⟨tc, dg, hn0, tk, tp, gn, gk, gp, t0, a0, b0, v0, bg, tn, tf, tg, b_0, b_1, b_2, b_3, b_4, b_5, b_6, b_7, b_8, b_9, b_10, b_11, b_12, b_13, b_14, b_39, b_40, b_41, b_42, b_43, b_44, b_45, b_46, b_47, b_48, b_49, b_50, b_51, b_52, b_53, b_54, hacts, hsh⟩ := hX
  obtain ⟨⟨hn16, hm3, hl24, hr8⟩, hval, hcn, hlg, hhr⟩ := hW
  have in_X8 : ∀ w ∈ wsX80, w ∈ wsX8_back := fun w h => List.mem_cons_of_mem _ (List.mem_append_left _ (List.mem_append_right _ h))
  have in_X4 : ∀ w ∈ wsX40, w ∈ wsX8_back := fun w h => List.mem_cons_of_mem _ (List.mem_append_right _ h)
  have f_71 : qh_F G sZ mZ aZ 71 8 10 := qh_F.of hts in_X8 hown hK rfl 10 (by decide) (by decide +kernel)
  have f_131 : qh_F G sZ mZ aZ 131 4 0 := qh_F.of hts in_X4 hown hK rfl 0 (by decide) (by decide +kernel)
  have w_131 : qh_W G sZ mZ aZ 131 4 0 .int := qh_W.of hts in_X4 tyX4 tyX4_ok nmX4 hown hK rfl 0 (by decide) (by decide +kernel) rfl (by decide +kernel)
  refine lv_iload_n hx hb dX8_back_0 rfl (lv_at hl 1 rfl) ?_
  refine lv_if_lt (tgt := 15) hx hb dX8_back_1 (by decide) (fun c_1 => ?_) (fun c_1 => ?_)
  · have hD : bakD rn x = some (-2) := if_neg (fun q => q.1 c_1)
    refine lv_bipush (v := (-2)) hx hb dX8_back_15 (by decide) ?_
    exact hret dX8_back_17 hH (by rw [hD]; exact ⟨rfl, ⟨_, _, _, _, _, _, _, _, _, _, _, _, _, _, _, _, b_0, b_1, b_2, b_3, b_4, b_5, b_6, b_7, b_8, b_9, b_10, b_11, b_12, b_13, b_14, b_39, b_40, b_41, b_42, b_43, b_44, b_45, b_46, b_47, b_48, b_49, b_50, b_51, b_52, b_53, b_54, hacts, hsh⟩, (fun _ _ => rfl)⟩)
  · refine lv_iload_n hx hb dX8_back_4 rfl (lv_at hl 1 rfl) ?_
    refine lv_aload_n hx hb dX8_back_5 rfl (lv_at hl 0 rfl) ?_
    refine qh_get hx hb hH f_71 (by omega) b_0 rfl dX8_back_6 ?_
    refine qh_get hx hb hH f_131 (by omega) b_52 rfl dX8_back_9 ?_
    refine lv_icmp_le (tgt := 18) hx hb dX8_back_12 (by decide) (fun c_12 => ?_) (fun c_12 => ?_)
    · have hD : bakD rn x = none := if_pos ⟨c_1, c_12⟩
      obtain ⟨t, ht, et⟩ := nI_of2 (n := rn) (nI_toInt (by omega)) c_1 c_12
      have eT : x.toNatClampNeg = t := by rw [et]; exact nI_clamp (by omega)
      refine lv_aload_n hx hb dX8_back_18 rfl (lv_at hl 0 rfl) ?_
      refine qh_get hx hb hH f_71 (by omega) b_0 rfl dX8_back_19 ?_
      refine lv_dup hx hb dX8_back_22 rfl ?_
      refine qh_get hx hb hH f_131 (by omega) b_52 rfl dX8_back_23 ?_
      refine lv_iload_n hx hb dX8_back_26 rfl (lv_at hl 1 rfl) ?_
      refine lv_isub hx hb dX8_back_27 ?_
      refine qh_topi (y := nI (rn - x.toNatClampNeg)) (by rw [eT, et]; exact pk_sub ht) ?_
      refine qh_put (fs' := [.int (nI (rn - x.toNatClampNeg)), .ref (z + 53), .ref (z + 54)]) hx hb hH w_131 (by omega) b_52 rfl rfl (Nat.le_of_ble_eq_true rfl) rfl dX8_back_28 (fun E_1 H locs h_52 hfr hH _ => ?_)
      have hF : ∀ x9, x9 ≠ 52 → E_1 x9 = E x9 := fun x9 a0 => hfr x9 a0
      refine lv_aload_n hx hb dX8_back_31 rfl (lv_at hl 0 rfl) ?_
      refine qh_get hx hb hH f_71 (by omega) ((hF 0 (by decide)).trans b_0) rfl dX8_back_32 ?_
      refine qh_get hx hb hH f_131 (by omega) h_52 rfl dX8_back_35 ?_
      exact hret dX8_back_38 hH (by rw [hD]; exact ⟨rfl, ⟨_, _, _, _, _, _, _, _, _, _, _, _, _, _, _, _, ((hF 0 (by decide)).trans b_0), ((hF 1 (by decide)).trans b_1), ((hF 2 (by decide)).trans b_2), ((hF 3 (by decide)).trans b_3), ((hF 4 (by decide)).trans b_4), ((hF 5 (by decide)).trans b_5), ((hF 6 (by decide)).trans b_6), ((hF 7 (by decide)).trans b_7), ((hF 8 (by decide)).trans b_8), ((hF 9 (by decide)).trans b_9), ((hF 10 (by decide)).trans b_10), ((hF 11 (by decide)).trans b_11), ((hF 12 (by decide)).trans b_12), ((hF 13 (by decide)).trans b_13), ((hF 14 (by decide)).trans b_14), ((hF 39 (by decide)).trans b_39), ((hF 40 (by decide)).trans b_40), ((hF 41 (by decide)).trans b_41), ((hF 42 (by decide)).trans b_42), ((hF 43 (by decide)).trans b_43), ((hF 44 (by decide)).trans b_44), ((hF 45 (by decide)).trans b_45), ((hF 46 (by decide)).trans b_46), ((hF 47 (by decide)).trans b_47), ((hF 48 (by decide)).trans b_48), ((hF 49 (by decide)).trans b_49), ((hF 50 (by decide)).trans b_50), ((hF 51 (by decide)).trans b_51), h_52, ((hF 53 (by decide)).trans b_53), ((hF 54 (by decide)).trans b_54), (fun t ht => (hF (15 + t) (by omega)).trans (hacts t ht)), (fun k hk => ⟨(hF (55 + 2 * k) (by omega)).trans (hsh k hk).1, (hF (56 + 2 * k) (by omega)).trans (hsh k hk).2⟩)⟩, (fun x9 h9 => hF x9 (by omega))⟩)
    · have hD : bakD rn x = some (-2) := if_neg (fun q => c_12 q.2)
      refine lv_bipush (v := (-2)) hx hb dX8_back_15 (by decide) ?_
      exact hret dX8_back_17 hH (by rw [hD]; exact ⟨rfl, ⟨_, _, _, _, _, _, _, _, _, _, _, _, _, _, _, _, b_0, b_1, b_2, b_3, b_4, b_5, b_6, b_7, b_8, b_9, b_10, b_11, b_12, b_13, b_14, b_39, b_40, b_41, b_42, b_43, b_44, b_45, b_46, b_47, b_48, b_49, b_50, b_51, b_52, b_53, b_54, hacts, hsh⟩, (fun _ _ => rfl)⟩)

set_option maxHeartbeats 1000000 in
set_option maxRecDepth 100000 in
theorem c_X8_lose (l : Launch) (G : qh_G) (z M : Nat) (E : Nat → va_E) (tr : Int32) (lf : Int32) (n : Nat) (f : Nat → Int64) (g : Nat → Int64) (bf : Nat → Int64) (m2 : Nat) (kd : Nat → Int32) (pa : Nat → Int32) (ln : Nat) (ts : Nat → Int32) (ga : Nat → Nat) (gb : Nat → Nat) (va : Nat → Int64) (rn : Nat) (cn : Nat → Nat) (vs : Nat → Int64) (hr : Nat → Int32) (la : Nat → Int32) (lg : Nat → Nat) (sc : Nat → Nat → Int32) (hM : 84 ≤ M) (hX : XE G z E tr lf n f g bf m2 kd pa ln ts ga gb va rn cn vs hr la lg sc) (hW : XW n m2 ln rn ga gb cn lg hr) (x : Int32) : Met l yX8_lose wsX8_lose (qh_R 1) (qh_Pre G z M E [.ref (z + 0), .int x]) (qh_Q G z M (qh_i (fun r E' => match losD x with | some q => r = q ∧ XE G z E' tr lf n f g bf m2 kd pa ln ts ga gb va rn cn vs hr la lg sc ∧ ∀ x9, 63 ≤ x9 → E' x9 = E x9 | none => r = hr x.toNatClampNeg ∧ XE G z E' tr lf n f g bf m2 kd pa ln ts ga gb va rn cn vs (upd hr x.toNatClampNeg 0) (upd la x.toNatClampNeg (la x.toNatClampNeg)) (upN lg x.toNatClampNeg 0) (upS sc x.toNatClampNeg (sc x.toNatClampNeg)) ∧ ∀ x9, 63 ≤ x9 → E' x9 = E x9))) 0 0 (fun q => z ≤ q) := by
  refine qh_metI (cc := cX8_lose) (maxL := 2) (by decide) rfl (Nat.le_of_ble_eq_true rfl) ?_
  intro pZ eZ sZ mZ aZ bZ tZ cZ RR QQ ls hx hb hml hown hts hRf hRl hH hK hl hret
  have hown : sZ.vm.findClass RX8 = some mZ.cls := hown
  have hl : lv_has ls 2 [(0, .ref (z + 0)), (1, .int x)] := hl
  obtain ⟨tc, dg, hn0, tk, tp, gn, gk, gp, t0, a0, b0, v0, bg, tn, tf, tg, b_0, b_1, b_2, b_3, b_4, b_5, b_6, b_7, b_8, b_9, b_10, b_11, b_12, b_13, b_14, b_39, b_40, b_41, b_42, b_43, b_44, b_45, b_46, b_47, b_48, b_49, b_50, b_51, b_52, b_53, b_54, hacts, hsh⟩ := hX
  obtain ⟨⟨hn16, hm3, hl24, hr8⟩, hval, hcn, hlg, hhr⟩ := hW
  have in_X8 : ∀ w ∈ wsX80, w ∈ wsX8_lose := fun w h => List.mem_cons_of_mem _ (List.mem_append_left _ (List.mem_append_right _ h))
  have f_13 : qh_F G sZ mZ aZ 13 8 0 := qh_F.of hts in_X8 hown hK rfl 0 (by decide) (by decide +kernel)
  refine lv_iload_n hx hb dX8_lose_0 rfl (lv_at hl 1 rfl) ?_
  refine qh_runS (As := [.int x]) (rest := []) ⟨hx, hb, hml, hown, hts⟩ hK hH (c_X8_isSheet l G z M E x) (va_cwS 1 hts gX8_lose_X8_isSheet rfl rfl rfl (by decide +kernel) (by rw [hRf, hRl]; exact ⟨Nat.le_of_ble_eq_true rfl, Nat.le_of_ble_eq_true rfl⟩)) rfl hl.1 rfl (Nat.le_of_ble_eq_true rfl) dX8_lose_1 ⟨Nat.zero_le _, Nat.zero_le _⟩ (qh_kki fun r_1 E_1 H locs hpost hH => ?_)
  obtain ⟨rfl, rfl⟩ := hpost
  refine lv_if_ne (tgt := 9) hx hb dX8_lose_4 (by decide) (fun c_4 => ?_) (fun c_4 => ?_)
  · have c_4 := bI_ne.mp c_4
    have hD : losD x = none := if_pos c_4
    obtain ⟨j, hj, ej⟩ := nI_of_in (k := x) (c := 4) (by decide) c_4
    have Ej : x.toNatClampNeg = j := by rw [ej]; exact nI_clamp (by omega)
    have hj2 := hhr j hj
    refine lv_aload_n hx hb dX8_lose_9 rfl (lv_at hl 0 rfl) ?_
    refine qh_get hx hb hH f_13 (by omega) b_0 rfl dX8_lose_10 ?_
    refine lv_iload_n hx hb dX8_lose_13 rfl (lv_at hl 1 rfl) ?_
    refine qh_aaldS (a := z + (55 + 2 * j)) hx hb hK hH (by omega) b_1 (j := j) (ej) (hj) (by omega) (rfl) dX8_lose_14 ?_
    refine qh_runV (As := []) (rest := []) (C := RX5) ⟨hx, hb, hml, hown, hts⟩ hK hH (c_X5_loseRow l G z M E (55 + 2 * j) (hr j) (la j) (nI (lg j)) (.ref (z + (56 + 2 * j))) (hj2) (by omega) ((hsh j (by omega)).1)) (cwV 0 hts gX8_lose_X5_loseRow rfl rfl rfl (by decide +kernel) (by rw [hRf, hRl]; exact ⟨Nat.le_of_ble_eq_true rfl, Nat.le_of_ble_eq_true rfl⟩)) (by omega) (hsh j (by omega)).1 rfl rfl hl.1 rfl (Nat.le_of_ble_eq_true rfl) dX8_lose_15 ⟨Nat.zero_le _, Nat.zero_le _⟩ (qh_kki fun r_15 E_2 H locs hpost hH => ?_)
    obtain ⟨rfl, h_55_2_j, hfr⟩ := hpost
    have hF : ∀ x9, x9 ≠ (55 + 2 * j) → E_2 x9 = E x9 := fun x9 a0 => hfr x9 a0
    refine lv_if_eq (tgt := 25) hx hb dX8_lose_18 (by decide) (fun c_18 => ?_) (fun c_18 => ?_)
    · refine lv_iconst (v := 0) hx hb dX8_lose_25 (by decide) ?_
      exact hret dX8_lose_26 hH (by rw [hD, Ej]; exact ⟨c_18.symm, ⟨_, _, _, _, _, _, _, _, _, _, _, _, _, _, _, _, ((hF 0 (by omega)).trans b_0), ((hF 1 (by omega)).trans b_1), ((hF 2 (by omega)).trans b_2), ((hF 3 (by omega)).trans b_3), ((hF 4 (by omega)).trans b_4), ((hF 5 (by omega)).trans b_5), ((hF 6 (by omega)).trans b_6), ((hF 7 (by omega)).trans b_7), ((hF 8 (by omega)).trans b_8), ((hF 9 (by omega)).trans b_9), ((hF 10 (by omega)).trans b_10), ((hF 11 (by omega)).trans b_11), ((hF 12 (by omega)).trans b_12), ((hF 13 (by omega)).trans b_13), ((hF 14 (by omega)).trans b_14), ((hF 39 (by omega)).trans b_39), ((hF 40 (by omega)).trans b_40), ((hF 41 (by omega)).trans b_41), ((hF 42 (by omega)).trans b_42), ((hF 43 (by omega)).trans b_43), ((hF 44 (by omega)).trans b_44), ((hF 45 (by omega)).trans b_45), ((hF 46 (by omega)).trans b_46), ((hF 47 (by omega)).trans b_47), ((hF 48 (by omega)).trans b_48), ((hF 49 (by omega)).trans b_49), ((hF 50 (by omega)).trans b_50), ((hF 51 (by omega)).trans b_51), ((hF 52 (by omega)).trans b_52), ((hF 53 (by omega)).trans b_53), ((hF 54 (by omega)).trans b_54), (fun t ht => (hF (15 + t) (by omega)).trans (hacts t ht)), (shs_put (j := j) hj hsh h_55_2_j ((hF (56 + 2 * j) (by omega)).trans (hsh j (by omega)).2) (fun k h1 h2 => ⟨hF (55 + 2 * k) (by omega), hF (56 + 2 * k) (by omega)⟩))⟩, (fun x9 h9 => hF x9 (by omega))⟩)
    · refine lv_iconst (v := 1) hx hb dX8_lose_21 (by decide) ?_
      refine lv_goto (tgt := 26) hx hb dX8_lose_22 (by decide) ?_
      exact hret dX8_lose_26 hH (by rw [hD, Ej]; exact ⟨(hj2.resolve_left c_18).symm, ⟨_, _, _, _, _, _, _, _, _, _, _, _, _, _, _, _, ((hF 0 (by omega)).trans b_0), ((hF 1 (by omega)).trans b_1), ((hF 2 (by omega)).trans b_2), ((hF 3 (by omega)).trans b_3), ((hF 4 (by omega)).trans b_4), ((hF 5 (by omega)).trans b_5), ((hF 6 (by omega)).trans b_6), ((hF 7 (by omega)).trans b_7), ((hF 8 (by omega)).trans b_8), ((hF 9 (by omega)).trans b_9), ((hF 10 (by omega)).trans b_10), ((hF 11 (by omega)).trans b_11), ((hF 12 (by omega)).trans b_12), ((hF 13 (by omega)).trans b_13), ((hF 14 (by omega)).trans b_14), ((hF 39 (by omega)).trans b_39), ((hF 40 (by omega)).trans b_40), ((hF 41 (by omega)).trans b_41), ((hF 42 (by omega)).trans b_42), ((hF 43 (by omega)).trans b_43), ((hF 44 (by omega)).trans b_44), ((hF 45 (by omega)).trans b_45), ((hF 46 (by omega)).trans b_46), ((hF 47 (by omega)).trans b_47), ((hF 48 (by omega)).trans b_48), ((hF 49 (by omega)).trans b_49), ((hF 50 (by omega)).trans b_50), ((hF 51 (by omega)).trans b_51), ((hF 52 (by omega)).trans b_52), ((hF 53 (by omega)).trans b_53), ((hF 54 (by omega)).trans b_54), (fun t ht => (hF (15 + t) (by omega)).trans (hacts t ht)), (shs_put (j := j) hj hsh h_55_2_j ((hF (56 + 2 * j) (by omega)).trans (hsh j (by omega)).2) (fun k h1 h2 => ⟨hF (55 + 2 * k) (by omega), hF (56 + 2 * k) (by omega)⟩))⟩, (fun x9 h9 => hF x9 (by omega))⟩)
  · have c_4 := bI_eq.mp c_4
    have hD : losD x = some (-1) := if_neg c_4
    refine lv_iconst (v := (-1)) hx hb dX8_lose_7 (by decide) ?_
    exact hret dX8_lose_8 hH (by rw [hD]; exact ⟨rfl, ⟨_, _, _, _, _, _, _, _, _, _, _, _, _, _, _, _, b_0, b_1, b_2, b_3, b_4, b_5, b_6, b_7, b_8, b_9, b_10, b_11, b_12, b_13, b_14, b_39, b_40, b_41, b_42, b_43, b_44, b_45, b_46, b_47, b_48, b_49, b_50, b_51, b_52, b_53, b_54, hacts, hsh⟩, (fun _ _ => rfl)⟩)
