def actD (n ln : Nat) (x y : Int32) (v : Int64) : Option Int32 := if rmR n x y v = 0 then (if ln < 24 then none else some (-4)) else some (rmR n x y v)
theorem rfR_neg {n : Nat} {x y : Int32} (h : ¬ rfR n x y = 0) : ¬ 0 ≤ rfR n x y := by
  unfold rfR at h ⊢
  split
  · rename_i h1
    rw [if_pos h1] at h
    split
    · decide
    · rename_i h2
      rw [if_neg h2] at h
      exact absurd rfl h
  · decide
theorem rmR_neg {n : Nat} {x y : Int32} {v : Int64} (h : ¬ rmR n x y v = 0) : ¬ 0 ≤ rmR n x y v := by
  unfold rmR at h ⊢
  split
  · rename_i h1
    rw [if_pos h1] at h
    split
    · decide
    · rename_i h2
      rw [if_neg h2] at h
      exact absurd rfl h
  · rename_i h1
    exact rfR_neg h1
theorem othN_lt {f : Nat → Int64} {t : Int32} {y : Int64} {a b n : Nat} (hab : a ≤ b) (hb : b < n) (hn : n ≤ 16) : othN f t y a (b + 1 - a) < 2 ^ 31 := by
  have := cntR_le (fun k => decide (¬ chg (f k) t y = f k)) a (b + 1 - a)
  unfold othN
  omega
theorem acts_put {E E1 : Nat → va_E} {ts : Nat → Int32} {ga gb : Nat → Nat} {va : Nat → Int64} {ln a b : Nat} {t : Int32} {v : Int64}
    (h : ∀ t, t < 24 → E (15 + t) = .inr (0, [.int (ts t), .int (nI (ga t)), .int (nI (gb t)), .long (va t)])) (h1 : E1 (15 + ln) = .inr (0, [.int t, .int (nI a), .int (nI b), .long v])) (hfr : ∀ t, t < 24 → t ≠ ln → E1 (15 + t) = E (15 + t)) :
    ∀ k, k < 24 → E1 (15 + k) = .inr (0, [.int (upd ts ln t k), .int (nI (upN ga ln a k)), .int (nI (upN gb ln b k)), .long (vp_updL va ln v k)]) := by
  intro k hk
  by_cases e : k = ln
  · subst e
    simp only [upd, upN, vp_updL, if_pos]
    exact h1
  · simp only [upd, upN, vp_updL, if_neg e]
    exact (hfr k hk e).trans (h k hk)
def helD (n m2 ln : Nat) (x y q w : Int32) : Option Int32 := if ¬ x < 0 ∧ x < nI m2 then (if rfR n y q = 0 then (if w = 0 ∨ w = 1 then (if ln < 24 then none else some (-4)) else some (-2)) else some (rfR n y q)) else some (-1)
def freD (n : Nat) : Option Int32 := if 0 < nI n then none else some (-3)
/-- a set of numbers as bits -/
def setR (p : Nat → Bool) : Nat → Int32
  | 0 => 0
  | n + 1 => if p n = true then setR p n ||| (1 <<< (nI n &&& 31)) else setR p n
theorem set_y {p : Nat → Bool} {n : Nat} (h : p n = true) : setR p (n + 1) = setR p n ||| (1 <<< (nI n &&& 31)) := if_pos h
theorem set_n {p : Nat → Bool} {n : Nat} (h : ¬ p n = true) : setR p (n + 1) = setR p n := if_neg h
set_option maxHeartbeats 1000000 in
set_option maxRecDepth 100000 in
theorem c_X8_add_ok (l : Launch) (G : qh_G) (z M : Nat) (E : Nat → va_E) (tr : Int32) (lf : Int32) (n : Nat) (f : Nat → Int64) (g : Nat → Int64) (bf : Nat → Int64) (m2 : Nat) (kd : Nat → Int32) (pa : Nat → Int32) (ln : Nat) (ts : Nat → Int32) (ga : Nat → Nat) (gb : Nat → Nat) (va : Nat → Int64) (rn : Nat) (cn : Nat → Nat) (vs : Nat → Int64) (hr : Nat → Int32) (la : Nat → Int32) (lg : Nat → Nat) (sc : Nat → Nat → Int32) (hM : 84 ≤ M) (hX : XE G z E tr lf n f g bf m2 kd pa ln ts ga gb va rn cn vs hr la lg sc) (hW : XW n m2 ln rn ga gb cn lg hr) (x : Int32) (y : Int32) (v : Int64) (hl9 : ln < 24) : Met l yX8_add wsX8_add (qh_R 5) (qh_Pre G z M E [.ref (z + 0), .int x, .int y, .long v]) (qh_Q G z M (qh_i (fun r E' => match actD n ln x y v with | some q => r = q ∧ XE G z E' tr lf n f g bf m2 kd pa ln ts ga gb va rn cn vs hr la lg sc ∧ ∀ x9, 63 ≤ x9 → E' x9 = E x9 | none => r = nI (ln + 1) ∧ XE G z E' tr lf n (actF f 0 (amt 0 m2 kd pa v) x.toNatClampNeg (y.toNatClampNeg + 1 - x.toNatClampNeg)) (hisF g f 0 (amt 0 m2 kd pa v) x.toNatClampNeg (y.toNatClampNeg + 1 - x.toNatClampNeg)) bf m2 kd pa (ln + 1) (upd ts ln 0) (upN ga ln x.toNatClampNeg) (upN gb ln y.toNatClampNeg) (vp_updL va ln v) rn cn vs hr la lg sc ∧ ∀ x9, 63 ≤ x9 → E' x9 = E x9))) 0 0 (fun q => z ≤ q) := by
  refine qh_metI (cc := cX8_add) (maxL := 7) (by decide) rfl (Nat.le_of_ble_eq_true rfl) ?_
  intro pZ eZ sZ mZ aZ bZ tZ cZ RR QQ ls hx hb hml hown hts hRf hRl hH hK hl hret
  have hown : sZ.vm.findClass RX8 = some mZ.cls := hown
  have hl : lv_has ls 7 [(0, .ref (z + 0)), (1, .int x), (2, .int y), (3, .long v)] := hl
  obtain ⟨tc, dg, hn0, tk, tp, gn, gk, gp, t0, a0, b0, v0, bg, tn, tf, tg, b_0, b_1, b_2, b_3, b_4, b_5, b_6, b_7, b_8, b_9, b_10, b_11, b_12, b_13, b_14, b_39, b_40, b_41, b_42, b_43, b_44, b_45, b_46, b_47, b_48, b_49, b_50, b_51, b_52, b_53, b_54, hacts, hsh⟩ := hX
  obtain ⟨⟨hn16, hm3, hl24, hr8⟩, hval, hcn, hlg, hhr⟩ := hW
  have in_X8 : ∀ w ∈ wsX80, w ∈ wsX8_add := fun w h => List.mem_cons_of_mem _ (List.mem_append_left _ (List.mem_append_left _ (List.mem_append_left _ (List.mem_append_left _ (List.mem_append_right _ h)))))
  have in_X2 : ∀ w ∈ wsX20, w ∈ wsX8_add := fun w h => List.mem_cons_of_mem _ (List.mem_append_left _ (List.mem_append_left _ (List.mem_append_left _ (List.mem_append_right _ h))))
  have f_37 : qh_F G sZ mZ aZ 37 8 4 := qh_F.of hts in_X8 hown hK rfl 4 (by decide) (by decide +kernel)
  have f_135 : qh_F G sZ mZ aZ 135 2 0 := qh_F.of hts in_X2 hown hK rfl 0 (by decide) (by decide +kernel)
  refine lv_aload_n hx hb dX8_add_0 rfl (lv_at hl 0 rfl) ?_
  refine lv_iload_n hx hb dX8_add_1 rfl (lv_at hl 1 rfl) ?_
  refine lv_iload_n hx hb dX8_add_2 rfl (lv_at hl 2 rfl) ?_
  refine lv_lload_n hx hb dX8_add_3 rfl (lv_at hl 3 rfl) ?_
  refine qh_runV (As := [.int x, .int y, .long v]) (rest := []) (C := RX8) ⟨hx, hb, hml, hown, hts⟩ hK hH (c_X8_refusedAim l G z M E tr lf (hM) b_0 n x y v b_40) (cwV 3 hts gX8_add_X8_refusedAim rfl rfl rfl (by decide +kernel) (by rw [hRf, hRl]; exact ⟨Nat.le_of_ble_eq_true rfl, Nat.le_of_ble_eq_true rfl⟩)) (by omega) b_0 rfl rfl hl.1 rfl (Nat.le_of_ble_eq_true rfl) dX8_add_4 ⟨Nat.zero_le _, Nat.zero_le _⟩ (qh_kki fun r_4 E_1 H locs hpost hH => ?_)
  obtain ⟨rfl, rfl⟩ := hpost
  refine lv_istore (lv' := [(5, .int (rmR n x y v)), (0, .ref (z + 0)), (1, .int x), (2, .int y), (3, .long v)]) hx hb dX8_add_7 hl (by decide) rfl (fun ls hl => ?_)
  refine lv_iload hx hb dX8_add_9 (lv_at hl 0 rfl) ?_
  refine lv_if_eq (tgt := 19) hx hb dX8_add_11 (by decide) (fun c_11 => ?_) (fun c_11 => ?_)
  · have hD : actD n ln x y v = none := by rw [actD, if_pos c_11, if_pos hl9]
    obtain ⟨a, b, hab, hbn, ea, eb⟩ := rfR_ok hn16 (rmR_ok c_11)
    have eA : x.toNatClampNeg = a := by rw [ea]; exact nI_clamp (by omega)
    have eB : y.toNatClampNeg = b := by rw [eb]; exact nI_clamp (by omega)
    have hl : lv_has ls 7 [(5, .int (rmR n x y v)), (0, .ref (z + 0)), (1, .int (nI a)), (2, .int y), (3, .long v)] := by rw [← ea]; exact hl
    have hl : lv_has ls 7 [(5, .int (rmR n x y v)), (0, .ref (z + 0)), (1, .int (nI a)), (2, .int (nI b)), (3, .long v)] := by rw [← eb]; exact hl
    refine lv_aload_n hx hb dX8_add_19 rfl (lv_at hl 1 rfl) ?_
    refine lv_iconst (v := 0) hx hb dX8_add_20 (by decide) ?_
    refine lv_iload_n hx hb dX8_add_21 rfl (lv_at hl 2 rfl) ?_
    refine lv_iload_n hx hb dX8_add_22 rfl (lv_at hl 3 rfl) ?_
    refine lv_lload_n hx hb dX8_add_23 rfl (lv_at hl 4 rfl) ?_
    refine qh_runV (As := [.int 0, .int (nI a), .int (nI b), .long v]) (rest := []) (C := RX8) ⟨hx, hb, hml, hown, hts⟩ hK hH (c_X8_act l G z M E tr lf (hM) b_0 n m2 ln a b f g kd pa _ _ _ _ 0 v (⟨by omega, by omega⟩) (hl9) (⟨by omega, by omega⟩) (hacts) b_40 b_41 b_42 b_7 b_8 b_9 b_13 b_14) (cwV 4 hts gX8_add_X8_act rfl rfl rfl (by decide +kernel) (by rw [hRf, hRl]; exact ⟨Nat.le_of_ble_eq_true rfl, Nat.le_of_ble_eq_true rfl⟩)) (by omega) b_0 rfl rfl hl.1 rfl (Nat.le_of_ble_eq_true rfl) dX8_add_24 ⟨Nat.zero_le _, Nat.zero_le _⟩ (qh_kki fun r_24 E_2 H locs hpost hH => ?_)
    obtain ⟨rfl, h_13, h_15_ln, h_41, h_42, hfr⟩ := hpost
    have hF : ∀ x9, x9 ≠ 13 → x9 ≠ (15 + ln) → x9 ≠ 41 → x9 ≠ 42 → E_2 x9 = E x9 := fun x9 a0 a1 a2 a3 => hfr x9 a0 a1 a2 a3
    refine lv_istore (lv' := [(6, .int (nI (othN f 0 (amt 0 m2 kd pa v) a (b + 1 - a)))), (5, .int (rmR n x y v)), (0, .ref (z + 0)), (1, .int (nI a)), (2, .int (nI b)), (3, .long v)]) hx hb dX8_add_27 hl (by decide) rfl (fun ls hl => ?_)
    refine lv_iload hx hb dX8_add_29 (lv_at hl 0 rfl) ?_
    refine lv_if_ge (tgt := 39) hx hb dX8_add_31 (by decide) (fun c_31 => ?_) (fun c_31 => ?_)
    · refine lv_aload_n hx hb dX8_add_39 rfl (lv_at hl 2 rfl) ?_
      refine qh_get hx hb hH f_37 (by omega) ((hF 0 (by decide) (by omega) (by decide) (by decide)).trans b_0) rfl dX8_add_40 ?_
      refine qh_get hx hb hH f_135 (by omega) h_13 rfl dX8_add_43 ?_
      exact hret dX8_add_46 hH (by rw [hD, eA, eB]; exact ⟨rfl, ⟨_, _, _, _, _, _, _, _, _, _, _, _, _, _, _, _, ((hF 0 (by decide) (by omega) (by decide) (by decide)).trans b_0), ((hF 1 (by decide) (by omega) (by decide) (by decide)).trans b_1), ((hF 2 (by decide) (by omega) (by decide) (by decide)).trans b_2), ((hF 3 (by decide) (by omega) (by decide) (by decide)).trans b_3), ((hF 4 (by decide) (by omega) (by decide) (by decide)).trans b_4), ((hF 5 (by decide) (by omega) (by decide) (by decide)).trans b_5), ((hF 6 (by decide) (by omega) (by decide) (by decide)).trans b_6), ((hF 7 (by decide) (by omega) (by decide) (by decide)).trans b_7), ((hF 8 (by decide) (by omega) (by decide) (by decide)).trans b_8), ((hF 9 (by decide) (by omega) (by decide) (by decide)).trans b_9), ((hF 10 (by decide) (by omega) (by decide) (by decide)).trans b_10), ((hF 11 (by decide) (by omega) (by decide) (by decide)).trans b_11), ((hF 12 (by decide) (by omega) (by decide) (by decide)).trans b_12), h_13, ((hF 14 (by decide) (by omega) (by decide) (by decide)).trans b_14), ((hF 39 (by decide) (by omega) (by decide) (by decide)).trans b_39), ((hF 40 (by decide) (by omega) (by decide) (by decide)).trans b_40), h_41, h_42, ((hF 43 (by decide) (by omega) (by decide) (by decide)).trans b_43), ((hF 44 (by decide) (by omega) (by decide) (by decide)).trans b_44), ((hF 45 (by decide) (by omega) (by decide) (by decide)).trans b_45), ((hF 46 (by decide) (by omega) (by decide) (by decide)).trans b_46), ((hF 47 (by decide) (by omega) (by decide) (by decide)).trans b_47), ((hF 48 (by decide) (by omega) (by decide) (by decide)).trans b_48), ((hF 49 (by decide) (by omega) (by decide) (by decide)).trans b_49), ((hF 50 (by decide) (by omega) (by decide) (by decide)).trans b_50), ((hF 51 (by decide) (by omega) (by decide) (by decide)).trans b_51), ((hF 52 (by decide) (by omega) (by decide) (by decide)).trans b_52), ((hF 53 (by decide) (by omega) (by decide) (by decide)).trans b_53), ((hF 54 (by decide) (by omega) (by decide) (by decide)).trans b_54), (acts_put hacts h_15_ln (fun t h1 h2 => hF (15 + t) (by omega) (by omega) (by omega) (by omega))), (fun k hk => ⟨(hF (55 + 2 * k) (by omega) (by omega) (by omega) (by omega)).trans (hsh k hk).1, (hF (56 + 2 * k) (by omega) (by omega) (by omega) (by omega)).trans (hsh k hk).2⟩)⟩, (fun x9 h9 => hF x9 (by omega) (by omega) (by omega) (by omega))⟩)
    · exact absurd (nI_pos' (othN_lt hab hbn hn16)) c_31
  · have hD : actD n ln x y v = some (rmR n x y v) := by rw [actD, if_neg c_11]
    refine lv_iload hx hb dX8_add_14 (lv_at hl 0 rfl) ?_
    refine lv_goto (tgt := 27) hx hb dX8_add_16 (by decide) ?_
    refine lv_istore (lv' := [(6, .int (rmR n x y v)), (5, .int (rmR n x y v)), (0, .ref (z + 0)), (1, .int x), (2, .int y), (3, .long v)]) hx hb dX8_add_27 hl (by decide) rfl (fun ls hl => ?_)
    refine lv_iload hx hb dX8_add_29 (lv_at hl 0 rfl) ?_
    refine lv_if_ge (tgt := 39) hx hb dX8_add_31 (by decide) (fun c_31 => ?_) (fun c_31 => ?_)
    · exact absurd c_31 (rmR_neg c_11)
    · refine lv_iload hx hb dX8_add_34 (lv_at hl 0 rfl) ?_
      refine lv_goto (tgt := 46) hx hb dX8_add_36 (by decide) ?_
      exact hret dX8_add_46 hH (by rw [hD]; exact ⟨rfl, ⟨_, _, _, _, _, _, _, _, _, _, _, _, _, _, _, _, b_0, b_1, b_2, b_3, b_4, b_5, b_6, b_7, b_8, b_9, b_10, b_11, b_12, b_13, b_14, b_39, b_40, b_41, b_42, b_43, b_44, b_45, b_46, b_47, b_48, b_49, b_50, b_51, b_52, b_53, b_54, hacts, hsh⟩, (fun _ _ => rfl)⟩)

set_option maxHeartbeats 1000000 in
set_option maxRecDepth 100000 in
theorem c_X8_add_full (l : Launch) (G : qh_G) (z M : Nat) (E : Nat → va_E) (tr : Int32) (lf : Int32) (n : Nat) (f : Nat → Int64) (g : Nat → Int64) (bf : Nat → Int64) (m2 : Nat) (kd : Nat → Int32) (pa : Nat → Int32) (ln : Nat) (ts : Nat → Int32) (ga : Nat → Nat) (gb : Nat → Nat) (va : Nat → Int64) (rn : Nat) (cn : Nat → Nat) (vs : Nat → Int64) (hr : Nat → Int32) (la : Nat → Int32) (lg : Nat → Nat) (sc : Nat → Nat → Int32) (hM : 84 ≤ M) (hX : XE G z E tr lf n f g bf m2 kd pa ln ts ga gb va rn cn vs hr la lg sc) (hW : XW n m2 ln rn ga gb cn lg hr) (x : Int32) (y : Int32) (v : Int64) (hl9 : 24 ≤ ln) : Met l yX8_add wsX8_add (qh_R 5) (qh_Pre G z M E [.ref (z + 0), .int x, .int y, .long v]) (qh_Q G z M (qh_i (fun r E' => match actD n ln x y v with | some q => r = q ∧ XE G z E' tr lf n f g bf m2 kd pa ln ts ga gb va rn cn vs hr la lg sc ∧ ∀ x9, 63 ≤ x9 → E' x9 = E x9 | none => r = nI (ln + 1) ∧ XE G z E' tr lf n (actF f 0 (amt 0 m2 kd pa v) x.toNatClampNeg (y.toNatClampNeg + 1 - x.toNatClampNeg)) (hisF g f 0 (amt 0 m2 kd pa v) x.toNatClampNeg (y.toNatClampNeg + 1 - x.toNatClampNeg)) bf m2 kd pa (ln + 1) (upd ts ln 0) (upN ga ln x.toNatClampNeg) (upN gb ln y.toNatClampNeg) (vp_updL va ln v) rn cn vs hr la lg sc ∧ ∀ x9, 63 ≤ x9 → E' x9 = E x9))) 0 0 (fun q => z ≤ q) := by
  refine qh_metI (cc := cX8_add) (maxL := 7) (by decide) rfl (Nat.le_of_ble_eq_true rfl) ?_
  intro pZ eZ sZ mZ aZ bZ tZ cZ RR QQ ls hx hb hml hown hts hRf hRl hH hK hl hret
  have hown : sZ.vm.findClass RX8 = some mZ.cls := hown
  have hl : lv_has ls 7 [(0, .ref (z + 0)), (1, .int x), (2, .int y), (3, .long v)] := hl
  obtain ⟨tc, dg, hn0, tk, tp, gn, gk, gp, t0, a0, b0, v0, bg, tn, tf, tg, b_0, b_1, b_2, b_3, b_4, b_5, b_6, b_7, b_8, b_9, b_10, b_11, b_12, b_13, b_14, b_39, b_40, b_41, b_42, b_43, b_44, b_45, b_46, b_47, b_48, b_49, b_50, b_51, b_52, b_53, b_54, hacts, hsh⟩ := hX
  obtain ⟨⟨hn16, hm3, hl24, hr8⟩, hval, hcn, hlg, hhr⟩ := hW
  refine lv_aload_n hx hb dX8_add_0 rfl (lv_at hl 0 rfl) ?_
  refine lv_iload_n hx hb dX8_add_1 rfl (lv_at hl 1 rfl) ?_
  refine lv_iload_n hx hb dX8_add_2 rfl (lv_at hl 2 rfl) ?_
  refine lv_lload_n hx hb dX8_add_3 rfl (lv_at hl 3 rfl) ?_
  refine qh_runV (As := [.int x, .int y, .long v]) (rest := []) (C := RX8) ⟨hx, hb, hml, hown, hts⟩ hK hH (c_X8_refusedAim l G z M E tr lf (hM) b_0 n x y v b_40) (cwV 3 hts gX8_add_X8_refusedAim rfl rfl rfl (by decide +kernel) (by rw [hRf, hRl]; exact ⟨Nat.le_of_ble_eq_true rfl, Nat.le_of_ble_eq_true rfl⟩)) (by omega) b_0 rfl rfl hl.1 rfl (Nat.le_of_ble_eq_true rfl) dX8_add_4 ⟨Nat.zero_le _, Nat.zero_le _⟩ (qh_kki fun r_4 E_1 H locs hpost hH => ?_)
  obtain ⟨rfl, rfl⟩ := hpost
  refine lv_istore (lv' := [(5, .int (rmR n x y v)), (0, .ref (z + 0)), (1, .int x), (2, .int y), (3, .long v)]) hx hb dX8_add_7 hl (by decide) rfl (fun ls hl => ?_)
  refine lv_iload hx hb dX8_add_9 (lv_at hl 0 rfl) ?_
  refine lv_if_eq (tgt := 19) hx hb dX8_add_11 (by decide) (fun c_11 => ?_) (fun c_11 => ?_)
  · have hD : actD n ln x y v = some (-4) := by rw [actD, if_pos c_11, if_neg (Nat.not_lt.mpr hl9)]
    refine lv_aload_n hx hb dX8_add_19 rfl (lv_at hl 1 rfl) ?_
    refine lv_iconst (v := 0) hx hb dX8_add_20 (by decide) ?_
    refine lv_iload_n hx hb dX8_add_21 rfl (lv_at hl 2 rfl) ?_
    refine lv_iload_n hx hb dX8_add_22 rfl (lv_at hl 3 rfl) ?_
    refine lv_lload_n hx hb dX8_add_23 rfl (lv_at hl 4 rfl) ?_
    refine qh_runV (As := [.int 0, .int x, .int y, .long v]) (rest := []) (C := RX8) ⟨hx, hb, hml, hown, hts⟩ hK hH (c_X8_act_full l G z M E tr lf (hM) b_0 ln 0 x y v (⟨hl9, by omega⟩) b_13) (cwV 4 hts gX8_add_X8_act rfl rfl rfl (by decide +kernel) (by rw [hRf, hRl]; exact ⟨Nat.le_of_ble_eq_true rfl, Nat.le_of_ble_eq_true rfl⟩)) (by omega) b_0 rfl rfl hl.1 rfl (Nat.le_of_ble_eq_true rfl) dX8_add_24 ⟨Nat.zero_le _, Nat.zero_le _⟩ (qh_kki fun r_24 E_2 H locs hpost hH => ?_)
    obtain ⟨rfl, rfl⟩ := hpost
    refine lv_istore (lv' := [(6, .int (-4)), (5, .int (rmR n x y v)), (0, .ref (z + 0)), (1, .int x), (2, .int y), (3, .long v)]) hx hb dX8_add_27 hl (by decide) rfl (fun ls hl => ?_)
    refine lv_iload hx hb dX8_add_29 (lv_at hl 0 rfl) ?_
    refine lv_if_ge (tgt := 39) hx hb dX8_add_31 (by decide) (fun c_31 => ?_) (fun c_31 => ?_)
    · exact absurd c_31 (by decide)
    · refine lv_iload hx hb dX8_add_34 (lv_at hl 0 rfl) ?_
      refine lv_goto (tgt := 46) hx hb dX8_add_36 (by decide) ?_
      exact hret dX8_add_46 hH (by rw [hD]; exact ⟨rfl, ⟨_, _, _, _, _, _, _, _, _, _, _, _, _, _, _, _, b_0, b_1, b_2, b_3, b_4, b_5, b_6, b_7, b_8, b_9, b_10, b_11, b_12, b_13, b_14, b_39, b_40, b_41, b_42, b_43, b_44, b_45, b_46, b_47, b_48, b_49, b_50, b_51, b_52, b_53, b_54, hacts, hsh⟩, (fun _ _ => rfl)⟩)
  · have hD : actD n ln x y v = some (rmR n x y v) := by rw [actD, if_neg c_11]
    refine lv_iload hx hb dX8_add_14 (lv_at hl 0 rfl) ?_
    refine lv_goto (tgt := 27) hx hb dX8_add_16 (by decide) ?_
    refine lv_istore (lv' := [(6, .int (rmR n x y v)), (5, .int (rmR n x y v)), (0, .ref (z + 0)), (1, .int x), (2, .int y), (3, .long v)]) hx hb dX8_add_27 hl (by decide) rfl (fun ls hl => ?_)
    refine lv_iload hx hb dX8_add_29 (lv_at hl 0 rfl) ?_
    refine lv_if_ge (tgt := 39) hx hb dX8_add_31 (by decide) (fun c_31 => ?_) (fun c_31 => ?_)
    · exact absurd c_31 (rmR_neg c_11)
    · refine lv_iload hx hb dX8_add_34 (lv_at hl 0 rfl) ?_
      refine lv_goto (tgt := 46) hx hb dX8_add_36 (by decide) ?_
      exact hret dX8_add_46 hH (by rw [hD]; exact ⟨rfl, ⟨_, _, _, _, _, _, _, _, _, _, _, _, _, _, _, _, b_0, b_1, b_2, b_3, b_4, b_5, b_6, b_7, b_8, b_9, b_10, b_11, b_12, b_13, b_14, b_39, b_40, b_41, b_42, b_43, b_44, b_45, b_46, b_47, b_48, b_49, b_50, b_51, b_52, b_53, b_54, hacts, hsh⟩, (fun _ _ => rfl)⟩)

set_option maxHeartbeats 1000000 in
set_option maxRecDepth 100000 in
theorem c_X8_cap_ok (l : Launch) (G : qh_G) (z M : Nat) (E : Nat → va_E) (tr : Int32) (lf : Int32) (n : Nat) (f : Nat → Int64) (g : Nat → Int64) (bf : Nat → Int64) (m2 : Nat) (kd : Nat → Int32) (pa : Nat → Int32) (ln : Nat) (ts : Nat → Int32) (ga : Nat → Nat) (gb : Nat → Nat) (va : Nat → Int64) (rn : Nat) (cn : Nat → Nat) (vs : Nat → Int64) (hr : Nat → Int32) (la : Nat → Int32) (lg : Nat → Nat) (sc : Nat → Nat → Int32) (hM : 84 ≤ M) (hX : XE G z E tr lf n f g bf m2 kd pa ln ts ga gb va rn cn vs hr la lg sc) (hW : XW n m2 ln rn ga gb cn lg hr) (x : Int32) (y : Int32) (v : Int64) (hl9 : ln < 24) : Met l yX8_cap wsX8_cap (qh_R 5) (qh_Pre G z M E [.ref (z + 0), .int x, .int y, .long v]) (qh_Q G z M (qh_i (fun r E' => match actD n ln x y v with | some q => r = q ∧ XE G z E' tr lf n f g bf m2 kd pa ln ts ga gb va rn cn vs hr la lg sc ∧ ∀ x9, 63 ≤ x9 → E' x9 = E x9 | none => r = nI (othN f 1 (amt 1 m2 kd pa v) x.toNatClampNeg (y.toNatClampNeg + 1 - x.toNatClampNeg)) ∧ XE G z E' tr lf n (actF f 1 (amt 1 m2 kd pa v) x.toNatClampNeg (y.toNatClampNeg + 1 - x.toNatClampNeg)) (hisF g f 1 (amt 1 m2 kd pa v) x.toNatClampNeg (y.toNatClampNeg + 1 - x.toNatClampNeg)) bf m2 kd pa (ln + 1) (upd ts ln 1) (upN ga ln x.toNatClampNeg) (upN gb ln y.toNatClampNeg) (vp_updL va ln v) rn cn vs hr la lg sc ∧ ∀ x9, 63 ≤ x9 → E' x9 = E x9))) 0 0 (fun q => z ≤ q) := by
  refine qh_metI (cc := cX8_cap) (maxL := 6) (by decide) rfl (Nat.le_of_ble_eq_true rfl) ?_
  intro pZ eZ sZ mZ aZ bZ tZ cZ RR QQ ls hx hb hml hown hts hRf hRl hH hK hl hret
  have hown : sZ.vm.findClass RX8 = some mZ.cls := hown
  have hl : lv_has ls 6 [(0, .ref (z + 0)), (1, .int x), (2, .int y), (3, .long v)] := hl
  obtain ⟨tc, dg, hn0, tk, tp, gn, gk, gp, t0, a0, b0, v0, bg, tn, tf, tg, b_0, b_1, b_2, b_3, b_4, b_5, b_6, b_7, b_8, b_9, b_10, b_11, b_12, b_13, b_14, b_39, b_40, b_41, b_42, b_43, b_44, b_45, b_46, b_47, b_48, b_49, b_50, b_51, b_52, b_53, b_54, hacts, hsh⟩ := hX
  obtain ⟨⟨hn16, hm3, hl24, hr8⟩, hval, hcn, hlg, hhr⟩ := hW
  refine lv_aload_n hx hb dX8_cap_0 rfl (lv_at hl 0 rfl) ?_
  refine lv_iload_n hx hb dX8_cap_1 rfl (lv_at hl 1 rfl) ?_
  refine lv_iload_n hx hb dX8_cap_2 rfl (lv_at hl 2 rfl) ?_
  refine lv_lload_n hx hb dX8_cap_3 rfl (lv_at hl 3 rfl) ?_
  refine qh_runV (As := [.int x, .int y, .long v]) (rest := []) (C := RX8) ⟨hx, hb, hml, hown, hts⟩ hK hH (c_X8_refusedAim l G z M E tr lf (hM) b_0 n x y v b_40) (cwV 3 hts gX8_cap_X8_refusedAim rfl rfl rfl (by decide +kernel) (by rw [hRf, hRl]; exact ⟨Nat.le_of_ble_eq_true rfl, Nat.le_of_ble_eq_true rfl⟩)) (by omega) b_0 rfl rfl hl.1 rfl (Nat.le_of_ble_eq_true rfl) dX8_cap_4 ⟨Nat.zero_le _, Nat.zero_le _⟩ (qh_kki fun r_4 E_1 H locs hpost hH => ?_)
  obtain ⟨rfl, rfl⟩ := hpost
  refine lv_istore (lv' := [(5, .int (rmR n x y v)), (0, .ref (z + 0)), (1, .int x), (2, .int y), (3, .long v)]) hx hb dX8_cap_7 hl (by decide) rfl (fun ls hl => ?_)
  refine lv_iload hx hb dX8_cap_9 (lv_at hl 0 rfl) ?_
  refine lv_if_eq (tgt := 19) hx hb dX8_cap_11 (by decide) (fun c_11 => ?_) (fun c_11 => ?_)
  · have hD : actD n ln x y v = none := by rw [actD, if_pos c_11, if_pos hl9]
    obtain ⟨a, b, hab, hbn, ea, eb⟩ := rfR_ok hn16 (rmR_ok c_11)
    have eA : x.toNatClampNeg = a := by rw [ea]; exact nI_clamp (by omega)
    have eB : y.toNatClampNeg = b := by rw [eb]; exact nI_clamp (by omega)
    have hl : lv_has ls 6 [(5, .int (rmR n x y v)), (0, .ref (z + 0)), (1, .int (nI a)), (2, .int y), (3, .long v)] := by rw [← ea]; exact hl
    have hl : lv_has ls 6 [(5, .int (rmR n x y v)), (0, .ref (z + 0)), (1, .int (nI a)), (2, .int (nI b)), (3, .long v)] := by rw [← eb]; exact hl
    refine lv_aload_n hx hb dX8_cap_19 rfl (lv_at hl 1 rfl) ?_
    refine lv_iconst (v := 1) hx hb dX8_cap_20 (by decide) ?_
    refine lv_iload_n hx hb dX8_cap_21 rfl (lv_at hl 2 rfl) ?_
    refine lv_iload_n hx hb dX8_cap_22 rfl (lv_at hl 3 rfl) ?_
    refine lv_lload_n hx hb dX8_cap_23 rfl (lv_at hl 4 rfl) ?_
    refine qh_runV (As := [.int 1, .int (nI a), .int (nI b), .long v]) (rest := []) (C := RX8) ⟨hx, hb, hml, hown, hts⟩ hK hH (c_X8_act l G z M E tr lf (hM) b_0 n m2 ln a b f g kd pa _ _ _ _ 1 v (⟨by omega, by omega⟩) (hl9) (⟨by omega, by omega⟩) (hacts) b_40 b_41 b_42 b_7 b_8 b_9 b_13 b_14) (cwV 4 hts gX8_cap_X8_act rfl rfl rfl (by decide +kernel) (by rw [hRf, hRl]; exact ⟨Nat.le_of_ble_eq_true rfl, Nat.le_of_ble_eq_true rfl⟩)) (by omega) b_0 rfl rfl hl.1 rfl (Nat.le_of_ble_eq_true rfl) dX8_cap_24 ⟨Nat.zero_le _, Nat.zero_le _⟩ (qh_kki fun r_24 E_2 H locs hpost hH => ?_)
    obtain ⟨rfl, h_13, h_15_ln, h_41, h_42, hfr⟩ := hpost
    have hF : ∀ x9, x9 ≠ 13 → x9 ≠ (15 + ln) → x9 ≠ 41 → x9 ≠ 42 → E_2 x9 = E x9 := fun x9 a0 a1 a2 a3 => hfr x9 a0 a1 a2 a3
    exact hret dX8_cap_27 hH (by rw [hD, eA, eB]; exact ⟨rfl, ⟨_, _, _, _, _, _, _, _, _, _, _, _, _, _, _, _, ((hF 0 (by decide) (by omega) (by decide) (by decide)).trans b_0), ((hF 1 (by decide) (by omega) (by decide) (by decide)).trans b_1), ((hF 2 (by decide) (by omega) (by decide) (by decide)).trans b_2), ((hF 3 (by decide) (by omega) (by decide) (by decide)).trans b_3), ((hF 4 (by decide) (by omega) (by decide) (by decide)).trans b_4), ((hF 5 (by decide) (by omega) (by decide) (by decide)).trans b_5), ((hF 6 (by decide) (by omega) (by decide) (by decide)).trans b_6), ((hF 7 (by decide) (by omega) (by decide) (by decide)).trans b_7), ((hF 8 (by decide) (by omega) (by decide) (by decide)).trans b_8), ((hF 9 (by decide) (by omega) (by decide) (by decide)).trans b_9), ((hF 10 (by decide) (by omega) (by decide) (by decide)).trans b_10), ((hF 11 (by decide) (by omega) (by decide) (by decide)).trans b_11), ((hF 12 (by decide) (by omega) (by decide) (by decide)).trans b_12), h_13, ((hF 14 (by decide) (by omega) (by decide) (by decide)).trans b_14), ((hF 39 (by decide) (by omega) (by decide) (by decide)).trans b_39), ((hF 40 (by decide) (by omega) (by decide) (by decide)).trans b_40), h_41, h_42, ((hF 43 (by decide) (by omega) (by decide) (by decide)).trans b_43), ((hF 44 (by decide) (by omega) (by decide) (by decide)).trans b_44), ((hF 45 (by decide) (by omega) (by decide) (by decide)).trans b_45), ((hF 46 (by decide) (by omega) (by decide) (by decide)).trans b_46), ((hF 47 (by decide) (by omega) (by decide) (by decide)).trans b_47), ((hF 48 (by decide) (by omega) (by decide) (by decide)).trans b_48), ((hF 49 (by decide) (by omega) (by decide) (by decide)).trans b_49), ((hF 50 (by decide) (by omega) (by decide) (by decide)).trans b_50), ((hF 51 (by decide) (by omega) (by decide) (by decide)).trans b_51), ((hF 52 (by decide) (by omega) (by decide) (by decide)).trans b_52), ((hF 53 (by decide) (by omega) (by decide) (by decide)).trans b_53), ((hF 54 (by decide) (by omega) (by decide) (by decide)).trans b_54), (acts_put hacts h_15_ln (fun t h1 h2 => hF (15 + t) (by omega) (by omega) (by omega) (by omega))), (fun k hk => ⟨(hF (55 + 2 * k) (by omega) (by omega) (by omega) (by omega)).trans (hsh k hk).1, (hF (56 + 2 * k) (by omega) (by omega) (by omega) (by omega)).trans (hsh k hk).2⟩)⟩, (fun x9 h9 => hF x9 (by omega) (by omega) (by omega) (by omega))⟩)
  · have hD : actD n ln x y v = some (rmR n x y v) := by rw [actD, if_neg c_11]
    refine lv_iload hx hb dX8_cap_14 (lv_at hl 0 rfl) ?_
    refine lv_goto (tgt := 27) hx hb dX8_cap_16 (by decide) ?_
    exact hret dX8_cap_27 hH (by rw [hD]; exact ⟨rfl, ⟨_, _, _, _, _, _, _, _, _, _, _, _, _, _, _, _, b_0, b_1, b_2, b_3, b_4, b_5, b_6, b_7, b_8, b_9, b_10, b_11, b_12, b_13, b_14, b_39, b_40, b_41, b_42, b_43, b_44, b_45, b_46, b_47, b_48, b_49, b_50, b_51, b_52, b_53, b_54, hacts, hsh⟩, (fun _ _ => rfl)⟩)

set_option maxHeartbeats 1000000 in
set_option maxRecDepth 100000 in
theorem c_X8_cap_full (l : Launch) (G : qh_G) (z M : Nat) (E : Nat → va_E) (tr : Int32) (lf : Int32) (n : Nat) (f : Nat → Int64) (g : Nat → Int64) (bf : Nat → Int64) (m2 : Nat) (kd : Nat → Int32) (pa : Nat → Int32) (ln : Nat) (ts : Nat → Int32) (ga : Nat → Nat) (gb : Nat → Nat) (va : Nat → Int64) (rn : Nat) (cn : Nat → Nat) (vs : Nat → Int64) (hr : Nat → Int32) (la : Nat → Int32) (lg : Nat → Nat) (sc : Nat → Nat → Int32) (hM : 84 ≤ M) (hX : XE G z E tr lf n f g bf m2 kd pa ln ts ga gb va rn cn vs hr la lg sc) (hW : XW n m2 ln rn ga gb cn lg hr) (x : Int32) (y : Int32) (v : Int64) (hl9 : 24 ≤ ln) : Met l yX8_cap wsX8_cap (qh_R 5) (qh_Pre G z M E [.ref (z + 0), .int x, .int y, .long v]) (qh_Q G z M (qh_i (fun r E' => match actD n ln x y v with | some q => r = q ∧ XE G z E' tr lf n f g bf m2 kd pa ln ts ga gb va rn cn vs hr la lg sc ∧ ∀ x9, 63 ≤ x9 → E' x9 = E x9 | none => r = nI (othN f 1 (amt 1 m2 kd pa v) x.toNatClampNeg (y.toNatClampNeg + 1 - x.toNatClampNeg)) ∧ XE G z E' tr lf n (actF f 1 (amt 1 m2 kd pa v) x.toNatClampNeg (y.toNatClampNeg + 1 - x.toNatClampNeg)) (hisF g f 1 (amt 1 m2 kd pa v) x.toNatClampNeg (y.toNatClampNeg + 1 - x.toNatClampNeg)) bf m2 kd pa (ln + 1) (upd ts ln 1) (upN ga ln x.toNatClampNeg) (upN gb ln y.toNatClampNeg) (vp_updL va ln v) rn cn vs hr la lg sc ∧ ∀ x9, 63 ≤ x9 → E' x9 = E x9))) 0 0 (fun q => z ≤ q) := by
  refine qh_metI (cc := cX8_cap) (maxL := 6) (by decide) rfl (Nat.le_of_ble_eq_true rfl) ?_
  intro pZ eZ sZ mZ aZ bZ tZ cZ RR QQ ls hx hb hml hown hts hRf hRl hH hK hl hret
  have hown : sZ.vm.findClass RX8 = some mZ.cls := hown
  have hl : lv_has ls 6 [(0, .ref (z + 0)), (1, .int x), (2, .int y), (3, .long v)] := hl
  obtain ⟨tc, dg, hn0, tk, tp, gn, gk, gp, t0, a0, b0, v0, bg, tn, tf, tg, b_0, b_1, b_2, b_3, b_4, b_5, b_6, b_7, b_8, b_9, b_10, b_11, b_12, b_13, b_14, b_39, b_40, b_41, b_42, b_43, b_44, b_45, b_46, b_47, b_48, b_49, b_50, b_51, b_52, b_53, b_54, hacts, hsh⟩ := hX
  obtain ⟨⟨hn16, hm3, hl24, hr8⟩, hval, hcn, hlg, hhr⟩ := hW
  refine lv_aload_n hx hb dX8_cap_0 rfl (lv_at hl 0 rfl) ?_
  refine lv_iload_n hx hb dX8_cap_1 rfl (lv_at hl 1 rfl) ?_
  refine lv_iload_n hx hb dX8_cap_2 rfl (lv_at hl 2 rfl) ?_
  refine lv_lload_n hx hb dX8_cap_3 rfl (lv_at hl 3 rfl) ?_
  refine qh_runV (As := [.int x, .int y, .long v]) (rest := []) (C := RX8) ⟨hx, hb, hml, hown, hts⟩ hK hH (c_X8_refusedAim l G z M E tr lf (hM) b_0 n x y v b_40) (cwV 3 hts gX8_cap_X8_refusedAim rfl rfl rfl (by decide +kernel) (by rw [hRf, hRl]; exact ⟨Nat.le_of_ble_eq_true rfl, Nat.le_of_ble_eq_true rfl⟩)) (by omega) b_0 rfl rfl hl.1 rfl (Nat.le_of_ble_eq_true rfl) dX8_cap_4 ⟨Nat.zero_le _, Nat.zero_le _⟩ (qh_kki fun r_4 E_1 H locs hpost hH => ?_)
  obtain ⟨rfl, rfl⟩ := hpost
  refine lv_istore (lv' := [(5, .int (rmR n x y v)), (0, .ref (z + 0)), (1, .int x), (2, .int y), (3, .long v)]) hx hb dX8_cap_7 hl (by decide) rfl (fun ls hl => ?_)
  refine lv_iload hx hb dX8_cap_9 (lv_at hl 0 rfl) ?_
  refine lv_if_eq (tgt := 19) hx hb dX8_cap_11 (by decide) (fun c_11 => ?_) (fun c_11 => ?_)
  · have hD : actD n ln x y v = some (-4) := by rw [actD, if_pos c_11, if_neg (Nat.not_lt.mpr hl9)]
    refine lv_aload_n hx hb dX8_cap_19 rfl (lv_at hl 1 rfl) ?_
    refine lv_iconst (v := 1) hx hb dX8_cap_20 (by decide) ?_
    refine lv_iload_n hx hb dX8_cap_21 rfl (lv_at hl 2 rfl) ?_
    refine lv_iload_n hx hb dX8_cap_22 rfl (lv_at hl 3 rfl) ?_
    refine lv_lload_n hx hb dX8_cap_23 rfl (lv_at hl 4 rfl) ?_
    refine qh_runV (As := [.int 1, .int x, .int y, .long v]) (rest := []) (C := RX8) ⟨hx, hb, hml, hown, hts⟩ hK hH (c_X8_act_full l G z M E tr lf (hM) b_0 ln 1 x y v (⟨hl9, by omega⟩) b_13) (cwV 4 hts gX8_cap_X8_act rfl rfl rfl (by decide +kernel) (by rw [hRf, hRl]; exact ⟨Nat.le_of_ble_eq_true rfl, Nat.le_of_ble_eq_true rfl⟩)) (by omega) b_0 rfl rfl hl.1 rfl (Nat.le_of_ble_eq_true rfl) dX8_cap_24 ⟨Nat.zero_le _, Nat.zero_le _⟩ (qh_kki fun r_24 E_2 H locs hpost hH => ?_)
    obtain ⟨rfl, rfl⟩ := hpost
    exact hret dX8_cap_27 hH (by rw [hD]; exact ⟨rfl, ⟨_, _, _, _, _, _, _, _, _, _, _, _, _, _, _, _, b_0, b_1, b_2, b_3, b_4, b_5, b_6, b_7, b_8, b_9, b_10, b_11, b_12, b_13, b_14, b_39, b_40, b_41, b_42, b_43, b_44, b_45, b_46, b_47, b_48, b_49, b_50, b_51, b_52, b_53, b_54, hacts, hsh⟩, (fun _ _ => rfl)⟩)
  · have hD : actD n ln x y v = some (rmR n x y v) := by rw [actD, if_neg c_11]
    refine lv_iload hx hb dX8_cap_14 (lv_at hl 0 rfl) ?_
    refine lv_goto (tgt := 27) hx hb dX8_cap_16 (by decide) ?_
    exact hret dX8_cap_27 hH (by rw [hD]; exact ⟨rfl, ⟨_, _, _, _, _, _, _, _, _, _, _, _, _, _, _, _, b_0, b_1, b_2, b_3, b_4, b_5, b_6, b_7, b_8, b_9, b_10, b_11, b_12, b_13, b_14, b_39, b_40, b_41, b_42, b_43, b_44, b_45, b_46, b_47, b_48, b_49, b_50, b_51, b_52, b_53, b_54, hacts, hsh⟩, (fun _ _ => rfl)⟩)

set_option maxHeartbeats 1000000 in
set_option maxRecDepth 100000 in
theorem c_X8_floor_ok (l : Launch) (G : qh_G) (z M : Nat) (E : Nat → va_E) (tr : Int32) (lf : Int32) (n : Nat) (f : Nat → Int64) (g : Nat → Int64) (bf : Nat → Int64) (m2 : Nat) (kd : Nat → Int32) (pa : Nat → Int32) (ln : Nat) (ts : Nat → Int32) (ga : Nat → Nat) (gb : Nat → Nat) (va : Nat → Int64) (rn : Nat) (cn : Nat → Nat) (vs : Nat → Int64) (hr : Nat → Int32) (la : Nat → Int32) (lg : Nat → Nat) (sc : Nat → Nat → Int32) (hM : 84 ≤ M) (hX : XE G z E tr lf n f g bf m2 kd pa ln ts ga gb va rn cn vs hr la lg sc) (hW : XW n m2 ln rn ga gb cn lg hr) (x : Int32) (y : Int32) (v : Int64) (hl9 : ln < 24) : Met l yX8_floor wsX8_floor (qh_R 5) (qh_Pre G z M E [.ref (z + 0), .int x, .int y, .long v]) (qh_Q G z M (qh_i (fun r E' => match actD n ln x y v with | some q => r = q ∧ XE G z E' tr lf n f g bf m2 kd pa ln ts ga gb va rn cn vs hr la lg sc ∧ ∀ x9, 63 ≤ x9 → E' x9 = E x9 | none => r = nI (othN f 2 (amt 2 m2 kd pa v) x.toNatClampNeg (y.toNatClampNeg + 1 - x.toNatClampNeg)) ∧ XE G z E' tr lf n (actF f 2 (amt 2 m2 kd pa v) x.toNatClampNeg (y.toNatClampNeg + 1 - x.toNatClampNeg)) (hisF g f 2 (amt 2 m2 kd pa v) x.toNatClampNeg (y.toNatClampNeg + 1 - x.toNatClampNeg)) bf m2 kd pa (ln + 1) (upd ts ln 2) (upN ga ln x.toNatClampNeg) (upN gb ln y.toNatClampNeg) (vp_updL va ln v) rn cn vs hr la lg sc ∧ ∀ x9, 63 ≤ x9 → E' x9 = E x9))) 0 0 (fun q => z ≤ q) := by
  refine qh_metI (cc := cX8_floor) (maxL := 6) (by decide) rfl (Nat.le_of_ble_eq_true rfl) ?_
  intro pZ eZ sZ mZ aZ bZ tZ cZ RR QQ ls hx hb hml hown hts hRf hRl hH hK hl hret
  have hown : sZ.vm.findClass RX8 = some mZ.cls := hown
  have hl : lv_has ls 6 [(0, .ref (z + 0)), (1, .int x), (2, .int y), (3, .long v)] := hl
  obtain ⟨tc, dg, hn0, tk, tp, gn, gk, gp, t0, a0, b0, v0, bg, tn, tf, tg, b_0, b_1, b_2, b_3, b_4, b_5, b_6, b_7, b_8, b_9, b_10, b_11, b_12, b_13, b_14, b_39, b_40, b_41, b_42, b_43, b_44, b_45, b_46, b_47, b_48, b_49, b_50, b_51, b_52, b_53, b_54, hacts, hsh⟩ := hX
  obtain ⟨⟨hn16, hm3, hl24, hr8⟩, hval, hcn, hlg, hhr⟩ := hW
  refine lv_aload_n hx hb dX8_floor_0 rfl (lv_at hl 0 rfl) ?_
  refine lv_iload_n hx hb dX8_floor_1 rfl (lv_at hl 1 rfl) ?_
  refine lv_iload_n hx hb dX8_floor_2 rfl (lv_at hl 2 rfl) ?_
  refine lv_lload_n hx hb dX8_floor_3 rfl (lv_at hl 3 rfl) ?_
  refine qh_runV (As := [.int x, .int y, .long v]) (rest := []) (C := RX8) ⟨hx, hb, hml, hown, hts⟩ hK hH (c_X8_refusedAim l G z M E tr lf (hM) b_0 n x y v b_40) (cwV 3 hts gX8_floor_X8_refusedAim rfl rfl rfl (by decide +kernel) (by rw [hRf, hRl]; exact ⟨Nat.le_of_ble_eq_true rfl, Nat.le_of_ble_eq_true rfl⟩)) (by omega) b_0 rfl rfl hl.1 rfl (Nat.le_of_ble_eq_true rfl) dX8_floor_4 ⟨Nat.zero_le _, Nat.zero_le _⟩ (qh_kki fun r_4 E_1 H locs hpost hH => ?_)
  obtain ⟨rfl, rfl⟩ := hpost
  refine lv_istore (lv' := [(5, .int (rmR n x y v)), (0, .ref (z + 0)), (1, .int x), (2, .int y), (3, .long v)]) hx hb dX8_floor_7 hl (by decide) rfl (fun ls hl => ?_)
  refine lv_iload hx hb dX8_floor_9 (lv_at hl 0 rfl) ?_
  refine lv_if_eq (tgt := 19) hx hb dX8_floor_11 (by decide) (fun c_11 => ?_) (fun c_11 => ?_)
  · have hD : actD n ln x y v = none := by rw [actD, if_pos c_11, if_pos hl9]
    obtain ⟨a, b, hab, hbn, ea, eb⟩ := rfR_ok hn16 (rmR_ok c_11)
    have eA : x.toNatClampNeg = a := by rw [ea]; exact nI_clamp (by omega)
    have eB : y.toNatClampNeg = b := by rw [eb]; exact nI_clamp (by omega)
    have hl : lv_has ls 6 [(5, .int (rmR n x y v)), (0, .ref (z + 0)), (1, .int (nI a)), (2, .int y), (3, .long v)] := by rw [← ea]; exact hl
    have hl : lv_has ls 6 [(5, .int (rmR n x y v)), (0, .ref (z + 0)), (1, .int (nI a)), (2, .int (nI b)), (3, .long v)] := by rw [← eb]; exact hl
    refine lv_aload_n hx hb dX8_floor_19 rfl (lv_at hl 1 rfl) ?_
    refine lv_iconst (v := 2) hx hb dX8_floor_20 (by decide) ?_
    refine lv_iload_n hx hb dX8_floor_21 rfl (lv_at hl 2 rfl) ?_
    refine lv_iload_n hx hb dX8_floor_22 rfl (lv_at hl 3 rfl) ?_
    refine lv_lload_n hx hb dX8_floor_23 rfl (lv_at hl 4 rfl) ?_
    refine qh_runV (As := [.int 2, .int (nI a), .int (nI b), .long v]) (rest := []) (C := RX8) ⟨hx, hb, hml, hown, hts⟩ hK hH (c_X8_act l G z M E tr lf (hM) b_0 n m2 ln a b f g kd pa _ _ _ _ 2 v (⟨by omega, by omega⟩) (hl9) (⟨by omega, by omega⟩) (hacts) b_40 b_41 b_42 b_7 b_8 b_9 b_13 b_14) (cwV 4 hts gX8_floor_X8_act rfl rfl rfl (by decide +kernel) (by rw [hRf, hRl]; exact ⟨Nat.le_of_ble_eq_true rfl, Nat.le_of_ble_eq_true rfl⟩)) (by omega) b_0 rfl rfl hl.1 rfl (Nat.le_of_ble_eq_true rfl) dX8_floor_24 ⟨Nat.zero_le _, Nat.zero_le _⟩ (qh_kki fun r_24 E_2 H locs hpost hH => ?_)
    obtain ⟨rfl, h_13, h_15_ln, h_41, h_42, hfr⟩ := hpost
    have hF : ∀ x9, x9 ≠ 13 → x9 ≠ (15 + ln) → x9 ≠ 41 → x9 ≠ 42 → E_2 x9 = E x9 := fun x9 a0 a1 a2 a3 => hfr x9 a0 a1 a2 a3
    exact hret dX8_floor_27 hH (by rw [hD, eA, eB]; exact ⟨rfl, ⟨_, _, _, _, _, _, _, _, _, _, _, _, _, _, _, _, ((hF 0 (by decide) (by omega) (by decide) (by decide)).trans b_0), ((hF 1 (by decide) (by omega) (by decide) (by decide)).trans b_1), ((hF 2 (by decide) (by omega) (by decide) (by decide)).trans b_2), ((hF 3 (by decide) (by omega) (by decide) (by decide)).trans b_3), ((hF 4 (by decide) (by omega) (by decide) (by decide)).trans b_4), ((hF 5 (by decide) (by omega) (by decide) (by decide)).trans b_5), ((hF 6 (by decide) (by omega) (by decide) (by decide)).trans b_6), ((hF 7 (by decide) (by omega) (by decide) (by decide)).trans b_7), ((hF 8 (by decide) (by omega) (by decide) (by decide)).trans b_8), ((hF 9 (by decide) (by omega) (by decide) (by decide)).trans b_9), ((hF 10 (by decide) (by omega) (by decide) (by decide)).trans b_10), ((hF 11 (by decide) (by omega) (by decide) (by decide)).trans b_11), ((hF 12 (by decide) (by omega) (by decide) (by decide)).trans b_12), h_13, ((hF 14 (by decide) (by omega) (by decide) (by decide)).trans b_14), ((hF 39 (by decide) (by omega) (by decide) (by decide)).trans b_39), ((hF 40 (by decide) (by omega) (by decide) (by decide)).trans b_40), h_41, h_42, ((hF 43 (by decide) (by omega) (by decide) (by decide)).trans b_43), ((hF 44 (by decide) (by omega) (by decide) (by decide)).trans b_44), ((hF 45 (by decide) (by omega) (by decide) (by decide)).trans b_45), ((hF 46 (by decide) (by omega) (by decide) (by decide)).trans b_46), ((hF 47 (by decide) (by omega) (by decide) (by decide)).trans b_47), ((hF 48 (by decide) (by omega) (by decide) (by decide)).trans b_48), ((hF 49 (by decide) (by omega) (by decide) (by decide)).trans b_49), ((hF 50 (by decide) (by omega) (by decide) (by decide)).trans b_50), ((hF 51 (by decide) (by omega) (by decide) (by decide)).trans b_51), ((hF 52 (by decide) (by omega) (by decide) (by decide)).trans b_52), ((hF 53 (by decide) (by omega) (by decide) (by decide)).trans b_53), ((hF 54 (by decide) (by omega) (by decide) (by decide)).trans b_54), (acts_put hacts h_15_ln (fun t h1 h2 => hF (15 + t) (by omega) (by omega) (by omega) (by omega))), (fun k hk => ⟨(hF (55 + 2 * k) (by omega) (by omega) (by omega) (by omega)).trans (hsh k hk).1, (hF (56 + 2 * k) (by omega) (by omega) (by omega) (by omega)).trans (hsh k hk).2⟩)⟩, (fun x9 h9 => hF x9 (by omega) (by omega) (by omega) (by omega))⟩)
  · have hD : actD n ln x y v = some (rmR n x y v) := by rw [actD, if_neg c_11]
    refine lv_iload hx hb dX8_floor_14 (lv_at hl 0 rfl) ?_
    refine lv_goto (tgt := 27) hx hb dX8_floor_16 (by decide) ?_
    exact hret dX8_floor_27 hH (by rw [hD]; exact ⟨rfl, ⟨_, _, _, _, _, _, _, _, _, _, _, _, _, _, _, _, b_0, b_1, b_2, b_3, b_4, b_5, b_6, b_7, b_8, b_9, b_10, b_11, b_12, b_13, b_14, b_39, b_40, b_41, b_42, b_43, b_44, b_45, b_46, b_47, b_48, b_49, b_50, b_51, b_52, b_53, b_54, hacts, hsh⟩, (fun _ _ => rfl)⟩)

set_option maxHeartbeats 1000000 in
set_option maxRecDepth 100000 in
theorem c_X8_floor_full (l : Launch) (G : qh_G) (z M : Nat) (E : Nat → va_E) (tr : Int32) (lf : Int32) (n : Nat) (f : Nat → Int64) (g : Nat → Int64) (bf : Nat → Int64) (m2 : Nat) (kd : Nat → Int32) (pa : Nat → Int32) (ln : Nat) (ts : Nat → Int32) (ga : Nat → Nat) (gb : Nat → Nat) (va : Nat → Int64) (rn : Nat) (cn : Nat → Nat) (vs : Nat → Int64) (hr : Nat → Int32) (la : Nat → Int32) (lg : Nat → Nat) (sc : Nat → Nat → Int32) (hM : 84 ≤ M) (hX : XE G z E tr lf n f g bf m2 kd pa ln ts ga gb va rn cn vs hr la lg sc) (hW : XW n m2 ln rn ga gb cn lg hr) (x : Int32) (y : Int32) (v : Int64) (hl9 : 24 ≤ ln) : Met l yX8_floor wsX8_floor (qh_R 5) (qh_Pre G z M E [.ref (z + 0), .int x, .int y, .long v]) (qh_Q G z M (qh_i (fun r E' => match actD n ln x y v with | some q => r = q ∧ XE G z E' tr lf n f g bf m2 kd pa ln ts ga gb va rn cn vs hr la lg sc ∧ ∀ x9, 63 ≤ x9 → E' x9 = E x9 | none => r = nI (othN f 2 (amt 2 m2 kd pa v) x.toNatClampNeg (y.toNatClampNeg + 1 - x.toNatClampNeg)) ∧ XE G z E' tr lf n (actF f 2 (amt 2 m2 kd pa v) x.toNatClampNeg (y.toNatClampNeg + 1 - x.toNatClampNeg)) (hisF g f 2 (amt 2 m2 kd pa v) x.toNatClampNeg (y.toNatClampNeg + 1 - x.toNatClampNeg)) bf m2 kd pa (ln + 1) (upd ts ln 2) (upN ga ln x.toNatClampNeg) (upN gb ln y.toNatClampNeg) (vp_updL va ln v) rn cn vs hr la lg sc ∧ ∀ x9, 63 ≤ x9 → E' x9 = E x9))) 0 0 (fun q => z ≤ q) := by
  refine qh_metI (cc := cX8_floor) (maxL := 6) (by decide) rfl (Nat.le_of_ble_eq_true rfl) ?_
  intro pZ eZ sZ mZ aZ bZ tZ cZ RR QQ ls hx hb hml hown hts hRf hRl hH hK hl hret
  have hown : sZ.vm.findClass RX8 = some mZ.cls := hown
  have hl : lv_has ls 6 [(0, .ref (z + 0)), (1, .int x), (2, .int y), (3, .long v)] := hl
  obtain ⟨tc, dg, hn0, tk, tp, gn, gk, gp, t0, a0, b0, v0, bg, tn, tf, tg, b_0, b_1, b_2, b_3, b_4, b_5, b_6, b_7, b_8, b_9, b_10, b_11, b_12, b_13, b_14, b_39, b_40, b_41, b_42, b_43, b_44, b_45, b_46, b_47, b_48, b_49, b_50, b_51, b_52, b_53, b_54, hacts, hsh⟩ := hX
  obtain ⟨⟨hn16, hm3, hl24, hr8⟩, hval, hcn, hlg, hhr⟩ := hW
  refine lv_aload_n hx hb dX8_floor_0 rfl (lv_at hl 0 rfl) ?_
  refine lv_iload_n hx hb dX8_floor_1 rfl (lv_at hl 1 rfl) ?_
  refine lv_iload_n hx hb dX8_floor_2 rfl (lv_at hl 2 rfl) ?_
  refine lv_lload_n hx hb dX8_floor_3 rfl (lv_at hl 3 rfl) ?_
  refine qh_runV (As := [.int x, .int y, .long v]) (rest := []) (C := RX8) ⟨hx, hb, hml, hown, hts⟩ hK hH (c_X8_refusedAim l G z M E tr lf (hM) b_0 n x y v b_40) (cwV 3 hts gX8_floor_X8_refusedAim rfl rfl rfl (by decide +kernel) (by rw [hRf, hRl]; exact ⟨Nat.le_of_ble_eq_true rfl, Nat.le_of_ble_eq_true rfl⟩)) (by omega) b_0 rfl rfl hl.1 rfl (Nat.le_of_ble_eq_true rfl) dX8_floor_4 ⟨Nat.zero_le _, Nat.zero_le _⟩ (qh_kki fun r_4 E_1 H locs hpost hH => ?_)
  obtain ⟨rfl, rfl⟩ := hpost
  refine lv_istore (lv' := [(5, .int (rmR n x y v)), (0, .ref (z + 0)), (1, .int x), (2, .int y), (3, .long v)]) hx hb dX8_floor_7 hl (by decide) rfl (fun ls hl => ?_)
  refine lv_iload hx hb dX8_floor_9 (lv_at hl 0 rfl) ?_
  refine lv_if_eq (tgt := 19) hx hb dX8_floor_11 (by decide) (fun c_11 => ?_) (fun c_11 => ?_)
  · have hD : actD n ln x y v = some (-4) := by rw [actD, if_pos c_11, if_neg (Nat.not_lt.mpr hl9)]
    refine lv_aload_n hx hb dX8_floor_19 rfl (lv_at hl 1 rfl) ?_
    refine lv_iconst (v := 2) hx hb dX8_floor_20 (by decide) ?_
    refine lv_iload_n hx hb dX8_floor_21 rfl (lv_at hl 2 rfl) ?_
    refine lv_iload_n hx hb dX8_floor_22 rfl (lv_at hl 3 rfl) ?_
    refine lv_lload_n hx hb dX8_floor_23 rfl (lv_at hl 4 rfl) ?_
    refine qh_runV (As := [.int 2, .int x, .int y, .long v]) (rest := []) (C := RX8) ⟨hx, hb, hml, hown, hts⟩ hK hH (c_X8_act_full l G z M E tr lf (hM) b_0 ln 2 x y v (⟨hl9, by omega⟩) b_13) (cwV 4 hts gX8_floor_X8_act rfl rfl rfl (by decide +kernel) (by rw [hRf, hRl]; exact ⟨Nat.le_of_ble_eq_true rfl, Nat.le_of_ble_eq_true rfl⟩)) (by omega) b_0 rfl rfl hl.1 rfl (Nat.le_of_ble_eq_true rfl) dX8_floor_24 ⟨Nat.zero_le _, Nat.zero_le _⟩ (qh_kki fun r_24 E_2 H locs hpost hH => ?_)
    obtain ⟨rfl, rfl⟩ := hpost
    exact hret dX8_floor_27 hH (by rw [hD]; exact ⟨rfl, ⟨_, _, _, _, _, _, _, _, _, _, _, _, _, _, _, _, b_0, b_1, b_2, b_3, b_4, b_5, b_6, b_7, b_8, b_9, b_10, b_11, b_12, b_13, b_14, b_39, b_40, b_41, b_42, b_43, b_44, b_45, b_46, b_47, b_48, b_49, b_50, b_51, b_52, b_53, b_54, hacts, hsh⟩, (fun _ _ => rfl)⟩)
  · have hD : actD n ln x y v = some (rmR n x y v) := by rw [actD, if_neg c_11]
    refine lv_iload hx hb dX8_floor_14 (lv_at hl 0 rfl) ?_
    refine lv_goto (tgt := 27) hx hb dX8_floor_16 (by decide) ?_
    exact hret dX8_floor_27 hH (by rw [hD]; exact ⟨rfl, ⟨_, _, _, _, _, _, _, _, _, _, _, _, _, _, _, _, b_0, b_1, b_2, b_3, b_4, b_5, b_6, b_7, b_8, b_9, b_10, b_11, b_12, b_13, b_14, b_39, b_40, b_41, b_42, b_43, b_44, b_45, b_46, b_47, b_48, b_49, b_50, b_51, b_52, b_53, b_54, hacts, hsh⟩, (fun _ _ => rfl)⟩)

set_option maxHeartbeats 1000000 in
set_option maxRecDepth 100000 in
theorem c_X8_help_ok (l : Launch) (G : qh_G) (z M : Nat) (E : Nat → va_E) (tr : Int32) (lf : Int32) (n : Nat) (f : Nat → Int64) (g : Nat → Int64) (bf : Nat → Int64) (m2 : Nat) (kd : Nat → Int32) (pa : Nat → Int32) (ln : Nat) (ts : Nat → Int32) (ga : Nat → Nat) (gb : Nat → Nat) (va : Nat → Int64) (rn : Nat) (cn : Nat → Nat) (vs : Nat → Int64) (hr : Nat → Int32) (la : Nat → Int32) (lg : Nat → Nat) (sc : Nat → Nat → Int32) (hM : 84 ≤ M) (hX : XE G z E tr lf n f g bf m2 kd pa ln ts ga gb va rn cn vs hr la lg sc) (hW : XW n m2 ln rn ga gb cn lg hr) (x : Int32) (y : Int32) (q : Int32) (w : Int32) (hl9 : ln < 24) : Met l yX8_help wsX8_help (qh_R 5) (qh_Pre G z M E [.ref (z + 0), .int x, .int y, .int q, .int w]) (qh_Q G z M (qh_i (fun r E' => match helD n m2 ln x y q w with | some d => r = d ∧ XE G z E' tr lf n f g bf m2 kd pa ln ts ga gb va rn cn vs hr la lg sc ∧ ∀ x9, 63 ≤ x9 → E' x9 = E x9 | none => r = strg m2 kd pa x.toInt64 ∧ XE G z E' tr lf n (actF f (if w = 1 then 3 else 4) (amt (if w = 1 then 3 else 4) m2 kd pa x.toInt64) y.toNatClampNeg (q.toNatClampNeg + 1 - y.toNatClampNeg)) (hisF g f (if w = 1 then 3 else 4) (amt (if w = 1 then 3 else 4) m2 kd pa x.toInt64) y.toNatClampNeg (q.toNatClampNeg + 1 - y.toNatClampNeg)) bf m2 kd pa (ln + 1) (upd ts ln (if w = 1 then 3 else 4)) (upN ga ln y.toNatClampNeg) (upN gb ln q.toNatClampNeg) (vp_updL va ln x.toInt64) rn cn vs hr la lg sc ∧ ∀ x9, 63 ≤ x9 → E' x9 = E x9))) 0 0 (fun q => z ≤ q) := by
  refine qh_metI (cc := cX8_help) (maxL := 7) (by decide) rfl (Nat.le_of_ble_eq_true rfl) ?_
  intro pZ eZ sZ mZ aZ bZ tZ cZ RR QQ ls hx hb hml hown hts hRf hRl hH hK hl hret
  have hown : sZ.vm.findClass RX8 = some mZ.cls := hown
  have hl : lv_has ls 7 [(0, .ref (z + 0)), (1, .int x), (2, .int y), (3, .int q), (4, .int w)] := hl
  obtain ⟨tc, dg, hn0, tk, tp, gn, gk, gp, t0, a0, b0, v0, bg, tn, tf, tg, b_0, b_1, b_2, b_3, b_4, b_5, b_6, b_7, b_8, b_9, b_10, b_11, b_12, b_13, b_14, b_39, b_40, b_41, b_42, b_43, b_44, b_45, b_46, b_47, b_48, b_49, b_50, b_51, b_52, b_53, b_54, hacts, hsh⟩ := hX
  obtain ⟨⟨hn16, hm3, hl24, hr8⟩, hval, hcn, hlg, hhr⟩ := hW
  have in_X8 : ∀ w ∈ wsX80, w ∈ wsX8_help := fun w h => List.mem_cons_of_mem _ (List.mem_append_left _ (List.mem_append_left _ (List.mem_append_left _ (List.mem_append_left _ (List.mem_append_right _ h)))))
  have f_27 : qh_F G sZ mZ aZ 27 8 2 := qh_F.of hts in_X8 hown hK rfl 2 (by decide) (by decide +kernel)
  refine lv_aload_n hx hb dX8_help_0 rfl (lv_at hl 0 rfl) ?_
  refine qh_get hx hb hH f_27 (by omega) b_0 rfl dX8_help_1 ?_
  refine lv_iload_n hx hb dX8_help_4 rfl (lv_at hl 1 rfl) ?_
  refine lv_i2l (v := x.toInt64) hx hb dX8_help_5 rfl ?_
  refine qh_runV (As := [.long (x.toInt64)]) (rest := []) (C := RX1) ⟨hx, hb, hml, hown, hts⟩ hK hH (c_X1_has l G z M E 7 (by omega) (nI m2) (.ref (z + 8)) (.ref (z + 9)) (x.toInt64) b_7) (cwV 1 hts gX8_help_X1_has rfl rfl rfl (by decide +kernel) (by rw [hRf, hRl]; exact ⟨Nat.le_of_ble_eq_true rfl, Nat.le_of_ble_eq_true rfl⟩)) (by omega) b_7 rfl rfl hl.1 rfl (Nat.le_of_ble_eq_true rfl) dX8_help_6 ⟨Nat.zero_le _, Nat.zero_le _⟩ (qh_kki fun r_6 E_1 H locs hpost hH => ?_)
  obtain ⟨rfl, rfl⟩ := hpost
  refine lv_if_ne (tgt := 14) hx hb dX8_help_9 (by decide) (fun c_9 => ?_) (fun c_9 => ?_)
  · have c_9 := bI_ne.mp c_9
    have hhas := (hlp_has hm3).mp c_9
    refine lv_aload_n hx hb dX8_help_14 rfl (lv_at hl 0 rfl) ?_
    refine lv_iload_n hx hb dX8_help_15 rfl (lv_at hl 2 rfl) ?_
    refine lv_iload_n hx hb dX8_help_16 rfl (lv_at hl 3 rfl) ?_
    refine qh_runV (As := [.int y, .int q]) (rest := []) (C := RX8) ⟨hx, hb, hml, hown, hts⟩ hK hH (c_X8_refusedRun l G z M E tr lf (hM) b_0 n y q b_40) (cwV 2 hts gX8_help_X8_refusedRun rfl rfl rfl (by decide +kernel) (by rw [hRf, hRl]; exact ⟨Nat.le_of_ble_eq_true rfl, Nat.le_of_ble_eq_true rfl⟩)) (by omega) b_0 rfl rfl hl.1 rfl (Nat.le_of_ble_eq_true rfl) dX8_help_17 ⟨Nat.zero_le _, Nat.zero_le _⟩ (qh_kki fun r_17 E_2 H locs hpost hH => ?_)
    obtain ⟨rfl, rfl⟩ := hpost
    refine lv_istore (lv' := [(5, .int (rfR n y q)), (0, .ref (z + 0)), (1, .int x), (2, .int y), (3, .int q), (4, .int w)]) hx hb dX8_help_20 hl (by decide) rfl (fun ls hl => ?_)
    refine lv_iload hx hb dX8_help_22 (lv_at hl 0 rfl) ?_
    refine lv_if_eq (tgt := 30) hx hb dX8_help_24 (by decide) (fun c_24 => ?_) (fun c_24 => ?_)
    · obtain ⟨a, b, hab, hbn, ea, eb⟩ := rfR_ok hn16 c_24
      have eA : y.toNatClampNeg = a := by rw [ea]; exact nI_clamp (by omega)
      have eB : q.toNatClampNeg = b := by rw [eb]; exact nI_clamp (by omega)
      have hl : lv_has ls 7 [(5, .int (rfR n y q)), (0, .ref (z + 0)), (1, .int x), (2, .int (nI a)), (3, .int q), (4, .int w)] := by rw [← ea]; exact hl
      have hl : lv_has ls 7 [(5, .int (rfR n y q)), (0, .ref (z + 0)), (1, .int x), (2, .int (nI a)), (3, .int (nI b)), (4, .int w)] := by rw [← eb]; exact hl
      refine lv_iload hx hb dX8_help_30 (lv_at hl 5 rfl) ?_
      refine lv_if_eq (tgt := 44) hx hb dX8_help_32 (by decide) (fun c_32 => ?_) (fun c_32 => ?_)
      · have hD : helD n m2 ln x y q w = none := by rw [helD, if_pos hhas, if_pos c_24, if_pos (Or.inl c_32), if_pos hl9]
        refine lv_aload_n hx hb dX8_help_44 rfl (lv_at hl 1 rfl) ?_
        refine lv_iload hx hb dX8_help_45 (lv_at hl 5 rfl) ?_
        refine lv_iconst (v := 1) hx hb dX8_help_47 (by decide) ?_
        refine lv_icmp_ne (tgt := 55) hx hb dX8_help_48 (by decide) (fun c_48 => ?_) (fun c_48 => ?_)
        · have hsw : (if w = 1 then (3 : Int32) else 4) = 4 := if_neg c_48
          refine lv_iconst (v := 4) hx hb dX8_help_55 (by decide) ?_
          refine lv_iload_n hx hb dX8_help_56 rfl (lv_at hl 3 rfl) ?_
          refine lv_iload_n hx hb dX8_help_57 rfl (lv_at hl 4 rfl) ?_
          refine lv_iload_n hx hb dX8_help_58 rfl (lv_at hl 2 rfl) ?_
          refine lv_i2l (v := x.toInt64) hx hb dX8_help_59 rfl ?_
          refine qh_runV (As := [.int 4, .int (nI a), .int (nI b), .long (x.toInt64)]) (rest := []) (C := RX8) ⟨hx, hb, hml, hown, hts⟩ hK hH (c_X8_act l G z M E tr lf (hM) b_0 n m2 ln a b f g kd pa _ _ _ _ 4 (x.toInt64) (⟨by omega, by omega⟩) (hl9) (⟨by omega, by omega⟩) (hacts) b_40 b_41 b_42 b_7 b_8 b_9 b_13 b_14) (cwV 4 hts gX8_help_X8_act rfl rfl rfl (by decide +kernel) (by rw [hRf, hRl]; exact ⟨Nat.le_of_ble_eq_true rfl, Nat.le_of_ble_eq_true rfl⟩)) (by omega) b_0 rfl rfl hl.1 rfl (Nat.le_of_ble_eq_true rfl) dX8_help_60 ⟨Nat.zero_le _, Nat.zero_le _⟩ (qh_kki fun r_60 E_3 H locs hpost hH => ?_)
          obtain ⟨rfl, h_13, h_15_ln, h_41, h_42, hfr⟩ := hpost
          have hF : ∀ x9, x9 ≠ 13 → x9 ≠ (15 + ln) → x9 ≠ 41 → x9 ≠ 42 → E_3 x9 = E x9 := fun x9 a0 a1 a2 a3 => hfr x9 a0 a1 a2 a3
          refine lv_istore (lv' := [(6, .int (nI (othN f 4 (amt 4 m2 kd pa (x.toInt64)) a (b + 1 - a)))), (5, .int (rfR n y q)), (0, .ref (z + 0)), (1, .int x), (2, .int (nI a)), (3, .int (nI b)), (4, .int w)]) hx hb dX8_help_63 hl (by decide) rfl (fun ls hl => ?_)
          refine lv_iload hx hb dX8_help_65 (lv_at hl 0 rfl) ?_
          refine lv_if_ge (tgt := 75) hx hb dX8_help_67 (by decide) (fun c_67 => ?_) (fun c_67 => ?_)
          · refine lv_aload_n hx hb dX8_help_75 rfl (lv_at hl 2 rfl) ?_
            refine qh_get hx hb hH f_27 (by omega) ((hF 0 (by decide) (by omega) (by decide) (by decide)).trans b_0) rfl dX8_help_76 ?_
            refine lv_iload_n hx hb dX8_help_79 rfl (lv_at hl 3 rfl) ?_
            refine lv_i2l (v := x.toInt64) hx hb dX8_help_80 rfl ?_
            refine qh_runV (As := [.long (x.toInt64)]) (rest := []) (C := RX1) ⟨hx, hb, hml, hown, hts⟩ hK hH (c_X1_strength l G z M E_3 7 8 9 m2 kd pa (x.toInt64) (⟨by omega, by omega, by omega⟩) (by omega) ((hF 7 (by decide) (by omega) (by decide) (by decide)).trans b_7) ((hF 8 (by decide) (by omega) (by decide) (by decide)).trans b_8) ((hF 9 (by decide) (by omega) (by decide) (by decide)).trans b_9)) (cwV 1 hts gX8_help_X1_strength rfl rfl rfl (by decide +kernel) (by rw [hRf, hRl]; exact ⟨Nat.le_of_ble_eq_true rfl, Nat.le_of_ble_eq_true rfl⟩)) (by omega) ((hF 7 (by decide) (by omega) (by decide) (by decide)).trans b_7) rfl rfl hl.1 rfl (Nat.le_of_ble_eq_true rfl) dX8_help_81 ⟨Nat.zero_le _, Nat.zero_le _⟩ (qh_kki fun r_81 E_4 H locs hpost hH => ?_)
            obtain ⟨rfl, rfl⟩ := hpost
            exact hret dX8_help_84 hH (by rw [hD, eA, eB, hsw]; exact ⟨rfl, ⟨_, _, _, _, _, _, _, _, _, _, _, _, _, _, _, _, ((hF 0 (by decide) (by omega) (by decide) (by decide)).trans b_0), ((hF 1 (by decide) (by omega) (by decide) (by decide)).trans b_1), ((hF 2 (by decide) (by omega) (by decide) (by decide)).trans b_2), ((hF 3 (by decide) (by omega) (by decide) (by decide)).trans b_3), ((hF 4 (by decide) (by omega) (by decide) (by decide)).trans b_4), ((hF 5 (by decide) (by omega) (by decide) (by decide)).trans b_5), ((hF 6 (by decide) (by omega) (by decide) (by decide)).trans b_6), ((hF 7 (by decide) (by omega) (by decide) (by decide)).trans b_7), ((hF 8 (by decide) (by omega) (by decide) (by decide)).trans b_8), ((hF 9 (by decide) (by omega) (by decide) (by decide)).trans b_9), ((hF 10 (by decide) (by omega) (by decide) (by decide)).trans b_10), ((hF 11 (by decide) (by omega) (by decide) (by decide)).trans b_11), ((hF 12 (by decide) (by omega) (by decide) (by decide)).trans b_12), h_13, ((hF 14 (by decide) (by omega) (by decide) (by decide)).trans b_14), ((hF 39 (by decide) (by omega) (by decide) (by decide)).trans b_39), ((hF 40 (by decide) (by omega) (by decide) (by decide)).trans b_40), h_41, h_42, ((hF 43 (by decide) (by omega) (by decide) (by decide)).trans b_43), ((hF 44 (by decide) (by omega) (by decide) (by decide)).trans b_44), ((hF 45 (by decide) (by omega) (by decide) (by decide)).trans b_45), ((hF 46 (by decide) (by omega) (by decide) (by decide)).trans b_46), ((hF 47 (by decide) (by omega) (by decide) (by decide)).trans b_47), ((hF 48 (by decide) (by omega) (by decide) (by decide)).trans b_48), ((hF 49 (by decide) (by omega) (by decide) (by decide)).trans b_49), ((hF 50 (by decide) (by omega) (by decide) (by decide)).trans b_50), ((hF 51 (by decide) (by omega) (by decide) (by decide)).trans b_51), ((hF 52 (by decide) (by omega) (by decide) (by decide)).trans b_52), ((hF 53 (by decide) (by omega) (by decide) (by decide)).trans b_53), ((hF 54 (by decide) (by omega) (by decide) (by decide)).trans b_54), (acts_put hacts h_15_ln (fun t h1 h2 => hF (15 + t) (by omega) (by omega) (by omega) (by omega))), (fun k hk => ⟨(hF (55 + 2 * k) (by omega) (by omega) (by omega) (by omega)).trans (hsh k hk).1, (hF (56 + 2 * k) (by omega) (by omega) (by omega) (by omega)).trans (hsh k hk).2⟩)⟩, (fun x9 h9 => hF x9 (by omega) (by omega) (by omega) (by omega))⟩)
          · exact absurd (nI_pos' (othN_lt hab hbn hn16)) c_67
        · have hsw : (if w = 1 then (3 : Int32) else 4) = 3 := if_pos c_48
          refine lv_iconst (v := 3) hx hb dX8_help_51 (by decide) ?_
          refine lv_goto (tgt := 56) hx hb dX8_help_52 (by decide) ?_
          refine lv_iload_n hx hb dX8_help_56 rfl (lv_at hl 3 rfl) ?_
          refine lv_iload_n hx hb dX8_help_57 rfl (lv_at hl 4 rfl) ?_
          refine lv_iload_n hx hb dX8_help_58 rfl (lv_at hl 2 rfl) ?_
          refine lv_i2l (v := x.toInt64) hx hb dX8_help_59 rfl ?_
          refine qh_runV (As := [.int 3, .int (nI a), .int (nI b), .long (x.toInt64)]) (rest := []) (C := RX8) ⟨hx, hb, hml, hown, hts⟩ hK hH (c_X8_act l G z M E tr lf (hM) b_0 n m2 ln a b f g kd pa _ _ _ _ 3 (x.toInt64) (⟨by omega, by omega⟩) (hl9) (⟨by omega, by omega⟩) (hacts) b_40 b_41 b_42 b_7 b_8 b_9 b_13 b_14) (cwV 4 hts gX8_help_X8_act rfl rfl rfl (by decide +kernel) (by rw [hRf, hRl]; exact ⟨Nat.le_of_ble_eq_true rfl, Nat.le_of_ble_eq_true rfl⟩)) (by omega) b_0 rfl rfl hl.1 rfl (Nat.le_of_ble_eq_true rfl) dX8_help_60 ⟨Nat.zero_le _, Nat.zero_le _⟩ (qh_kki fun r_60 E_5 H locs hpost hH => ?_)
          obtain ⟨rfl, h_13, h_15_ln, h_41, h_42, hfr⟩ := hpost
          have hF : ∀ x9, x9 ≠ 13 → x9 ≠ (15 + ln) → x9 ≠ 41 → x9 ≠ 42 → E_5 x9 = E x9 := fun x9 a0 a1 a2 a3 => hfr x9 a0 a1 a2 a3
          refine lv_istore (lv' := [(6, .int (nI (othN f 3 (amt 3 m2 kd pa (x.toInt64)) a (b + 1 - a)))), (5, .int (rfR n y q)), (0, .ref (z + 0)), (1, .int x), (2, .int (nI a)), (3, .int (nI b)), (4, .int w)]) hx hb dX8_help_63 hl (by decide) rfl (fun ls hl => ?_)
          refine lv_iload hx hb dX8_help_65 (lv_at hl 0 rfl) ?_
          refine lv_if_ge (tgt := 75) hx hb dX8_help_67 (by decide) (fun c_67 => ?_) (fun c_67 => ?_)
          · refine lv_aload_n hx hb dX8_help_75 rfl (lv_at hl 2 rfl) ?_
            refine qh_get hx hb hH f_27 (by omega) ((hF 0 (by decide) (by omega) (by decide) (by decide)).trans b_0) rfl dX8_help_76 ?_
            refine lv_iload_n hx hb dX8_help_79 rfl (lv_at hl 3 rfl) ?_
            refine lv_i2l (v := x.toInt64) hx hb dX8_help_80 rfl ?_
            refine qh_runV (As := [.long (x.toInt64)]) (rest := []) (C := RX1) ⟨hx, hb, hml, hown, hts⟩ hK hH (c_X1_strength l G z M E_5 7 8 9 m2 kd pa (x.toInt64) (⟨by omega, by omega, by omega⟩) (by omega) ((hF 7 (by decide) (by omega) (by decide) (by decide)).trans b_7) ((hF 8 (by decide) (by omega) (by decide) (by decide)).trans b_8) ((hF 9 (by decide) (by omega) (by decide) (by decide)).trans b_9)) (cwV 1 hts gX8_help_X1_strength rfl rfl rfl (by decide +kernel) (by rw [hRf, hRl]; exact ⟨Nat.le_of_ble_eq_true rfl, Nat.le_of_ble_eq_true rfl⟩)) (by omega) ((hF 7 (by decide) (by omega) (by decide) (by decide)).trans b_7) rfl rfl hl.1 rfl (Nat.le_of_ble_eq_true rfl) dX8_help_81 ⟨Nat.zero_le _, Nat.zero_le _⟩ (qh_kki fun r_81 E_6 H locs hpost hH => ?_)
            obtain ⟨rfl, rfl⟩ := hpost
            exact hret dX8_help_84 hH (by rw [hD, eA, eB, hsw]; exact ⟨rfl, ⟨_, _, _, _, _, _, _, _, _, _, _, _, _, _, _, _, ((hF 0 (by decide) (by omega) (by decide) (by decide)).trans b_0), ((hF 1 (by decide) (by omega) (by decide) (by decide)).trans b_1), ((hF 2 (by decide) (by omega) (by decide) (by decide)).trans b_2), ((hF 3 (by decide) (by omega) (by decide) (by decide)).trans b_3), ((hF 4 (by decide) (by omega) (by decide) (by decide)).trans b_4), ((hF 5 (by decide) (by omega) (by decide) (by decide)).trans b_5), ((hF 6 (by decide) (by omega) (by decide) (by decide)).trans b_6), ((hF 7 (by decide) (by omega) (by decide) (by decide)).trans b_7), ((hF 8 (by decide) (by omega) (by decide) (by decide)).trans b_8), ((hF 9 (by decide) (by omega) (by decide) (by decide)).trans b_9), ((hF 10 (by decide) (by omega) (by decide) (by decide)).trans b_10), ((hF 11 (by decide) (by omega) (by decide) (by decide)).trans b_11), ((hF 12 (by decide) (by omega) (by decide) (by decide)).trans b_12), h_13, ((hF 14 (by decide) (by omega) (by decide) (by decide)).trans b_14), ((hF 39 (by decide) (by omega) (by decide) (by decide)).trans b_39), ((hF 40 (by decide) (by omega) (by decide) (by decide)).trans b_40), h_41, h_42, ((hF 43 (by decide) (by omega) (by decide) (by decide)).trans b_43), ((hF 44 (by decide) (by omega) (by decide) (by decide)).trans b_44), ((hF 45 (by decide) (by omega) (by decide) (by decide)).trans b_45), ((hF 46 (by decide) (by omega) (by decide) (by decide)).trans b_46), ((hF 47 (by decide) (by omega) (by decide) (by decide)).trans b_47), ((hF 48 (by decide) (by omega) (by decide) (by decide)).trans b_48), ((hF 49 (by decide) (by omega) (by decide) (by decide)).trans b_49), ((hF 50 (by decide) (by omega) (by decide) (by decide)).trans b_50), ((hF 51 (by decide) (by omega) (by decide) (by decide)).trans b_51), ((hF 52 (by decide) (by omega) (by decide) (by decide)).trans b_52), ((hF 53 (by decide) (by omega) (by decide) (by decide)).trans b_53), ((hF 54 (by decide) (by omega) (by decide) (by decide)).trans b_54), (acts_put hacts h_15_ln (fun t h1 h2 => hF (15 + t) (by omega) (by omega) (by omega) (by omega))), (fun k hk => ⟨(hF (55 + 2 * k) (by omega) (by omega) (by omega) (by omega)).trans (hsh k hk).1, (hF (56 + 2 * k) (by omega) (by omega) (by omega) (by omega)).trans (hsh k hk).2⟩)⟩, (fun x9 h9 => hF x9 (by omega) (by omega) (by omega) (by omega))⟩)
          · exact absurd (nI_pos' (othN_lt hab hbn hn16)) c_67
      · refine lv_iload hx hb dX8_help_35 (lv_at hl 5 rfl) ?_
        refine lv_iconst (v := 1) hx hb dX8_help_37 (by decide) ?_
        refine lv_icmp_eq (tgt := 44) hx hb dX8_help_38 (by decide) (fun c_38 => ?_) (fun c_38 => ?_)
        · have hD : helD n m2 ln x y q w = none := by rw [helD, if_pos hhas, if_pos c_24, if_pos (Or.inr c_38), if_pos hl9]
          refine lv_aload_n hx hb dX8_help_44 rfl (lv_at hl 1 rfl) ?_
          refine lv_iload hx hb dX8_help_45 (lv_at hl 5 rfl) ?_
          refine lv_iconst (v := 1) hx hb dX8_help_47 (by decide) ?_
          refine lv_icmp_ne (tgt := 55) hx hb dX8_help_48 (by decide) (fun c_48 => ?_) (fun c_48 => ?_)
          · have hsw : (if w = 1 then (3 : Int32) else 4) = 4 := if_neg c_48
            refine lv_iconst (v := 4) hx hb dX8_help_55 (by decide) ?_
            refine lv_iload_n hx hb dX8_help_56 rfl (lv_at hl 3 rfl) ?_
            refine lv_iload_n hx hb dX8_help_57 rfl (lv_at hl 4 rfl) ?_
            refine lv_iload_n hx hb dX8_help_58 rfl (lv_at hl 2 rfl) ?_
            refine lv_i2l (v := x.toInt64) hx hb dX8_help_59 rfl ?_
            refine qh_runV (As := [.int 4, .int (nI a), .int (nI b), .long (x.toInt64)]) (rest := []) (C := RX8) ⟨hx, hb, hml, hown, hts⟩ hK hH (c_X8_act l G z M E tr lf (hM) b_0 n m2 ln a b f g kd pa _ _ _ _ 4 (x.toInt64) (⟨by omega, by omega⟩) (hl9) (⟨by omega, by omega⟩) (hacts) b_40 b_41 b_42 b_7 b_8 b_9 b_13 b_14) (cwV 4 hts gX8_help_X8_act rfl rfl rfl (by decide +kernel) (by rw [hRf, hRl]; exact ⟨Nat.le_of_ble_eq_true rfl, Nat.le_of_ble_eq_true rfl⟩)) (by omega) b_0 rfl rfl hl.1 rfl (Nat.le_of_ble_eq_true rfl) dX8_help_60 ⟨Nat.zero_le _, Nat.zero_le _⟩ (qh_kki fun r_60 E_7 H locs hpost hH => ?_)
            obtain ⟨rfl, h_13, h_15_ln, h_41, h_42, hfr⟩ := hpost
            have hF : ∀ x9, x9 ≠ 13 → x9 ≠ (15 + ln) → x9 ≠ 41 → x9 ≠ 42 → E_7 x9 = E x9 := fun x9 a0 a1 a2 a3 => hfr x9 a0 a1 a2 a3
            refine lv_istore (lv' := [(6, .int (nI (othN f 4 (amt 4 m2 kd pa (x.toInt64)) a (b + 1 - a)))), (5, .int (rfR n y q)), (0, .ref (z + 0)), (1, .int x), (2, .int (nI a)), (3, .int (nI b)), (4, .int w)]) hx hb dX8_help_63 hl (by decide) rfl (fun ls hl => ?_)
            refine lv_iload hx hb dX8_help_65 (lv_at hl 0 rfl) ?_
            refine lv_if_ge (tgt := 75) hx hb dX8_help_67 (by decide) (fun c_67 => ?_) (fun c_67 => ?_)
            · refine lv_aload_n hx hb dX8_help_75 rfl (lv_at hl 2 rfl) ?_
              refine qh_get hx hb hH f_27 (by omega) ((hF 0 (by decide) (by omega) (by decide) (by decide)).trans b_0) rfl dX8_help_76 ?_
              refine lv_iload_n hx hb dX8_help_79 rfl (lv_at hl 3 rfl) ?_
              refine lv_i2l (v := x.toInt64) hx hb dX8_help_80 rfl ?_
              refine qh_runV (As := [.long (x.toInt64)]) (rest := []) (C := RX1) ⟨hx, hb, hml, hown, hts⟩ hK hH (c_X1_strength l G z M E_7 7 8 9 m2 kd pa (x.toInt64) (⟨by omega, by omega, by omega⟩) (by omega) ((hF 7 (by decide) (by omega) (by decide) (by decide)).trans b_7) ((hF 8 (by decide) (by omega) (by decide) (by decide)).trans b_8) ((hF 9 (by decide) (by omega) (by decide) (by decide)).trans b_9)) (cwV 1 hts gX8_help_X1_strength rfl rfl rfl (by decide +kernel) (by rw [hRf, hRl]; exact ⟨Nat.le_of_ble_eq_true rfl, Nat.le_of_ble_eq_true rfl⟩)) (by omega) ((hF 7 (by decide) (by omega) (by decide) (by decide)).trans b_7) rfl rfl hl.1 rfl (Nat.le_of_ble_eq_true rfl) dX8_help_81 ⟨Nat.zero_le _, Nat.zero_le _⟩ (qh_kki fun r_81 E_8 H locs hpost hH => ?_)
              obtain ⟨rfl, rfl⟩ := hpost
              exact hret dX8_help_84 hH (by rw [hD, eA, eB, hsw]; exact ⟨rfl, ⟨_, _, _, _, _, _, _, _, _, _, _, _, _, _, _, _, ((hF 0 (by decide) (by omega) (by decide) (by decide)).trans b_0), ((hF 1 (by decide) (by omega) (by decide) (by decide)).trans b_1), ((hF 2 (by decide) (by omega) (by decide) (by decide)).trans b_2), ((hF 3 (by decide) (by omega) (by decide) (by decide)).trans b_3), ((hF 4 (by decide) (by omega) (by decide) (by decide)).trans b_4), ((hF 5 (by decide) (by omega) (by decide) (by decide)).trans b_5), ((hF 6 (by decide) (by omega) (by decide) (by decide)).trans b_6), ((hF 7 (by decide) (by omega) (by decide) (by decide)).trans b_7), ((hF 8 (by decide) (by omega) (by decide) (by decide)).trans b_8), ((hF 9 (by decide) (by omega) (by decide) (by decide)).trans b_9), ((hF 10 (by decide) (by omega) (by decide) (by decide)).trans b_10), ((hF 11 (by decide) (by omega) (by decide) (by decide)).trans b_11), ((hF 12 (by decide) (by omega) (by decide) (by decide)).trans b_12), h_13, ((hF 14 (by decide) (by omega) (by decide) (by decide)).trans b_14), ((hF 39 (by decide) (by omega) (by decide) (by decide)).trans b_39), ((hF 40 (by decide) (by omega) (by decide) (by decide)).trans b_40), h_41, h_42, ((hF 43 (by decide) (by omega) (by decide) (by decide)).trans b_43), ((hF 44 (by decide) (by omega) (by decide) (by decide)).trans b_44), ((hF 45 (by decide) (by omega) (by decide) (by decide)).trans b_45), ((hF 46 (by decide) (by omega) (by decide) (by decide)).trans b_46), ((hF 47 (by decide) (by omega) (by decide) (by decide)).trans b_47), ((hF 48 (by decide) (by omega) (by decide) (by decide)).trans b_48), ((hF 49 (by decide) (by omega) (by decide) (by decide)).trans b_49), ((hF 50 (by decide) (by omega) (by decide) (by decide)).trans b_50), ((hF 51 (by decide) (by omega) (by decide) (by decide)).trans b_51), ((hF 52 (by decide) (by omega) (by decide) (by decide)).trans b_52), ((hF 53 (by decide) (by omega) (by decide) (by decide)).trans b_53), ((hF 54 (by decide) (by omega) (by decide) (by decide)).trans b_54), (acts_put hacts h_15_ln (fun t h1 h2 => hF (15 + t) (by omega) (by omega) (by omega) (by omega))), (fun k hk => ⟨(hF (55 + 2 * k) (by omega) (by omega) (by omega) (by omega)).trans (hsh k hk).1, (hF (56 + 2 * k) (by omega) (by omega) (by omega) (by omega)).trans (hsh k hk).2⟩)⟩, (fun x9 h9 => hF x9 (by omega) (by omega) (by omega) (by omega))⟩)
            · exact absurd (nI_pos' (othN_lt hab hbn hn16)) c_67
          · have hsw : (if w = 1 then (3 : Int32) else 4) = 3 := if_pos c_48
            refine lv_iconst (v := 3) hx hb dX8_help_51 (by decide) ?_
            refine lv_goto (tgt := 56) hx hb dX8_help_52 (by decide) ?_
            refine lv_iload_n hx hb dX8_help_56 rfl (lv_at hl 3 rfl) ?_
            refine lv_iload_n hx hb dX8_help_57 rfl (lv_at hl 4 rfl) ?_
            refine lv_iload_n hx hb dX8_help_58 rfl (lv_at hl 2 rfl) ?_
            refine lv_i2l (v := x.toInt64) hx hb dX8_help_59 rfl ?_
            refine qh_runV (As := [.int 3, .int (nI a), .int (nI b), .long (x.toInt64)]) (rest := []) (C := RX8) ⟨hx, hb, hml, hown, hts⟩ hK hH (c_X8_act l G z M E tr lf (hM) b_0 n m2 ln a b f g kd pa _ _ _ _ 3 (x.toInt64) (⟨by omega, by omega⟩) (hl9) (⟨by omega, by omega⟩) (hacts) b_40 b_41 b_42 b_7 b_8 b_9 b_13 b_14) (cwV 4 hts gX8_help_X8_act rfl rfl rfl (by decide +kernel) (by rw [hRf, hRl]; exact ⟨Nat.le_of_ble_eq_true rfl, Nat.le_of_ble_eq_true rfl⟩)) (by omega) b_0 rfl rfl hl.1 rfl (Nat.le_of_ble_eq_true rfl) dX8_help_60 ⟨Nat.zero_le _, Nat.zero_le _⟩ (qh_kki fun r_60 E_9 H locs hpost hH => ?_)
            obtain ⟨rfl, h_13, h_15_ln, h_41, h_42, hfr⟩ := hpost
            have hF : ∀ x9, x9 ≠ 13 → x9 ≠ (15 + ln) → x9 ≠ 41 → x9 ≠ 42 → E_9 x9 = E x9 := fun x9 a0 a1 a2 a3 => hfr x9 a0 a1 a2 a3
            refine lv_istore (lv' := [(6, .int (nI (othN f 3 (amt 3 m2 kd pa (x.toInt64)) a (b + 1 - a)))), (5, .int (rfR n y q)), (0, .ref (z + 0)), (1, .int x), (2, .int (nI a)), (3, .int (nI b)), (4, .int w)]) hx hb dX8_help_63 hl (by decide) rfl (fun ls hl => ?_)
            refine lv_iload hx hb dX8_help_65 (lv_at hl 0 rfl) ?_
            refine lv_if_ge (tgt := 75) hx hb dX8_help_67 (by decide) (fun c_67 => ?_) (fun c_67 => ?_)
            · refine lv_aload_n hx hb dX8_help_75 rfl (lv_at hl 2 rfl) ?_
              refine qh_get hx hb hH f_27 (by omega) ((hF 0 (by decide) (by omega) (by decide) (by decide)).trans b_0) rfl dX8_help_76 ?_
              refine lv_iload_n hx hb dX8_help_79 rfl (lv_at hl 3 rfl) ?_
              refine lv_i2l (v := x.toInt64) hx hb dX8_help_80 rfl ?_
              refine qh_runV (As := [.long (x.toInt64)]) (rest := []) (C := RX1) ⟨hx, hb, hml, hown, hts⟩ hK hH (c_X1_strength l G z M E_9 7 8 9 m2 kd pa (x.toInt64) (⟨by omega, by omega, by omega⟩) (by omega) ((hF 7 (by decide) (by omega) (by decide) (by decide)).trans b_7) ((hF 8 (by decide) (by omega) (by decide) (by decide)).trans b_8) ((hF 9 (by decide) (by omega) (by decide) (by decide)).trans b_9)) (cwV 1 hts gX8_help_X1_strength rfl rfl rfl (by decide +kernel) (by rw [hRf, hRl]; exact ⟨Nat.le_of_ble_eq_true rfl, Nat.le_of_ble_eq_true rfl⟩)) (by omega) ((hF 7 (by decide) (by omega) (by decide) (by decide)).trans b_7) rfl rfl hl.1 rfl (Nat.le_of_ble_eq_true rfl) dX8_help_81 ⟨Nat.zero_le _, Nat.zero_le _⟩ (qh_kki fun r_81 E_10 H locs hpost hH => ?_)
              obtain ⟨rfl, rfl⟩ := hpost
              exact hret dX8_help_84 hH (by rw [hD, eA, eB, hsw]; exact ⟨rfl, ⟨_, _, _, _, _, _, _, _, _, _, _, _, _, _, _, _, ((hF 0 (by decide) (by omega) (by decide) (by decide)).trans b_0), ((hF 1 (by decide) (by omega) (by decide) (by decide)).trans b_1), ((hF 2 (by decide) (by omega) (by decide) (by decide)).trans b_2), ((hF 3 (by decide) (by omega) (by decide) (by decide)).trans b_3), ((hF 4 (by decide) (by omega) (by decide) (by decide)).trans b_4), ((hF 5 (by decide) (by omega) (by decide) (by decide)).trans b_5), ((hF 6 (by decide) (by omega) (by decide) (by decide)).trans b_6), ((hF 7 (by decide) (by omega) (by decide) (by decide)).trans b_7), ((hF 8 (by decide) (by omega) (by decide) (by decide)).trans b_8), ((hF 9 (by decide) (by omega) (by decide) (by decide)).trans b_9), ((hF 10 (by decide) (by omega) (by decide) (by decide)).trans b_10), ((hF 11 (by decide) (by omega) (by decide) (by decide)).trans b_11), ((hF 12 (by decide) (by omega) (by decide) (by decide)).trans b_12), h_13, ((hF 14 (by decide) (by omega) (by decide) (by decide)).trans b_14), ((hF 39 (by decide) (by omega) (by decide) (by decide)).trans b_39), ((hF 40 (by decide) (by omega) (by decide) (by decide)).trans b_40), h_41, h_42, ((hF 43 (by decide) (by omega) (by decide) (by decide)).trans b_43), ((hF 44 (by decide) (by omega) (by decide) (by decide)).trans b_44), ((hF 45 (by decide) (by omega) (by decide) (by decide)).trans b_45), ((hF 46 (by decide) (by omega) (by decide) (by decide)).trans b_46), ((hF 47 (by decide) (by omega) (by decide) (by decide)).trans b_47), ((hF 48 (by decide) (by omega) (by decide) (by decide)).trans b_48), ((hF 49 (by decide) (by omega) (by decide) (by decide)).trans b_49), ((hF 50 (by decide) (by omega) (by decide) (by decide)).trans b_50), ((hF 51 (by decide) (by omega) (by decide) (by decide)).trans b_51), ((hF 52 (by decide) (by omega) (by decide) (by decide)).trans b_52), ((hF 53 (by decide) (by omega) (by decide) (by decide)).trans b_53), ((hF 54 (by decide) (by omega) (by decide) (by decide)).trans b_54), (acts_put hacts h_15_ln (fun t h1 h2 => hF (15 + t) (by omega) (by omega) (by omega) (by omega))), (fun k hk => ⟨(hF (55 + 2 * k) (by omega) (by omega) (by omega) (by omega)).trans (hsh k hk).1, (hF (56 + 2 * k) (by omega) (by omega) (by omega) (by omega)).trans (hsh k hk).2⟩)⟩, (fun x9 h9 => hF x9 (by omega) (by omega) (by omega) (by omega))⟩)
            · exact absurd (nI_pos' (othN_lt hab hbn hn16)) c_67
        · have hD : helD n m2 ln x y q w = some (-2) := by rw [helD, if_pos hhas, if_pos c_24, if_neg (fun u => u.elim c_32 c_38)]
          refine lv_bipush (v := (-2)) hx hb dX8_help_41 (by decide) ?_
          exact hret dX8_help_43 hH (by rw [hD]; exact ⟨rfl, ⟨_, _, _, _, _, _, _, _, _, _, _, _, _, _, _, _, b_0, b_1, b_2, b_3, b_4, b_5, b_6, b_7, b_8, b_9, b_10, b_11, b_12, b_13, b_14, b_39, b_40, b_41, b_42, b_43, b_44, b_45, b_46, b_47, b_48, b_49, b_50, b_51, b_52, b_53, b_54, hacts, hsh⟩, (fun _ _ => rfl)⟩)
    · have hD : helD n m2 ln x y q w = some (rfR n y q) := by rw [helD, if_pos hhas, if_neg c_24]
      refine lv_iload hx hb dX8_help_27 (lv_at hl 0 rfl) ?_
      exact hret dX8_help_29 hH (by rw [hD]; exact ⟨rfl, ⟨_, _, _, _, _, _, _, _, _, _, _, _, _, _, _, _, b_0, b_1, b_2, b_3, b_4, b_5, b_6, b_7, b_8, b_9, b_10, b_11, b_12, b_13, b_14, b_39, b_40, b_41, b_42, b_43, b_44, b_45, b_46, b_47, b_48, b_49, b_50, b_51, b_52, b_53, b_54, hacts, hsh⟩, (fun _ _ => rfl)⟩)
  · have c_9 := bI_eq.mp c_9
    have hhas := (not_congr (hlp_has hm3)).mp c_9
    have hD : helD n m2 ln x y q w = some (-1) := by rw [helD, if_neg hhas]
    refine lv_iconst (v := (-1)) hx hb dX8_help_12 (by decide) ?_
    exact hret dX8_help_13 hH (by rw [hD]; exact ⟨rfl, ⟨_, _, _, _, _, _, _, _, _, _, _, _, _, _, _, _, b_0, b_1, b_2, b_3, b_4, b_5, b_6, b_7, b_8, b_9, b_10, b_11, b_12, b_13, b_14, b_39, b_40, b_41, b_42, b_43, b_44, b_45, b_46, b_47, b_48, b_49, b_50, b_51, b_52, b_53, b_54, hacts, hsh⟩, (fun _ _ => rfl)⟩)

set_option maxHeartbeats 1000000 in
set_option maxRecDepth 100000 in
theorem c_X8_help_full (l : Launch) (G : qh_G) (z M : Nat) (E : Nat → va_E) (tr : Int32) (lf : Int32) (n : Nat) (f : Nat → Int64) (g : Nat → Int64) (bf : Nat → Int64) (m2 : Nat) (kd : Nat → Int32) (pa : Nat → Int32) (ln : Nat) (ts : Nat → Int32) (ga : Nat → Nat) (gb : Nat → Nat) (va : Nat → Int64) (rn : Nat) (cn : Nat → Nat) (vs : Nat → Int64) (hr : Nat → Int32) (la : Nat → Int32) (lg : Nat → Nat) (sc : Nat → Nat → Int32) (hM : 84 ≤ M) (hX : XE G z E tr lf n f g bf m2 kd pa ln ts ga gb va rn cn vs hr la lg sc) (hW : XW n m2 ln rn ga gb cn lg hr) (x : Int32) (y : Int32) (q : Int32) (w : Int32) (hl9 : 24 ≤ ln) : Met l yX8_help wsX8_help (qh_R 5) (qh_Pre G z M E [.ref (z + 0), .int x, .int y, .int q, .int w]) (qh_Q G z M (qh_i (fun r E' => match helD n m2 ln x y q w with | some d => r = d ∧ XE G z E' tr lf n f g bf m2 kd pa ln ts ga gb va rn cn vs hr la lg sc ∧ ∀ x9, 63 ≤ x9 → E' x9 = E x9 | none => r = strg m2 kd pa x.toInt64 ∧ XE G z E' tr lf n (actF f (if w = 1 then 3 else 4) (amt (if w = 1 then 3 else 4) m2 kd pa x.toInt64) y.toNatClampNeg (q.toNatClampNeg + 1 - y.toNatClampNeg)) (hisF g f (if w = 1 then 3 else 4) (amt (if w = 1 then 3 else 4) m2 kd pa x.toInt64) y.toNatClampNeg (q.toNatClampNeg + 1 - y.toNatClampNeg)) bf m2 kd pa (ln + 1) (upd ts ln (if w = 1 then 3 else 4)) (upN ga ln y.toNatClampNeg) (upN gb ln q.toNatClampNeg) (vp_updL va ln x.toInt64) rn cn vs hr la lg sc ∧ ∀ x9, 63 ≤ x9 → E' x9 = E x9))) 0 0 (fun q => z ≤ q) := by
  refine qh_metI (cc := cX8_help) (maxL := 7) (by decide) rfl (Nat.le_of_ble_eq_true rfl) ?_
  intro pZ eZ sZ mZ aZ bZ tZ cZ RR QQ ls hx hb hml hown hts hRf hRl hH hK hl hret
  have hown : sZ.vm.findClass RX8 = some mZ.cls := hown
  have hl : lv_has ls 7 [(0, .ref (z + 0)), (1, .int x), (2, .int y), (3, .int q), (4, .int w)] := hl
  obtain ⟨tc, dg, hn0, tk, tp, gn, gk, gp, t0, a0, b0, v0, bg, tn, tf, tg, b_0, b_1, b_2, b_3, b_4, b_5, b_6, b_7, b_8, b_9, b_10, b_11, b_12, b_13, b_14, b_39, b_40, b_41, b_42, b_43, b_44, b_45, b_46, b_47, b_48, b_49, b_50, b_51, b_52, b_53, b_54, hacts, hsh⟩ := hX
  obtain ⟨⟨hn16, hm3, hl24, hr8⟩, hval, hcn, hlg, hhr⟩ := hW
  have in_X8 : ∀ w ∈ wsX80, w ∈ wsX8_help := fun w h => List.mem_cons_of_mem _ (List.mem_append_left _ (List.mem_append_left _ (List.mem_append_left _ (List.mem_append_left _ (List.mem_append_right _ h)))))
  have f_27 : qh_F G sZ mZ aZ 27 8 2 := qh_F.of hts in_X8 hown hK rfl 2 (by decide) (by decide +kernel)
  refine lv_aload_n hx hb dX8_help_0 rfl (lv_at hl 0 rfl) ?_
  refine qh_get hx hb hH f_27 (by omega) b_0 rfl dX8_help_1 ?_
  refine lv_iload_n hx hb dX8_help_4 rfl (lv_at hl 1 rfl) ?_
  refine lv_i2l (v := x.toInt64) hx hb dX8_help_5 rfl ?_
  refine qh_runV (As := [.long (x.toInt64)]) (rest := []) (C := RX1) ⟨hx, hb, hml, hown, hts⟩ hK hH (c_X1_has l G z M E 7 (by omega) (nI m2) (.ref (z + 8)) (.ref (z + 9)) (x.toInt64) b_7) (cwV 1 hts gX8_help_X1_has rfl rfl rfl (by decide +kernel) (by rw [hRf, hRl]; exact ⟨Nat.le_of_ble_eq_true rfl, Nat.le_of_ble_eq_true rfl⟩)) (by omega) b_7 rfl rfl hl.1 rfl (Nat.le_of_ble_eq_true rfl) dX8_help_6 ⟨Nat.zero_le _, Nat.zero_le _⟩ (qh_kki fun r_6 E_1 H locs hpost hH => ?_)
  obtain ⟨rfl, rfl⟩ := hpost
  refine lv_if_ne (tgt := 14) hx hb dX8_help_9 (by decide) (fun c_9 => ?_) (fun c_9 => ?_)
  · have c_9 := bI_ne.mp c_9
    have hhas := (hlp_has hm3).mp c_9
    refine lv_aload_n hx hb dX8_help_14 rfl (lv_at hl 0 rfl) ?_
    refine lv_iload_n hx hb dX8_help_15 rfl (lv_at hl 2 rfl) ?_
    refine lv_iload_n hx hb dX8_help_16 rfl (lv_at hl 3 rfl) ?_
    refine qh_runV (As := [.int y, .int q]) (rest := []) (C := RX8) ⟨hx, hb, hml, hown, hts⟩ hK hH (c_X8_refusedRun l G z M E tr lf (hM) b_0 n y q b_40) (cwV 2 hts gX8_help_X8_refusedRun rfl rfl rfl (by decide +kernel) (by rw [hRf, hRl]; exact ⟨Nat.le_of_ble_eq_true rfl, Nat.le_of_ble_eq_true rfl⟩)) (by omega) b_0 rfl rfl hl.1 rfl (Nat.le_of_ble_eq_true rfl) dX8_help_17 ⟨Nat.zero_le _, Nat.zero_le _⟩ (qh_kki fun r_17 E_2 H locs hpost hH => ?_)
    obtain ⟨rfl, rfl⟩ := hpost
    refine lv_istore (lv' := [(5, .int (rfR n y q)), (0, .ref (z + 0)), (1, .int x), (2, .int y), (3, .int q), (4, .int w)]) hx hb dX8_help_20 hl (by decide) rfl (fun ls hl => ?_)
    refine lv_iload hx hb dX8_help_22 (lv_at hl 0 rfl) ?_
    refine lv_if_eq (tgt := 30) hx hb dX8_help_24 (by decide) (fun c_24 => ?_) (fun c_24 => ?_)
    · refine lv_iload hx hb dX8_help_30 (lv_at hl 5 rfl) ?_
      refine lv_if_eq (tgt := 44) hx hb dX8_help_32 (by decide) (fun c_32 => ?_) (fun c_32 => ?_)
      · have hD : helD n m2 ln x y q w = some (-4) := by rw [helD, if_pos hhas, if_pos c_24, if_pos (Or.inl c_32), if_neg (Nat.not_lt.mpr hl9)]
        refine lv_aload_n hx hb dX8_help_44 rfl (lv_at hl 1 rfl) ?_
        refine lv_iload hx hb dX8_help_45 (lv_at hl 5 rfl) ?_
        refine lv_iconst (v := 1) hx hb dX8_help_47 (by decide) ?_
        refine lv_icmp_ne (tgt := 55) hx hb dX8_help_48 (by decide) (fun c_48 => ?_) (fun c_48 => ?_)
        · have hsw : (if w = 1 then (3 : Int32) else 4) = 4 := if_neg c_48
          refine lv_iconst (v := 4) hx hb dX8_help_55 (by decide) ?_
          refine lv_iload_n hx hb dX8_help_56 rfl (lv_at hl 3 rfl) ?_
          refine lv_iload_n hx hb dX8_help_57 rfl (lv_at hl 4 rfl) ?_
          refine lv_iload_n hx hb dX8_help_58 rfl (lv_at hl 2 rfl) ?_
          refine lv_i2l (v := x.toInt64) hx hb dX8_help_59 rfl ?_
          refine qh_runV (As := [.int 4, .int y, .int q, .long (x.toInt64)]) (rest := []) (C := RX8) ⟨hx, hb, hml, hown, hts⟩ hK hH (c_X8_act_full l G z M E tr lf (hM) b_0 ln 4 y q (x.toInt64) (⟨hl9, by omega⟩) b_13) (cwV 4 hts gX8_help_X8_act rfl rfl rfl (by decide +kernel) (by rw [hRf, hRl]; exact ⟨Nat.le_of_ble_eq_true rfl, Nat.le_of_ble_eq_true rfl⟩)) (by omega) b_0 rfl rfl hl.1 rfl (Nat.le_of_ble_eq_true rfl) dX8_help_60 ⟨Nat.zero_le _, Nat.zero_le _⟩ (qh_kki fun r_60 E_3 H locs hpost hH => ?_)
          obtain ⟨rfl, rfl⟩ := hpost
          refine lv_istore (lv' := [(6, .int (-4)), (5, .int (rfR n y q)), (0, .ref (z + 0)), (1, .int x), (2, .int y), (3, .int q), (4, .int w)]) hx hb dX8_help_63 hl (by decide) rfl (fun ls hl => ?_)
          refine lv_iload hx hb dX8_help_65 (lv_at hl 0 rfl) ?_
          refine lv_if_ge (tgt := 75) hx hb dX8_help_67 (by decide) (fun c_67 => ?_) (fun c_67 => ?_)
          · exact absurd c_67 (by decide)
          · refine lv_iload hx hb dX8_help_70 (lv_at hl 0 rfl) ?_
            refine lv_goto (tgt := 84) hx hb dX8_help_72 (by decide) ?_
            exact hret dX8_help_84 hH (by rw [hD]; exact ⟨rfl, ⟨_, _, _, _, _, _, _, _, _, _, _, _, _, _, _, _, b_0, b_1, b_2, b_3, b_4, b_5, b_6, b_7, b_8, b_9, b_10, b_11, b_12, b_13, b_14, b_39, b_40, b_41, b_42, b_43, b_44, b_45, b_46, b_47, b_48, b_49, b_50, b_51, b_52, b_53, b_54, hacts, hsh⟩, (fun _ _ => rfl)⟩)
        · have hsw : (if w = 1 then (3 : Int32) else 4) = 3 := if_pos c_48
          refine lv_iconst (v := 3) hx hb dX8_help_51 (by decide) ?_
          refine lv_goto (tgt := 56) hx hb dX8_help_52 (by decide) ?_
          refine lv_iload_n hx hb dX8_help_56 rfl (lv_at hl 3 rfl) ?_
          refine lv_iload_n hx hb dX8_help_57 rfl (lv_at hl 4 rfl) ?_
          refine lv_iload_n hx hb dX8_help_58 rfl (lv_at hl 2 rfl) ?_
          refine lv_i2l (v := x.toInt64) hx hb dX8_help_59 rfl ?_
          refine qh_runV (As := [.int 3, .int y, .int q, .long (x.toInt64)]) (rest := []) (C := RX8) ⟨hx, hb, hml, hown, hts⟩ hK hH (c_X8_act_full l G z M E tr lf (hM) b_0 ln 3 y q (x.toInt64) (⟨hl9, by omega⟩) b_13) (cwV 4 hts gX8_help_X8_act rfl rfl rfl (by decide +kernel) (by rw [hRf, hRl]; exact ⟨Nat.le_of_ble_eq_true rfl, Nat.le_of_ble_eq_true rfl⟩)) (by omega) b_0 rfl rfl hl.1 rfl (Nat.le_of_ble_eq_true rfl) dX8_help_60 ⟨Nat.zero_le _, Nat.zero_le _⟩ (qh_kki fun r_60 E_4 H locs hpost hH => ?_)
          obtain ⟨rfl, rfl⟩ := hpost
          refine lv_istore (lv' := [(6, .int (-4)), (5, .int (rfR n y q)), (0, .ref (z + 0)), (1, .int x), (2, .int y), (3, .int q), (4, .int w)]) hx hb dX8_help_63 hl (by decide) rfl (fun ls hl => ?_)
          refine lv_iload hx hb dX8_help_65 (lv_at hl 0 rfl) ?_
          refine lv_if_ge (tgt := 75) hx hb dX8_help_67 (by decide) (fun c_67 => ?_) (fun c_67 => ?_)
          · exact absurd c_67 (by decide)
          · refine lv_iload hx hb dX8_help_70 (lv_at hl 0 rfl) ?_
            refine lv_goto (tgt := 84) hx hb dX8_help_72 (by decide) ?_
            exact hret dX8_help_84 hH (by rw [hD]; exact ⟨rfl, ⟨_, _, _, _, _, _, _, _, _, _, _, _, _, _, _, _, b_0, b_1, b_2, b_3, b_4, b_5, b_6, b_7, b_8, b_9, b_10, b_11, b_12, b_13, b_14, b_39, b_40, b_41, b_42, b_43, b_44, b_45, b_46, b_47, b_48, b_49, b_50, b_51, b_52, b_53, b_54, hacts, hsh⟩, (fun _ _ => rfl)⟩)
      · refine lv_iload hx hb dX8_help_35 (lv_at hl 5 rfl) ?_
        refine lv_iconst (v := 1) hx hb dX8_help_37 (by decide) ?_
        refine lv_icmp_eq (tgt := 44) hx hb dX8_help_38 (by decide) (fun c_38 => ?_) (fun c_38 => ?_)
        · have hD : helD n m2 ln x y q w = some (-4) := by rw [helD, if_pos hhas, if_pos c_24, if_pos (Or.inr c_38), if_neg (Nat.not_lt.mpr hl9)]
          refine lv_aload_n hx hb dX8_help_44 rfl (lv_at hl 1 rfl) ?_
          refine lv_iload hx hb dX8_help_45 (lv_at hl 5 rfl) ?_
          refine lv_iconst (v := 1) hx hb dX8_help_47 (by decide) ?_
          refine lv_icmp_ne (tgt := 55) hx hb dX8_help_48 (by decide) (fun c_48 => ?_) (fun c_48 => ?_)
          · have hsw : (if w = 1 then (3 : Int32) else 4) = 4 := if_neg c_48
            refine lv_iconst (v := 4) hx hb dX8_help_55 (by decide) ?_
            refine lv_iload_n hx hb dX8_help_56 rfl (lv_at hl 3 rfl) ?_
            refine lv_iload_n hx hb dX8_help_57 rfl (lv_at hl 4 rfl) ?_
            refine lv_iload_n hx hb dX8_help_58 rfl (lv_at hl 2 rfl) ?_
            refine lv_i2l (v := x.toInt64) hx hb dX8_help_59 rfl ?_
            refine qh_runV (As := [.int 4, .int y, .int q, .long (x.toInt64)]) (rest := []) (C := RX8) ⟨hx, hb, hml, hown, hts⟩ hK hH (c_X8_act_full l G z M E tr lf (hM) b_0 ln 4 y q (x.toInt64) (⟨hl9, by omega⟩) b_13) (cwV 4 hts gX8_help_X8_act rfl rfl rfl (by decide +kernel) (by rw [hRf, hRl]; exact ⟨Nat.le_of_ble_eq_true rfl, Nat.le_of_ble_eq_true rfl⟩)) (by omega) b_0 rfl rfl hl.1 rfl (Nat.le_of_ble_eq_true rfl) dX8_help_60 ⟨Nat.zero_le _, Nat.zero_le _⟩ (qh_kki fun r_60 E_5 H locs hpost hH => ?_)
            obtain ⟨rfl, rfl⟩ := hpost
            refine lv_istore (lv' := [(6, .int (-4)), (5, .int (rfR n y q)), (0, .ref (z + 0)), (1, .int x), (2, .int y), (3, .int q), (4, .int w)]) hx hb dX8_help_63 hl (by decide) rfl (fun ls hl => ?_)
            refine lv_iload hx hb dX8_help_65 (lv_at hl 0 rfl) ?_
            refine lv_if_ge (tgt := 75) hx hb dX8_help_67 (by decide) (fun c_67 => ?_) (fun c_67 => ?_)
            · exact absurd c_67 (by decide)
            · refine lv_iload hx hb dX8_help_70 (lv_at hl 0 rfl) ?_
              refine lv_goto (tgt := 84) hx hb dX8_help_72 (by decide) ?_
              exact hret dX8_help_84 hH (by rw [hD]; exact ⟨rfl, ⟨_, _, _, _, _, _, _, _, _, _, _, _, _, _, _, _, b_0, b_1, b_2, b_3, b_4, b_5, b_6, b_7, b_8, b_9, b_10, b_11, b_12, b_13, b_14, b_39, b_40, b_41, b_42, b_43, b_44, b_45, b_46, b_47, b_48, b_49, b_50, b_51, b_52, b_53, b_54, hacts, hsh⟩, (fun _ _ => rfl)⟩)
          · have hsw : (if w = 1 then (3 : Int32) else 4) = 3 := if_pos c_48
            refine lv_iconst (v := 3) hx hb dX8_help_51 (by decide) ?_
            refine lv_goto (tgt := 56) hx hb dX8_help_52 (by decide) ?_
            refine lv_iload_n hx hb dX8_help_56 rfl (lv_at hl 3 rfl) ?_
            refine lv_iload_n hx hb dX8_help_57 rfl (lv_at hl 4 rfl) ?_
            refine lv_iload_n hx hb dX8_help_58 rfl (lv_at hl 2 rfl) ?_
            refine lv_i2l (v := x.toInt64) hx hb dX8_help_59 rfl ?_
            refine qh_runV (As := [.int 3, .int y, .int q, .long (x.toInt64)]) (rest := []) (C := RX8) ⟨hx, hb, hml, hown, hts⟩ hK hH (c_X8_act_full l G z M E tr lf (hM) b_0 ln 3 y q (x.toInt64) (⟨hl9, by omega⟩) b_13) (cwV 4 hts gX8_help_X8_act rfl rfl rfl (by decide +kernel) (by rw [hRf, hRl]; exact ⟨Nat.le_of_ble_eq_true rfl, Nat.le_of_ble_eq_true rfl⟩)) (by omega) b_0 rfl rfl hl.1 rfl (Nat.le_of_ble_eq_true rfl) dX8_help_60 ⟨Nat.zero_le _, Nat.zero_le _⟩ (qh_kki fun r_60 E_6 H locs hpost hH => ?_)
            obtain ⟨rfl, rfl⟩ := hpost
            refine lv_istore (lv' := [(6, .int (-4)), (5, .int (rfR n y q)), (0, .ref (z + 0)), (1, .int x), (2, .int y), (3, .int q), (4, .int w)]) hx hb dX8_help_63 hl (by decide) rfl (fun ls hl => ?_)
            refine lv_iload hx hb dX8_help_65 (lv_at hl 0 rfl) ?_
            refine lv_if_ge (tgt := 75) hx hb dX8_help_67 (by decide) (fun c_67 => ?_) (fun c_67 => ?_)
            · exact absurd c_67 (by decide)
            · refine lv_iload hx hb dX8_help_70 (lv_at hl 0 rfl) ?_
              refine lv_goto (tgt := 84) hx hb dX8_help_72 (by decide) ?_
              exact hret dX8_help_84 hH (by rw [hD]; exact ⟨rfl, ⟨_, _, _, _, _, _, _, _, _, _, _, _, _, _, _, _, b_0, b_1, b_2, b_3, b_4, b_5, b_6, b_7, b_8, b_9, b_10, b_11, b_12, b_13, b_14, b_39, b_40, b_41, b_42, b_43, b_44, b_45, b_46, b_47, b_48, b_49, b_50, b_51, b_52, b_53, b_54, hacts, hsh⟩, (fun _ _ => rfl)⟩)
        · have hD : helD n m2 ln x y q w = some (-2) := by rw [helD, if_pos hhas, if_pos c_24, if_neg (fun u => u.elim c_32 c_38)]
          refine lv_bipush (v := (-2)) hx hb dX8_help_41 (by decide) ?_
          exact hret dX8_help_43 hH (by rw [hD]; exact ⟨rfl, ⟨_, _, _, _, _, _, _, _, _, _, _, _, _, _, _, _, b_0, b_1, b_2, b_3, b_4, b_5, b_6, b_7, b_8, b_9, b_10, b_11, b_12, b_13, b_14, b_39, b_40, b_41, b_42, b_43, b_44, b_45, b_46, b_47, b_48, b_49, b_50, b_51, b_52, b_53, b_54, hacts, hsh⟩, (fun _ _ => rfl)⟩)
    · have hD : helD n m2 ln x y q w = some (rfR n y q) := by rw [helD, if_pos hhas, if_neg c_24]
      refine lv_iload hx hb dX8_help_27 (lv_at hl 0 rfl) ?_
      exact hret dX8_help_29 hH (by rw [hD]; exact ⟨rfl, ⟨_, _, _, _, _, _, _, _, _, _, _, _, _, _, _, _, b_0, b_1, b_2, b_3, b_4, b_5, b_6, b_7, b_8, b_9, b_10, b_11, b_12, b_13, b_14, b_39, b_40, b_41, b_42, b_43, b_44, b_45, b_46, b_47, b_48, b_49, b_50, b_51, b_52, b_53, b_54, hacts, hsh⟩, (fun _ _ => rfl)⟩)
  · have c_9 := bI_eq.mp c_9
    have hhas := (not_congr (hlp_has hm3)).mp c_9
    have hD : helD n m2 ln x y q w = some (-1) := by rw [helD, if_neg hhas]
    refine lv_iconst (v := (-1)) hx hb dX8_help_12 (by decide) ?_
    exact hret dX8_help_13 hH (by rw [hD]; exact ⟨rfl, ⟨_, _, _, _, _, _, _, _, _, _, _, _, _, _, _, _, b_0, b_1, b_2, b_3, b_4, b_5, b_6, b_7, b_8, b_9, b_10, b_11, b_12, b_13, b_14, b_39, b_40, b_41, b_42, b_43, b_44, b_45, b_46, b_47, b_48, b_49, b_50, b_51, b_52, b_53, b_54, hacts, hsh⟩, (fun _ _ => rfl)⟩)

set_option maxHeartbeats 1000000 in
set_option maxRecDepth 100000 in
theorem c_X8_fresh (l : Launch) (G : qh_G) (z M : Nat) (E : Nat → va_E) (tr : Int32) (lf : Int32) (n : Nat) (f : Nat → Int64) (g : Nat → Int64) (bf : Nat → Int64) (m2 : Nat) (kd : Nat → Int32) (pa : Nat → Int32) (ln : Nat) (ts : Nat → Int32) (ga : Nat → Nat) (gb : Nat → Nat) (va : Nat → Int64) (rn : Nat) (cn : Nat → Nat) (vs : Nat → Int64) (hr : Nat → Int32) (la : Nat → Int32) (lg : Nat → Nat) (sc : Nat → Nat → Int32) (hM : 84 ≤ M) (hX : XE G z E tr lf n f g bf m2 kd pa ln ts ga gb va rn cn vs hr la lg sc) (hW : XW n m2 ln rn ga gb cn lg hr) : Met l yX8_fresh wsX8_fresh (qh_R 4) (qh_Pre G z M E [.ref (z + 0)]) (qh_Q G z M (qh_i (fun r E' => match freD n with | some d => r = d ∧ XE G z E' tr lf n f g bf m2 kd pa ln ts ga gb va rn cn vs hr la lg sc ∧ ∀ x9, 63 ≤ x9 → E' x9 = E x9 | none => r = nI ln ∧ XE G z E' tr lf n f f f m2 kd pa 0 ts ga gb va rn cn vs hr la lg sc ∧ ∀ x9, 63 ≤ x9 → E' x9 = E x9))) 0 0 (fun q => z ≤ q) := by
  refine qh_metI (cc := cX8_fresh) (maxL := 2) (by decide) rfl (Nat.le_of_ble_eq_true rfl) ?_
  intro pZ eZ sZ mZ aZ bZ tZ cZ RR QQ ls hx hb hml hown hts hRf hRl hH hK hl hret
  have hown : sZ.vm.findClass RX8 = some mZ.cls := hown
  have hl : lv_has ls 2 [(0, .ref (z + 0))] := hl
  obtain ⟨tc, dg, hn0, tk, tp, gn, gk, gp, t0, a0, b0, v0, bg, tn, tf, tg, b_0, b_1, b_2, b_3, b_4, b_5, b_6, b_7, b_8, b_9, b_10, b_11, b_12, b_13, b_14, b_39, b_40, b_41, b_42, b_43, b_44, b_45, b_46, b_47, b_48, b_49, b_50, b_51, b_52, b_53, b_54, hacts, hsh⟩ := hX
  obtain ⟨⟨hn16, hm3, hl24, hr8⟩, hval, hcn, hlg, hhr⟩ := hW
  have in_X8 : ∀ w ∈ wsX80, w ∈ wsX8_fresh := fun w h => List.mem_cons_of_mem _ (List.mem_append_left _ (List.mem_append_left _ (List.mem_append_right _ h)))
  have in_X2 : ∀ w ∈ wsX20, w ∈ wsX8_fresh := fun w h => List.mem_cons_of_mem _ (List.mem_append_left _ (List.mem_append_right _ h))
  have f_51 : qh_F G sZ mZ aZ 51 8 6 := qh_F.of hts in_X8 hown hK rfl 6 (by decide) (by decide +kernel)
  have f_37 : qh_F G sZ mZ aZ 37 8 4 := qh_F.of hts in_X8 hown hK rfl 4 (by decide) (by decide +kernel)
  have f_135 : qh_F G sZ mZ aZ 135 2 0 := qh_F.of hts in_X2 hown hK rfl 0 (by decide) (by decide +kernel)
  refine lv_aload_n hx hb dX8_fresh_0 rfl (lv_at hl 0 rfl) ?_
  refine qh_get hx hb hH f_51 (by omega) b_0 rfl dX8_fresh_1 ?_
  refine qh_runV (As := []) (rest := []) (C := RX3) ⟨hx, hb, hml, hown, hts⟩ hK hH (c_X3_areThere l G z M E 40 (by omega) (nI n) (.ref (z + 41)) (.ref (z + 42)) b_40) (cwV 0 hts gX8_fresh_X3_areThere rfl rfl rfl (by decide +kernel) (by rw [hRf, hRl]; exact ⟨Nat.le_of_ble_eq_true rfl, Nat.le_of_ble_eq_true rfl⟩)) (by omega) b_40 rfl rfl hl.1 rfl (Nat.le_of_ble_eq_true rfl) dX8_fresh_4 ⟨Nat.zero_le _, Nat.zero_le _⟩ (qh_kki fun r_4 E_1 H locs hpost hH => ?_)
  obtain ⟨rfl, rfl⟩ := hpost
  refine lv_if_ne (tgt := 13) hx hb dX8_fresh_7 (by decide) (fun c_7 => ?_) (fun c_7 => ?_)
  · have c_7 := bI_ne.mp c_7
    have hD : freD n = none := if_pos c_7
    refine lv_aload_n hx hb dX8_fresh_13 rfl (lv_at hl 0 rfl) ?_
    refine qh_get hx hb hH f_37 (by omega) b_0 rfl dX8_fresh_14 ?_
    refine qh_get hx hb hH f_135 (by omega) b_13 rfl dX8_fresh_17 ?_
    refine lv_istore_n (lv' := [(1, .int (nI ln)), (0, .ref (z + 0))]) hx hb dX8_fresh_20 rfl hl (by decide) rfl (fun ls hl => ?_)
    refine lv_aload_n hx hb dX8_fresh_21 rfl (lv_at hl 1 rfl) ?_
    refine qh_runV (As := []) (rest := []) (C := RX8) ⟨hx, hb, hml, hown, hts⟩ hK hH (c_X8_beginAgain l G z M E tr lf (hM) b_0 n f g bf bg (nI ln) (nI n) b_40 b_41 b_42 b_13 b_43 b_44 b_45) (cwV 0 hts gX8_fresh_X8_beginAgain rfl rfl rfl (by decide +kernel) (by rw [hRf, hRl]; exact ⟨Nat.le_of_ble_eq_true rfl, Nat.le_of_ble_eq_true rfl⟩)) (by omega) b_0 rfl rfl hl.1 rfl (Nat.le_of_ble_eq_true rfl) dX8_fresh_22 ⟨Nat.zero_le _, Nat.zero_le _⟩ (qh_kkv fun E_2 H locs hpost hH => ?_)
    obtain ⟨h_13, h_42, h_43, h_44, h_45, hfr⟩ := hpost
    have hF : ∀ x9, x9 ≠ 13 → x9 ≠ 42 → x9 ≠ 43 → x9 ≠ 44 → x9 ≠ 45 → E_2 x9 = E x9 := fun x9 a0 a1 a2 a3 a4 => hfr x9 a0 a1 a2 a3 a4
    refine lv_iload_n hx hb dX8_fresh_25 rfl (lv_at hl 0 rfl) ?_
    exact hret dX8_fresh_26 hH (by rw [hD]; exact ⟨rfl, ⟨_, _, _, _, _, _, _, _, _, _, _, _, _, _, _, _, ((hF 0 (by decide) (by decide) (by decide) (by decide) (by decide)).trans b_0), ((hF 1 (by decide) (by decide) (by decide) (by decide) (by decide)).trans b_1), ((hF 2 (by decide) (by decide) (by decide) (by decide) (by decide)).trans b_2), ((hF 3 (by decide) (by decide) (by decide) (by decide) (by decide)).trans b_3), ((hF 4 (by decide) (by decide) (by decide) (by decide) (by decide)).trans b_4), ((hF 5 (by decide) (by decide) (by decide) (by decide) (by decide)).trans b_5), ((hF 6 (by decide) (by decide) (by decide) (by decide) (by decide)).trans b_6), ((hF 7 (by decide) (by decide) (by decide) (by decide) (by decide)).trans b_7), ((hF 8 (by decide) (by decide) (by decide) (by decide) (by decide)).trans b_8), ((hF 9 (by decide) (by decide) (by decide) (by decide) (by decide)).trans b_9), ((hF 10 (by decide) (by decide) (by decide) (by decide) (by decide)).trans b_10), ((hF 11 (by decide) (by decide) (by decide) (by decide) (by decide)).trans b_11), ((hF 12 (by decide) (by decide) (by decide) (by decide) (by decide)).trans b_12), h_13, ((hF 14 (by decide) (by decide) (by decide) (by decide) (by decide)).trans b_14), ((hF 39 (by decide) (by decide) (by decide) (by decide) (by decide)).trans b_39), ((hF 40 (by decide) (by decide) (by decide) (by decide) (by decide)).trans b_40), ((hF 41 (by decide) (by decide) (by decide) (by decide) (by decide)).trans b_41), h_42, h_43, h_44, h_45, ((hF 46 (by decide) (by decide) (by decide) (by decide) (by decide)).trans b_46), ((hF 47 (by decide) (by decide) (by decide) (by decide) (by decide)).trans b_47), ((hF 48 (by decide) (by decide) (by decide) (by decide) (by decide)).trans b_48), ((hF 49 (by decide) (by decide) (by decide) (by decide) (by decide)).trans b_49), ((hF 50 (by decide) (by decide) (by decide) (by decide) (by decide)).trans b_50), ((hF 51 (by decide) (by decide) (by decide) (by decide) (by decide)).trans b_51), ((hF 52 (by decide) (by decide) (by decide) (by decide) (by decide)).trans b_52), ((hF 53 (by decide) (by decide) (by decide) (by decide) (by decide)).trans b_53), ((hF 54 (by decide) (by decide) (by decide) (by decide) (by decide)).trans b_54), (fun t ht => (hF (15 + t) (by omega) (by omega) (by omega) (by omega) (by omega)).trans (hacts t ht)), (fun k hk => ⟨(hF (55 + 2 * k) (by omega) (by omega) (by omega) (by omega) (by omega)).trans (hsh k hk).1, (hF (56 + 2 * k) (by omega) (by omega) (by omega) (by omega) (by omega)).trans (hsh k hk).2⟩)⟩, (fun x9 h9 => hF x9 (by omega) (by omega) (by omega) (by omega) (by omega))⟩)
  · have c_7 := bI_eq.mp c_7
    have hD : freD n = some (-3) := if_neg c_7
    refine lv_bipush (v := (-3)) hx hb dX8_fresh_10 (by decide) ?_
    exact hret dX8_fresh_12 hH (by rw [hD]; exact ⟨rfl, ⟨_, _, _, _, _, _, _, _, _, _, _, _, _, _, _, _, b_0, b_1, b_2, b_3, b_4, b_5, b_6, b_7, b_8, b_9, b_10, b_11, b_12, b_13, b_14, b_39, b_40, b_41, b_42, b_43, b_44, b_45, b_46, b_47, b_48, b_49, b_50, b_51, b_52, b_53, b_54, hacts, hsh⟩, (fun _ _ => rfl)⟩)

set_option maxHeartbeats 1000000 in
set_option maxRecDepth 100000 in
theorem c_X8_kinds (l : Launch) (G : qh_G) (z M : Nat) (E : Nat → va_E) (tr : Int32) (lf : Int32) (n : Nat) (f : Nat → Int64) (g : Nat → Int64) (bf : Nat → Int64) (m2 : Nat) (kd : Nat → Int32) (pa : Nat → Int32) (ln : Nat) (ts : Nat → Int32) (ga : Nat → Nat) (gb : Nat → Nat) (va : Nat → Int64) (rn : Nat) (cn : Nat → Nat) (vs : Nat → Int64) (hr : Nat → Int32) (la : Nat → Int32) (lg : Nat → Nat) (sc : Nat → Nat → Int32) (hM : 84 ≤ M) (hX : XE G z E tr lf n f g bf m2 kd pa ln ts ga gb va rn cn vs hr la lg sc) (hW : XW n m2 ln rn ga gb cn lg hr) (x : Int32) : Met l yX8_kinds wsX8_kinds (qh_R 5) (qh_Pre G z M E [.ref (z + 0), .int x]) (qh_Q G z M (qh_i (fun r E' => r = (if ¬ x < 0 ∧ x < nI m2 then setR (fun q => allR (fun s => decide (repF bf m2 (upd kd x.toNatClampNeg (nI q)) (upd pa x.toNatClampNeg (pa x.toNatClampNeg)) ts ga gb va ln (cn s) = vs s)) rn) 3 else -1) ∧ XE G z E' tr lf n f g bf m2 kd pa ln ts ga gb va rn cn vs hr la lg sc ∧ ∀ x9, 63 ≤ x9 → E' x9 = E x9))) 0 0 (fun q => z ≤ q) := by
  refine qh_metI (cc := cX8_kinds) (maxL := 4) (by decide) rfl (Nat.le_of_ble_eq_true rfl) ?_
  intro pZ eZ sZ mZ aZ bZ tZ cZ RR QQ ls hx hb hml hown hts hRf hRl hH hK hl hret
  have hown : sZ.vm.findClass RX8 = some mZ.cls := hown
  have hl : lv_has ls 4 [(0, .ref (z + 0)), (1, .int x)] := hl
  obtain ⟨tc, dg, hn0, tk, tp, gn, gk, gp, t0, a0, b0, v0, bg, tn, tf, tg, b_0, b_1, b_2, b_3, b_4, b_5, b_6, b_7, b_8, b_9, b_10, b_11, b_12, b_13, b_14, b_39, b_40, b_41, b_42, b_43, b_44, b_45, b_46, b_47, b_48, b_49, b_50, b_51, b_52, b_53, b_54, hacts, hsh⟩ := hX
  obtain ⟨⟨hn16, hm3, hl24, hr8⟩, hval, hcn, hlg, hhr⟩ := hW
  have in_X8 : ∀ w ∈ wsX80, w ∈ wsX8_kinds := fun w h => List.mem_cons_of_mem _ (List.mem_append_left _ (List.mem_append_left _ (List.mem_append_left _ (List.mem_append_left _ (List.mem_append_left _ (List.mem_append_right _ h))))))
  have in_X1 : ∀ w ∈ wsX10, w ∈ wsX8_kinds := fun w h => List.mem_cons_of_mem _ (List.mem_append_left _ (List.mem_append_left _ (List.mem_append_left _ (List.mem_append_left _ (List.mem_append_right _ h)))))
  have f_27 : qh_F G sZ mZ aZ 27 8 2 := qh_F.of hts in_X8 hown hK rfl 2 (by decide) (by decide +kernel)
  have f_149 : qh_F G sZ mZ aZ 149 1 2 := qh_F.of hts in_X1 hown hK rfl 2 (by decide) (by decide +kernel)
  refine lv_aload_n hx hb dX8_kinds_0 rfl (lv_at hl 0 rfl) ?_
  refine qh_get hx hb hH f_27 (by omega) b_0 rfl dX8_kinds_1 ?_
  refine lv_iload_n hx hb dX8_kinds_4 rfl (lv_at hl 1 rfl) ?_
  refine lv_i2l (v := x.toInt64) hx hb dX8_kinds_5 rfl ?_
  refine qh_runV (As := [.long (x.toInt64)]) (rest := []) (C := RX1) ⟨hx, hb, hml, hown, hts⟩ hK hH (c_X1_has l G z M E 7 (by omega) (nI m2) (.ref (z + 8)) (.ref (z + 9)) (x.toInt64) b_7) (cwV 1 hts gX8_kinds_X1_has rfl rfl rfl (by decide +kernel) (by rw [hRf, hRl]; exact ⟨Nat.le_of_ble_eq_true rfl, Nat.le_of_ble_eq_true rfl⟩)) (by omega) b_7 rfl rfl hl.1 rfl (Nat.le_of_ble_eq_true rfl) dX8_kinds_6 ⟨Nat.zero_le _, Nat.zero_le _⟩ (qh_kki fun r_6 E_1 H locs hpost hH => ?_)
  obtain ⟨rfl, rfl⟩ := hpost
  refine lv_if_ne (tgt := 14) hx hb dX8_kinds_9 (by decide) (fun c_9 => ?_) (fun c_9 => ?_)
  · have c_9 := bI_ne.mp c_9
    have hhas := (hlp_has hm3).mp c_9
    obtain ⟨t, ht, et⟩ := nI_of_in (by omega) hhas
    have ec : x.toNatClampNeg = t := by rw [et]; exact nI_clamp (by omega)
    have hl : lv_has ls 4 [(0, .ref (z + 0)), (1, .int (nI t))] := by rw [← et]; exact hl
    refine lv_iconst (v := 0) hx hb dX8_kinds_14 (by decide) ?_
    refine lv_istore_n (lv' := [(2, .int 0), (0, .ref (z + 0)), (1, .int (nI t))]) hx hb dX8_kinds_15 rfl hl (by decide) rfl (fun ls hl => ?_)
    refine lv_iconst (v := 0) hx hb dX8_kinds_16 (by decide) ?_
    refine lv_istore_n (lv' := [(3, .int 0), (2, .int 0), (0, .ref (z + 0)), (1, .int (nI t))]) hx hb dX8_kinds_17 rfl hl (by decide) rfl (fun ls hl => ?_)
    have L_18 : ∀ fu : Nat, ∀ q : Nat, ∀ gn1 : Int32, ∀ gk1 : Nat → Int32, ∀ gp1 : Nat → Int32, ∀ tn1 : Int32, ∀ tf1 : Nat → Int64, ∀ tg1 : Nat → Int64, (q ≤ 3) → (3 - q < fu) → ∀ Ek : Nat → va_E, Ek 10 = .inr (1, [.int gn1, .ref (z + 11), .ref (z + 12)]) → Ek 11 = qa_I G 3 gk1 → Ek 12 = qa_I G 3 gp1 → Ek 46 = .inr (3, [.int tn1, .ref (z + 47), .ref (z + 48)]) → Ek 47 = qa_J G 16 tf1 → Ek 48 = qa_J G 16 tg1 → (∀ x9, x9 ≠ 10 → x9 ≠ 11 → x9 ≠ 12 → x9 ≠ 46 → x9 ≠ 47 → x9 ≠ 48 → Ek x9 = E x9) → ∀ (H : Heap) (locs : List Loc), qh_H G z M Ek sZ.heap H locs → ∀ ls : Array Slot, lv_has ls 4 [(0, .ref (z + 0)), (1, .int (nI t)), (2, .int (setR (fun q => allR (fun s => decide (repF bf m2 (upd kd t (nI q)) (upd pa t (pa t)) ts ga gb va ln (cn s) = vs s)) rn) q)), (3, .int (nI q))] → W pZ l eZ RR sZ mZ aZ bZ tZ cZ H locs 0 0 QQ (F0 mZ 18 ls []) := by
      intro fu
      induction fu with
      | zero =>
        intro q gn1 gk1 gp1 tn1 tf1 tg1 hq hfuel
        exact absurd hfuel (by omega)
      | succ fu ih =>
        intro q gn1 gk1 gp1 tn1 tf1 tg1 hq hfuel Ek h_10 h_11 h_12 h_46 h_47 h_48 hF H locs hH ls hl
        refine lv_iload_n hx hb dX8_kinds_18 rfl (lv_at hl 3 rfl) ?_
        refine lv_iconst (v := 2) hx hb dX8_kinds_19 (by decide) ?_
        refine lv_icmp_gt (tgt := 53) hx hb dX8_kinds_20 (by decide) (fun c_20 => ?_) (fun c_20 => ?_)
        · have hk : 2 < q := (nI_ltI (by omega) (by omega)).mp c_20
          have hex : 3 = q := by omega
          subst hex
          refine lv_iload_n hx hb dX8_kinds_53 rfl (lv_at hl 2 rfl) ?_
          exact hret dX8_kinds_54 hH (⟨by rw [if_pos hhas, ec], ⟨_, _, _, _, _, _, _, _, _, _, _, _, _, _, _, _, ((hF 0 (by decide) (by decide) (by decide) (by decide) (by decide) (by decide)).trans b_0), ((hF 1 (by decide) (by decide) (by decide) (by decide) (by decide) (by decide)).trans b_1), ((hF 2 (by decide) (by decide) (by decide) (by decide) (by decide) (by decide)).trans b_2), ((hF 3 (by decide) (by decide) (by decide) (by decide) (by decide) (by decide)).trans b_3), ((hF 4 (by decide) (by decide) (by decide) (by decide) (by decide) (by decide)).trans b_4), ((hF 5 (by decide) (by decide) (by decide) (by decide) (by decide) (by decide)).trans b_5), ((hF 6 (by decide) (by decide) (by decide) (by decide) (by decide) (by decide)).trans b_6), ((hF 7 (by decide) (by decide) (by decide) (by decide) (by decide) (by decide)).trans b_7), ((hF 8 (by decide) (by decide) (by decide) (by decide) (by decide) (by decide)).trans b_8), ((hF 9 (by decide) (by decide) (by decide) (by decide) (by decide) (by decide)).trans b_9), h_10, h_11, h_12, ((hF 13 (by decide) (by decide) (by decide) (by decide) (by decide) (by decide)).trans b_13), ((hF 14 (by decide) (by decide) (by decide) (by decide) (by decide) (by decide)).trans b_14), ((hF 39 (by decide) (by decide) (by decide) (by decide) (by decide) (by decide)).trans b_39), ((hF 40 (by decide) (by decide) (by decide) (by decide) (by decide) (by decide)).trans b_40), ((hF 41 (by decide) (by decide) (by decide) (by decide) (by decide) (by decide)).trans b_41), ((hF 42 (by decide) (by decide) (by decide) (by decide) (by decide) (by decide)).trans b_42), ((hF 43 (by decide) (by decide) (by decide) (by decide) (by decide) (by decide)).trans b_43), ((hF 44 (by decide) (by decide) (by decide) (by decide) (by decide) (by decide)).trans b_44), ((hF 45 (by decide) (by decide) (by decide) (by decide) (by decide) (by decide)).trans b_45), h_46, h_47, h_48, ((hF 49 (by decide) (by decide) (by decide) (by decide) (by decide) (by decide)).trans b_49), ((hF 50 (by decide) (by decide) (by decide) (by decide) (by decide) (by decide)).trans b_50), ((hF 51 (by decide) (by decide) (by decide) (by decide) (by decide) (by decide)).trans b_51), ((hF 52 (by decide) (by decide) (by decide) (by decide) (by decide) (by decide)).trans b_52), ((hF 53 (by decide) (by decide) (by decide) (by decide) (by decide) (by decide)).trans b_53), ((hF 54 (by decide) (by decide) (by decide) (by decide) (by decide) (by decide)).trans b_54), (fun t ht => (hF (15 + t) (by omega) (by omega) (by omega) (by omega) (by omega) (by omega)).trans (hacts t ht)), (fun k hk => ⟨(hF (55 + 2 * k) (by omega) (by omega) (by omega) (by omega) (by omega) (by omega)).trans (hsh k hk).1, (hF (56 + 2 * k) (by omega) (by omega) (by omega) (by omega) (by omega) (by omega)).trans (hsh k hk).2⟩)⟩, (fun x9 h9 => hF x9 (by omega) (by omega) (by omega) (by omega) (by omega) (by omega))⟩)
        · have hk : ¬ 2 < q := fun w => c_20 (nI_lt w (by omega))
          refine lv_aload_n hx hb dX8_kinds_23 rfl (lv_at hl 0 rfl) ?_
          refine lv_iload_n hx hb dX8_kinds_24 rfl (lv_at hl 1 rfl) ?_
          refine lv_iload_n hx hb dX8_kinds_25 rfl (lv_at hl 3 rfl) ?_
          refine lv_aload_n hx hb dX8_kinds_26 rfl (lv_at hl 0 rfl) ?_
          refine qh_get hx hb hH f_27 (by omega) ((hF 0 (by decide) (by decide) (by decide) (by decide) (by decide) (by decide)).trans b_0) rfl dX8_kinds_27 ?_
          refine qh_get hx hb hH f_149 (by omega) ((hF 7 (by decide) (by decide) (by decide) (by decide) (by decide) (by decide)).trans b_7) rfl dX8_kinds_30 ?_
          refine lv_iload_n hx hb dX8_kinds_33 rfl (lv_at hl 1 rfl) ?_
          refine qh_iald hx hb hK hH (by omega) ((hF 9 (by decide) (by decide) (by decide) (by decide) (by decide) (by decide)).trans b_9) (j := t) (rfl) (by omega) (by omega) dX8_kinds_34 ?_
          refine qh_runV (As := [.int (nI t), .int (nI q), .int (pa t)]) (rest := []) (C := RX8) ⟨hx, hb, hml, hown, hts⟩ hK hH (c_X8_fits l G z M Ek tr lf (hM) ((hF 0 (by decide) (by decide) (by decide) (by decide) (by decide) (by decide)).trans b_0) n m2 ln rn t bf bg tf1 tg1 vs kd pa gk1 gp1 _ _ _ _ _ gn1 tn1 (nI q) (pa t) (⟨by omega, by omega, by omega, by omega⟩) (ht) (hval) (hcn) ((fun t ht => (hF (15 + t) (by omega) (by omega) (by omega) (by omega) (by omega) (by omega)).trans (hacts t ht))) ((hF 7 (by decide) (by decide) (by decide) (by decide) (by decide) (by decide)).trans b_7) ((hF 8 (by decide) (by decide) (by decide) (by decide) (by decide) (by decide)).trans b_8) ((hF 9 (by decide) (by decide) (by decide) (by decide) (by decide) (by decide)).trans b_9) h_10 h_11 h_12 ((hF 13 (by decide) (by decide) (by decide) (by decide) (by decide) (by decide)).trans b_13) ((hF 14 (by decide) (by decide) (by decide) (by decide) (by decide) (by decide)).trans b_14) ((hF 43 (by decide) (by decide) (by decide) (by decide) (by decide) (by decide)).trans b_43) ((hF 44 (by decide) (by decide) (by decide) (by decide) (by decide) (by decide)).trans b_44) ((hF 45 (by decide) (by decide) (by decide) (by decide) (by decide) (by decide)).trans b_45) h_46 h_47 h_48 ((hF 52 (by decide) (by decide) (by decide) (by decide) (by decide) (by decide)).trans b_52) ((hF 53 (by decide) (by decide) (by decide) (by decide) (by decide) (by decide)).trans b_53) ((hF 54 (by decide) (by decide) (by decide) (by decide) (by decide) (by decide)).trans b_54)) (cwV 3 hts gX8_kinds_X8_fits rfl rfl rfl (by decide +kernel) (by rw [hRf, hRl]; exact ⟨Nat.le_of_ble_eq_true rfl, Nat.le_of_ble_eq_true rfl⟩)) (by omega) ((hF 0 (by decide) (by decide) (by decide) (by decide) (by decide) (by decide)).trans b_0) rfl rfl hl.1 rfl (Nat.le_of_ble_eq_true rfl) dX8_kinds_35 ⟨Nat.zero_le _, Nat.zero_le _⟩ (qh_kki fun r_35 E_2 H locs hpost hH => ?_)
          obtain ⟨rfl, h_10, h_11, h_12, h_46, h_47, h_48, hfr⟩ := hpost
          have hF : ∀ x9, x9 ≠ 10 → x9 ≠ 11 → x9 ≠ 12 → x9 ≠ 46 → x9 ≠ 47 → x9 ≠ 48 → E_2 x9 = E x9 := fun x9 a0 a1 a2 a3 a4 a5 => (hfr x9 a0 a1 a2 a3 a4 a5).trans (hF x9 a0 a1 a2 a3 a4 a5)
          refine lv_if_eq (tgt := 47) hx hb dX8_kinds_38 (by decide) (fun c_38 => ?_) (fun c_38 => ?_)
          · have c_38 := bI_eq.mp c_38
            refine lv_iinc (v := nI (q + 1)) (lv' := [(3, .int (nI (q + 1))), (0, .ref (z + 0)), (1, .int (nI t)), (2, .int (setR (fun q => allR (fun s => decide (repF bf m2 (upd kd t (nI q)) (upd pa t (pa t)) ts ga gb va ln (cn s) = vs s)) rn) q))]) hx hb dX8_kinds_47 hl (k := 3) rfl (qn_inc q) (by decide) rfl (fun ls hl => ?_)
            refine lv_goto (tgt := 18) hx hb dX8_kinds_50 (by decide) ?_
            rw [← set_n (p := (fun q => allR (fun s => decide (repF bf m2 (upd kd t (nI q)) (upd pa t (pa t)) ts ga gb va ln (cn s) = vs s)) rn)) c_38] at hl
            exact ih (q + 1) _ _ _ _ _ _ (by omega) (by omega) E_2 h_10 h_11 h_12 h_46 h_47 h_48 (fun x9 a0 a1 a2 a3 a4 a5 => hF x9 a0 a1 a2 a3 a4 a5) _ _ hH ls (lv_sub hl [1, 2, 3, 0] rfl)
          · have c_38 := bI_ne.mp c_38
            refine lv_iload_n hx hb dX8_kinds_41 rfl (lv_at hl 2 rfl) ?_
            refine lv_iconst (v := 1) hx hb dX8_kinds_42 (by decide) ?_
            refine lv_iload_n hx hb dX8_kinds_43 rfl (lv_at hl 3 rfl) ?_
            refine lv_ishl hx hb dX8_kinds_44 ?_
            refine lv_ior hx hb dX8_kinds_45 ?_
            refine lv_istore_n (lv' := [(2, .int ((setR (fun q => allR (fun s => decide (repF bf m2 (upd kd t (nI q)) (upd pa t (pa t)) ts ga gb va ln (cn s) = vs s)) rn) q) ||| (1 <<< ((nI q) &&& 31)))), (0, .ref (z + 0)), (1, .int (nI t)), (3, .int (nI q))]) hx hb dX8_kinds_46 rfl hl (by decide) rfl (fun ls hl => ?_)
            refine lv_iinc (v := nI (q + 1)) (lv' := [(3, .int (nI (q + 1))), (2, .int ((setR (fun q => allR (fun s => decide (repF bf m2 (upd kd t (nI q)) (upd pa t (pa t)) ts ga gb va ln (cn s) = vs s)) rn) q) ||| (1 <<< ((nI q) &&& 31)))), (0, .ref (z + 0)), (1, .int (nI t))]) hx hb dX8_kinds_47 hl (k := 3) rfl (qn_inc q) (by decide) rfl (fun ls hl => ?_)
            refine lv_goto (tgt := 18) hx hb dX8_kinds_50 (by decide) ?_
            rw [← set_y (p := (fun q => allR (fun s => decide (repF bf m2 (upd kd t (nI q)) (upd pa t (pa t)) ts ga gb va ln (cn s) = vs s)) rn)) c_38] at hl
            exact ih (q + 1) _ _ _ _ _ _ (by omega) (by omega) E_2 h_10 h_11 h_12 h_46 h_47 h_48 (fun x9 a0 a1 a2 a3 a4 a5 => hF x9 a0 a1 a2 a3 a4 a5) _ _ hH ls (lv_sub hl [2, 3, 1, 0] rfl)
    exact L_18 4 0 _ _ _ _ _ _ (Nat.zero_le _) (by omega) E b_10 b_11 b_12 b_46 b_47 b_48 (fun x9 a0 a1 a2 a3 a4 a5 => rfl) _ _ hH ls (lv_sub hl [2, 3, 1, 0] rfl)
  · have c_9 := bI_eq.mp c_9
    have hhas := (not_congr (hlp_has hm3)).mp c_9
    refine lv_iconst (v := (-1)) hx hb dX8_kinds_12 (by decide) ?_
    exact hret dX8_kinds_13 hH (⟨by rw [if_neg hhas], ⟨_, _, _, _, _, _, _, _, _, _, _, _, _, _, _, _, b_0, b_1, b_2, b_3, b_4, b_5, b_6, b_7, b_8, b_9, b_10, b_11, b_12, b_13, b_14, b_39, b_40, b_41, b_42, b_43, b_44, b_45, b_46, b_47, b_48, b_49, b_50, b_51, b_52, b_53, b_54, hacts, hsh⟩, (fun _ _ => rfl)⟩)

set_option maxHeartbeats 1000000 in
set_option maxRecDepth 100000 in
theorem c_X8_paces (l : Launch) (G : qh_G) (z M : Nat) (E : Nat → va_E) (tr : Int32) (lf : Int32) (n : Nat) (f : Nat → Int64) (g : Nat → Int64) (bf : Nat → Int64) (m2 : Nat) (kd : Nat → Int32) (pa : Nat → Int32) (ln : Nat) (ts : Nat → Int32) (ga : Nat → Nat) (gb : Nat → Nat) (va : Nat → Int64) (rn : Nat) (cn : Nat → Nat) (vs : Nat → Int64) (hr : Nat → Int32) (la : Nat → Int32) (lg : Nat → Nat) (sc : Nat → Nat → Int32) (hM : 84 ≤ M) (hX : XE G z E tr lf n f g bf m2 kd pa ln ts ga gb va rn cn vs hr la lg sc) (hW : XW n m2 ln rn ga gb cn lg hr) (x : Int32) : Met l yX8_paces wsX8_paces (qh_R 5) (qh_Pre G z M E [.ref (z + 0), .int x]) (qh_Q G z M (qh_i (fun r E' => r = (if ¬ x < 0 ∧ x < nI m2 then setR (fun q => allR (fun s => decide (repF bf m2 (upd kd x.toNatClampNeg (kd x.toNatClampNeg)) (upd pa x.toNatClampNeg (nI q)) ts ga gb va ln (cn s) = vs s)) rn) 10 else -1) ∧ XE G z E' tr lf n f g bf m2 kd pa ln ts ga gb va rn cn vs hr la lg sc ∧ ∀ x9, 63 ≤ x9 → E' x9 = E x9))) 0 0 (fun q => z ≤ q) := by
  refine qh_metI (cc := cX8_paces) (maxL := 4) (by decide) rfl (Nat.le_of_ble_eq_true rfl) ?_
  intro pZ eZ sZ mZ aZ bZ tZ cZ RR QQ ls hx hb hml hown hts hRf hRl hH hK hl hret
  have hown : sZ.vm.findClass RX8 = some mZ.cls := hown
  have hl : lv_has ls 4 [(0, .ref (z + 0)), (1, .int x)] := hl
  obtain ⟨tc, dg, hn0, tk, tp, gn, gk, gp, t0, a0, b0, v0, bg, tn, tf, tg, b_0, b_1, b_2, b_3, b_4, b_5, b_6, b_7, b_8, b_9, b_10, b_11, b_12, b_13, b_14, b_39, b_40, b_41, b_42, b_43, b_44, b_45, b_46, b_47, b_48, b_49, b_50, b_51, b_52, b_53, b_54, hacts, hsh⟩ := hX
  obtain ⟨⟨hn16, hm3, hl24, hr8⟩, hval, hcn, hlg, hhr⟩ := hW
  have in_X8 : ∀ w ∈ wsX80, w ∈ wsX8_paces := fun w h => List.mem_cons_of_mem _ (List.mem_append_left _ (List.mem_append_left _ (List.mem_append_left _ (List.mem_append_left _ (List.mem_append_left _ (List.mem_append_right _ h))))))
  have in_X1 : ∀ w ∈ wsX10, w ∈ wsX8_paces := fun w h => List.mem_cons_of_mem _ (List.mem_append_left _ (List.mem_append_left _ (List.mem_append_left _ (List.mem_append_left _ (List.mem_append_right _ h)))))
  have f_27 : qh_F G sZ mZ aZ 27 8 2 := qh_F.of hts in_X8 hown hK rfl 2 (by decide) (by decide +kernel)
  have f_146 : qh_F G sZ mZ aZ 146 1 1 := qh_F.of hts in_X1 hown hK rfl 1 (by decide) (by decide +kernel)
  refine lv_aload_n hx hb dX8_paces_0 rfl (lv_at hl 0 rfl) ?_
  refine qh_get hx hb hH f_27 (by omega) b_0 rfl dX8_paces_1 ?_
  refine lv_iload_n hx hb dX8_paces_4 rfl (lv_at hl 1 rfl) ?_
  refine lv_i2l (v := x.toInt64) hx hb dX8_paces_5 rfl ?_
  refine qh_runV (As := [.long (x.toInt64)]) (rest := []) (C := RX1) ⟨hx, hb, hml, hown, hts⟩ hK hH (c_X1_has l G z M E 7 (by omega) (nI m2) (.ref (z + 8)) (.ref (z + 9)) (x.toInt64) b_7) (cwV 1 hts gX8_paces_X1_has rfl rfl rfl (by decide +kernel) (by rw [hRf, hRl]; exact ⟨Nat.le_of_ble_eq_true rfl, Nat.le_of_ble_eq_true rfl⟩)) (by omega) b_7 rfl rfl hl.1 rfl (Nat.le_of_ble_eq_true rfl) dX8_paces_6 ⟨Nat.zero_le _, Nat.zero_le _⟩ (qh_kki fun r_6 E_1 H locs hpost hH => ?_)
  obtain ⟨rfl, rfl⟩ := hpost
  refine lv_if_ne (tgt := 14) hx hb dX8_paces_9 (by decide) (fun c_9 => ?_) (fun c_9 => ?_)
  · have c_9 := bI_ne.mp c_9
    have hhas := (hlp_has hm3).mp c_9
    obtain ⟨t, ht, et⟩ := nI_of_in (by omega) hhas
    have ec : x.toNatClampNeg = t := by rw [et]; exact nI_clamp (by omega)
    have hl : lv_has ls 4 [(0, .ref (z + 0)), (1, .int (nI t))] := by rw [← et]; exact hl
    refine lv_iconst (v := 0) hx hb dX8_paces_14 (by decide) ?_
    refine lv_istore_n (lv' := [(2, .int 0), (0, .ref (z + 0)), (1, .int (nI t))]) hx hb dX8_paces_15 rfl hl (by decide) rfl (fun ls hl => ?_)
    refine lv_iconst (v := 0) hx hb dX8_paces_16 (by decide) ?_
    refine lv_istore_n (lv' := [(3, .int 0), (2, .int 0), (0, .ref (z + 0)), (1, .int (nI t))]) hx hb dX8_paces_17 rfl hl (by decide) rfl (fun ls hl => ?_)
    have L_18 : ∀ fu : Nat, ∀ q : Nat, ∀ gn1 : Int32, ∀ gk1 : Nat → Int32, ∀ gp1 : Nat → Int32, ∀ tn1 : Int32, ∀ tf1 : Nat → Int64, ∀ tg1 : Nat → Int64, (q ≤ 10) → (10 - q < fu) → ∀ Ek : Nat → va_E, Ek 10 = .inr (1, [.int gn1, .ref (z + 11), .ref (z + 12)]) → Ek 11 = qa_I G 3 gk1 → Ek 12 = qa_I G 3 gp1 → Ek 46 = .inr (3, [.int tn1, .ref (z + 47), .ref (z + 48)]) → Ek 47 = qa_J G 16 tf1 → Ek 48 = qa_J G 16 tg1 → (∀ x9, x9 ≠ 10 → x9 ≠ 11 → x9 ≠ 12 → x9 ≠ 46 → x9 ≠ 47 → x9 ≠ 48 → Ek x9 = E x9) → ∀ (H : Heap) (locs : List Loc), qh_H G z M Ek sZ.heap H locs → ∀ ls : Array Slot, lv_has ls 4 [(0, .ref (z + 0)), (1, .int (nI t)), (2, .int (setR (fun q => allR (fun s => decide (repF bf m2 (upd kd t (kd t)) (upd pa t (nI q)) ts ga gb va ln (cn s) = vs s)) rn) q)), (3, .int (nI q))] → W pZ l eZ RR sZ mZ aZ bZ tZ cZ H locs 0 0 QQ (F0 mZ 18 ls []) := by
      intro fu
      induction fu with
      | zero =>
        intro q gn1 gk1 gp1 tn1 tf1 tg1 hq hfuel
        exact absurd hfuel (by omega)
      | succ fu ih =>
        intro q gn1 gk1 gp1 tn1 tf1 tg1 hq hfuel Ek h_10 h_11 h_12 h_46 h_47 h_48 hF H locs hH ls hl
        refine lv_iload_n hx hb dX8_paces_18 rfl (lv_at hl 3 rfl) ?_
        refine lv_bipush (v := 9) hx hb dX8_paces_19 (by decide) ?_
        refine lv_icmp_gt (tgt := 54) hx hb dX8_paces_21 (by decide) (fun c_21 => ?_) (fun c_21 => ?_)
        · have hk : 9 < q := (nI_ltI (by omega) (by omega)).mp c_21
          have hex : 10 = q := by omega
          subst hex
          refine lv_iload_n hx hb dX8_paces_54 rfl (lv_at hl 2 rfl) ?_
          exact hret dX8_paces_55 hH (⟨by rw [if_pos hhas, ec], ⟨_, _, _, _, _, _, _, _, _, _, _, _, _, _, _, _, ((hF 0 (by decide) (by decide) (by decide) (by decide) (by decide) (by decide)).trans b_0), ((hF 1 (by decide) (by decide) (by decide) (by decide) (by decide) (by decide)).trans b_1), ((hF 2 (by decide) (by decide) (by decide) (by decide) (by decide) (by decide)).trans b_2), ((hF 3 (by decide) (by decide) (by decide) (by decide) (by decide) (by decide)).trans b_3), ((hF 4 (by decide) (by decide) (by decide) (by decide) (by decide) (by decide)).trans b_4), ((hF 5 (by decide) (by decide) (by decide) (by decide) (by decide) (by decide)).trans b_5), ((hF 6 (by decide) (by decide) (by decide) (by decide) (by decide) (by decide)).trans b_6), ((hF 7 (by decide) (by decide) (by decide) (by decide) (by decide) (by decide)).trans b_7), ((hF 8 (by decide) (by decide) (by decide) (by decide) (by decide) (by decide)).trans b_8), ((hF 9 (by decide) (by decide) (by decide) (by decide) (by decide) (by decide)).trans b_9), h_10, h_11, h_12, ((hF 13 (by decide) (by decide) (by decide) (by decide) (by decide) (by decide)).trans b_13), ((hF 14 (by decide) (by decide) (by decide) (by decide) (by decide) (by decide)).trans b_14), ((hF 39 (by decide) (by decide) (by decide) (by decide) (by decide) (by decide)).trans b_39), ((hF 40 (by decide) (by decide) (by decide) (by decide) (by decide) (by decide)).trans b_40), ((hF 41 (by decide) (by decide) (by decide) (by decide) (by decide) (by decide)).trans b_41), ((hF 42 (by decide) (by decide) (by decide) (by decide) (by decide) (by decide)).trans b_42), ((hF 43 (by decide) (by decide) (by decide) (by decide) (by decide) (by decide)).trans b_43), ((hF 44 (by decide) (by decide) (by decide) (by decide) (by decide) (by decide)).trans b_44), ((hF 45 (by decide) (by decide) (by decide) (by decide) (by decide) (by decide)).trans b_45), h_46, h_47, h_48, ((hF 49 (by decide) (by decide) (by decide) (by decide) (by decide) (by decide)).trans b_49), ((hF 50 (by decide) (by decide) (by decide) (by decide) (by decide) (by decide)).trans b_50), ((hF 51 (by decide) (by decide) (by decide) (by decide) (by decide) (by decide)).trans b_51), ((hF 52 (by decide) (by decide) (by decide) (by decide) (by decide) (by decide)).trans b_52), ((hF 53 (by decide) (by decide) (by decide) (by decide) (by decide) (by decide)).trans b_53), ((hF 54 (by decide) (by decide) (by decide) (by decide) (by decide) (by decide)).trans b_54), (fun t ht => (hF (15 + t) (by omega) (by omega) (by omega) (by omega) (by omega) (by omega)).trans (hacts t ht)), (fun k hk => ⟨(hF (55 + 2 * k) (by omega) (by omega) (by omega) (by omega) (by omega) (by omega)).trans (hsh k hk).1, (hF (56 + 2 * k) (by omega) (by omega) (by omega) (by omega) (by omega) (by omega)).trans (hsh k hk).2⟩)⟩, (fun x9 h9 => hF x9 (by omega) (by omega) (by omega) (by omega) (by omega) (by omega))⟩)
        · have hk : ¬ 9 < q := fun w => c_21 (nI_lt w (by omega))
          refine lv_aload_n hx hb dX8_paces_24 rfl (lv_at hl 0 rfl) ?_
          refine lv_iload_n hx hb dX8_paces_25 rfl (lv_at hl 1 rfl) ?_
          refine lv_aload_n hx hb dX8_paces_26 rfl (lv_at hl 0 rfl) ?_
          refine qh_get hx hb hH f_27 (by omega) ((hF 0 (by decide) (by decide) (by decide) (by decide) (by decide) (by decide)).trans b_0) rfl dX8_paces_27 ?_
          refine qh_get hx hb hH f_146 (by omega) ((hF 7 (by decide) (by decide) (by decide) (by decide) (by decide) (by decide)).trans b_7) rfl dX8_paces_30 ?_
          refine lv_iload_n hx hb dX8_paces_33 rfl (lv_at hl 1 rfl) ?_
          refine qh_iald hx hb hK hH (by omega) ((hF 8 (by decide) (by decide) (by decide) (by decide) (by decide) (by decide)).trans b_8) (j := t) (rfl) (by omega) (by omega) dX8_paces_34 ?_
          refine lv_iload_n hx hb dX8_paces_35 rfl (lv_at hl 3 rfl) ?_
          refine qh_runV (As := [.int (nI t), .int (kd t), .int (nI q)]) (rest := []) (C := RX8) ⟨hx, hb, hml, hown, hts⟩ hK hH (c_X8_fits l G z M Ek tr lf (hM) ((hF 0 (by decide) (by decide) (by decide) (by decide) (by decide) (by decide)).trans b_0) n m2 ln rn t bf bg tf1 tg1 vs kd pa gk1 gp1 _ _ _ _ _ gn1 tn1 (kd t) (nI q) (⟨by omega, by omega, by omega, by omega⟩) (ht) (hval) (hcn) ((fun t ht => (hF (15 + t) (by omega) (by omega) (by omega) (by omega) (by omega) (by omega)).trans (hacts t ht))) ((hF 7 (by decide) (by decide) (by decide) (by decide) (by decide) (by decide)).trans b_7) ((hF 8 (by decide) (by decide) (by decide) (by decide) (by decide) (by decide)).trans b_8) ((hF 9 (by decide) (by decide) (by decide) (by decide) (by decide) (by decide)).trans b_9) h_10 h_11 h_12 ((hF 13 (by decide) (by decide) (by decide) (by decide) (by decide) (by decide)).trans b_13) ((hF 14 (by decide) (by decide) (by decide) (by decide) (by decide) (by decide)).trans b_14) ((hF 43 (by decide) (by decide) (by decide) (by decide) (by decide) (by decide)).trans b_43) ((hF 44 (by decide) (by decide) (by decide) (by decide) (by decide) (by decide)).trans b_44) ((hF 45 (by decide) (by decide) (by decide) (by decide) (by decide) (by decide)).trans b_45) h_46 h_47 h_48 ((hF 52 (by decide) (by decide) (by decide) (by decide) (by decide) (by decide)).trans b_52) ((hF 53 (by decide) (by decide) (by decide) (by decide) (by decide) (by decide)).trans b_53) ((hF 54 (by decide) (by decide) (by decide) (by decide) (by decide) (by decide)).trans b_54)) (cwV 3 hts gX8_paces_X8_fits rfl rfl rfl (by decide +kernel) (by rw [hRf, hRl]; exact ⟨Nat.le_of_ble_eq_true rfl, Nat.le_of_ble_eq_true rfl⟩)) (by omega) ((hF 0 (by decide) (by decide) (by decide) (by decide) (by decide) (by decide)).trans b_0) rfl rfl hl.1 rfl (Nat.le_of_ble_eq_true rfl) dX8_paces_36 ⟨Nat.zero_le _, Nat.zero_le _⟩ (qh_kki fun r_36 E_2 H locs hpost hH => ?_)
          obtain ⟨rfl, h_10, h_11, h_12, h_46, h_47, h_48, hfr⟩ := hpost
          have hF : ∀ x9, x9 ≠ 10 → x9 ≠ 11 → x9 ≠ 12 → x9 ≠ 46 → x9 ≠ 47 → x9 ≠ 48 → E_2 x9 = E x9 := fun x9 a0 a1 a2 a3 a4 a5 => (hfr x9 a0 a1 a2 a3 a4 a5).trans (hF x9 a0 a1 a2 a3 a4 a5)
          refine lv_if_eq (tgt := 48) hx hb dX8_paces_39 (by decide) (fun c_39 => ?_) (fun c_39 => ?_)
          · have c_39 := bI_eq.mp c_39
            refine lv_iinc (v := nI (q + 1)) (lv' := [(3, .int (nI (q + 1))), (0, .ref (z + 0)), (1, .int (nI t)), (2, .int (setR (fun q => allR (fun s => decide (repF bf m2 (upd kd t (kd t)) (upd pa t (nI q)) ts ga gb va ln (cn s) = vs s)) rn) q))]) hx hb dX8_paces_48 hl (k := 3) rfl (qn_inc q) (by decide) rfl (fun ls hl => ?_)
            refine lv_goto (tgt := 18) hx hb dX8_paces_51 (by decide) ?_
            rw [← set_n (p := (fun q => allR (fun s => decide (repF bf m2 (upd kd t (kd t)) (upd pa t (nI q)) ts ga gb va ln (cn s) = vs s)) rn)) c_39] at hl
            exact ih (q + 1) _ _ _ _ _ _ (by omega) (by omega) E_2 h_10 h_11 h_12 h_46 h_47 h_48 (fun x9 a0 a1 a2 a3 a4 a5 => hF x9 a0 a1 a2 a3 a4 a5) _ _ hH ls (lv_sub hl [1, 2, 3, 0] rfl)
          · have c_39 := bI_ne.mp c_39
            refine lv_iload_n hx hb dX8_paces_42 rfl (lv_at hl 2 rfl) ?_
            refine lv_iconst (v := 1) hx hb dX8_paces_43 (by decide) ?_
            refine lv_iload_n hx hb dX8_paces_44 rfl (lv_at hl 3 rfl) ?_
            refine lv_ishl hx hb dX8_paces_45 ?_
            refine lv_ior hx hb dX8_paces_46 ?_
            refine lv_istore_n (lv' := [(2, .int ((setR (fun q => allR (fun s => decide (repF bf m2 (upd kd t (kd t)) (upd pa t (nI q)) ts ga gb va ln (cn s) = vs s)) rn) q) ||| (1 <<< ((nI q) &&& 31)))), (0, .ref (z + 0)), (1, .int (nI t)), (3, .int (nI q))]) hx hb dX8_paces_47 rfl hl (by decide) rfl (fun ls hl => ?_)
            refine lv_iinc (v := nI (q + 1)) (lv' := [(3, .int (nI (q + 1))), (2, .int ((setR (fun q => allR (fun s => decide (repF bf m2 (upd kd t (kd t)) (upd pa t (nI q)) ts ga gb va ln (cn s) = vs s)) rn) q) ||| (1 <<< ((nI q) &&& 31)))), (0, .ref (z + 0)), (1, .int (nI t))]) hx hb dX8_paces_48 hl (k := 3) rfl (qn_inc q) (by decide) rfl (fun ls hl => ?_)
            refine lv_goto (tgt := 18) hx hb dX8_paces_51 (by decide) ?_
            rw [← set_y (p := (fun q => allR (fun s => decide (repF bf m2 (upd kd t (kd t)) (upd pa t (nI q)) ts ga gb va ln (cn s) = vs s)) rn)) c_39] at hl
            exact ih (q + 1) _ _ _ _ _ _ (by omega) (by omega) E_2 h_10 h_11 h_12 h_46 h_47 h_48 (fun x9 a0 a1 a2 a3 a4 a5 => hF x9 a0 a1 a2 a3 a4 a5) _ _ hH ls (lv_sub hl [2, 3, 1, 0] rfl)
    exact L_18 11 0 _ _ _ _ _ _ (Nat.zero_le _) (by omega) E b_10 b_11 b_12 b_46 b_47 b_48 (fun x9 a0 a1 a2 a3 a4 a5 => rfl) _ _ hH ls (lv_sub hl [2, 3, 1, 0] rfl)
  · have c_9 := bI_eq.mp c_9
    have hhas := (not_congr (hlp_has hm3)).mp c_9
    refine lv_iconst (v := (-1)) hx hb dX8_paces_12 (by decide) ?_
    exact hret dX8_paces_13 hH (⟨by rw [if_neg hhas], ⟨_, _, _, _, _, _, _, _, _, _, _, _, _, _, _, _, b_0, b_1, b_2, b_3, b_4, b_5, b_6, b_7, b_8, b_9, b_10, b_11, b_12, b_13, b_14, b_39, b_40, b_41, b_42, b_43, b_44, b_45, b_46, b_47, b_48, b_49, b_50, b_51, b_52, b_53, b_54, hacts, hsh⟩, (fun _ _ => rfl)⟩)
