def takF (a b l : Int32) : Int32 := if a = 0 then 1 else if b = l then 0 else 2
abbrev hasP (q : Nat) (x m : Int32) : Prop := ¬ x < 0 ∧ ¬ nI q < x ∧ ¬ m < 0 ∧ ¬ nI q - x < m
theorem has_n {q : Nat} {x m : Int32} (hq : q ≤ 60) (h : hasP q x m) : ∃ a b, x = nI a ∧ m = nI b ∧ a + b ≤ q := by
  obtain ⟨h1, h2, h3, h4⟩ := h
  obtain ⟨a, ha, rfl⟩ := nI_of2 (n := q) (nI_toInt (by omega)) h1 (Int32.not_lt.mp h2)
  rw [pk_sub ha] at h4
  obtain ⟨b, hb, rfl⟩ := nI_of2 (n := q - a) (nI_toInt (by omega)) h3 (Int32.not_lt.mp h4)
  exact ⟨a, b, rfl, rfl, by omega⟩
theorem has_1 {q : Nat} {x : Int32} (hq : q ≤ 60) (h : hasP q x 1) : ∃ a, a < q ∧ x = nI a := by
  obtain ⟨a, b, h1, h2, h3⟩ := has_n hq h
  have e : 1 = b := (nI_eq (a := 1) (by decide) (by omega)).mp h2
  exact ⟨a, by omega, h1⟩
theorem has_of {q a b : Nat} (hq : q ≤ 60) (h : a + b ≤ q) : hasP q (nI a) (nI b) := by
  refine ⟨nI_pos (by omega), nI_nlt (by omega) (by omega), nI_pos (by omega), ?_⟩
  rw [pk_sub (by omega)]
  exact nI_nlt (by omega) (by omega)
def shtD (x y q : Int32) : Option (Int32 × Int32) := if ¬ x < 0 ∧ x < 4 then (if (¬ y < 0 ∧ y ≤ 2) ∧ q ≤ 60 then (if 0 ≤ q then none else some (-10 - 4, 4)) else some (-2, 0)) else some (-1, 0)
def putD (x y : Int32) (hr : Nat → Int32) (lg : Nat → Nat) : Option (Int32 × Int32) := if ¬ x < 0 ∧ x < 4 then (if hr x.toNatClampNeg = 0 then some (-10 - 1, 1) else if hasP (lg x.toNatClampNeg) y 1 then none else some (-10 - 3, 3)) else some (-1, 0)
def celV (x y q : Int32) (hr la : Nat → Int32) (lg : Nat → Nat) (sc : Nat → Nat → Int32) : Int64 × Int32 := if (¬ x < 0 ∧ x < 4) ∧ (¬ q < 0 ∧ q ≤ 2) then (if takF (hr x.toNatClampNeg) (la x.toNatClampNeg) q = 0 then (if hasP (lg x.toNatClampNeg) y 1 then ((sc x.toNatClampNeg y.toNatClampNeg).toInt64, 0) else (LOSTv, 3)) else (LOSTv, takF (hr x.toNatClampNeg) (la x.toNatClampNeg) q)) else (LOSTv, 0)
def cpyD (x y q u v : Int32) (hr la : Nat → Int32) (lg : Nat → Nat) : Option (Int32 × Int32) := if (¬ x < 0 ∧ x < 4) ∧ (¬ q < 0 ∧ q < 4) then (if hr x.toNatClampNeg = 0 ∨ hr q.toNatClampNeg = 0 then some (-10 - 1, 1) else if la x.toNatClampNeg = la q.toNatClampNeg then (if hasP (lg x.toNatClampNeg) y v ∧ hasP (lg q.toNatClampNeg) u v then none else some (-10 - 3, 3)) else some (-10 - 2, 2)) else some (-1, 0)
def asV (m2 : Nat) (kd : Nat → Int32) (x y : Int32) : Int32 × Int32 := if ¬ x < 0 ∧ x < nI m2 then (if ¬ y < 0 ∧ y ≤ 2 then (if y ≤ kd x.toNatClampNeg then (1, 0) else (-10 - 2, 2)) else (-2, 0)) else (-1, 0)
def telV (m2 : Nat) (kd pa : Nat → Int32) (tr x : Int32) : Int32 × Int32 := if ¬ x < 0 ∧ x < nI m2 then (if kd x.toNatClampNeg = 1 then (pa x.toNatClampNeg + 100, lvT (lvT tr 2) 1) else if kd x.toNatClampNeg = 2 then (pa x.toNatClampNeg + 100 + pa x.toNatClampNeg, lvT (lvT (lvT (lvT tr 3) 2) 1) 1) else (pa x.toNatClampNeg, lvT tr 1)) else (-1, tr)
def cheV (m2 : Nat) (kd : Nat → Int32) (tr x : Int32) : Int32 × Int32 := if ¬ x < 0 ∧ x < nI m2 then (if kd x.toNatClampNeg = 2 then (60, lvT tr 5) else (x, lvT tr 4)) else (-1, tr)
def rdgD (n rn : Nat) (x : Int32) (v : Int64) : Option Int32 := if ¬ x < 0 ∧ x < nI n then (if ¬ v < -1000000000000000 ∧ ¬ 1000000000000000 < v then (if rn < 8 then none else some (-4)) else some (-2)) else some (-1)
set_option maxHeartbeats 1000000 in
set_option maxRecDepth 100000 in
theorem c_X8_sheet (l : Launch) (G : qh_G) (z M : Nat) (E : Nat → va_E) (tr : Int32) (lf : Int32) (n : Nat) (f : Nat → Int64) (g : Nat → Int64) (bf : Nat → Int64) (m2 : Nat) (kd : Nat → Int32) (pa : Nat → Int32) (ln : Nat) (ts : Nat → Int32) (ga : Nat → Nat) (gb : Nat → Nat) (va : Nat → Int64) (rn : Nat) (cn : Nat → Nat) (vs : Nat → Int64) (hr : Nat → Int32) (la : Nat → Int32) (lg : Nat → Nat) (sc : Nat → Nat → Int32) (hM : 84 ≤ M) (hX : XE G z E tr lf n f g bf m2 kd pa ln ts ga gb va rn cn vs hr la lg sc) (hW : XW n m2 ln rn ga gb cn lg hr) (x : Int32) (y : Int32) (q : Int32) : Met l yX8_sheet wsX8_sheet (qh_R 2) (qh_Pre G z M E [.ref (z + 0), .int x, .int y, .int q]) (qh_Q G z M (qh_i (fun r E' => match shtD x y q with | some u => r = u.1 ∧ XE G z E' tr u.2 n f g bf m2 kd pa ln ts ga gb va rn cn vs hr la lg sc ∧ ∀ x9, 63 ≤ x9 → E' x9 = E x9 | none => r = 1 ∧ XE G z E' tr 0 n f g bf m2 kd pa ln ts ga gb va rn cn vs (upd hr x.toNatClampNeg 1) (upd la x.toNatClampNeg y) (upN lg x.toNatClampNeg q.toNatClampNeg) (upS sc x.toNatClampNeg (fun _ => 0)) ∧ ∀ x9, 63 ≤ x9 → E' x9 = E x9))) 0 0 (fun q => z ≤ q) := by
  refine qh_metI (cc := cX8_sheet) (maxL := 4) (by decide) rfl (Nat.le_of_ble_eq_true rfl) ?_
  intro pZ eZ sZ mZ aZ bZ tZ cZ RR QQ ls hx hb hml hown hts hRf hRl hH hK hl hret
  have hown : sZ.vm.findClass RX8 = some mZ.cls := hown
  have hl : lv_has ls 4 [(0, .ref (z + 0)), (1, .int x), (2, .int y), (3, .int q)] := hl
  obtain ⟨tc, dg, hn0, tk, tp, gn, gk, gp, t0, a0, b0, v0, bg, tn, tf, tg, b_0, b_1, b_2, b_3, b_4, b_5, b_6, b_7, b_8, b_9, b_10, b_11, b_12, b_13, b_14, b_39, b_40, b_41, b_42, b_43, b_44, b_45, b_46, b_47, b_48, b_49, b_50, b_51, b_52, b_53, b_54, hacts, hsh⟩ := hX
  obtain ⟨⟨hn16, hm3, hl24, hr8⟩, hval, hcn, hlg, hhr⟩ := hW
  have in_X8 : ∀ w ∈ wsX80, w ∈ wsX8_sheet := fun w h => List.mem_cons_of_mem _ (List.mem_append_left _ (List.mem_append_right _ h))
  have w_79 : qh_W G sZ mZ aZ 79 8 12 .int := qh_W.of hts in_X8 tyX8 tyX8_ok nmX8 hown hK rfl 12 (by decide) (by decide +kernel) rfl (by decide +kernel)
  have f_13 : qh_F G sZ mZ aZ 13 8 0 := qh_F.of hts in_X8 hown hK rfl 0 (by decide) (by decide +kernel)
  refine lv_aload_n hx hb dX8_sheet_0 rfl (lv_at hl 0 rfl) ?_
  refine lv_iconst (v := 0) hx hb dX8_sheet_1 (by decide) ?_
  refine qh_put (fs' := [.ref (z + 1), .ref (z + 2), .ref (z + 7), .ref (z + 10), .ref (z + 13), .ref (z + 39), .ref (z + 40), .ref (z + 43), .ref (z + 46), .ref (z + 49), .ref (z + 52), .int tr, .int 0]) hx hb hH w_79 (by omega) b_0 rfl rfl (Nat.le_of_ble_eq_true rfl) rfl dX8_sheet_2 (fun E_1 H locs h_0 hfr hH _ => ?_)
  have hF : ∀ x9, x9 ≠ 0 → E_1 x9 = E x9 := fun x9 a0 => hfr x9 a0
  refine lv_iload_n hx hb dX8_sheet_5 rfl (lv_at hl 1 rfl) ?_
  refine qh_runS (As := [.int x]) (rest := []) ⟨hx, hb, hml, hown, hts⟩ hK hH (c_X8_isSheet l G z M E_1 x) (va_cwS 1 hts gX8_sheet_X8_isSheet rfl rfl rfl (by decide +kernel) (by rw [hRf, hRl]; exact ⟨Nat.le_of_ble_eq_true rfl, Nat.le_of_ble_eq_true rfl⟩)) rfl hl.1 rfl (Nat.le_of_ble_eq_true rfl) dX8_sheet_6 ⟨Nat.zero_le _, Nat.zero_le _⟩ (qh_kki fun r_6 E_2 H locs hpost hH => ?_)
  obtain ⟨rfl, rfl⟩ := hpost
  refine lv_if_ne (tgt := 14) hx hb dX8_sheet_9 (by decide) (fun c_9 => ?_) (fun c_9 => ?_)
  · have c_9 := bI_ne.mp c_9
    refine lv_iload_n hx hb dX8_sheet_14 rfl (lv_at hl 2 rfl) ?_
    refine qh_runS (As := [.int y]) (rest := []) ⟨hx, hb, hml, hown, hts⟩ hK hH (c_X8_isLane l G z M E_1 y) (va_cwS 1 hts gX8_sheet_X8_isLane rfl rfl rfl (by decide +kernel) (by rw [hRf, hRl]; exact ⟨Nat.le_of_ble_eq_true rfl, Nat.le_of_ble_eq_true rfl⟩)) rfl hl.1 rfl (Nat.le_of_ble_eq_true rfl) dX8_sheet_15 ⟨Nat.zero_le _, Nat.zero_le _⟩ (qh_kki fun r_15 E_3 H locs hpost hH => ?_)
    obtain ⟨rfl, rfl⟩ := hpost
    refine lv_if_eq (tgt := 27) hx hb dX8_sheet_18 (by decide) (fun c_18 => ?_) (fun c_18 => ?_)
    · have c_18 := bI_eq.mp c_18
      have hD : shtD x y q = some (-2, 0) := by rw [shtD, if_pos c_9, if_neg (fun u => c_18 u.1)]
      refine lv_bipush (v := (-2)) hx hb dX8_sheet_27 (by decide) ?_
      exact hret dX8_sheet_29 hH (by rw [hD]; exact ⟨rfl, ⟨_, _, _, _, _, _, _, _, _, _, _, _, _, _, _, _, h_0, ((hF 1 (by decide)).trans b_1), ((hF 2 (by decide)).trans b_2), ((hF 3 (by decide)).trans b_3), ((hF 4 (by decide)).trans b_4), ((hF 5 (by decide)).trans b_5), ((hF 6 (by decide)).trans b_6), ((hF 7 (by decide)).trans b_7), ((hF 8 (by decide)).trans b_8), ((hF 9 (by decide)).trans b_9), ((hF 10 (by decide)).trans b_10), ((hF 11 (by decide)).trans b_11), ((hF 12 (by decide)).trans b_12), ((hF 13 (by decide)).trans b_13), ((hF 14 (by decide)).trans b_14), ((hF 39 (by decide)).trans b_39), ((hF 40 (by decide)).trans b_40), ((hF 41 (by decide)).trans b_41), ((hF 42 (by decide)).trans b_42), ((hF 43 (by decide)).trans b_43), ((hF 44 (by decide)).trans b_44), ((hF 45 (by decide)).trans b_45), ((hF 46 (by decide)).trans b_46), ((hF 47 (by decide)).trans b_47), ((hF 48 (by decide)).trans b_48), ((hF 49 (by decide)).trans b_49), ((hF 50 (by decide)).trans b_50), ((hF 51 (by decide)).trans b_51), ((hF 52 (by decide)).trans b_52), ((hF 53 (by decide)).trans b_53), ((hF 54 (by decide)).trans b_54), (fun t ht => (hF (15 + t) (by omega)).trans (hacts t ht)), (fun k hk => ⟨(hF (55 + 2 * k) (by omega)).trans (hsh k hk).1, (hF (56 + 2 * k) (by omega)).trans (hsh k hk).2⟩)⟩, (fun x9 h9 => hF x9 (by omega))⟩)
    · have c_18 := bI_ne.mp c_18
      refine lv_iload_n hx hb dX8_sheet_21 rfl (lv_at hl 3 rfl) ?_
      refine lv_bipush (v := 60) hx hb dX8_sheet_22 (by decide) ?_
      refine lv_icmp_le (tgt := 30) hx hb dX8_sheet_24 (by decide) (fun c_24 => ?_) (fun c_24 => ?_)
      · refine lv_iload_n hx hb dX8_sheet_30 rfl (lv_at hl 3 rfl) ?_
        refine lv_if_ge (tgt := 40) hx hb dX8_sheet_31 (by decide) (fun c_31 => ?_) (fun c_31 => ?_)
        · have hD : shtD x y q = none := by rw [shtD, if_pos c_9, if_pos ⟨c_18, c_24⟩, if_pos c_31]
          obtain ⟨v, hv, ev⟩ := nI_of2 (x := q) (M := 60) (n := 60) rfl (Int32.not_lt.mpr c_31) c_24
          have Ev : q.toNatClampNeg = v := by rw [ev]; exact nI_clamp (by omega)
          obtain ⟨j, hj, ej⟩ := nI_of_in (k := x) (c := 4) (by decide) c_9
          have Ej : x.toNatClampNeg = j := by rw [ej]; exact nI_clamp (by omega)
          refine lv_aload_n hx hb dX8_sheet_40 rfl (lv_at hl 0 rfl) ?_
          refine qh_get hx hb hH f_13 (by omega) h_0 rfl dX8_sheet_41 ?_
          refine lv_iload_n hx hb dX8_sheet_44 rfl (lv_at hl 1 rfl) ?_
          refine qh_aaldS (a := z + (55 + 2 * j)) hx hb hK hH (by omega) ((hF 1 (by decide)).trans b_1) (j := j) (ej) (hj) (by omega) (rfl) dX8_sheet_45 ?_
          have hl : lv_has ls 4 [(0, .ref (z + 0)), (1, .int x), (2, .int y), (3, .int (nI v))] := by rw [ev] at hl; exact hl
          refine lv_iload_n hx hb dX8_sheet_46 rfl (lv_at hl 2 rfl) ?_
          refine lv_iload_n hx hb dX8_sheet_47 rfl (lv_at hl 3 rfl) ?_
          refine qh_runV (As := [.int y, .int (nI v)]) (rest := []) (C := RX5) ⟨hx, hb, hml, hown, hts⟩ hK hH (c_X5_getRow l G z M E_1 (55 + 2 * j) (56 + 2 * j) (hr j) (la j) (nI (lg j)) y (nI v) (sc j) (⟨by omega, by omega, by omega⟩) ((hF (55 + 2 * j) (by omega)).trans (hsh j (by omega)).1) ((hF (56 + 2 * j) (by omega)).trans (hsh j (by omega)).2)) (cwV 2 hts gX8_sheet_X5_getRow rfl rfl rfl (by decide +kernel) (by rw [hRf, hRl]; exact ⟨Nat.le_of_ble_eq_true rfl, Nat.le_of_ble_eq_true rfl⟩)) (by omega) ((hF (55 + 2 * j) (by omega)).trans (hsh j (by omega)).1) rfl rfl hl.1 rfl (Nat.le_of_ble_eq_true rfl) dX8_sheet_48 ⟨Nat.zero_le _, Nat.zero_le _⟩ (qh_kkv fun E_4 H locs hpost hH => ?_)
          obtain ⟨h_55_2_j, h_56_2_j, hfr⟩ := hpost
          have h_0 := (hfr 0 (by omega) (by omega)).trans h_0
          have hF : ∀ x9, x9 ≠ 0 → x9 ≠ (55 + 2 * j) → x9 ≠ (56 + 2 * j) → E_4 x9 = E x9 := fun x9 a0 a1 a2 => (hfr x9 a1 a2).trans (hF x9 a0)
          refine lv_iconst (v := 1) hx hb dX8_sheet_51 (by decide) ?_
          exact hret dX8_sheet_52 hH (by rw [hD, Ej, Ev]; exact ⟨rfl, ⟨_, _, _, _, _, _, _, _, _, _, _, _, _, _, _, _, h_0, ((hF 1 (by decide) (by omega) (by omega)).trans b_1), ((hF 2 (by decide) (by omega) (by omega)).trans b_2), ((hF 3 (by decide) (by omega) (by omega)).trans b_3), ((hF 4 (by decide) (by omega) (by omega)).trans b_4), ((hF 5 (by decide) (by omega) (by omega)).trans b_5), ((hF 6 (by decide) (by omega) (by omega)).trans b_6), ((hF 7 (by decide) (by omega) (by omega)).trans b_7), ((hF 8 (by decide) (by omega) (by omega)).trans b_8), ((hF 9 (by decide) (by omega) (by omega)).trans b_9), ((hF 10 (by decide) (by omega) (by omega)).trans b_10), ((hF 11 (by decide) (by omega) (by omega)).trans b_11), ((hF 12 (by decide) (by omega) (by omega)).trans b_12), ((hF 13 (by decide) (by omega) (by omega)).trans b_13), ((hF 14 (by decide) (by omega) (by omega)).trans b_14), ((hF 39 (by decide) (by omega) (by omega)).trans b_39), ((hF 40 (by decide) (by omega) (by omega)).trans b_40), ((hF 41 (by decide) (by omega) (by omega)).trans b_41), ((hF 42 (by decide) (by omega) (by omega)).trans b_42), ((hF 43 (by decide) (by omega) (by omega)).trans b_43), ((hF 44 (by decide) (by omega) (by omega)).trans b_44), ((hF 45 (by decide) (by omega) (by omega)).trans b_45), ((hF 46 (by decide) (by omega) (by omega)).trans b_46), ((hF 47 (by decide) (by omega) (by omega)).trans b_47), ((hF 48 (by decide) (by omega) (by omega)).trans b_48), ((hF 49 (by decide) (by omega) (by omega)).trans b_49), ((hF 50 (by decide) (by omega) (by omega)).trans b_50), ((hF 51 (by decide) (by omega) (by omega)).trans b_51), ((hF 52 (by decide) (by omega) (by omega)).trans b_52), ((hF 53 (by decide) (by omega) (by omega)).trans b_53), ((hF 54 (by decide) (by omega) (by omega)).trans b_54), (fun t ht => (hF (15 + t) (by omega) (by omega) (by omega)).trans (hacts t ht)), (shs_put (j := j) hj hsh h_55_2_j h_56_2_j (fun k h1 h2 => ⟨hF (55 + 2 * k) (by omega) (by omega) (by omega), hF (56 + 2 * k) (by omega) (by omega) (by omega)⟩))⟩, (fun x9 h9 => hF x9 (by omega) (by omega) (by omega))⟩)
        · have hD : shtD x y q = some (-10 - 4, 4) := by rw [shtD, if_pos c_9, if_pos ⟨c_18, c_24⟩, if_neg c_31]
          refine lv_aload_n hx hb dX8_sheet_34 rfl (lv_at hl 0 rfl) ?_
          refine lv_iconst (v := 4) hx hb dX8_sheet_35 (by decide) ?_
          refine qh_runV (As := [.int 4]) (rest := []) (C := RX8) ⟨hx, hb, hml, hown, hts⟩ hK hH (c_X8_failed l G z M E_1 tr 0 (hM) h_0 4) (cwV 1 hts gX8_sheet_X8_failed rfl rfl rfl (by decide +kernel) (by rw [hRf, hRl]; exact ⟨Nat.le_of_ble_eq_true rfl, Nat.le_of_ble_eq_true rfl⟩)) (by omega) h_0 rfl rfl hl.1 rfl (Nat.le_of_ble_eq_true rfl) dX8_sheet_36 ⟨Nat.zero_le _, Nat.zero_le _⟩ (qh_kki fun r_36 E_5 H locs hpost hH => ?_)
          obtain ⟨rfl, h_0, hfr⟩ := hpost
          have hF : ∀ x9, x9 ≠ 0 → E_5 x9 = E x9 := fun x9 a0 => (hfr x9 a0).trans (hF x9 a0)
          exact hret dX8_sheet_39 hH (by rw [hD]; exact ⟨rfl, ⟨_, _, _, _, _, _, _, _, _, _, _, _, _, _, _, _, h_0, ((hF 1 (by decide)).trans b_1), ((hF 2 (by decide)).trans b_2), ((hF 3 (by decide)).trans b_3), ((hF 4 (by decide)).trans b_4), ((hF 5 (by decide)).trans b_5), ((hF 6 (by decide)).trans b_6), ((hF 7 (by decide)).trans b_7), ((hF 8 (by decide)).trans b_8), ((hF 9 (by decide)).trans b_9), ((hF 10 (by decide)).trans b_10), ((hF 11 (by decide)).trans b_11), ((hF 12 (by decide)).trans b_12), ((hF 13 (by decide)).trans b_13), ((hF 14 (by decide)).trans b_14), ((hF 39 (by decide)).trans b_39), ((hF 40 (by decide)).trans b_40), ((hF 41 (by decide)).trans b_41), ((hF 42 (by decide)).trans b_42), ((hF 43 (by decide)).trans b_43), ((hF 44 (by decide)).trans b_44), ((hF 45 (by decide)).trans b_45), ((hF 46 (by decide)).trans b_46), ((hF 47 (by decide)).trans b_47), ((hF 48 (by decide)).trans b_48), ((hF 49 (by decide)).trans b_49), ((hF 50 (by decide)).trans b_50), ((hF 51 (by decide)).trans b_51), ((hF 52 (by decide)).trans b_52), ((hF 53 (by decide)).trans b_53), ((hF 54 (by decide)).trans b_54), (fun t ht => (hF (15 + t) (by omega)).trans (hacts t ht)), (fun k hk => ⟨(hF (55 + 2 * k) (by omega)).trans (hsh k hk).1, (hF (56 + 2 * k) (by omega)).trans (hsh k hk).2⟩)⟩, (fun x9 h9 => hF x9 (by omega))⟩)
      · have hD : shtD x y q = some (-2, 0) := by rw [shtD, if_pos c_9, if_neg (fun u => c_24 u.2)]
        refine lv_bipush (v := (-2)) hx hb dX8_sheet_27 (by decide) ?_
        exact hret dX8_sheet_29 hH (by rw [hD]; exact ⟨rfl, ⟨_, _, _, _, _, _, _, _, _, _, _, _, _, _, _, _, h_0, ((hF 1 (by decide)).trans b_1), ((hF 2 (by decide)).trans b_2), ((hF 3 (by decide)).trans b_3), ((hF 4 (by decide)).trans b_4), ((hF 5 (by decide)).trans b_5), ((hF 6 (by decide)).trans b_6), ((hF 7 (by decide)).trans b_7), ((hF 8 (by decide)).trans b_8), ((hF 9 (by decide)).trans b_9), ((hF 10 (by decide)).trans b_10), ((hF 11 (by decide)).trans b_11), ((hF 12 (by decide)).trans b_12), ((hF 13 (by decide)).trans b_13), ((hF 14 (by decide)).trans b_14), ((hF 39 (by decide)).trans b_39), ((hF 40 (by decide)).trans b_40), ((hF 41 (by decide)).trans b_41), ((hF 42 (by decide)).trans b_42), ((hF 43 (by decide)).trans b_43), ((hF 44 (by decide)).trans b_44), ((hF 45 (by decide)).trans b_45), ((hF 46 (by decide)).trans b_46), ((hF 47 (by decide)).trans b_47), ((hF 48 (by decide)).trans b_48), ((hF 49 (by decide)).trans b_49), ((hF 50 (by decide)).trans b_50), ((hF 51 (by decide)).trans b_51), ((hF 52 (by decide)).trans b_52), ((hF 53 (by decide)).trans b_53), ((hF 54 (by decide)).trans b_54), (fun t ht => (hF (15 + t) (by omega)).trans (hacts t ht)), (fun k hk => ⟨(hF (55 + 2 * k) (by omega)).trans (hsh k hk).1, (hF (56 + 2 * k) (by omega)).trans (hsh k hk).2⟩)⟩, (fun x9 h9 => hF x9 (by omega))⟩)
  · have c_9 := bI_eq.mp c_9
    have hD : shtD x y q = some (-1, 0) := if_neg c_9
    refine lv_iconst (v := (-1)) hx hb dX8_sheet_12 (by decide) ?_
    exact hret dX8_sheet_13 hH (by rw [hD]; exact ⟨rfl, ⟨_, _, _, _, _, _, _, _, _, _, _, _, _, _, _, _, h_0, ((hF 1 (by decide)).trans b_1), ((hF 2 (by decide)).trans b_2), ((hF 3 (by decide)).trans b_3), ((hF 4 (by decide)).trans b_4), ((hF 5 (by decide)).trans b_5), ((hF 6 (by decide)).trans b_6), ((hF 7 (by decide)).trans b_7), ((hF 8 (by decide)).trans b_8), ((hF 9 (by decide)).trans b_9), ((hF 10 (by decide)).trans b_10), ((hF 11 (by decide)).trans b_11), ((hF 12 (by decide)).trans b_12), ((hF 13 (by decide)).trans b_13), ((hF 14 (by decide)).trans b_14), ((hF 39 (by decide)).trans b_39), ((hF 40 (by decide)).trans b_40), ((hF 41 (by decide)).trans b_41), ((hF 42 (by decide)).trans b_42), ((hF 43 (by decide)).trans b_43), ((hF 44 (by decide)).trans b_44), ((hF 45 (by decide)).trans b_45), ((hF 46 (by decide)).trans b_46), ((hF 47 (by decide)).trans b_47), ((hF 48 (by decide)).trans b_48), ((hF 49 (by decide)).trans b_49), ((hF 50 (by decide)).trans b_50), ((hF 51 (by decide)).trans b_51), ((hF 52 (by decide)).trans b_52), ((hF 53 (by decide)).trans b_53), ((hF 54 (by decide)).trans b_54), (fun t ht => (hF (15 + t) (by omega)).trans (hacts t ht)), (fun k hk => ⟨(hF (55 + 2 * k) (by omega)).trans (hsh k hk).1, (hF (56 + 2 * k) (by omega)).trans (hsh k hk).2⟩)⟩, (fun x9 h9 => hF x9 (by omega))⟩)

set_option maxHeartbeats 1000000 in
set_option maxRecDepth 100000 in
theorem c_X8_put (l : Launch) (G : qh_G) (z M : Nat) (E : Nat → va_E) (tr : Int32) (lf : Int32) (n : Nat) (f : Nat → Int64) (g : Nat → Int64) (bf : Nat → Int64) (m2 : Nat) (kd : Nat → Int32) (pa : Nat → Int32) (ln : Nat) (ts : Nat → Int32) (ga : Nat → Nat) (gb : Nat → Nat) (va : Nat → Int64) (rn : Nat) (cn : Nat → Nat) (vs : Nat → Int64) (hr : Nat → Int32) (la : Nat → Int32) (lg : Nat → Nat) (sc : Nat → Nat → Int32) (hM : 84 ≤ M) (hX : XE G z E tr lf n f g bf m2 kd pa ln ts ga gb va rn cn vs hr la lg sc) (hW : XW n m2 ln rn ga gb cn lg hr) (x : Int32) (y : Int32) (q : Int32) : Met l yX8_put wsX8_put (qh_R 1) (qh_Pre G z M E [.ref (z + 0), .int x, .int y, .int q]) (qh_Q G z M (qh_i (fun r E' => match putD x y hr lg with | some u => r = u.1 ∧ XE G z E' tr u.2 n f g bf m2 kd pa ln ts ga gb va rn cn vs hr la lg sc ∧ ∀ x9, 63 ≤ x9 → E' x9 = E x9 | none => r = 1 ∧ XE G z E' tr 0 n f g bf m2 kd pa ln ts ga gb va rn cn vs (upd hr x.toNatClampNeg (hr x.toNatClampNeg)) (upd la x.toNatClampNeg (la x.toNatClampNeg)) (upN lg x.toNatClampNeg (lg x.toNatClampNeg)) (upS sc x.toNatClampNeg (upd (sc x.toNatClampNeg) y.toNatClampNeg (cutF (la x.toNatClampNeg) q))) ∧ ∀ x9, 63 ≤ x9 → E' x9 = E x9))) 0 0 (fun q => z ≤ q) := by
  refine qh_metI (cc := cX8_put) (maxL := 5) (by decide) rfl (Nat.le_of_ble_eq_true rfl) ?_
  intro pZ eZ sZ mZ aZ bZ tZ cZ RR QQ ls hx hb hml hown hts hRf hRl hH hK hl hret
  have hown : sZ.vm.findClass RX8 = some mZ.cls := hown
  have hl : lv_has ls 5 [(0, .ref (z + 0)), (1, .int x), (2, .int y), (3, .int q)] := hl
  obtain ⟨tc, dg, hn0, tk, tp, gn, gk, gp, t0, a0, b0, v0, bg, tn, tf, tg, b_0, b_1, b_2, b_3, b_4, b_5, b_6, b_7, b_8, b_9, b_10, b_11, b_12, b_13, b_14, b_39, b_40, b_41, b_42, b_43, b_44, b_45, b_46, b_47, b_48, b_49, b_50, b_51, b_52, b_53, b_54, hacts, hsh⟩ := hX
  obtain ⟨⟨hn16, hm3, hl24, hr8⟩, hval, hcn, hlg, hhr⟩ := hW
  have in_X8 : ∀ w ∈ wsX80, w ∈ wsX8_put := fun w h => List.mem_cons_of_mem _ (List.mem_append_left _ (List.mem_append_right _ h))
  have in_X5 : ∀ w ∈ wsX50, w ∈ wsX8_put := fun w h => List.mem_cons_of_mem _ (List.mem_append_right _ h)
  have w_79 : qh_W G sZ mZ aZ 79 8 12 .int := qh_W.of hts in_X8 tyX8 tyX8_ok nmX8 hown hK rfl 12 (by decide) (by decide +kernel) rfl (by decide +kernel)
  have f_13 : qh_F G sZ mZ aZ 13 8 0 := qh_F.of hts in_X8 hown hK rfl 0 (by decide) (by decide +kernel)
  have f_301 : qh_F G sZ mZ aZ 301 5 0 := qh_F.of hts in_X5 hown hK rfl 0 (by decide) (by decide +kernel)
  have f_305 : qh_F G sZ mZ aZ 305 5 3 := qh_F.of hts in_X5 hown hK rfl 3 (by decide) (by decide +kernel)
  refine lv_aload_n hx hb dX8_put_0 rfl (lv_at hl 0 rfl) ?_
  refine lv_iconst (v := 0) hx hb dX8_put_1 (by decide) ?_
  refine qh_put (fs' := [.ref (z + 1), .ref (z + 2), .ref (z + 7), .ref (z + 10), .ref (z + 13), .ref (z + 39), .ref (z + 40), .ref (z + 43), .ref (z + 46), .ref (z + 49), .ref (z + 52), .int tr, .int 0]) hx hb hH w_79 (by omega) b_0 rfl rfl (Nat.le_of_ble_eq_true rfl) rfl dX8_put_2 (fun E_1 H locs h_0 hfr hH _ => ?_)
  have hF : ∀ x9, x9 ≠ 0 → E_1 x9 = E x9 := fun x9 a0 => hfr x9 a0
  refine lv_iload_n hx hb dX8_put_5 rfl (lv_at hl 1 rfl) ?_
  refine qh_runS (As := [.int x]) (rest := []) ⟨hx, hb, hml, hown, hts⟩ hK hH (c_X8_isSheet l G z M E_1 x) (va_cwS 1 hts gX8_put_X8_isSheet rfl rfl rfl (by decide +kernel) (by rw [hRf, hRl]; exact ⟨Nat.le_of_ble_eq_true rfl, Nat.le_of_ble_eq_true rfl⟩)) rfl hl.1 rfl (Nat.le_of_ble_eq_true rfl) dX8_put_6 ⟨Nat.zero_le _, Nat.zero_le _⟩ (qh_kki fun r_6 E_2 H locs hpost hH => ?_)
  obtain ⟨rfl, rfl⟩ := hpost
  refine lv_if_ne (tgt := 14) hx hb dX8_put_9 (by decide) (fun c_9 => ?_) (fun c_9 => ?_)
  · have c_9 := bI_ne.mp c_9
    obtain ⟨j, hj, ej⟩ := nI_of_in (k := x) (c := 4) (by decide) c_9
    have Ej : x.toNatClampNeg = j := by rw [ej]; exact nI_clamp (by omega)
    refine lv_aload_n hx hb dX8_put_14 rfl (lv_at hl 0 rfl) ?_
    refine qh_get hx hb hH f_13 (by omega) h_0 rfl dX8_put_15 ?_
    refine lv_iload_n hx hb dX8_put_18 rfl (lv_at hl 1 rfl) ?_
    refine qh_aaldS (a := z + (55 + 2 * j)) hx hb hK hH (by omega) ((hF 1 (by decide)).trans b_1) (j := j) (ej) (hj) (by omega) (rfl) dX8_put_19 ?_
    refine lv_astore (lv' := [(4, .ref (z + (55 + 2 * j))), (0, .ref (z + 0)), (1, .int x), (2, .int y), (3, .int q)]) hx hb dX8_put_20 hl (by decide) rfl (fun ls hl => ?_)
    refine lv_aload hx hb dX8_put_22 (lv_at hl 0 rfl) ?_
    refine qh_get hx hb hH f_301 (by omega) ((hF (55 + 2 * j) (by omega)).trans (hsh j (by omega)).1) rfl dX8_put_24 ?_
    refine lv_if_ne (tgt := 36) hx hb dX8_put_27 (by decide) (fun c_27 => ?_) (fun c_27 => ?_)
    · refine lv_aload hx hb dX8_put_36 (lv_at hl 0 rfl) ?_
      refine lv_iload_n hx hb dX8_put_38 rfl (lv_at hl 3 rfl) ?_
      refine lv_iconst (v := 1) hx hb dX8_put_39 (by decide) ?_
      refine qh_runV (As := [.int y, .int 1]) (rest := []) (C := RX5) ⟨hx, hb, hml, hown, hts⟩ hK hH (c_X5_hasCells l G z M E_1 (55 + 2 * j) (hr j) (la j) (nI (lg j)) y 1 (.ref (z + (56 + 2 * j))) (by omega) ((hF (55 + 2 * j) (by omega)).trans (hsh j (by omega)).1)) (cwV 2 hts gX8_put_X5_hasCells rfl rfl rfl (by decide +kernel) (by rw [hRf, hRl]; exact ⟨Nat.le_of_ble_eq_true rfl, Nat.le_of_ble_eq_true rfl⟩)) (by omega) ((hF (55 + 2 * j) (by omega)).trans (hsh j (by omega)).1) rfl rfl hl.1 rfl (Nat.le_of_ble_eq_true rfl) dX8_put_40 ⟨Nat.zero_le _, Nat.zero_le _⟩ (qh_kki fun r_40 E_3 H locs hpost hH => ?_)
      obtain ⟨rfl, rfl⟩ := hpost
      refine lv_if_ne (tgt := 52) hx hb dX8_put_43 (by decide) (fun c_43 => ?_) (fun c_43 => ?_)
      · have c_43 := bI_ne.mp c_43
        have hD : putD x y hr lg = none := by rw [putD, if_pos c_9, Ej, if_neg c_27, if_pos c_43]
        have hlj := hlg j hj
        obtain ⟨v, hv, ev⟩ := has_1 hlj c_43
        have Ev : y.toNatClampNeg = v := by rw [ev]; exact nI_clamp (by omega)
        refine lv_aload hx hb dX8_put_52 (lv_at hl 0 rfl) ?_
        refine qh_get hx hb hH f_305 (by omega) ((hF (55 + 2 * j) (by omega)).trans (hsh j (by omega)).1) rfl dX8_put_54 ?_
        refine lv_iload_n hx hb dX8_put_57 rfl (lv_at hl 3 rfl) ?_
        refine lv_aload hx hb dX8_put_58 (lv_at hl 0 rfl) ?_
        refine lv_iload_n hx hb dX8_put_60 rfl (lv_at hl 4 rfl) ?_
        refine qh_runV (As := [.int q]) (rest := [.int y, .ref (z + (56 + 2 * j))]) (C := RX5) ⟨hx, hb, hml, hown, hts⟩ hK hH (c_X5_cut l G z M E_1 (55 + 2 * j) (hr j) (la j) (nI (lg j)) q (.ref (z + (56 + 2 * j))) (by omega) ((hF (55 + 2 * j) (by omega)).trans (hsh j (by omega)).1)) (cwV 1 hts gX8_put_X5_cut rfl rfl rfl (by decide +kernel) (by rw [hRf, hRl]; exact ⟨Nat.le_of_ble_eq_true rfl, Nat.le_of_ble_eq_true rfl⟩)) (by omega) ((hF (55 + 2 * j) (by omega)).trans (hsh j (by omega)).1) rfl rfl hl.1 rfl (Nat.le_of_ble_eq_true rfl) dX8_put_61 ⟨Nat.zero_le _, Nat.zero_le _⟩ (qh_kki fun r_61 E_4 H locs hpost hH => ?_)
        obtain ⟨rfl, rfl⟩ := hpost
        refine qh_iast hx hb hK hH (by omega) ((hF (56 + 2 * j) (by omega)).trans (hsh j (by omega)).2) (j := v) (ev) (by omega) (by omega) dX8_put_64 (fun E_5 H locs h_56_2_j hfr hH _ => ?_)
        have h_0 := (hfr 0 (by omega)).trans h_0
        have hF : ∀ x9, x9 ≠ 0 → x9 ≠ (56 + 2 * j) → E_5 x9 = E x9 := fun x9 a0 a1 => (hfr x9 a1).trans (hF x9 a0)
        refine lv_iconst (v := 1) hx hb dX8_put_65 (by decide) ?_
        exact hret dX8_put_66 hH (by rw [hD, Ej, Ev]; exact ⟨rfl, ⟨_, _, _, _, _, _, _, _, _, _, _, _, _, _, _, _, h_0, ((hF 1 (by decide) (by omega)).trans b_1), ((hF 2 (by decide) (by omega)).trans b_2), ((hF 3 (by decide) (by omega)).trans b_3), ((hF 4 (by decide) (by omega)).trans b_4), ((hF 5 (by decide) (by omega)).trans b_5), ((hF 6 (by decide) (by omega)).trans b_6), ((hF 7 (by decide) (by omega)).trans b_7), ((hF 8 (by decide) (by omega)).trans b_8), ((hF 9 (by decide) (by omega)).trans b_9), ((hF 10 (by decide) (by omega)).trans b_10), ((hF 11 (by decide) (by omega)).trans b_11), ((hF 12 (by decide) (by omega)).trans b_12), ((hF 13 (by decide) (by omega)).trans b_13), ((hF 14 (by decide) (by omega)).trans b_14), ((hF 39 (by decide) (by omega)).trans b_39), ((hF 40 (by decide) (by omega)).trans b_40), ((hF 41 (by decide) (by omega)).trans b_41), ((hF 42 (by decide) (by omega)).trans b_42), ((hF 43 (by decide) (by omega)).trans b_43), ((hF 44 (by decide) (by omega)).trans b_44), ((hF 45 (by decide) (by omega)).trans b_45), ((hF 46 (by decide) (by omega)).trans b_46), ((hF 47 (by decide) (by omega)).trans b_47), ((hF 48 (by decide) (by omega)).trans b_48), ((hF 49 (by decide) (by omega)).trans b_49), ((hF 50 (by decide) (by omega)).trans b_50), ((hF 51 (by decide) (by omega)).trans b_51), ((hF 52 (by decide) (by omega)).trans b_52), ((hF 53 (by decide) (by omega)).trans b_53), ((hF 54 (by decide) (by omega)).trans b_54), (fun t ht => (hF (15 + t) (by omega) (by omega)).trans (hacts t ht)), (shs_put (j := j) hj hsh ((hF (55 + 2 * j) (by omega) (by omega)).trans (hsh j (by omega)).1) h_56_2_j (fun k h1 h2 => ⟨hF (55 + 2 * k) (by omega) (by omega), hF (56 + 2 * k) (by omega) (by omega)⟩))⟩, (fun x9 h9 => hF x9 (by omega) (by omega))⟩)
      · have c_43 := bI_eq.mp c_43
        have hD : putD x y hr lg = some (-10 - 3, 3) := by rw [putD, if_pos c_9, Ej, if_neg c_27, if_neg c_43]
        refine lv_aload_n hx hb dX8_put_46 rfl (lv_at hl 1 rfl) ?_
        refine lv_iconst (v := 3) hx hb dX8_put_47 (by decide) ?_
        refine qh_runV (As := [.int 3]) (rest := []) (C := RX8) ⟨hx, hb, hml, hown, hts⟩ hK hH (c_X8_failed l G z M E_1 tr 0 (hM) h_0 3) (cwV 1 hts gX8_put_X8_failed rfl rfl rfl (by decide +kernel) (by rw [hRf, hRl]; exact ⟨Nat.le_of_ble_eq_true rfl, Nat.le_of_ble_eq_true rfl⟩)) (by omega) h_0 rfl rfl hl.1 rfl (Nat.le_of_ble_eq_true rfl) dX8_put_48 ⟨Nat.zero_le _, Nat.zero_le _⟩ (qh_kki fun r_48 E_6 H locs hpost hH => ?_)
        obtain ⟨rfl, h_0, hfr⟩ := hpost
        have hF : ∀ x9, x9 ≠ 0 → E_6 x9 = E x9 := fun x9 a0 => (hfr x9 a0).trans (hF x9 a0)
        exact hret dX8_put_51 hH (by rw [hD]; exact ⟨rfl, ⟨_, _, _, _, _, _, _, _, _, _, _, _, _, _, _, _, h_0, ((hF 1 (by decide)).trans b_1), ((hF 2 (by decide)).trans b_2), ((hF 3 (by decide)).trans b_3), ((hF 4 (by decide)).trans b_4), ((hF 5 (by decide)).trans b_5), ((hF 6 (by decide)).trans b_6), ((hF 7 (by decide)).trans b_7), ((hF 8 (by decide)).trans b_8), ((hF 9 (by decide)).trans b_9), ((hF 10 (by decide)).trans b_10), ((hF 11 (by decide)).trans b_11), ((hF 12 (by decide)).trans b_12), ((hF 13 (by decide)).trans b_13), ((hF 14 (by decide)).trans b_14), ((hF 39 (by decide)).trans b_39), ((hF 40 (by decide)).trans b_40), ((hF 41 (by decide)).trans b_41), ((hF 42 (by decide)).trans b_42), ((hF 43 (by decide)).trans b_43), ((hF 44 (by decide)).trans b_44), ((hF 45 (by decide)).trans b_45), ((hF 46 (by decide)).trans b_46), ((hF 47 (by decide)).trans b_47), ((hF 48 (by decide)).trans b_48), ((hF 49 (by decide)).trans b_49), ((hF 50 (by decide)).trans b_50), ((hF 51 (by decide)).trans b_51), ((hF 52 (by decide)).trans b_52), ((hF 53 (by decide)).trans b_53), ((hF 54 (by decide)).trans b_54), (fun t ht => (hF (15 + t) (by omega)).trans (hacts t ht)), (fun k hk => ⟨(hF (55 + 2 * k) (by omega)).trans (hsh k hk).1, (hF (56 + 2 * k) (by omega)).trans (hsh k hk).2⟩)⟩, (fun x9 h9 => hF x9 (by omega))⟩)
    · have hD : putD x y hr lg = some (-10 - 1, 1) := by rw [putD, if_pos c_9, Ej, if_pos c_27]
      refine lv_aload_n hx hb dX8_put_30 rfl (lv_at hl 1 rfl) ?_
      refine lv_iconst (v := 1) hx hb dX8_put_31 (by decide) ?_
      refine qh_runV (As := [.int 1]) (rest := []) (C := RX8) ⟨hx, hb, hml, hown, hts⟩ hK hH (c_X8_failed l G z M E_1 tr 0 (hM) h_0 1) (cwV 1 hts gX8_put_X8_failed rfl rfl rfl (by decide +kernel) (by rw [hRf, hRl]; exact ⟨Nat.le_of_ble_eq_true rfl, Nat.le_of_ble_eq_true rfl⟩)) (by omega) h_0 rfl rfl hl.1 rfl (Nat.le_of_ble_eq_true rfl) dX8_put_32 ⟨Nat.zero_le _, Nat.zero_le _⟩ (qh_kki fun r_32 E_7 H locs hpost hH => ?_)
      obtain ⟨rfl, h_0, hfr⟩ := hpost
      have hF : ∀ x9, x9 ≠ 0 → E_7 x9 = E x9 := fun x9 a0 => (hfr x9 a0).trans (hF x9 a0)
      exact hret dX8_put_35 hH (by rw [hD]; exact ⟨rfl, ⟨_, _, _, _, _, _, _, _, _, _, _, _, _, _, _, _, h_0, ((hF 1 (by decide)).trans b_1), ((hF 2 (by decide)).trans b_2), ((hF 3 (by decide)).trans b_3), ((hF 4 (by decide)).trans b_4), ((hF 5 (by decide)).trans b_5), ((hF 6 (by decide)).trans b_6), ((hF 7 (by decide)).trans b_7), ((hF 8 (by decide)).trans b_8), ((hF 9 (by decide)).trans b_9), ((hF 10 (by decide)).trans b_10), ((hF 11 (by decide)).trans b_11), ((hF 12 (by decide)).trans b_12), ((hF 13 (by decide)).trans b_13), ((hF 14 (by decide)).trans b_14), ((hF 39 (by decide)).trans b_39), ((hF 40 (by decide)).trans b_40), ((hF 41 (by decide)).trans b_41), ((hF 42 (by decide)).trans b_42), ((hF 43 (by decide)).trans b_43), ((hF 44 (by decide)).trans b_44), ((hF 45 (by decide)).trans b_45), ((hF 46 (by decide)).trans b_46), ((hF 47 (by decide)).trans b_47), ((hF 48 (by decide)).trans b_48), ((hF 49 (by decide)).trans b_49), ((hF 50 (by decide)).trans b_50), ((hF 51 (by decide)).trans b_51), ((hF 52 (by decide)).trans b_52), ((hF 53 (by decide)).trans b_53), ((hF 54 (by decide)).trans b_54), (fun t ht => (hF (15 + t) (by omega)).trans (hacts t ht)), (fun k hk => ⟨(hF (55 + 2 * k) (by omega)).trans (hsh k hk).1, (hF (56 + 2 * k) (by omega)).trans (hsh k hk).2⟩)⟩, (fun x9 h9 => hF x9 (by omega))⟩)
  · have c_9 := bI_eq.mp c_9
    have hD : putD x y hr lg = some (-1, 0) := if_neg c_9
    refine lv_iconst (v := (-1)) hx hb dX8_put_12 (by decide) ?_
    exact hret dX8_put_13 hH (by rw [hD]; exact ⟨rfl, ⟨_, _, _, _, _, _, _, _, _, _, _, _, _, _, _, _, h_0, ((hF 1 (by decide)).trans b_1), ((hF 2 (by decide)).trans b_2), ((hF 3 (by decide)).trans b_3), ((hF 4 (by decide)).trans b_4), ((hF 5 (by decide)).trans b_5), ((hF 6 (by decide)).trans b_6), ((hF 7 (by decide)).trans b_7), ((hF 8 (by decide)).trans b_8), ((hF 9 (by decide)).trans b_9), ((hF 10 (by decide)).trans b_10), ((hF 11 (by decide)).trans b_11), ((hF 12 (by decide)).trans b_12), ((hF 13 (by decide)).trans b_13), ((hF 14 (by decide)).trans b_14), ((hF 39 (by decide)).trans b_39), ((hF 40 (by decide)).trans b_40), ((hF 41 (by decide)).trans b_41), ((hF 42 (by decide)).trans b_42), ((hF 43 (by decide)).trans b_43), ((hF 44 (by decide)).trans b_44), ((hF 45 (by decide)).trans b_45), ((hF 46 (by decide)).trans b_46), ((hF 47 (by decide)).trans b_47), ((hF 48 (by decide)).trans b_48), ((hF 49 (by decide)).trans b_49), ((hF 50 (by decide)).trans b_50), ((hF 51 (by decide)).trans b_51), ((hF 52 (by decide)).trans b_52), ((hF 53 (by decide)).trans b_53), ((hF 54 (by decide)).trans b_54), (fun t ht => (hF (15 + t) (by omega)).trans (hacts t ht)), (fun k hk => ⟨(hF (55 + 2 * k) (by omega)).trans (hsh k hk).1, (hF (56 + 2 * k) (by omega)).trans (hsh k hk).2⟩)⟩, (fun x9 h9 => hF x9 (by omega))⟩)

set_option maxHeartbeats 1000000 in
set_option maxRecDepth 100000 in
theorem c_X8_cell (l : Launch) (G : qh_G) (z M : Nat) (E : Nat → va_E) (tr : Int32) (lf : Int32) (n : Nat) (f : Nat → Int64) (g : Nat → Int64) (bf : Nat → Int64) (m2 : Nat) (kd : Nat → Int32) (pa : Nat → Int32) (ln : Nat) (ts : Nat → Int32) (ga : Nat → Nat) (gb : Nat → Nat) (va : Nat → Int64) (rn : Nat) (cn : Nat → Nat) (vs : Nat → Int64) (hr : Nat → Int32) (la : Nat → Int32) (lg : Nat → Nat) (sc : Nat → Nat → Int32) (hM : 84 ≤ M) (hX : XE G z E tr lf n f g bf m2 kd pa ln ts ga gb va rn cn vs hr la lg sc) (hW : XW n m2 ln rn ga gb cn lg hr) (x : Int32) (y : Int32) (q : Int32) : Met l yX8_cell wsX8_cell (qh_R 1) (qh_Pre G z M E [.ref (z + 0), .int x, .int y, .int q]) (qh_Q G z M (qh_l (fun r E' => r = (celV x y q hr la lg sc).1 ∧ XE G z E' tr ((celV x y q hr la lg sc).2) n f g bf m2 kd pa ln ts ga gb va rn cn vs hr la lg sc ∧ ∀ x9, 63 ≤ x9 → E' x9 = E x9))) 0 0 (fun q => z ≤ q) := by
  refine qh_metL (cc := cX8_cell) (maxL := 6) (by decide) rfl (Nat.le_of_ble_eq_true rfl) ?_
  intro pZ eZ sZ mZ aZ bZ tZ cZ RR QQ ls hx hb hml hown hts hRf hRl hH hK hl hret
  have hown : sZ.vm.findClass RX8 = some mZ.cls := hown
  have hl : lv_has ls 6 [(0, .ref (z + 0)), (1, .int x), (2, .int y), (3, .int q)] := hl
  obtain ⟨tc, dg, hn0, tk, tp, gn, gk, gp, t0, a0, b0, v0, bg, tn, tf, tg, b_0, b_1, b_2, b_3, b_4, b_5, b_6, b_7, b_8, b_9, b_10, b_11, b_12, b_13, b_14, b_39, b_40, b_41, b_42, b_43, b_44, b_45, b_46, b_47, b_48, b_49, b_50, b_51, b_52, b_53, b_54, hacts, hsh⟩ := hX
  obtain ⟨⟨hn16, hm3, hl24, hr8⟩, hval, hcn, hlg, hhr⟩ := hW
  have in_X8 : ∀ w ∈ wsX80, w ∈ wsX8_cell := fun w h => List.mem_cons_of_mem _ (List.mem_append_left _ (List.mem_append_right _ h))
  have in_X5 : ∀ w ∈ wsX50, w ∈ wsX8_cell := fun w h => List.mem_cons_of_mem _ (List.mem_append_right _ h)
  have w_79 : qh_W G sZ mZ aZ 79 8 12 .int := qh_W.of hts in_X8 tyX8 tyX8_ok nmX8 hown hK rfl 12 (by decide) (by decide +kernel) rfl (by decide +kernel)
  have k_161 := hts (.constantLong RX8 161 (-9223372036854775808)) (by decide +kernel)
  have f_13 : qh_F G sZ mZ aZ 13 8 0 := qh_F.of hts in_X8 hown hK rfl 0 (by decide) (by decide +kernel)
  have f_305 : qh_F G sZ mZ aZ 305 5 3 := qh_F.of hts in_X5 hown hK rfl 3 (by decide) (by decide +kernel)
  refine lv_aload_n hx hb dX8_cell_0 rfl (lv_at hl 0 rfl) ?_
  refine lv_iconst (v := 0) hx hb dX8_cell_1 (by decide) ?_
  refine qh_put (fs' := [.ref (z + 1), .ref (z + 2), .ref (z + 7), .ref (z + 10), .ref (z + 13), .ref (z + 39), .ref (z + 40), .ref (z + 43), .ref (z + 46), .ref (z + 49), .ref (z + 52), .int tr, .int 0]) hx hb hH w_79 (by omega) b_0 rfl rfl (Nat.le_of_ble_eq_true rfl) rfl dX8_cell_2 (fun E_1 H locs h_0 hfr hH _ => ?_)
  have hF : ∀ x9, x9 ≠ 0 → E_1 x9 = E x9 := fun x9 a0 => hfr x9 a0
  refine lv_iload_n hx hb dX8_cell_5 rfl (lv_at hl 1 rfl) ?_
  refine qh_runS (As := [.int x]) (rest := []) ⟨hx, hb, hml, hown, hts⟩ hK hH (c_X8_isSheet l G z M E_1 x) (va_cwS 1 hts gX8_cell_X8_isSheet rfl rfl rfl (by decide +kernel) (by rw [hRf, hRl]; exact ⟨Nat.le_of_ble_eq_true rfl, Nat.le_of_ble_eq_true rfl⟩)) rfl hl.1 rfl (Nat.le_of_ble_eq_true rfl) dX8_cell_6 ⟨Nat.zero_le _, Nat.zero_le _⟩ (qh_kki fun r_6 E_2 H locs hpost hH => ?_)
  obtain ⟨rfl, rfl⟩ := hpost
  refine lv_if_eq (tgt := 19) hx hb dX8_cell_9 (by decide) (fun c_9 => ?_) (fun c_9 => ?_)
  · have c_9 := bI_eq.mp c_9
    have hD : celV x y q hr la lg sc = (LOSTv, 0) := by rw [celV, if_neg (fun u => c_9 u.1)]
    refine lv_ldc2 hx hb hown k_161 dX8_cell_19 ?_
    refine qh_topl (y := LOSTv) (rfl) ?_
    exact hret dX8_cell_22 hH (by rw [hD]; exact ⟨rfl, ⟨_, _, _, _, _, _, _, _, _, _, _, _, _, _, _, _, h_0, ((hF 1 (by decide)).trans b_1), ((hF 2 (by decide)).trans b_2), ((hF 3 (by decide)).trans b_3), ((hF 4 (by decide)).trans b_4), ((hF 5 (by decide)).trans b_5), ((hF 6 (by decide)).trans b_6), ((hF 7 (by decide)).trans b_7), ((hF 8 (by decide)).trans b_8), ((hF 9 (by decide)).trans b_9), ((hF 10 (by decide)).trans b_10), ((hF 11 (by decide)).trans b_11), ((hF 12 (by decide)).trans b_12), ((hF 13 (by decide)).trans b_13), ((hF 14 (by decide)).trans b_14), ((hF 39 (by decide)).trans b_39), ((hF 40 (by decide)).trans b_40), ((hF 41 (by decide)).trans b_41), ((hF 42 (by decide)).trans b_42), ((hF 43 (by decide)).trans b_43), ((hF 44 (by decide)).trans b_44), ((hF 45 (by decide)).trans b_45), ((hF 46 (by decide)).trans b_46), ((hF 47 (by decide)).trans b_47), ((hF 48 (by decide)).trans b_48), ((hF 49 (by decide)).trans b_49), ((hF 50 (by decide)).trans b_50), ((hF 51 (by decide)).trans b_51), ((hF 52 (by decide)).trans b_52), ((hF 53 (by decide)).trans b_53), ((hF 54 (by decide)).trans b_54), (fun t ht => (hF (15 + t) (by omega)).trans (hacts t ht)), (fun k hk => ⟨(hF (55 + 2 * k) (by omega)).trans (hsh k hk).1, (hF (56 + 2 * k) (by omega)).trans (hsh k hk).2⟩)⟩, (fun x9 h9 => hF x9 (by omega))⟩)
  · have c_9 := bI_ne.mp c_9
    refine lv_iload_n hx hb dX8_cell_12 rfl (lv_at hl 3 rfl) ?_
    refine qh_runS (As := [.int q]) (rest := []) ⟨hx, hb, hml, hown, hts⟩ hK hH (c_X8_isLane l G z M E_1 q) (va_cwS 1 hts gX8_cell_X8_isLane rfl rfl rfl (by decide +kernel) (by rw [hRf, hRl]; exact ⟨Nat.le_of_ble_eq_true rfl, Nat.le_of_ble_eq_true rfl⟩)) rfl hl.1 rfl (Nat.le_of_ble_eq_true rfl) dX8_cell_13 ⟨Nat.zero_le _, Nat.zero_le _⟩ (qh_kki fun r_13 E_3 H locs hpost hH => ?_)
    obtain ⟨rfl, rfl⟩ := hpost
    refine lv_if_ne (tgt := 23) hx hb dX8_cell_16 (by decide) (fun c_16 => ?_) (fun c_16 => ?_)
    · have c_16 := bI_ne.mp c_16
      obtain ⟨j, hj, ej⟩ := nI_of_in (k := x) (c := 4) (by decide) c_9
      have Ej : x.toNatClampNeg = j := by rw [ej]; exact nI_clamp (by omega)
      refine lv_aload_n hx hb dX8_cell_23 rfl (lv_at hl 0 rfl) ?_
      refine qh_get hx hb hH f_13 (by omega) h_0 rfl dX8_cell_24 ?_
      refine lv_iload_n hx hb dX8_cell_27 rfl (lv_at hl 1 rfl) ?_
      refine qh_aaldS (a := z + (55 + 2 * j)) hx hb hK hH (by omega) ((hF 1 (by decide)).trans b_1) (j := j) (ej) (hj) (by omega) (rfl) dX8_cell_28 ?_
      refine lv_astore (lv' := [(4, .ref (z + (55 + 2 * j))), (0, .ref (z + 0)), (1, .int x), (2, .int y), (3, .int q)]) hx hb dX8_cell_29 hl (by decide) rfl (fun ls hl => ?_)
      refine lv_aload hx hb dX8_cell_31 (lv_at hl 0 rfl) ?_
      refine lv_iload_n hx hb dX8_cell_33 rfl (lv_at hl 4 rfl) ?_
      refine qh_runV (As := [.int q]) (rest := []) (C := RX5) ⟨hx, hb, hml, hown, hts⟩ hK hH (c_X5_faultTakenAs l G z M E_1 (55 + 2 * j) (hr j) (la j) (nI (lg j)) q (.ref (z + (56 + 2 * j))) (by omega) ((hF (55 + 2 * j) (by omega)).trans (hsh j (by omega)).1)) (cwV 1 hts gX8_cell_X5_faultTakenAs rfl rfl rfl (by decide +kernel) (by rw [hRf, hRl]; exact ⟨Nat.le_of_ble_eq_true rfl, Nat.le_of_ble_eq_true rfl⟩)) (by omega) ((hF (55 + 2 * j) (by omega)).trans (hsh j (by omega)).1) rfl rfl hl.1 rfl (Nat.le_of_ble_eq_true rfl) dX8_cell_34 ⟨Nat.zero_le _, Nat.zero_le _⟩ (qh_kki fun r_34 E_4 H locs hpost hH => ?_)
      obtain ⟨rfl, rfl⟩ := hpost
      refine qh_topi (y := takF (hr j) (la j) q) (rfl) ?_
      refine lv_istore (lv' := [(5, .int (takF (hr j) (la j) q)), (4, .ref (z + (55 + 2 * j))), (0, .ref (z + 0)), (1, .int x), (2, .int y), (3, .int q)]) hx hb dX8_cell_37 hl (by decide) rfl (fun ls hl => ?_)
      refine lv_iload hx hb dX8_cell_39 (lv_at hl 0 rfl) ?_
      refine lv_if_eq (tgt := 51) hx hb dX8_cell_41 (by decide) (fun c_41 => ?_) (fun c_41 => ?_)
      · refine lv_aload hx hb dX8_cell_51 (lv_at hl 1 rfl) ?_
        refine lv_iload_n hx hb dX8_cell_53 rfl (lv_at hl 4 rfl) ?_
        refine lv_iconst (v := 1) hx hb dX8_cell_54 (by decide) ?_
        refine qh_runV (As := [.int y, .int 1]) (rest := []) (C := RX5) ⟨hx, hb, hml, hown, hts⟩ hK hH (c_X5_hasCells l G z M E_1 (55 + 2 * j) (hr j) (la j) (nI (lg j)) y 1 (.ref (z + (56 + 2 * j))) (by omega) ((hF (55 + 2 * j) (by omega)).trans (hsh j (by omega)).1)) (cwV 2 hts gX8_cell_X5_hasCells rfl rfl rfl (by decide +kernel) (by rw [hRf, hRl]; exact ⟨Nat.le_of_ble_eq_true rfl, Nat.le_of_ble_eq_true rfl⟩)) (by omega) ((hF (55 + 2 * j) (by omega)).trans (hsh j (by omega)).1) rfl rfl hl.1 rfl (Nat.le_of_ble_eq_true rfl) dX8_cell_55 ⟨Nat.zero_le _, Nat.zero_le _⟩ (qh_kki fun r_55 E_5 H locs hpost hH => ?_)
        obtain ⟨rfl, rfl⟩ := hpost
        refine lv_if_eq (tgt := 72) hx hb dX8_cell_58 (by decide) (fun c_58 => ?_) (fun c_58 => ?_)
        · have c_58 := bI_eq.mp c_58
          have hD : celV x y q hr la lg sc = (LOSTv, 3) := by rw [celV, if_pos ⟨c_9, c_16⟩, Ej, if_pos c_41, if_neg c_58]
          refine lv_aload_n hx hb dX8_cell_72 rfl (lv_at hl 2 rfl) ?_
          refine lv_iconst (v := 3) hx hb dX8_cell_73 (by decide) ?_
          refine qh_runV (As := [.int 3]) (rest := []) (C := RX8) ⟨hx, hb, hml, hown, hts⟩ hK hH (c_X8_lost l G z M E_1 tr 0 (hM) h_0 3) (cwV 1 hts gX8_cell_X8_lost rfl rfl rfl (by decide +kernel) (by rw [hRf, hRl]; exact ⟨Nat.le_of_ble_eq_true rfl, Nat.le_of_ble_eq_true rfl⟩)) (by omega) h_0 rfl rfl hl.1 rfl (Nat.le_of_ble_eq_true rfl) dX8_cell_74 ⟨Nat.zero_le _, Nat.zero_le _⟩ (qh_kkl fun r_74 E_6 H locs hpost hH => ?_)
          obtain ⟨rfl, h_0, hfr⟩ := hpost
          have hF : ∀ x9, x9 ≠ 0 → E_6 x9 = E x9 := fun x9 a0 => (hfr x9 a0).trans (hF x9 a0)
          exact hret dX8_cell_77 hH (by rw [hD]; exact ⟨rfl, ⟨_, _, _, _, _, _, _, _, _, _, _, _, _, _, _, _, h_0, ((hF 1 (by decide)).trans b_1), ((hF 2 (by decide)).trans b_2), ((hF 3 (by decide)).trans b_3), ((hF 4 (by decide)).trans b_4), ((hF 5 (by decide)).trans b_5), ((hF 6 (by decide)).trans b_6), ((hF 7 (by decide)).trans b_7), ((hF 8 (by decide)).trans b_8), ((hF 9 (by decide)).trans b_9), ((hF 10 (by decide)).trans b_10), ((hF 11 (by decide)).trans b_11), ((hF 12 (by decide)).trans b_12), ((hF 13 (by decide)).trans b_13), ((hF 14 (by decide)).trans b_14), ((hF 39 (by decide)).trans b_39), ((hF 40 (by decide)).trans b_40), ((hF 41 (by decide)).trans b_41), ((hF 42 (by decide)).trans b_42), ((hF 43 (by decide)).trans b_43), ((hF 44 (by decide)).trans b_44), ((hF 45 (by decide)).trans b_45), ((hF 46 (by decide)).trans b_46), ((hF 47 (by decide)).trans b_47), ((hF 48 (by decide)).trans b_48), ((hF 49 (by decide)).trans b_49), ((hF 50 (by decide)).trans b_50), ((hF 51 (by decide)).trans b_51), ((hF 52 (by decide)).trans b_52), ((hF 53 (by decide)).trans b_53), ((hF 54 (by decide)).trans b_54), (fun t ht => (hF (15 + t) (by omega)).trans (hacts t ht)), (fun k hk => ⟨(hF (55 + 2 * k) (by omega)).trans (hsh k hk).1, (hF (56 + 2 * k) (by omega)).trans (hsh k hk).2⟩)⟩, (fun x9 h9 => hF x9 (by omega))⟩)
        · have c_58 := bI_ne.mp c_58
          have hlj := hlg j hj
          obtain ⟨v, hv, ev⟩ := has_1 hlj c_58
          have Ev : y.toNatClampNeg = v := by rw [ev]; exact nI_clamp (by omega)
          have hD : celV x y q hr la lg sc = ((sc j v).toInt64, 0) := by rw [celV, if_pos ⟨c_9, c_16⟩, Ej, if_pos c_41, if_pos c_58, Ev]
          refine lv_aload hx hb dX8_cell_61 (lv_at hl 1 rfl) ?_
          refine qh_get hx hb hH f_305 (by omega) ((hF (55 + 2 * j) (by omega)).trans (hsh j (by omega)).1) rfl dX8_cell_63 ?_
          refine lv_iload_n hx hb dX8_cell_66 rfl (lv_at hl 4 rfl) ?_
          refine qh_iald hx hb hK hH (by omega) ((hF (56 + 2 * j) (by omega)).trans (hsh j (by omega)).2) (j := v) (ev) (by omega) (by omega) dX8_cell_67 ?_
          refine lv_i2l (v := (sc j v).toInt64) hx hb dX8_cell_68 rfl ?_
          refine lv_goto (tgt := 77) hx hb dX8_cell_69 (by decide) ?_
          exact hret dX8_cell_77 hH (by rw [hD]; exact ⟨rfl, ⟨_, _, _, _, _, _, _, _, _, _, _, _, _, _, _, _, h_0, ((hF 1 (by decide)).trans b_1), ((hF 2 (by decide)).trans b_2), ((hF 3 (by decide)).trans b_3), ((hF 4 (by decide)).trans b_4), ((hF 5 (by decide)).trans b_5), ((hF 6 (by decide)).trans b_6), ((hF 7 (by decide)).trans b_7), ((hF 8 (by decide)).trans b_8), ((hF 9 (by decide)).trans b_9), ((hF 10 (by decide)).trans b_10), ((hF 11 (by decide)).trans b_11), ((hF 12 (by decide)).trans b_12), ((hF 13 (by decide)).trans b_13), ((hF 14 (by decide)).trans b_14), ((hF 39 (by decide)).trans b_39), ((hF 40 (by decide)).trans b_40), ((hF 41 (by decide)).trans b_41), ((hF 42 (by decide)).trans b_42), ((hF 43 (by decide)).trans b_43), ((hF 44 (by decide)).trans b_44), ((hF 45 (by decide)).trans b_45), ((hF 46 (by decide)).trans b_46), ((hF 47 (by decide)).trans b_47), ((hF 48 (by decide)).trans b_48), ((hF 49 (by decide)).trans b_49), ((hF 50 (by decide)).trans b_50), ((hF 51 (by decide)).trans b_51), ((hF 52 (by decide)).trans b_52), ((hF 53 (by decide)).trans b_53), ((hF 54 (by decide)).trans b_54), (fun t ht => (hF (15 + t) (by omega)).trans (hacts t ht)), (fun k hk => ⟨(hF (55 + 2 * k) (by omega)).trans (hsh k hk).1, (hF (56 + 2 * k) (by omega)).trans (hsh k hk).2⟩)⟩, (fun x9 h9 => hF x9 (by omega))⟩)
      · have hD : celV x y q hr la lg sc = (LOSTv, takF (hr j) (la j) q) := by rw [celV, if_pos ⟨c_9, c_16⟩, Ej, if_neg c_41]
        refine lv_aload_n hx hb dX8_cell_44 rfl (lv_at hl 2 rfl) ?_
        refine lv_iload hx hb dX8_cell_45 (lv_at hl 0 rfl) ?_
        refine qh_runV (As := [.int (takF (hr j) (la j) q)]) (rest := []) (C := RX8) ⟨hx, hb, hml, hown, hts⟩ hK hH (c_X8_lost l G z M E_1 tr 0 (hM) h_0 (takF (hr j) (la j) q)) (cwV 1 hts gX8_cell_X8_lost rfl rfl rfl (by decide +kernel) (by rw [hRf, hRl]; exact ⟨Nat.le_of_ble_eq_true rfl, Nat.le_of_ble_eq_true rfl⟩)) (by omega) h_0 rfl rfl hl.1 rfl (Nat.le_of_ble_eq_true rfl) dX8_cell_47 ⟨Nat.zero_le _, Nat.zero_le _⟩ (qh_kkl fun r_47 E_7 H locs hpost hH => ?_)
        obtain ⟨rfl, h_0, hfr⟩ := hpost
        have hF : ∀ x9, x9 ≠ 0 → E_7 x9 = E x9 := fun x9 a0 => (hfr x9 a0).trans (hF x9 a0)
        exact hret dX8_cell_50 hH (by rw [hD]; exact ⟨rfl, ⟨_, _, _, _, _, _, _, _, _, _, _, _, _, _, _, _, h_0, ((hF 1 (by decide)).trans b_1), ((hF 2 (by decide)).trans b_2), ((hF 3 (by decide)).trans b_3), ((hF 4 (by decide)).trans b_4), ((hF 5 (by decide)).trans b_5), ((hF 6 (by decide)).trans b_6), ((hF 7 (by decide)).trans b_7), ((hF 8 (by decide)).trans b_8), ((hF 9 (by decide)).trans b_9), ((hF 10 (by decide)).trans b_10), ((hF 11 (by decide)).trans b_11), ((hF 12 (by decide)).trans b_12), ((hF 13 (by decide)).trans b_13), ((hF 14 (by decide)).trans b_14), ((hF 39 (by decide)).trans b_39), ((hF 40 (by decide)).trans b_40), ((hF 41 (by decide)).trans b_41), ((hF 42 (by decide)).trans b_42), ((hF 43 (by decide)).trans b_43), ((hF 44 (by decide)).trans b_44), ((hF 45 (by decide)).trans b_45), ((hF 46 (by decide)).trans b_46), ((hF 47 (by decide)).trans b_47), ((hF 48 (by decide)).trans b_48), ((hF 49 (by decide)).trans b_49), ((hF 50 (by decide)).trans b_50), ((hF 51 (by decide)).trans b_51), ((hF 52 (by decide)).trans b_52), ((hF 53 (by decide)).trans b_53), ((hF 54 (by decide)).trans b_54), (fun t ht => (hF (15 + t) (by omega)).trans (hacts t ht)), (fun k hk => ⟨(hF (55 + 2 * k) (by omega)).trans (hsh k hk).1, (hF (56 + 2 * k) (by omega)).trans (hsh k hk).2⟩)⟩, (fun x9 h9 => hF x9 (by omega))⟩)
    · have c_16 := bI_eq.mp c_16
      have hD : celV x y q hr la lg sc = (LOSTv, 0) := by rw [celV, if_neg (fun u => c_16 u.2)]
      refine lv_ldc2 hx hb hown k_161 dX8_cell_19 ?_
      refine qh_topl (y := LOSTv) (rfl) ?_
      exact hret dX8_cell_22 hH (by rw [hD]; exact ⟨rfl, ⟨_, _, _, _, _, _, _, _, _, _, _, _, _, _, _, _, h_0, ((hF 1 (by decide)).trans b_1), ((hF 2 (by decide)).trans b_2), ((hF 3 (by decide)).trans b_3), ((hF 4 (by decide)).trans b_4), ((hF 5 (by decide)).trans b_5), ((hF 6 (by decide)).trans b_6), ((hF 7 (by decide)).trans b_7), ((hF 8 (by decide)).trans b_8), ((hF 9 (by decide)).trans b_9), ((hF 10 (by decide)).trans b_10), ((hF 11 (by decide)).trans b_11), ((hF 12 (by decide)).trans b_12), ((hF 13 (by decide)).trans b_13), ((hF 14 (by decide)).trans b_14), ((hF 39 (by decide)).trans b_39), ((hF 40 (by decide)).trans b_40), ((hF 41 (by decide)).trans b_41), ((hF 42 (by decide)).trans b_42), ((hF 43 (by decide)).trans b_43), ((hF 44 (by decide)).trans b_44), ((hF 45 (by decide)).trans b_45), ((hF 46 (by decide)).trans b_46), ((hF 47 (by decide)).trans b_47), ((hF 48 (by decide)).trans b_48), ((hF 49 (by decide)).trans b_49), ((hF 50 (by decide)).trans b_50), ((hF 51 (by decide)).trans b_51), ((hF 52 (by decide)).trans b_52), ((hF 53 (by decide)).trans b_53), ((hF 54 (by decide)).trans b_54), (fun t ht => (hF (15 + t) (by omega)).trans (hacts t ht)), (fun k hk => ⟨(hF (55 + 2 * k) (by omega)).trans (hsh k hk).1, (hF (56 + 2 * k) (by omega)).trans (hsh k hk).2⟩)⟩, (fun x9 h9 => hF x9 (by omega))⟩)

set_option maxHeartbeats 1000000 in
set_option maxRecDepth 100000 in
theorem c_X8_copy (l : Launch) (G : qh_G) (z M : Nat) (E : Nat → va_E) (tr : Int32) (lf : Int32) (n : Nat) (f : Nat → Int64) (g : Nat → Int64) (bf : Nat → Int64) (m2 : Nat) (kd : Nat → Int32) (pa : Nat → Int32) (ln : Nat) (ts : Nat → Int32) (ga : Nat → Nat) (gb : Nat → Nat) (va : Nat → Int64) (rn : Nat) (cn : Nat → Nat) (vs : Nat → Int64) (hr : Nat → Int32) (la : Nat → Int32) (lg : Nat → Nat) (sc : Nat → Nat → Int32) (hM : 84 ≤ M) (hX : XE G z E tr lf n f g bf m2 kd pa ln ts ga gb va rn cn vs hr la lg sc) (hW : XW n m2 ln rn ga gb cn lg hr) (x : Int32) (y : Int32) (q : Int32) (u : Int32) (v : Int32) : Met l yX8_copy wsX8_copy (qh_R 1) (qh_Pre G z M E [.ref (z + 0), .int x, .int y, .int q, .int u, .int v]) (qh_Q G z M (qh_i (fun r E' => match cpyD x y q u v hr la lg with | some d => r = d.1 ∧ XE G z E' tr d.2 n f g bf m2 kd pa ln ts ga gb va rn cn vs hr la lg sc ∧ ∀ x9, 63 ≤ x9 → E' x9 = E x9 | none => r = v ∧ XE G z E' tr 0 n f g bf m2 kd pa ln ts ga gb va rn cn vs (upd hr q.toNatClampNeg (hr q.toNatClampNeg)) (upd la q.toNatClampNeg (la q.toNatClampNeg)) (upN lg q.toNatClampNeg (lg q.toNatClampNeg)) (upS sc q.toNatClampNeg (va_cpy (sc x.toNatClampNeg) (sc q.toNatClampNeg) y.toNatClampNeg u.toNatClampNeg v.toNatClampNeg)) ∧ ∀ x9, 63 ≤ x9 → E' x9 = E x9))) 0 0 (fun q => z ≤ q) := by
  refine qh_metI (cc := cX8_copy) (maxL := 8) (by decide) rfl (Nat.le_of_ble_eq_true rfl) ?_
  intro pZ eZ sZ mZ aZ bZ tZ cZ RR QQ ls hx hb hml hown hts hRf hRl hH hK hl hret
  have hown : sZ.vm.findClass RX8 = some mZ.cls := hown
  have hl : lv_has ls 8 [(0, .ref (z + 0)), (1, .int x), (2, .int y), (3, .int q), (4, .int u), (5, .int v)] := hl
  obtain ⟨tc, dg, hn0, tk, tp, gn, gk, gp, t0, a0, b0, v0, bg, tn, tf, tg, b_0, b_1, b_2, b_3, b_4, b_5, b_6, b_7, b_8, b_9, b_10, b_11, b_12, b_13, b_14, b_39, b_40, b_41, b_42, b_43, b_44, b_45, b_46, b_47, b_48, b_49, b_50, b_51, b_52, b_53, b_54, hacts, hsh⟩ := hX
  obtain ⟨⟨hn16, hm3, hl24, hr8⟩, hval, hcn, hlg, hhr⟩ := hW
  have in_X8 : ∀ w ∈ wsX80, w ∈ wsX8_copy := fun w h => List.mem_cons_of_mem _ (List.mem_append_left _ (List.mem_append_right _ h))
  have in_X5 : ∀ w ∈ wsX50, w ∈ wsX8_copy := fun w h => List.mem_cons_of_mem _ (List.mem_append_right _ h)
  have w_79 : qh_W G sZ mZ aZ 79 8 12 .int := qh_W.of hts in_X8 tyX8 tyX8_ok nmX8 hown hK rfl 12 (by decide) (by decide +kernel) rfl (by decide +kernel)
  have f_13 : qh_F G sZ mZ aZ 13 8 0 := qh_F.of hts in_X8 hown hK rfl 0 (by decide) (by decide +kernel)
  have f_301 : qh_F G sZ mZ aZ 301 5 0 := qh_F.of hts in_X5 hown hK rfl 0 (by decide) (by decide +kernel)
  have f_310 : qh_F G sZ mZ aZ 310 5 1 := qh_F.of hts in_X5 hown hK rfl 1 (by decide) (by decide +kernel)
  have f_305 : qh_F G sZ mZ aZ 305 5 3 := qh_F.of hts in_X5 hown hK rfl 3 (by decide) (by decide +kernel)
  have j_313 := hts (.methodLink RX8 313 arraycopyName) (by decide +kernel)
  have jn_313 := hts (.native arraycopyName) (by decide +kernel)
  have js_313 := hts (.static arraycopyName) (by decide +kernel)
  have ji_313 := hts (.initialized "java/lang/System") (by decide +kernel)
  refine lv_aload_n hx hb dX8_copy_0 rfl (lv_at hl 0 rfl) ?_
  refine lv_iconst (v := 0) hx hb dX8_copy_1 (by decide) ?_
  refine qh_put (fs' := [.ref (z + 1), .ref (z + 2), .ref (z + 7), .ref (z + 10), .ref (z + 13), .ref (z + 39), .ref (z + 40), .ref (z + 43), .ref (z + 46), .ref (z + 49), .ref (z + 52), .int tr, .int 0]) hx hb hH w_79 (by omega) b_0 rfl rfl (Nat.le_of_ble_eq_true rfl) rfl dX8_copy_2 (fun E_1 H locs h_0 hfr hH _ => ?_)
  have hF : ∀ x9, x9 ≠ 0 → E_1 x9 = E x9 := fun x9 a0 => hfr x9 a0
  refine lv_iload_n hx hb dX8_copy_5 rfl (lv_at hl 1 rfl) ?_
  refine qh_runS (As := [.int x]) (rest := []) ⟨hx, hb, hml, hown, hts⟩ hK hH (c_X8_isSheet l G z M E_1 x) (va_cwS 1 hts gX8_copy_X8_isSheet rfl rfl rfl (by decide +kernel) (by rw [hRf, hRl]; exact ⟨Nat.le_of_ble_eq_true rfl, Nat.le_of_ble_eq_true rfl⟩)) rfl hl.1 rfl (Nat.le_of_ble_eq_true rfl) dX8_copy_6 ⟨Nat.zero_le _, Nat.zero_le _⟩ (qh_kki fun r_6 E_2 H locs hpost hH => ?_)
  obtain ⟨rfl, rfl⟩ := hpost
  refine lv_if_eq (tgt := 19) hx hb dX8_copy_9 (by decide) (fun c_9 => ?_) (fun c_9 => ?_)
  · have c_9 := bI_eq.mp c_9
    have hD : cpyD x y q u v hr la lg = some (-1, 0) := by rw [cpyD, if_neg (fun w => c_9 w.1)]
    refine lv_iconst (v := (-1)) hx hb dX8_copy_19 (by decide) ?_
    exact hret dX8_copy_20 hH (by rw [hD]; exact ⟨rfl, ⟨_, _, _, _, _, _, _, _, _, _, _, _, _, _, _, _, h_0, ((hF 1 (by decide)).trans b_1), ((hF 2 (by decide)).trans b_2), ((hF 3 (by decide)).trans b_3), ((hF 4 (by decide)).trans b_4), ((hF 5 (by decide)).trans b_5), ((hF 6 (by decide)).trans b_6), ((hF 7 (by decide)).trans b_7), ((hF 8 (by decide)).trans b_8), ((hF 9 (by decide)).trans b_9), ((hF 10 (by decide)).trans b_10), ((hF 11 (by decide)).trans b_11), ((hF 12 (by decide)).trans b_12), ((hF 13 (by decide)).trans b_13), ((hF 14 (by decide)).trans b_14), ((hF 39 (by decide)).trans b_39), ((hF 40 (by decide)).trans b_40), ((hF 41 (by decide)).trans b_41), ((hF 42 (by decide)).trans b_42), ((hF 43 (by decide)).trans b_43), ((hF 44 (by decide)).trans b_44), ((hF 45 (by decide)).trans b_45), ((hF 46 (by decide)).trans b_46), ((hF 47 (by decide)).trans b_47), ((hF 48 (by decide)).trans b_48), ((hF 49 (by decide)).trans b_49), ((hF 50 (by decide)).trans b_50), ((hF 51 (by decide)).trans b_51), ((hF 52 (by decide)).trans b_52), ((hF 53 (by decide)).trans b_53), ((hF 54 (by decide)).trans b_54), (fun t ht => (hF (15 + t) (by omega)).trans (hacts t ht)), (fun k hk => ⟨(hF (55 + 2 * k) (by omega)).trans (hsh k hk).1, (hF (56 + 2 * k) (by omega)).trans (hsh k hk).2⟩)⟩, (fun x9 h9 => hF x9 (by omega))⟩)
  · have c_9 := bI_ne.mp c_9
    refine lv_iload_n hx hb dX8_copy_12 rfl (lv_at hl 3 rfl) ?_
    refine qh_runS (As := [.int q]) (rest := []) ⟨hx, hb, hml, hown, hts⟩ hK hH (c_X8_isSheet l G z M E_1 q) (va_cwS 1 hts gX8_copy_X8_isSheet rfl rfl rfl (by decide +kernel) (by rw [hRf, hRl]; exact ⟨Nat.le_of_ble_eq_true rfl, Nat.le_of_ble_eq_true rfl⟩)) rfl hl.1 rfl (Nat.le_of_ble_eq_true rfl) dX8_copy_13 ⟨Nat.zero_le _, Nat.zero_le _⟩ (qh_kki fun r_13 E_3 H locs hpost hH => ?_)
    obtain ⟨rfl, rfl⟩ := hpost
    refine lv_if_ne (tgt := 21) hx hb dX8_copy_16 (by decide) (fun c_16 => ?_) (fun c_16 => ?_)
    · have c_16 := bI_ne.mp c_16
      obtain ⟨j, hj, ej⟩ := nI_of_in (k := x) (c := 4) (by decide) c_9
      have Ej : x.toNatClampNeg = j := by rw [ej]; exact nI_clamp (by omega)
      obtain ⟨j2, hj2, ej2⟩ := nI_of_in (k := q) (c := 4) (by decide) c_16
      have Ej2 : q.toNatClampNeg = j2 := by rw [ej2]; exact nI_clamp (by omega)
      refine lv_aload_n hx hb dX8_copy_21 rfl (lv_at hl 0 rfl) ?_
      refine qh_get hx hb hH f_13 (by omega) h_0 rfl dX8_copy_22 ?_
      refine lv_iload_n hx hb dX8_copy_25 rfl (lv_at hl 1 rfl) ?_
      refine qh_aaldS (a := z + (55 + 2 * j)) hx hb hK hH (by omega) ((hF 1 (by decide)).trans b_1) (j := j) (ej) (hj) (by omega) (rfl) dX8_copy_26 ?_
      refine lv_astore (lv' := [(6, .ref (z + (55 + 2 * j))), (0, .ref (z + 0)), (1, .int x), (2, .int y), (3, .int q), (4, .int u), (5, .int v)]) hx hb dX8_copy_27 hl (by decide) rfl (fun ls hl => ?_)
      refine lv_aload_n hx hb dX8_copy_29 rfl (lv_at hl 1 rfl) ?_
      refine qh_get hx hb hH f_13 (by omega) h_0 rfl dX8_copy_30 ?_
      refine lv_iload_n hx hb dX8_copy_33 rfl (lv_at hl 4 rfl) ?_
      refine qh_aaldS (a := z + (55 + 2 * j2)) hx hb hK hH (by omega) ((hF 1 (by decide)).trans b_1) (j := j2) (ej2) (hj2) (by omega) (rfl) dX8_copy_34 ?_
      refine lv_astore (lv' := [(7, .ref (z + (55 + 2 * j2))), (6, .ref (z + (55 + 2 * j))), (0, .ref (z + 0)), (1, .int x), (2, .int y), (3, .int q), (4, .int u), (5, .int v)]) hx hb dX8_copy_35 hl (by decide) rfl (fun ls hl => ?_)
      refine lv_aload hx hb dX8_copy_37 (lv_at hl 1 rfl) ?_
      refine qh_get hx hb hH f_301 (by omega) ((hF (55 + 2 * j) (by omega)).trans (hsh j (by omega)).1) rfl dX8_copy_39 ?_
      refine lv_if_eq (tgt := 53) hx hb dX8_copy_42 (by decide) (fun c_42 => ?_) (fun c_42 => ?_)
      · have hD : cpyD x y q u v hr la lg = some (-10 - 1, 1) := by rw [cpyD, if_pos ⟨c_9, c_16⟩, Ej, Ej2, if_pos (Or.inl c_42)]
        refine lv_aload_n hx hb dX8_copy_53 rfl (lv_at hl 2 rfl) ?_
        refine lv_iconst (v := 1) hx hb dX8_copy_54 (by decide) ?_
        refine qh_runV (As := [.int 1]) (rest := []) (C := RX8) ⟨hx, hb, hml, hown, hts⟩ hK hH (c_X8_failed l G z M E_1 tr 0 (hM) h_0 1) (cwV 1 hts gX8_copy_X8_failed rfl rfl rfl (by decide +kernel) (by rw [hRf, hRl]; exact ⟨Nat.le_of_ble_eq_true rfl, Nat.le_of_ble_eq_true rfl⟩)) (by omega) h_0 rfl rfl hl.1 rfl (Nat.le_of_ble_eq_true rfl) dX8_copy_55 ⟨Nat.zero_le _, Nat.zero_le _⟩ (qh_kki fun r_55 E_4 H locs hpost hH => ?_)
        obtain ⟨rfl, h_0, hfr⟩ := hpost
        have hF : ∀ x9, x9 ≠ 0 → E_4 x9 = E x9 := fun x9 a0 => (hfr x9 a0).trans (hF x9 a0)
        exact hret dX8_copy_58 hH (by rw [hD]; exact ⟨rfl, ⟨_, _, _, _, _, _, _, _, _, _, _, _, _, _, _, _, h_0, ((hF 1 (by decide)).trans b_1), ((hF 2 (by decide)).trans b_2), ((hF 3 (by decide)).trans b_3), ((hF 4 (by decide)).trans b_4), ((hF 5 (by decide)).trans b_5), ((hF 6 (by decide)).trans b_6), ((hF 7 (by decide)).trans b_7), ((hF 8 (by decide)).trans b_8), ((hF 9 (by decide)).trans b_9), ((hF 10 (by decide)).trans b_10), ((hF 11 (by decide)).trans b_11), ((hF 12 (by decide)).trans b_12), ((hF 13 (by decide)).trans b_13), ((hF 14 (by decide)).trans b_14), ((hF 39 (by decide)).trans b_39), ((hF 40 (by decide)).trans b_40), ((hF 41 (by decide)).trans b_41), ((hF 42 (by decide)).trans b_42), ((hF 43 (by decide)).trans b_43), ((hF 44 (by decide)).trans b_44), ((hF 45 (by decide)).trans b_45), ((hF 46 (by decide)).trans b_46), ((hF 47 (by decide)).trans b_47), ((hF 48 (by decide)).trans b_48), ((hF 49 (by decide)).trans b_49), ((hF 50 (by decide)).trans b_50), ((hF 51 (by decide)).trans b_51), ((hF 52 (by decide)).trans b_52), ((hF 53 (by decide)).trans b_53), ((hF 54 (by decide)).trans b_54), (fun t ht => (hF (15 + t) (by omega)).trans (hacts t ht)), (fun k hk => ⟨(hF (55 + 2 * k) (by omega)).trans (hsh k hk).1, (hF (56 + 2 * k) (by omega)).trans (hsh k hk).2⟩)⟩, (fun x9 h9 => hF x9 (by omega))⟩)
      · refine lv_aload hx hb dX8_copy_45 (lv_at hl 0 rfl) ?_
        refine qh_get hx hb hH f_301 (by omega) ((hF (55 + 2 * j2) (by omega)).trans (hsh j2 (by omega)).1) rfl dX8_copy_47 ?_
        refine lv_if_ne (tgt := 59) hx hb dX8_copy_50 (by decide) (fun c_50 => ?_) (fun c_50 => ?_)
        · refine lv_aload hx hb dX8_copy_59 (lv_at hl 1 rfl) ?_
          refine qh_get hx hb hH f_310 (by omega) ((hF (55 + 2 * j) (by omega)).trans (hsh j (by omega)).1) rfl dX8_copy_61 ?_
          refine lv_aload hx hb dX8_copy_64 (lv_at hl 0 rfl) ?_
          refine qh_get hx hb hH f_310 (by omega) ((hF (55 + 2 * j2) (by omega)).trans (hsh j2 (by omega)).1) rfl dX8_copy_66 ?_
          refine lv_icmp_eq (tgt := 78) hx hb dX8_copy_69 (by decide) (fun c_69 => ?_) (fun c_69 => ?_)
          · refine lv_aload hx hb dX8_copy_78 (lv_at hl 1 rfl) ?_
            refine lv_iload_n hx hb dX8_copy_80 rfl (lv_at hl 4 rfl) ?_
            refine lv_iload hx hb dX8_copy_81 (lv_at hl 7 rfl) ?_
            refine qh_runV (As := [.int y, .int v]) (rest := []) (C := RX5) ⟨hx, hb, hml, hown, hts⟩ hK hH (c_X5_hasCells l G z M E_1 (55 + 2 * j) (hr j) (la j) (nI (lg j)) y v (.ref (z + (56 + 2 * j))) (by omega) ((hF (55 + 2 * j) (by omega)).trans (hsh j (by omega)).1)) (cwV 2 hts gX8_copy_X5_hasCells rfl rfl rfl (by decide +kernel) (by rw [hRf, hRl]; exact ⟨Nat.le_of_ble_eq_true rfl, Nat.le_of_ble_eq_true rfl⟩)) (by omega) ((hF (55 + 2 * j) (by omega)).trans (hsh j (by omega)).1) rfl rfl hl.1 rfl (Nat.le_of_ble_eq_true rfl) dX8_copy_83 ⟨Nat.zero_le _, Nat.zero_le _⟩ (qh_kki fun r_83 E_5 H locs hpost hH => ?_)
            obtain ⟨rfl, rfl⟩ := hpost
            refine lv_if_eq (tgt := 101) hx hb dX8_copy_86 (by decide) (fun c_86 => ?_) (fun c_86 => ?_)
            · have c_86 := bI_eq.mp c_86
              have hD : cpyD x y q u v hr la lg = some (-10 - 3, 3) := by rw [cpyD, if_pos ⟨c_9, c_16⟩, Ej, Ej2, if_neg (fun w => w.elim c_42 c_50), if_pos c_69, if_neg (fun w => c_86 w.1)]
              refine lv_aload_n hx hb dX8_copy_101 rfl (lv_at hl 2 rfl) ?_
              refine lv_iconst (v := 3) hx hb dX8_copy_102 (by decide) ?_
              refine qh_runV (As := [.int 3]) (rest := []) (C := RX8) ⟨hx, hb, hml, hown, hts⟩ hK hH (c_X8_failed l G z M E_1 tr 0 (hM) h_0 3) (cwV 1 hts gX8_copy_X8_failed rfl rfl rfl (by decide +kernel) (by rw [hRf, hRl]; exact ⟨Nat.le_of_ble_eq_true rfl, Nat.le_of_ble_eq_true rfl⟩)) (by omega) h_0 rfl rfl hl.1 rfl (Nat.le_of_ble_eq_true rfl) dX8_copy_103 ⟨Nat.zero_le _, Nat.zero_le _⟩ (qh_kki fun r_103 E_6 H locs hpost hH => ?_)
              obtain ⟨rfl, h_0, hfr⟩ := hpost
              have hF : ∀ x9, x9 ≠ 0 → E_6 x9 = E x9 := fun x9 a0 => (hfr x9 a0).trans (hF x9 a0)
              exact hret dX8_copy_106 hH (by rw [hD]; exact ⟨rfl, ⟨_, _, _, _, _, _, _, _, _, _, _, _, _, _, _, _, h_0, ((hF 1 (by decide)).trans b_1), ((hF 2 (by decide)).trans b_2), ((hF 3 (by decide)).trans b_3), ((hF 4 (by decide)).trans b_4), ((hF 5 (by decide)).trans b_5), ((hF 6 (by decide)).trans b_6), ((hF 7 (by decide)).trans b_7), ((hF 8 (by decide)).trans b_8), ((hF 9 (by decide)).trans b_9), ((hF 10 (by decide)).trans b_10), ((hF 11 (by decide)).trans b_11), ((hF 12 (by decide)).trans b_12), ((hF 13 (by decide)).trans b_13), ((hF 14 (by decide)).trans b_14), ((hF 39 (by decide)).trans b_39), ((hF 40 (by decide)).trans b_40), ((hF 41 (by decide)).trans b_41), ((hF 42 (by decide)).trans b_42), ((hF 43 (by decide)).trans b_43), ((hF 44 (by decide)).trans b_44), ((hF 45 (by decide)).trans b_45), ((hF 46 (by decide)).trans b_46), ((hF 47 (by decide)).trans b_47), ((hF 48 (by decide)).trans b_48), ((hF 49 (by decide)).trans b_49), ((hF 50 (by decide)).trans b_50), ((hF 51 (by decide)).trans b_51), ((hF 52 (by decide)).trans b_52), ((hF 53 (by decide)).trans b_53), ((hF 54 (by decide)).trans b_54), (fun t ht => (hF (15 + t) (by omega)).trans (hacts t ht)), (fun k hk => ⟨(hF (55 + 2 * k) (by omega)).trans (hsh k hk).1, (hF (56 + 2 * k) (by omega)).trans (hsh k hk).2⟩)⟩, (fun x9 h9 => hF x9 (by omega))⟩)
            · have c_86 := bI_ne.mp c_86
              refine lv_aload hx hb dX8_copy_89 (lv_at hl 0 rfl) ?_
              refine lv_iload hx hb dX8_copy_91 (lv_at hl 6 rfl) ?_
              refine lv_iload hx hb dX8_copy_93 (lv_at hl 7 rfl) ?_
              refine qh_runV (As := [.int u, .int v]) (rest := []) (C := RX5) ⟨hx, hb, hml, hown, hts⟩ hK hH (c_X5_hasCells l G z M E_1 (55 + 2 * j2) (hr j2) (la j2) (nI (lg j2)) u v (.ref (z + (56 + 2 * j2))) (by omega) ((hF (55 + 2 * j2) (by omega)).trans (hsh j2 (by omega)).1)) (cwV 2 hts gX8_copy_X5_hasCells rfl rfl rfl (by decide +kernel) (by rw [hRf, hRl]; exact ⟨Nat.le_of_ble_eq_true rfl, Nat.le_of_ble_eq_true rfl⟩)) (by omega) ((hF (55 + 2 * j2) (by omega)).trans (hsh j2 (by omega)).1) rfl rfl hl.1 rfl (Nat.le_of_ble_eq_true rfl) dX8_copy_95 ⟨Nat.zero_le _, Nat.zero_le _⟩ (qh_kki fun r_95 E_7 H locs hpost hH => ?_)
              obtain ⟨rfl, rfl⟩ := hpost
              refine lv_if_ne (tgt := 107) hx hb dX8_copy_98 (by decide) (fun c_98 => ?_) (fun c_98 => ?_)
              · have c_98 := bI_ne.mp c_98
                have hD : cpyD x y q u v hr la lg = none := by rw [cpyD, if_pos ⟨c_9, c_16⟩, Ej, Ej2, if_neg (fun w => w.elim c_42 c_50), if_pos c_69, if_pos ⟨c_86, c_98⟩]
                have hlj := hlg j hj
                have hlj2 := hlg j2 hj2
                obtain ⟨y1, v1, ey, ev, hyv⟩ := has_n hlj c_86
                obtain ⟨u1, v2, eu, ev2, huv⟩ := has_n hlj2 c_98
                have evv : v1 = v2 := (nI_eq (by omega) (by omega)).mp (ev.symm.trans ev2)
                have Ey : y.toNatClampNeg = y1 := by rw [ey]; exact nI_clamp (by omega)
                have Eu : u.toNatClampNeg = u1 := by rw [eu]; exact nI_clamp (by omega)
                have Ev : v.toNatClampNeg = v1 := by rw [ev]; exact nI_clamp (by omega)
                refine lv_aload hx hb dX8_copy_107 (lv_at hl 1 rfl) ?_
                refine qh_get hx hb hH f_305 (by omega) ((hF (55 + 2 * j) (by omega)).trans (hsh j (by omega)).1) rfl dX8_copy_109 ?_
                refine lv_iload_n hx hb dX8_copy_112 rfl (lv_at hl 4 rfl) ?_
                refine lv_aload hx hb dX8_copy_113 (lv_at hl 0 rfl) ?_
                refine qh_get hx hb hH f_305 (by omega) ((hF (55 + 2 * j2) (by omega)).trans (hsh j2 (by omega)).1) rfl dX8_copy_115 ?_
                refine lv_iload hx hb dX8_copy_118 (lv_at hl 6 rfl) ?_
                refine lv_iload hx hb dX8_copy_120 (lv_at hl 7 rfl) ?_
                refine qh_copyI hx hb (hml.trans hl.1.symm) hown j_313 jn_313 js_313 ji_313 hK hH (by omega) (by omega) ((hF (56 + 2 * j) (by omega)).trans (hsh j (by omega)).2) ((hF (56 + 2 * j2) (by omega)).trans (hsh j2 (by omega)).2) (sp := y1) (dp := u1) (n := v1) (ey) (eu) (ev) (by omega) (by omega) (by decide) (by decide) (by rw [hRf]; exact Nat.le_of_ble_eq_true rfl) (by rw [hRl]; exact Nat.le_of_ble_eq_true rfl) dX8_copy_122 (fun E_8 H locs h_56_2_j2 hfr hH => ?_)
                have h_0 := (hfr 0 (by omega)).trans h_0
                have hF : ∀ x9, x9 ≠ 0 → x9 ≠ (56 + 2 * j2) → E_8 x9 = E x9 := fun x9 a0 a1 => (hfr x9 a1).trans (hF x9 a0)
                refine lv_iload hx hb dX8_copy_125 (lv_at hl 7 rfl) ?_
                exact hret dX8_copy_127 hH (by rw [hD, Ej, Ej2, Ey, Eu, Ev]; exact ⟨rfl, ⟨_, _, _, _, _, _, _, _, _, _, _, _, _, _, _, _, h_0, ((hF 1 (by decide) (by omega)).trans b_1), ((hF 2 (by decide) (by omega)).trans b_2), ((hF 3 (by decide) (by omega)).trans b_3), ((hF 4 (by decide) (by omega)).trans b_4), ((hF 5 (by decide) (by omega)).trans b_5), ((hF 6 (by decide) (by omega)).trans b_6), ((hF 7 (by decide) (by omega)).trans b_7), ((hF 8 (by decide) (by omega)).trans b_8), ((hF 9 (by decide) (by omega)).trans b_9), ((hF 10 (by decide) (by omega)).trans b_10), ((hF 11 (by decide) (by omega)).trans b_11), ((hF 12 (by decide) (by omega)).trans b_12), ((hF 13 (by decide) (by omega)).trans b_13), ((hF 14 (by decide) (by omega)).trans b_14), ((hF 39 (by decide) (by omega)).trans b_39), ((hF 40 (by decide) (by omega)).trans b_40), ((hF 41 (by decide) (by omega)).trans b_41), ((hF 42 (by decide) (by omega)).trans b_42), ((hF 43 (by decide) (by omega)).trans b_43), ((hF 44 (by decide) (by omega)).trans b_44), ((hF 45 (by decide) (by omega)).trans b_45), ((hF 46 (by decide) (by omega)).trans b_46), ((hF 47 (by decide) (by omega)).trans b_47), ((hF 48 (by decide) (by omega)).trans b_48), ((hF 49 (by decide) (by omega)).trans b_49), ((hF 50 (by decide) (by omega)).trans b_50), ((hF 51 (by decide) (by omega)).trans b_51), ((hF 52 (by decide) (by omega)).trans b_52), ((hF 53 (by decide) (by omega)).trans b_53), ((hF 54 (by decide) (by omega)).trans b_54), (fun t ht => (hF (15 + t) (by omega) (by omega)).trans (hacts t ht)), (shs_put (j := j2) hj2 hsh ((hF (55 + 2 * j2) (by omega) (by omega)).trans (hsh j2 (by omega)).1) h_56_2_j2 (fun k h1 h2 => ⟨hF (55 + 2 * k) (by omega) (by omega), hF (56 + 2 * k) (by omega) (by omega)⟩))⟩, (fun x9 h9 => hF x9 (by omega) (by omega))⟩)
              · have c_98 := bI_eq.mp c_98
                have hD : cpyD x y q u v hr la lg = some (-10 - 3, 3) := by rw [cpyD, if_pos ⟨c_9, c_16⟩, Ej, Ej2, if_neg (fun w => w.elim c_42 c_50), if_pos c_69, if_neg (fun w => c_98 w.2)]
                refine lv_aload_n hx hb dX8_copy_101 rfl (lv_at hl 2 rfl) ?_
                refine lv_iconst (v := 3) hx hb dX8_copy_102 (by decide) ?_
                refine qh_runV (As := [.int 3]) (rest := []) (C := RX8) ⟨hx, hb, hml, hown, hts⟩ hK hH (c_X8_failed l G z M E_1 tr 0 (hM) h_0 3) (cwV 1 hts gX8_copy_X8_failed rfl rfl rfl (by decide +kernel) (by rw [hRf, hRl]; exact ⟨Nat.le_of_ble_eq_true rfl, Nat.le_of_ble_eq_true rfl⟩)) (by omega) h_0 rfl rfl hl.1 rfl (Nat.le_of_ble_eq_true rfl) dX8_copy_103 ⟨Nat.zero_le _, Nat.zero_le _⟩ (qh_kki fun r_103 E_9 H locs hpost hH => ?_)
                obtain ⟨rfl, h_0, hfr⟩ := hpost
                have hF : ∀ x9, x9 ≠ 0 → E_9 x9 = E x9 := fun x9 a0 => (hfr x9 a0).trans (hF x9 a0)
                exact hret dX8_copy_106 hH (by rw [hD]; exact ⟨rfl, ⟨_, _, _, _, _, _, _, _, _, _, _, _, _, _, _, _, h_0, ((hF 1 (by decide)).trans b_1), ((hF 2 (by decide)).trans b_2), ((hF 3 (by decide)).trans b_3), ((hF 4 (by decide)).trans b_4), ((hF 5 (by decide)).trans b_5), ((hF 6 (by decide)).trans b_6), ((hF 7 (by decide)).trans b_7), ((hF 8 (by decide)).trans b_8), ((hF 9 (by decide)).trans b_9), ((hF 10 (by decide)).trans b_10), ((hF 11 (by decide)).trans b_11), ((hF 12 (by decide)).trans b_12), ((hF 13 (by decide)).trans b_13), ((hF 14 (by decide)).trans b_14), ((hF 39 (by decide)).trans b_39), ((hF 40 (by decide)).trans b_40), ((hF 41 (by decide)).trans b_41), ((hF 42 (by decide)).trans b_42), ((hF 43 (by decide)).trans b_43), ((hF 44 (by decide)).trans b_44), ((hF 45 (by decide)).trans b_45), ((hF 46 (by decide)).trans b_46), ((hF 47 (by decide)).trans b_47), ((hF 48 (by decide)).trans b_48), ((hF 49 (by decide)).trans b_49), ((hF 50 (by decide)).trans b_50), ((hF 51 (by decide)).trans b_51), ((hF 52 (by decide)).trans b_52), ((hF 53 (by decide)).trans b_53), ((hF 54 (by decide)).trans b_54), (fun t ht => (hF (15 + t) (by omega)).trans (hacts t ht)), (fun k hk => ⟨(hF (55 + 2 * k) (by omega)).trans (hsh k hk).1, (hF (56 + 2 * k) (by omega)).trans (hsh k hk).2⟩)⟩, (fun x9 h9 => hF x9 (by omega))⟩)
          · have hD : cpyD x y q u v hr la lg = some (-10 - 2, 2) := by rw [cpyD, if_pos ⟨c_9, c_16⟩, Ej, Ej2, if_neg (fun w => w.elim c_42 c_50), if_neg c_69]
            refine lv_aload_n hx hb dX8_copy_72 rfl (lv_at hl 2 rfl) ?_
            refine lv_iconst (v := 2) hx hb dX8_copy_73 (by decide) ?_
            refine qh_runV (As := [.int 2]) (rest := []) (C := RX8) ⟨hx, hb, hml, hown, hts⟩ hK hH (c_X8_failed l G z M E_1 tr 0 (hM) h_0 2) (cwV 1 hts gX8_copy_X8_failed rfl rfl rfl (by decide +kernel) (by rw [hRf, hRl]; exact ⟨Nat.le_of_ble_eq_true rfl, Nat.le_of_ble_eq_true rfl⟩)) (by omega) h_0 rfl rfl hl.1 rfl (Nat.le_of_ble_eq_true rfl) dX8_copy_74 ⟨Nat.zero_le _, Nat.zero_le _⟩ (qh_kki fun r_74 E_10 H locs hpost hH => ?_)
            obtain ⟨rfl, h_0, hfr⟩ := hpost
            have hF : ∀ x9, x9 ≠ 0 → E_10 x9 = E x9 := fun x9 a0 => (hfr x9 a0).trans (hF x9 a0)
            exact hret dX8_copy_77 hH (by rw [hD]; exact ⟨rfl, ⟨_, _, _, _, _, _, _, _, _, _, _, _, _, _, _, _, h_0, ((hF 1 (by decide)).trans b_1), ((hF 2 (by decide)).trans b_2), ((hF 3 (by decide)).trans b_3), ((hF 4 (by decide)).trans b_4), ((hF 5 (by decide)).trans b_5), ((hF 6 (by decide)).trans b_6), ((hF 7 (by decide)).trans b_7), ((hF 8 (by decide)).trans b_8), ((hF 9 (by decide)).trans b_9), ((hF 10 (by decide)).trans b_10), ((hF 11 (by decide)).trans b_11), ((hF 12 (by decide)).trans b_12), ((hF 13 (by decide)).trans b_13), ((hF 14 (by decide)).trans b_14), ((hF 39 (by decide)).trans b_39), ((hF 40 (by decide)).trans b_40), ((hF 41 (by decide)).trans b_41), ((hF 42 (by decide)).trans b_42), ((hF 43 (by decide)).trans b_43), ((hF 44 (by decide)).trans b_44), ((hF 45 (by decide)).trans b_45), ((hF 46 (by decide)).trans b_46), ((hF 47 (by decide)).trans b_47), ((hF 48 (by decide)).trans b_48), ((hF 49 (by decide)).trans b_49), ((hF 50 (by decide)).trans b_50), ((hF 51 (by decide)).trans b_51), ((hF 52 (by decide)).trans b_52), ((hF 53 (by decide)).trans b_53), ((hF 54 (by decide)).trans b_54), (fun t ht => (hF (15 + t) (by omega)).trans (hacts t ht)), (fun k hk => ⟨(hF (55 + 2 * k) (by omega)).trans (hsh k hk).1, (hF (56 + 2 * k) (by omega)).trans (hsh k hk).2⟩)⟩, (fun x9 h9 => hF x9 (by omega))⟩)
        · have hD : cpyD x y q u v hr la lg = some (-10 - 1, 1) := by rw [cpyD, if_pos ⟨c_9, c_16⟩, Ej, Ej2, if_pos (Or.inr c_50)]
          refine lv_aload_n hx hb dX8_copy_53 rfl (lv_at hl 2 rfl) ?_
          refine lv_iconst (v := 1) hx hb dX8_copy_54 (by decide) ?_
          refine qh_runV (As := [.int 1]) (rest := []) (C := RX8) ⟨hx, hb, hml, hown, hts⟩ hK hH (c_X8_failed l G z M E_1 tr 0 (hM) h_0 1) (cwV 1 hts gX8_copy_X8_failed rfl rfl rfl (by decide +kernel) (by rw [hRf, hRl]; exact ⟨Nat.le_of_ble_eq_true rfl, Nat.le_of_ble_eq_true rfl⟩)) (by omega) h_0 rfl rfl hl.1 rfl (Nat.le_of_ble_eq_true rfl) dX8_copy_55 ⟨Nat.zero_le _, Nat.zero_le _⟩ (qh_kki fun r_55 E_11 H locs hpost hH => ?_)
          obtain ⟨rfl, h_0, hfr⟩ := hpost
          have hF : ∀ x9, x9 ≠ 0 → E_11 x9 = E x9 := fun x9 a0 => (hfr x9 a0).trans (hF x9 a0)
          exact hret dX8_copy_58 hH (by rw [hD]; exact ⟨rfl, ⟨_, _, _, _, _, _, _, _, _, _, _, _, _, _, _, _, h_0, ((hF 1 (by decide)).trans b_1), ((hF 2 (by decide)).trans b_2), ((hF 3 (by decide)).trans b_3), ((hF 4 (by decide)).trans b_4), ((hF 5 (by decide)).trans b_5), ((hF 6 (by decide)).trans b_6), ((hF 7 (by decide)).trans b_7), ((hF 8 (by decide)).trans b_8), ((hF 9 (by decide)).trans b_9), ((hF 10 (by decide)).trans b_10), ((hF 11 (by decide)).trans b_11), ((hF 12 (by decide)).trans b_12), ((hF 13 (by decide)).trans b_13), ((hF 14 (by decide)).trans b_14), ((hF 39 (by decide)).trans b_39), ((hF 40 (by decide)).trans b_40), ((hF 41 (by decide)).trans b_41), ((hF 42 (by decide)).trans b_42), ((hF 43 (by decide)).trans b_43), ((hF 44 (by decide)).trans b_44), ((hF 45 (by decide)).trans b_45), ((hF 46 (by decide)).trans b_46), ((hF 47 (by decide)).trans b_47), ((hF 48 (by decide)).trans b_48), ((hF 49 (by decide)).trans b_49), ((hF 50 (by decide)).trans b_50), ((hF 51 (by decide)).trans b_51), ((hF 52 (by decide)).trans b_52), ((hF 53 (by decide)).trans b_53), ((hF 54 (by decide)).trans b_54), (fun t ht => (hF (15 + t) (by omega)).trans (hacts t ht)), (fun k hk => ⟨(hF (55 + 2 * k) (by omega)).trans (hsh k hk).1, (hF (56 + 2 * k) (by omega)).trans (hsh k hk).2⟩)⟩, (fun x9 h9 => hF x9 (by omega))⟩)
    · have c_16 := bI_eq.mp c_16
      have hD : cpyD x y q u v hr la lg = some (-1, 0) := by rw [cpyD, if_neg (fun w => c_16 w.2)]
      refine lv_iconst (v := (-1)) hx hb dX8_copy_19 (by decide) ?_
      exact hret dX8_copy_20 hH (by rw [hD]; exact ⟨rfl, ⟨_, _, _, _, _, _, _, _, _, _, _, _, _, _, _, _, h_0, ((hF 1 (by decide)).trans b_1), ((hF 2 (by decide)).trans b_2), ((hF 3 (by decide)).trans b_3), ((hF 4 (by decide)).trans b_4), ((hF 5 (by decide)).trans b_5), ((hF 6 (by decide)).trans b_6), ((hF 7 (by decide)).trans b_7), ((hF 8 (by decide)).trans b_8), ((hF 9 (by decide)).trans b_9), ((hF 10 (by decide)).trans b_10), ((hF 11 (by decide)).trans b_11), ((hF 12 (by decide)).trans b_12), ((hF 13 (by decide)).trans b_13), ((hF 14 (by decide)).trans b_14), ((hF 39 (by decide)).trans b_39), ((hF 40 (by decide)).trans b_40), ((hF 41 (by decide)).trans b_41), ((hF 42 (by decide)).trans b_42), ((hF 43 (by decide)).trans b_43), ((hF 44 (by decide)).trans b_44), ((hF 45 (by decide)).trans b_45), ((hF 46 (by decide)).trans b_46), ((hF 47 (by decide)).trans b_47), ((hF 48 (by decide)).trans b_48), ((hF 49 (by decide)).trans b_49), ((hF 50 (by decide)).trans b_50), ((hF 51 (by decide)).trans b_51), ((hF 52 (by decide)).trans b_52), ((hF 53 (by decide)).trans b_53), ((hF 54 (by decide)).trans b_54), (fun t ht => (hF (15 + t) (by omega)).trans (hacts t ht)), (fun k hk => ⟨(hF (55 + 2 * k) (by omega)).trans (hsh k hk).1, (hF (56 + 2 * k) (by omega)).trans (hsh k hk).2⟩)⟩, (fun x9 h9 => hF x9 (by omega))⟩)

set_option maxHeartbeats 1000000 in
set_option maxRecDepth 100000 in
theorem c_X8_as (l : Launch) (G : qh_G) (z M : Nat) (E : Nat → va_E) (tr : Int32) (lf : Int32) (n : Nat) (f : Nat → Int64) (g : Nat → Int64) (bf : Nat → Int64) (m2 : Nat) (kd : Nat → Int32) (pa : Nat → Int32) (ln : Nat) (ts : Nat → Int32) (ga : Nat → Nat) (gb : Nat → Nat) (va : Nat → Int64) (rn : Nat) (cn : Nat → Nat) (vs : Nat → Int64) (hr : Nat → Int32) (la : Nat → Int32) (lg : Nat → Nat) (sc : Nat → Nat → Int32) (hM : 84 ≤ M) (hX : XE G z E tr lf n f g bf m2 kd pa ln ts ga gb va rn cn vs hr la lg sc) (hW : XW n m2 ln rn ga gb cn lg hr) (x : Int32) (y : Int32) : Met l yX8_as wsX8_as (qh_R 1) (qh_Pre G z M E [.ref (z + 0), .int x, .int y]) (qh_Q G z M (qh_i (fun r E' => r = (asV m2 kd x y).1 ∧ XE G z E' tr ((asV m2 kd x y).2) n f g bf m2 kd pa ln ts ga gb va rn cn vs hr la lg sc ∧ ∀ x9, 63 ≤ x9 → E' x9 = E x9))) 0 0 (fun q => z ≤ q) := by
  refine qh_metI (cc := cX8_as) (maxL := 3) (by decide) rfl (Nat.le_of_ble_eq_true rfl) ?_
  intro pZ eZ sZ mZ aZ bZ tZ cZ RR QQ ls hx hb hml hown hts hRf hRl hH hK hl hret
  have hown : sZ.vm.findClass RX8 = some mZ.cls := hown
  have hl : lv_has ls 3 [(0, .ref (z + 0)), (1, .int x), (2, .int y)] := hl
  obtain ⟨tc, dg, hn0, tk, tp, gn, gk, gp, t0, a0, b0, v0, bg, tn, tf, tg, b_0, b_1, b_2, b_3, b_4, b_5, b_6, b_7, b_8, b_9, b_10, b_11, b_12, b_13, b_14, b_39, b_40, b_41, b_42, b_43, b_44, b_45, b_46, b_47, b_48, b_49, b_50, b_51, b_52, b_53, b_54, hacts, hsh⟩ := hX
  obtain ⟨⟨hn16, hm3, hl24, hr8⟩, hval, hcn, hlg, hhr⟩ := hW
  have in_X8 : ∀ w ∈ wsX80, w ∈ wsX8_as := fun w h => List.mem_cons_of_mem _ (List.mem_append_left _ (List.mem_append_right _ h))
  have in_X1 : ∀ w ∈ wsX10, w ∈ wsX8_as := fun w h => List.mem_cons_of_mem _ (List.mem_append_right _ h)
  have w_79 : qh_W G sZ mZ aZ 79 8 12 .int := qh_W.of hts in_X8 tyX8 tyX8_ok nmX8 hown hK rfl 12 (by decide) (by decide +kernel) rfl (by decide +kernel)
  have f_27 : qh_F G sZ mZ aZ 27 8 2 := qh_F.of hts in_X8 hown hK rfl 2 (by decide) (by decide +kernel)
  have f_146 : qh_F G sZ mZ aZ 146 1 1 := qh_F.of hts in_X1 hown hK rfl 1 (by decide) (by decide +kernel)
  refine lv_aload_n hx hb dX8_as_0 rfl (lv_at hl 0 rfl) ?_
  refine lv_iconst (v := 0) hx hb dX8_as_1 (by decide) ?_
  refine qh_put (fs' := [.ref (z + 1), .ref (z + 2), .ref (z + 7), .ref (z + 10), .ref (z + 13), .ref (z + 39), .ref (z + 40), .ref (z + 43), .ref (z + 46), .ref (z + 49), .ref (z + 52), .int tr, .int 0]) hx hb hH w_79 (by omega) b_0 rfl rfl (Nat.le_of_ble_eq_true rfl) rfl dX8_as_2 (fun E_1 H locs h_0 hfr hH _ => ?_)
  have hF : ∀ x9, x9 ≠ 0 → E_1 x9 = E x9 := fun x9 a0 => hfr x9 a0
  refine lv_aload_n hx hb dX8_as_5 rfl (lv_at hl 0 rfl) ?_
  refine qh_get hx hb hH f_27 (by omega) h_0 rfl dX8_as_6 ?_
  refine lv_iload_n hx hb dX8_as_9 rfl (lv_at hl 1 rfl) ?_
  refine lv_i2l (v := x.toInt64) hx hb dX8_as_10 rfl ?_
  refine qh_runV (As := [.long (x.toInt64)]) (rest := []) (C := RX1) ⟨hx, hb, hml, hown, hts⟩ hK hH (c_X1_has l G z M E_1 7 (by omega) (nI m2) (.ref (z + 8)) (.ref (z + 9)) (x.toInt64) ((hF 7 (by decide)).trans b_7)) (cwV 1 hts gX8_as_X1_has rfl rfl rfl (by decide +kernel) (by rw [hRf, hRl]; exact ⟨Nat.le_of_ble_eq_true rfl, Nat.le_of_ble_eq_true rfl⟩)) (by omega) ((hF 7 (by decide)).trans b_7) rfl rfl hl.1 rfl (Nat.le_of_ble_eq_true rfl) dX8_as_11 ⟨Nat.zero_le _, Nat.zero_le _⟩ (qh_kki fun r_11 E_2 H locs hpost hH => ?_)
  obtain ⟨rfl, rfl⟩ := hpost
  refine lv_if_ne (tgt := 19) hx hb dX8_as_14 (by decide) (fun c_14 => ?_) (fun c_14 => ?_)
  · have c_14 := bI_ne.mp c_14
    have hhas := (hlp_has hm3).mp c_14
    obtain ⟨t, ht, et⟩ := nI_of_in (by omega) hhas
    have ec : x.toNatClampNeg = t := by rw [et]; exact nI_clamp (by omega)
    refine lv_iload_n hx hb dX8_as_19 rfl (lv_at hl 2 rfl) ?_
    refine lv_if_lt (tgt := 28) hx hb dX8_as_20 (by decide) (fun c_20 => ?_) (fun c_20 => ?_)
    · have hD : asV m2 kd x y = (-2, 0) := by rw [asV, if_pos hhas, if_neg (fun w => w.1 c_20)]
      refine lv_bipush (v := (-2)) hx hb dX8_as_28 (by decide) ?_
      exact hret dX8_as_30 hH (by rw [hD]; exact ⟨rfl, ⟨_, _, _, _, _, _, _, _, _, _, _, _, _, _, _, _, h_0, ((hF 1 (by decide)).trans b_1), ((hF 2 (by decide)).trans b_2), ((hF 3 (by decide)).trans b_3), ((hF 4 (by decide)).trans b_4), ((hF 5 (by decide)).trans b_5), ((hF 6 (by decide)).trans b_6), ((hF 7 (by decide)).trans b_7), ((hF 8 (by decide)).trans b_8), ((hF 9 (by decide)).trans b_9), ((hF 10 (by decide)).trans b_10), ((hF 11 (by decide)).trans b_11), ((hF 12 (by decide)).trans b_12), ((hF 13 (by decide)).trans b_13), ((hF 14 (by decide)).trans b_14), ((hF 39 (by decide)).trans b_39), ((hF 40 (by decide)).trans b_40), ((hF 41 (by decide)).trans b_41), ((hF 42 (by decide)).trans b_42), ((hF 43 (by decide)).trans b_43), ((hF 44 (by decide)).trans b_44), ((hF 45 (by decide)).trans b_45), ((hF 46 (by decide)).trans b_46), ((hF 47 (by decide)).trans b_47), ((hF 48 (by decide)).trans b_48), ((hF 49 (by decide)).trans b_49), ((hF 50 (by decide)).trans b_50), ((hF 51 (by decide)).trans b_51), ((hF 52 (by decide)).trans b_52), ((hF 53 (by decide)).trans b_53), ((hF 54 (by decide)).trans b_54), (fun t ht => (hF (15 + t) (by omega)).trans (hacts t ht)), (fun k hk => ⟨(hF (55 + 2 * k) (by omega)).trans (hsh k hk).1, (hF (56 + 2 * k) (by omega)).trans (hsh k hk).2⟩)⟩, (fun x9 h9 => hF x9 (by omega))⟩)
    · refine lv_iload_n hx hb dX8_as_23 rfl (lv_at hl 2 rfl) ?_
      refine lv_iconst (v := 2) hx hb dX8_as_24 (by decide) ?_
      refine lv_icmp_le (tgt := 31) hx hb dX8_as_25 (by decide) (fun c_25 => ?_) (fun c_25 => ?_)
      · refine lv_aload_n hx hb dX8_as_31 rfl (lv_at hl 0 rfl) ?_
        refine qh_get hx hb hH f_27 (by omega) h_0 rfl dX8_as_32 ?_
        refine qh_get hx hb hH f_146 (by omega) ((hF 7 (by decide)).trans b_7) rfl dX8_as_35 ?_
        refine lv_iload_n hx hb dX8_as_38 rfl (lv_at hl 1 rfl) ?_
        refine qh_iald hx hb hK hH (by omega) ((hF 8 (by decide)).trans b_8) (j := t) (et) (by omega) (by omega) dX8_as_39 ?_
        refine lv_iload_n hx hb dX8_as_40 rfl (lv_at hl 2 rfl) ?_
        refine lv_icmp_ge (tgt := 52) hx hb dX8_as_41 (by decide) (fun c_41 => ?_) (fun c_41 => ?_)
        · have hD : asV m2 kd x y = (1, 0) := by rw [asV, if_pos hhas, if_pos ⟨c_20, c_25⟩, ec, if_pos c_41]
          refine lv_iconst (v := 1) hx hb dX8_as_52 (by decide) ?_
          exact hret dX8_as_53 hH (by rw [hD]; exact ⟨rfl, ⟨_, _, _, _, _, _, _, _, _, _, _, _, _, _, _, _, h_0, ((hF 1 (by decide)).trans b_1), ((hF 2 (by decide)).trans b_2), ((hF 3 (by decide)).trans b_3), ((hF 4 (by decide)).trans b_4), ((hF 5 (by decide)).trans b_5), ((hF 6 (by decide)).trans b_6), ((hF 7 (by decide)).trans b_7), ((hF 8 (by decide)).trans b_8), ((hF 9 (by decide)).trans b_9), ((hF 10 (by decide)).trans b_10), ((hF 11 (by decide)).trans b_11), ((hF 12 (by decide)).trans b_12), ((hF 13 (by decide)).trans b_13), ((hF 14 (by decide)).trans b_14), ((hF 39 (by decide)).trans b_39), ((hF 40 (by decide)).trans b_40), ((hF 41 (by decide)).trans b_41), ((hF 42 (by decide)).trans b_42), ((hF 43 (by decide)).trans b_43), ((hF 44 (by decide)).trans b_44), ((hF 45 (by decide)).trans b_45), ((hF 46 (by decide)).trans b_46), ((hF 47 (by decide)).trans b_47), ((hF 48 (by decide)).trans b_48), ((hF 49 (by decide)).trans b_49), ((hF 50 (by decide)).trans b_50), ((hF 51 (by decide)).trans b_51), ((hF 52 (by decide)).trans b_52), ((hF 53 (by decide)).trans b_53), ((hF 54 (by decide)).trans b_54), (fun t ht => (hF (15 + t) (by omega)).trans (hacts t ht)), (fun k hk => ⟨(hF (55 + 2 * k) (by omega)).trans (hsh k hk).1, (hF (56 + 2 * k) (by omega)).trans (hsh k hk).2⟩)⟩, (fun x9 h9 => hF x9 (by omega))⟩)
        · have hD : asV m2 kd x y = (-10 - 2, 2) := by rw [asV, if_pos hhas, if_pos ⟨c_20, c_25⟩, ec, if_neg c_41]
          refine lv_aload_n hx hb dX8_as_44 rfl (lv_at hl 0 rfl) ?_
          refine lv_iconst (v := 2) hx hb dX8_as_45 (by decide) ?_
          refine qh_runV (As := [.int 2]) (rest := []) (C := RX8) ⟨hx, hb, hml, hown, hts⟩ hK hH (c_X8_failed l G z M E_1 tr 0 (hM) h_0 2) (cwV 1 hts gX8_as_X8_failed rfl rfl rfl (by decide +kernel) (by rw [hRf, hRl]; exact ⟨Nat.le_of_ble_eq_true rfl, Nat.le_of_ble_eq_true rfl⟩)) (by omega) h_0 rfl rfl hl.1 rfl (Nat.le_of_ble_eq_true rfl) dX8_as_46 ⟨Nat.zero_le _, Nat.zero_le _⟩ (qh_kki fun r_46 E_3 H locs hpost hH => ?_)
          obtain ⟨rfl, h_0, hfr⟩ := hpost
          have hF : ∀ x9, x9 ≠ 0 → E_3 x9 = E x9 := fun x9 a0 => (hfr x9 a0).trans (hF x9 a0)
          refine lv_goto (tgt := 53) hx hb dX8_as_49 (by decide) ?_
          exact hret dX8_as_53 hH (by rw [hD]; exact ⟨rfl, ⟨_, _, _, _, _, _, _, _, _, _, _, _, _, _, _, _, h_0, ((hF 1 (by decide)).trans b_1), ((hF 2 (by decide)).trans b_2), ((hF 3 (by decide)).trans b_3), ((hF 4 (by decide)).trans b_4), ((hF 5 (by decide)).trans b_5), ((hF 6 (by decide)).trans b_6), ((hF 7 (by decide)).trans b_7), ((hF 8 (by decide)).trans b_8), ((hF 9 (by decide)).trans b_9), ((hF 10 (by decide)).trans b_10), ((hF 11 (by decide)).trans b_11), ((hF 12 (by decide)).trans b_12), ((hF 13 (by decide)).trans b_13), ((hF 14 (by decide)).trans b_14), ((hF 39 (by decide)).trans b_39), ((hF 40 (by decide)).trans b_40), ((hF 41 (by decide)).trans b_41), ((hF 42 (by decide)).trans b_42), ((hF 43 (by decide)).trans b_43), ((hF 44 (by decide)).trans b_44), ((hF 45 (by decide)).trans b_45), ((hF 46 (by decide)).trans b_46), ((hF 47 (by decide)).trans b_47), ((hF 48 (by decide)).trans b_48), ((hF 49 (by decide)).trans b_49), ((hF 50 (by decide)).trans b_50), ((hF 51 (by decide)).trans b_51), ((hF 52 (by decide)).trans b_52), ((hF 53 (by decide)).trans b_53), ((hF 54 (by decide)).trans b_54), (fun t ht => (hF (15 + t) (by omega)).trans (hacts t ht)), (fun k hk => ⟨(hF (55 + 2 * k) (by omega)).trans (hsh k hk).1, (hF (56 + 2 * k) (by omega)).trans (hsh k hk).2⟩)⟩, (fun x9 h9 => hF x9 (by omega))⟩)
      · have hD : asV m2 kd x y = (-2, 0) := by rw [asV, if_pos hhas, if_neg (fun w => c_25 w.2)]
        refine lv_bipush (v := (-2)) hx hb dX8_as_28 (by decide) ?_
        exact hret dX8_as_30 hH (by rw [hD]; exact ⟨rfl, ⟨_, _, _, _, _, _, _, _, _, _, _, _, _, _, _, _, h_0, ((hF 1 (by decide)).trans b_1), ((hF 2 (by decide)).trans b_2), ((hF 3 (by decide)).trans b_3), ((hF 4 (by decide)).trans b_4), ((hF 5 (by decide)).trans b_5), ((hF 6 (by decide)).trans b_6), ((hF 7 (by decide)).trans b_7), ((hF 8 (by decide)).trans b_8), ((hF 9 (by decide)).trans b_9), ((hF 10 (by decide)).trans b_10), ((hF 11 (by decide)).trans b_11), ((hF 12 (by decide)).trans b_12), ((hF 13 (by decide)).trans b_13), ((hF 14 (by decide)).trans b_14), ((hF 39 (by decide)).trans b_39), ((hF 40 (by decide)).trans b_40), ((hF 41 (by decide)).trans b_41), ((hF 42 (by decide)).trans b_42), ((hF 43 (by decide)).trans b_43), ((hF 44 (by decide)).trans b_44), ((hF 45 (by decide)).trans b_45), ((hF 46 (by decide)).trans b_46), ((hF 47 (by decide)).trans b_47), ((hF 48 (by decide)).trans b_48), ((hF 49 (by decide)).trans b_49), ((hF 50 (by decide)).trans b_50), ((hF 51 (by decide)).trans b_51), ((hF 52 (by decide)).trans b_52), ((hF 53 (by decide)).trans b_53), ((hF 54 (by decide)).trans b_54), (fun t ht => (hF (15 + t) (by omega)).trans (hacts t ht)), (fun k hk => ⟨(hF (55 + 2 * k) (by omega)).trans (hsh k hk).1, (hF (56 + 2 * k) (by omega)).trans (hsh k hk).2⟩)⟩, (fun x9 h9 => hF x9 (by omega))⟩)
  · have c_14 := bI_eq.mp c_14
    have hhas := (not_congr (hlp_has hm3)).mp c_14
    have hD : asV m2 kd x y = (-1, 0) := by rw [asV, if_neg hhas]
    refine lv_iconst (v := (-1)) hx hb dX8_as_17 (by decide) ?_
    exact hret dX8_as_18 hH (by rw [hD]; exact ⟨rfl, ⟨_, _, _, _, _, _, _, _, _, _, _, _, _, _, _, _, h_0, ((hF 1 (by decide)).trans b_1), ((hF 2 (by decide)).trans b_2), ((hF 3 (by decide)).trans b_3), ((hF 4 (by decide)).trans b_4), ((hF 5 (by decide)).trans b_5), ((hF 6 (by decide)).trans b_6), ((hF 7 (by decide)).trans b_7), ((hF 8 (by decide)).trans b_8), ((hF 9 (by decide)).trans b_9), ((hF 10 (by decide)).trans b_10), ((hF 11 (by decide)).trans b_11), ((hF 12 (by decide)).trans b_12), ((hF 13 (by decide)).trans b_13), ((hF 14 (by decide)).trans b_14), ((hF 39 (by decide)).trans b_39), ((hF 40 (by decide)).trans b_40), ((hF 41 (by decide)).trans b_41), ((hF 42 (by decide)).trans b_42), ((hF 43 (by decide)).trans b_43), ((hF 44 (by decide)).trans b_44), ((hF 45 (by decide)).trans b_45), ((hF 46 (by decide)).trans b_46), ((hF 47 (by decide)).trans b_47), ((hF 48 (by decide)).trans b_48), ((hF 49 (by decide)).trans b_49), ((hF 50 (by decide)).trans b_50), ((hF 51 (by decide)).trans b_51), ((hF 52 (by decide)).trans b_52), ((hF 53 (by decide)).trans b_53), ((hF 54 (by decide)).trans b_54), (fun t ht => (hF (15 + t) (by omega)).trans (hacts t ht)), (fun k hk => ⟨(hF (55 + 2 * k) (by omega)).trans (hsh k hk).1, (hF (56 + 2 * k) (by omega)).trans (hsh k hk).2⟩)⟩, (fun x9 h9 => hF x9 (by omega))⟩)

set_option maxHeartbeats 1000000 in
set_option maxRecDepth 100000 in
theorem c_X8_tell (l : Launch) (G : qh_G) (z M : Nat) (E : Nat → va_E) (tr : Int32) (lf : Int32) (n : Nat) (f : Nat → Int64) (g : Nat → Int64) (bf : Nat → Int64) (m2 : Nat) (kd : Nat → Int32) (pa : Nat → Int32) (ln : Nat) (ts : Nat → Int32) (ga : Nat → Nat) (gb : Nat → Nat) (va : Nat → Int64) (rn : Nat) (cn : Nat → Nat) (vs : Nat → Int64) (hr : Nat → Int32) (la : Nat → Int32) (lg : Nat → Nat) (sc : Nat → Nat → Int32) (hM : 84 ≤ M) (hX : XE G z E tr lf n f g bf m2 kd pa ln ts ga gb va rn cn vs hr la lg sc) (hW : XW n m2 ln rn ga gb cn lg hr) (x : Int32) : Met l yX8_tell wsX8_tell (qh_R 4) (qh_Pre G z M E [.ref (z + 0), .int x]) (qh_Q G z M (qh_i (fun r E' => r = (telV m2 kd pa tr x).1 ∧ XE G z E' ((telV m2 kd pa tr x).2) lf n f g bf m2 kd pa ln ts ga gb va rn cn vs hr la lg sc ∧ ∀ x9, 63 ≤ x9 → E' x9 = E x9))) 0 0 (fun q => z ≤ q) := by
  refine qh_metI (cc := cX8_tell) (maxL := 3) (by decide) rfl (Nat.le_of_ble_eq_true rfl) ?_
  intro pZ eZ sZ mZ aZ bZ tZ cZ RR QQ ls hx hb hml hown hts hRf hRl hH hK hl hret
  have hown : sZ.vm.findClass RX8 = some mZ.cls := hown
  have hl : lv_has ls 3 [(0, .ref (z + 0)), (1, .int x)] := hl
  obtain ⟨tc, dg, hn0, tk, tp, gn, gk, gp, t0, a0, b0, v0, bg, tn, tf, tg, b_0, b_1, b_2, b_3, b_4, b_5, b_6, b_7, b_8, b_9, b_10, b_11, b_12, b_13, b_14, b_39, b_40, b_41, b_42, b_43, b_44, b_45, b_46, b_47, b_48, b_49, b_50, b_51, b_52, b_53, b_54, hacts, hsh⟩ := hX
  obtain ⟨⟨hn16, hm3, hl24, hr8⟩, hval, hcn, hlg, hhr⟩ := hW
  have in_X8 : ∀ w ∈ wsX80, w ∈ wsX8_tell := fun w h => List.mem_cons_of_mem _ (List.mem_append_left _ (List.mem_append_right _ h))
  have in_X1 : ∀ w ∈ wsX10, w ∈ wsX8_tell := fun w h => List.mem_cons_of_mem _ (List.mem_append_right _ h)
  have f_27 : qh_F G sZ mZ aZ 27 8 2 := qh_F.of hts in_X8 hown hK rfl 2 (by decide) (by decide +kernel)
  have f_149 : qh_F G sZ mZ aZ 149 1 2 := qh_F.of hts in_X1 hown hK rfl 2 (by decide) (by decide +kernel)
  have f_146 : qh_F G sZ mZ aZ 146 1 1 := qh_F.of hts in_X1 hown hK rfl 1 (by decide) (by decide +kernel)
  refine lv_aload_n hx hb dX8_tell_0 rfl (lv_at hl 0 rfl) ?_
  refine qh_get hx hb hH f_27 (by omega) b_0 rfl dX8_tell_1 ?_
  refine lv_iload_n hx hb dX8_tell_4 rfl (lv_at hl 1 rfl) ?_
  refine lv_i2l (v := x.toInt64) hx hb dX8_tell_5 rfl ?_
  refine qh_runV (As := [.long (x.toInt64)]) (rest := []) (C := RX1) ⟨hx, hb, hml, hown, hts⟩ hK hH (c_X1_has l G z M E 7 (by omega) (nI m2) (.ref (z + 8)) (.ref (z + 9)) (x.toInt64) b_7) (cwV 1 hts gX8_tell_X1_has rfl rfl rfl (by decide +kernel) (by rw [hRf, hRl]; exact ⟨Nat.le_of_ble_eq_true rfl, Nat.le_of_ble_eq_true rfl⟩)) (by omega) b_7 rfl rfl hl.1 rfl (Nat.le_of_ble_eq_true rfl) dX8_tell_6 ⟨Nat.zero_le _, Nat.zero_le _⟩ (qh_kki fun r_6 E_1 H locs hpost hH => ?_)
  obtain ⟨rfl, rfl⟩ := hpost
  refine lv_if_ne (tgt := 14) hx hb dX8_tell_9 (by decide) (fun c_9 => ?_) (fun c_9 => ?_)
  · have c_9 := bI_ne.mp c_9
    have hhas := (hlp_has hm3).mp c_9
    obtain ⟨t, ht, et⟩ := nI_of_in (by omega) hhas
    have ec : x.toNatClampNeg = t := by rw [et]; exact nI_clamp (by omega)
    refine lv_aload_n hx hb dX8_tell_14 rfl (lv_at hl 0 rfl) ?_
    refine qh_get hx hb hH f_27 (by omega) b_0 rfl dX8_tell_15 ?_
    refine qh_get hx hb hH f_149 (by omega) b_7 rfl dX8_tell_18 ?_
    refine lv_iload_n hx hb dX8_tell_21 rfl (lv_at hl 1 rfl) ?_
    refine qh_iald hx hb hK hH (by omega) b_9 (j := t) (et) (by omega) (by omega) dX8_tell_22 ?_
    refine lv_istore_n (lv' := [(2, .int (pa t)), (0, .ref (z + 0)), (1, .int x)]) hx hb dX8_tell_23 rfl hl (by decide) rfl (fun ls hl => ?_)
    refine lv_aload_n hx hb dX8_tell_24 rfl (lv_at hl 1 rfl) ?_
    refine qh_get hx hb hH f_27 (by omega) b_0 rfl dX8_tell_25 ?_
    refine qh_get hx hb hH f_146 (by omega) b_7 rfl dX8_tell_28 ?_
    refine lv_iload_n hx hb dX8_tell_31 rfl (lv_at hl 2 rfl) ?_
    refine qh_iald hx hb hK hH (by omega) b_8 (j := t) (et) (by omega) (by omega) dX8_tell_32 ?_
    by_cases c_33_1 : kd t = 1
    · refine lv_lookup (tgt := 66) (off := 33) hx hb dX8_tell_33 (by decide) (by rw [c_33_1] <;> decide) (by decide) ?_
      have hD : telV m2 kd pa tr x = (pa t + 100, lvT (lvT tr 2) 1) := by rw [telV, if_pos hhas, ec, if_pos c_33_1]
      refine lv_aload_n hx hb dX8_tell_66 rfl (lv_at hl 1 rfl) ?_
      refine lv_iload_n hx hb dX8_tell_67 rfl (lv_at hl 0 rfl) ?_
      refine qh_runV (As := [.int (pa t)]) (rest := []) (C := RX8) ⟨hx, hb, hml, hown, hts⟩ hK hH (c_X8_broadBody l G z M E tr lf (hM) b_0 (pa t)) (cwV 1 hts gX8_tell_X8_broadBody rfl rfl rfl (by decide +kernel) (by rw [hRf, hRl]; exact ⟨Nat.le_of_ble_eq_true rfl, Nat.le_of_ble_eq_true rfl⟩)) (by omega) b_0 rfl rfl hl.1 rfl (Nat.le_of_ble_eq_true rfl) dX8_tell_68 ⟨Nat.zero_le _, Nat.zero_le _⟩ (qh_kki fun r_68 E_2 H locs hpost hH => ?_)
      obtain ⟨rfl, h_0, hfr⟩ := hpost
      have hF : ∀ x9, x9 ≠ 0 → E_2 x9 = E x9 := fun x9 a0 => hfr x9 a0
      exact hret dX8_tell_71 hH (by rw [hD]; exact ⟨rfl, ⟨_, _, _, _, _, _, _, _, _, _, _, _, _, _, _, _, h_0, ((hF 1 (by decide)).trans b_1), ((hF 2 (by decide)).trans b_2), ((hF 3 (by decide)).trans b_3), ((hF 4 (by decide)).trans b_4), ((hF 5 (by decide)).trans b_5), ((hF 6 (by decide)).trans b_6), ((hF 7 (by decide)).trans b_7), ((hF 8 (by decide)).trans b_8), ((hF 9 (by decide)).trans b_9), ((hF 10 (by decide)).trans b_10), ((hF 11 (by decide)).trans b_11), ((hF 12 (by decide)).trans b_12), ((hF 13 (by decide)).trans b_13), ((hF 14 (by decide)).trans b_14), ((hF 39 (by decide)).trans b_39), ((hF 40 (by decide)).trans b_40), ((hF 41 (by decide)).trans b_41), ((hF 42 (by decide)).trans b_42), ((hF 43 (by decide)).trans b_43), ((hF 44 (by decide)).trans b_44), ((hF 45 (by decide)).trans b_45), ((hF 46 (by decide)).trans b_46), ((hF 47 (by decide)).trans b_47), ((hF 48 (by decide)).trans b_48), ((hF 49 (by decide)).trans b_49), ((hF 50 (by decide)).trans b_50), ((hF 51 (by decide)).trans b_51), ((hF 52 (by decide)).trans b_52), ((hF 53 (by decide)).trans b_53), ((hF 54 (by decide)).trans b_54), (fun t ht => (hF (15 + t) (by omega)).trans (hacts t ht)), (fun k hk => ⟨(hF (55 + 2 * k) (by omega)).trans (hsh k hk).1, (hF (56 + 2 * k) (by omega)).trans (hsh k hk).2⟩)⟩, (fun x9 h9 => hF x9 (by omega))⟩)
    by_cases c_33_2 : kd t = 2
    · refine lv_lookup (tgt := 60) (off := 27) hx hb dX8_tell_33 (by decide) (by rw [c_33_2] <;> decide) (by decide) ?_
      have hD : telV m2 kd pa tr x = (pa t + 100 + pa t, lvT (lvT (lvT (lvT tr 3) 2) 1) 1) := by rw [telV, if_pos hhas, ec, if_neg c_33_1, if_pos c_33_2]
      refine lv_aload_n hx hb dX8_tell_60 rfl (lv_at hl 1 rfl) ?_
      refine lv_iload_n hx hb dX8_tell_61 rfl (lv_at hl 0 rfl) ?_
      refine qh_runV (As := [.int (pa t)]) (rest := []) (C := RX8) ⟨hx, hb, hml, hown, hts⟩ hK hH (c_X8_doubleBody l G z M E tr lf (hM) b_0 (pa t)) (cwV 1 hts gX8_tell_X8_doubleBody rfl rfl rfl (by decide +kernel) (by rw [hRf, hRl]; exact ⟨Nat.le_of_ble_eq_true rfl, Nat.le_of_ble_eq_true rfl⟩)) (by omega) b_0 rfl rfl hl.1 rfl (Nat.le_of_ble_eq_true rfl) dX8_tell_62 ⟨Nat.zero_le _, Nat.zero_le _⟩ (qh_kki fun r_62 E_3 H locs hpost hH => ?_)
      obtain ⟨rfl, h_0, hfr⟩ := hpost
      have hF : ∀ x9, x9 ≠ 0 → E_3 x9 = E x9 := fun x9 a0 => hfr x9 a0
      exact hret dX8_tell_65 hH (by rw [hD]; exact ⟨rfl, ⟨_, _, _, _, _, _, _, _, _, _, _, _, _, _, _, _, h_0, ((hF 1 (by decide)).trans b_1), ((hF 2 (by decide)).trans b_2), ((hF 3 (by decide)).trans b_3), ((hF 4 (by decide)).trans b_4), ((hF 5 (by decide)).trans b_5), ((hF 6 (by decide)).trans b_6), ((hF 7 (by decide)).trans b_7), ((hF 8 (by decide)).trans b_8), ((hF 9 (by decide)).trans b_9), ((hF 10 (by decide)).trans b_10), ((hF 11 (by decide)).trans b_11), ((hF 12 (by decide)).trans b_12), ((hF 13 (by decide)).trans b_13), ((hF 14 (by decide)).trans b_14), ((hF 39 (by decide)).trans b_39), ((hF 40 (by decide)).trans b_40), ((hF 41 (by decide)).trans b_41), ((hF 42 (by decide)).trans b_42), ((hF 43 (by decide)).trans b_43), ((hF 44 (by decide)).trans b_44), ((hF 45 (by decide)).trans b_45), ((hF 46 (by decide)).trans b_46), ((hF 47 (by decide)).trans b_47), ((hF 48 (by decide)).trans b_48), ((hF 49 (by decide)).trans b_49), ((hF 50 (by decide)).trans b_50), ((hF 51 (by decide)).trans b_51), ((hF 52 (by decide)).trans b_52), ((hF 53 (by decide)).trans b_53), ((hF 54 (by decide)).trans b_54), (fun t ht => (hF (15 + t) (by omega)).trans (hacts t ht)), (fun k hk => ⟨(hF (55 + 2 * k) (by omega)).trans (hsh k hk).1, (hF (56 + 2 * k) (by omega)).trans (hsh k hk).2⟩)⟩, (fun x9 h9 => hF x9 (by omega))⟩)
    refine lv_lookup (tgt := 72) (off := 39) hx hb dX8_tell_33 (by decide) (by rw [lv_osw (k := 1) c_33_1 (by decide), lv_osw (k := 2) c_33_2 (by decide)] <;> rfl) (by decide) ?_
    have hD : telV m2 kd pa tr x = (pa t, lvT tr 1) := by rw [telV, if_pos hhas, ec, if_neg c_33_1, if_neg c_33_2]
    refine lv_aload_n hx hb dX8_tell_72 rfl (lv_at hl 1 rfl) ?_
    refine lv_iload_n hx hb dX8_tell_73 rfl (lv_at hl 0 rfl) ?_
    refine qh_runV (As := [.int (pa t)]) (rest := []) (C := RX8) ⟨hx, hb, hml, hown, hts⟩ hK hH (c_X8_plainBody l G z M E tr lf (hM) b_0 (pa t)) (cwV 1 hts gX8_tell_X8_plainBody rfl rfl rfl (by decide +kernel) (by rw [hRf, hRl]; exact ⟨Nat.le_of_ble_eq_true rfl, Nat.le_of_ble_eq_true rfl⟩)) (by omega) b_0 rfl rfl hl.1 rfl (Nat.le_of_ble_eq_true rfl) dX8_tell_74 ⟨Nat.zero_le _, Nat.zero_le _⟩ (qh_kki fun r_74 E_4 H locs hpost hH => ?_)
    obtain ⟨rfl, h_0, hfr⟩ := hpost
    have hF : ∀ x9, x9 ≠ 0 → E_4 x9 = E x9 := fun x9 a0 => hfr x9 a0
    exact hret dX8_tell_77 hH (by rw [hD]; exact ⟨rfl, ⟨_, _, _, _, _, _, _, _, _, _, _, _, _, _, _, _, h_0, ((hF 1 (by decide)).trans b_1), ((hF 2 (by decide)).trans b_2), ((hF 3 (by decide)).trans b_3), ((hF 4 (by decide)).trans b_4), ((hF 5 (by decide)).trans b_5), ((hF 6 (by decide)).trans b_6), ((hF 7 (by decide)).trans b_7), ((hF 8 (by decide)).trans b_8), ((hF 9 (by decide)).trans b_9), ((hF 10 (by decide)).trans b_10), ((hF 11 (by decide)).trans b_11), ((hF 12 (by decide)).trans b_12), ((hF 13 (by decide)).trans b_13), ((hF 14 (by decide)).trans b_14), ((hF 39 (by decide)).trans b_39), ((hF 40 (by decide)).trans b_40), ((hF 41 (by decide)).trans b_41), ((hF 42 (by decide)).trans b_42), ((hF 43 (by decide)).trans b_43), ((hF 44 (by decide)).trans b_44), ((hF 45 (by decide)).trans b_45), ((hF 46 (by decide)).trans b_46), ((hF 47 (by decide)).trans b_47), ((hF 48 (by decide)).trans b_48), ((hF 49 (by decide)).trans b_49), ((hF 50 (by decide)).trans b_50), ((hF 51 (by decide)).trans b_51), ((hF 52 (by decide)).trans b_52), ((hF 53 (by decide)).trans b_53), ((hF 54 (by decide)).trans b_54), (fun t ht => (hF (15 + t) (by omega)).trans (hacts t ht)), (fun k hk => ⟨(hF (55 + 2 * k) (by omega)).trans (hsh k hk).1, (hF (56 + 2 * k) (by omega)).trans (hsh k hk).2⟩)⟩, (fun x9 h9 => hF x9 (by omega))⟩)
  · have c_9 := bI_eq.mp c_9
    have hhas := (not_congr (hlp_has hm3)).mp c_9
    have hD : telV m2 kd pa tr x = (-1, tr) := by rw [telV, if_neg hhas]
    refine lv_iconst (v := (-1)) hx hb dX8_tell_12 (by decide) ?_
    exact hret dX8_tell_13 hH (by rw [hD]; exact ⟨rfl, ⟨_, _, _, _, _, _, _, _, _, _, _, _, _, _, _, _, b_0, b_1, b_2, b_3, b_4, b_5, b_6, b_7, b_8, b_9, b_10, b_11, b_12, b_13, b_14, b_39, b_40, b_41, b_42, b_43, b_44, b_45, b_46, b_47, b_48, b_49, b_50, b_51, b_52, b_53, b_54, hacts, hsh⟩, (fun _ _ => rfl)⟩)

set_option maxHeartbeats 1000000 in
set_option maxRecDepth 100000 in
theorem c_X8_cheer (l : Launch) (G : qh_G) (z M : Nat) (E : Nat → va_E) (tr : Int32) (lf : Int32) (n : Nat) (f : Nat → Int64) (g : Nat → Int64) (bf : Nat → Int64) (m2 : Nat) (kd : Nat → Int32) (pa : Nat → Int32) (ln : Nat) (ts : Nat → Int32) (ga : Nat → Nat) (gb : Nat → Nat) (va : Nat → Int64) (rn : Nat) (cn : Nat → Nat) (vs : Nat → Int64) (hr : Nat → Int32) (la : Nat → Int32) (lg : Nat → Nat) (sc : Nat → Nat → Int32) (hM : 84 ≤ M) (hX : XE G z E tr lf n f g bf m2 kd pa ln ts ga gb va rn cn vs hr la lg sc) (hW : XW n m2 ln rn ga gb cn lg hr) (x : Int32) : Met l yX8_cheer wsX8_cheer (qh_R 1) (qh_Pre G z M E [.ref (z + 0), .int x]) (qh_Q G z M (qh_i (fun r E' => r = (cheV m2 kd tr x).1 ∧ XE G z E' ((cheV m2 kd tr x).2) lf n f g bf m2 kd pa ln ts ga gb va rn cn vs hr la lg sc ∧ ∀ x9, 63 ≤ x9 → E' x9 = E x9))) 0 0 (fun q => z ≤ q) := by
  refine qh_metI (cc := cX8_cheer) (maxL := 3) (by decide) rfl (Nat.le_of_ble_eq_true rfl) ?_
  intro pZ eZ sZ mZ aZ bZ tZ cZ RR QQ ls hx hb hml hown hts hRf hRl hH hK hl hret
  have hown : sZ.vm.findClass RX8 = some mZ.cls := hown
  have hl : lv_has ls 3 [(0, .ref (z + 0)), (1, .int x)] := hl
  obtain ⟨tc, dg, hn0, tk, tp, gn, gk, gp, t0, a0, b0, v0, bg, tn, tf, tg, b_0, b_1, b_2, b_3, b_4, b_5, b_6, b_7, b_8, b_9, b_10, b_11, b_12, b_13, b_14, b_39, b_40, b_41, b_42, b_43, b_44, b_45, b_46, b_47, b_48, b_49, b_50, b_51, b_52, b_53, b_54, hacts, hsh⟩ := hX
  obtain ⟨⟨hn16, hm3, hl24, hr8⟩, hval, hcn, hlg, hhr⟩ := hW
  have in_X8 : ∀ w ∈ wsX80, w ∈ wsX8_cheer := fun w h => List.mem_cons_of_mem _ (List.mem_append_left _ (List.mem_append_right _ h))
  have in_X1 : ∀ w ∈ wsX10, w ∈ wsX8_cheer := fun w h => List.mem_cons_of_mem _ (List.mem_append_right _ h)
  have f_27 : qh_F G sZ mZ aZ 27 8 2 := qh_F.of hts in_X8 hown hK rfl 2 (by decide) (by decide +kernel)
  have f_146 : qh_F G sZ mZ aZ 146 1 1 := qh_F.of hts in_X1 hown hK rfl 1 (by decide) (by decide +kernel)
  refine lv_aload_n hx hb dX8_cheer_0 rfl (lv_at hl 0 rfl) ?_
  refine qh_get hx hb hH f_27 (by omega) b_0 rfl dX8_cheer_1 ?_
  refine lv_iload_n hx hb dX8_cheer_4 rfl (lv_at hl 1 rfl) ?_
  refine lv_i2l (v := x.toInt64) hx hb dX8_cheer_5 rfl ?_
  refine qh_runV (As := [.long (x.toInt64)]) (rest := []) (C := RX1) ⟨hx, hb, hml, hown, hts⟩ hK hH (c_X1_has l G z M E 7 (by omega) (nI m2) (.ref (z + 8)) (.ref (z + 9)) (x.toInt64) b_7) (cwV 1 hts gX8_cheer_X1_has rfl rfl rfl (by decide +kernel) (by rw [hRf, hRl]; exact ⟨Nat.le_of_ble_eq_true rfl, Nat.le_of_ble_eq_true rfl⟩)) (by omega) b_7 rfl rfl hl.1 rfl (Nat.le_of_ble_eq_true rfl) dX8_cheer_6 ⟨Nat.zero_le _, Nat.zero_le _⟩ (qh_kki fun r_6 E_1 H locs hpost hH => ?_)
  obtain ⟨rfl, rfl⟩ := hpost
  refine lv_if_ne (tgt := 14) hx hb dX8_cheer_9 (by decide) (fun c_9 => ?_) (fun c_9 => ?_)
  · have c_9 := bI_ne.mp c_9
    have hhas := (hlp_has hm3).mp c_9
    obtain ⟨t, ht, et⟩ := nI_of_in (by omega) hhas
    have ec : x.toNatClampNeg = t := by rw [et]; exact nI_clamp (by omega)
    refine lv_aload_n hx hb dX8_cheer_14 rfl (lv_at hl 0 rfl) ?_
    refine qh_get hx hb hH f_27 (by omega) b_0 rfl dX8_cheer_15 ?_
    refine qh_get hx hb hH f_146 (by omega) b_7 rfl dX8_cheer_18 ?_
    refine lv_iload_n hx hb dX8_cheer_21 rfl (lv_at hl 1 rfl) ?_
    refine qh_iald hx hb hK hH (by omega) b_8 (j := t) (et) (by omega) (by omega) dX8_cheer_22 ?_
    refine lv_iconst (v := 2) hx hb dX8_cheer_23 (by decide) ?_
    refine lv_icmp_ne (tgt := 31) hx hb dX8_cheer_24 (by decide) (fun c_24 => ?_) (fun c_24 => ?_)
    · have hD : cheV m2 kd tr x = (x, lvT tr 4) := by rw [cheV, if_pos hhas, ec, if_neg c_24]
      refine lv_iconst (v := 0) hx hb dX8_cheer_31 (by decide) ?_
      refine lv_istore_n (lv' := [(2, .int 0), (0, .ref (z + 0)), (1, .int x)]) hx hb dX8_cheer_32 rfl hl (by decide) rfl (fun ls hl => ?_)
      refine lv_aload_n hx hb dX8_cheer_33 rfl (lv_at hl 1 rfl) ?_
      refine lv_iload_n hx hb dX8_cheer_34 rfl (lv_at hl 0 rfl) ?_
      refine lv_if_eq (tgt := 42) hx hb dX8_cheer_35 (by decide) (fun c_35 => ?_) (fun c_35 => ?_)
      · refine lv_iconst (v := 4) hx hb dX8_cheer_42 (by decide) ?_
        refine qh_runV (As := [.int 4]) (rest := []) (C := RX8) ⟨hx, hb, hml, hown, hts⟩ hK hH (c_X8_leave l G z M E tr lf (hM) b_0 4) (cwV 1 hts gX8_cheer_X8_leave rfl rfl rfl (by decide +kernel) (by rw [hRf, hRl]; exact ⟨Nat.le_of_ble_eq_true rfl, Nat.le_of_ble_eq_true rfl⟩)) (by omega) b_0 rfl rfl hl.1 rfl (Nat.le_of_ble_eq_true rfl) dX8_cheer_43 ⟨Nat.zero_le _, Nat.zero_le _⟩ (qh_kkv fun E_2 H locs hpost hH => ?_)
        obtain ⟨h_0, hfr⟩ := hpost
        have hF : ∀ x9, x9 ≠ 0 → E_2 x9 = E x9 := fun x9 a0 => hfr x9 a0
        refine lv_iload_n hx hb dX8_cheer_46 rfl (lv_at hl 0 rfl) ?_
        refine lv_if_eq (tgt := 55) hx hb dX8_cheer_47 (by decide) (fun c_47 => ?_) (fun c_47 => ?_)
        · refine lv_iload_n hx hb dX8_cheer_55 rfl (lv_at hl 2 rfl) ?_
          exact hret dX8_cheer_56 hH (by rw [hD]; exact ⟨rfl, ⟨_, _, _, _, _, _, _, _, _, _, _, _, _, _, _, _, h_0, ((hF 1 (by decide)).trans b_1), ((hF 2 (by decide)).trans b_2), ((hF 3 (by decide)).trans b_3), ((hF 4 (by decide)).trans b_4), ((hF 5 (by decide)).trans b_5), ((hF 6 (by decide)).trans b_6), ((hF 7 (by decide)).trans b_7), ((hF 8 (by decide)).trans b_8), ((hF 9 (by decide)).trans b_9), ((hF 10 (by decide)).trans b_10), ((hF 11 (by decide)).trans b_11), ((hF 12 (by decide)).trans b_12), ((hF 13 (by decide)).trans b_13), ((hF 14 (by decide)).trans b_14), ((hF 39 (by decide)).trans b_39), ((hF 40 (by decide)).trans b_40), ((hF 41 (by decide)).trans b_41), ((hF 42 (by decide)).trans b_42), ((hF 43 (by decide)).trans b_43), ((hF 44 (by decide)).trans b_44), ((hF 45 (by decide)).trans b_45), ((hF 46 (by decide)).trans b_46), ((hF 47 (by decide)).trans b_47), ((hF 48 (by decide)).trans b_48), ((hF 49 (by decide)).trans b_49), ((hF 50 (by decide)).trans b_50), ((hF 51 (by decide)).trans b_51), ((hF 52 (by decide)).trans b_52), ((hF 53 (by decide)).trans b_53), ((hF 54 (by decide)).trans b_54), (fun t ht => (hF (15 + t) (by omega)).trans (hacts t ht)), (fun k hk => ⟨(hF (55 + 2 * k) (by omega)).trans (hsh k hk).1, (hF (56 + 2 * k) (by omega)).trans (hsh k hk).2⟩)⟩, (fun x9 h9 => hF x9 (by omega))⟩)
        · exact absurd (by decide) c_47
      · exact absurd (by decide) c_35
    · have hD : cheV m2 kd tr x = (60, lvT tr 5) := by rw [cheV, if_pos hhas, ec, if_pos c_24]
      refine lv_iconst (v := 1) hx hb dX8_cheer_27 (by decide) ?_
      refine lv_goto (tgt := 32) hx hb dX8_cheer_28 (by decide) ?_
      refine lv_istore_n (lv' := [(2, .int 1), (0, .ref (z + 0)), (1, .int x)]) hx hb dX8_cheer_32 rfl hl (by decide) rfl (fun ls hl => ?_)
      refine lv_aload_n hx hb dX8_cheer_33 rfl (lv_at hl 1 rfl) ?_
      refine lv_iload_n hx hb dX8_cheer_34 rfl (lv_at hl 0 rfl) ?_
      refine lv_if_eq (tgt := 42) hx hb dX8_cheer_35 (by decide) (fun c_35 => ?_) (fun c_35 => ?_)
      · exact absurd c_35 (by decide)
      · refine lv_iconst (v := 5) hx hb dX8_cheer_38 (by decide) ?_
        refine lv_goto (tgt := 43) hx hb dX8_cheer_39 (by decide) ?_
        refine qh_runV (As := [.int 5]) (rest := []) (C := RX8) ⟨hx, hb, hml, hown, hts⟩ hK hH (c_X8_leave l G z M E tr lf (hM) b_0 5) (cwV 1 hts gX8_cheer_X8_leave rfl rfl rfl (by decide +kernel) (by rw [hRf, hRl]; exact ⟨Nat.le_of_ble_eq_true rfl, Nat.le_of_ble_eq_true rfl⟩)) (by omega) b_0 rfl rfl hl.1 rfl (Nat.le_of_ble_eq_true rfl) dX8_cheer_43 ⟨Nat.zero_le _, Nat.zero_le _⟩ (qh_kkv fun E_3 H locs hpost hH => ?_)
        obtain ⟨h_0, hfr⟩ := hpost
        have hF : ∀ x9, x9 ≠ 0 → E_3 x9 = E x9 := fun x9 a0 => hfr x9 a0
        refine lv_iload_n hx hb dX8_cheer_46 rfl (lv_at hl 0 rfl) ?_
        refine lv_if_eq (tgt := 55) hx hb dX8_cheer_47 (by decide) (fun c_47 => ?_) (fun c_47 => ?_)
        · exact absurd c_47 (by decide)
        · refine lv_bipush (v := 60) hx hb dX8_cheer_50 (by decide) ?_
          refine lv_goto (tgt := 56) hx hb dX8_cheer_52 (by decide) ?_
          exact hret dX8_cheer_56 hH (by rw [hD]; exact ⟨rfl, ⟨_, _, _, _, _, _, _, _, _, _, _, _, _, _, _, _, h_0, ((hF 1 (by decide)).trans b_1), ((hF 2 (by decide)).trans b_2), ((hF 3 (by decide)).trans b_3), ((hF 4 (by decide)).trans b_4), ((hF 5 (by decide)).trans b_5), ((hF 6 (by decide)).trans b_6), ((hF 7 (by decide)).trans b_7), ((hF 8 (by decide)).trans b_8), ((hF 9 (by decide)).trans b_9), ((hF 10 (by decide)).trans b_10), ((hF 11 (by decide)).trans b_11), ((hF 12 (by decide)).trans b_12), ((hF 13 (by decide)).trans b_13), ((hF 14 (by decide)).trans b_14), ((hF 39 (by decide)).trans b_39), ((hF 40 (by decide)).trans b_40), ((hF 41 (by decide)).trans b_41), ((hF 42 (by decide)).trans b_42), ((hF 43 (by decide)).trans b_43), ((hF 44 (by decide)).trans b_44), ((hF 45 (by decide)).trans b_45), ((hF 46 (by decide)).trans b_46), ((hF 47 (by decide)).trans b_47), ((hF 48 (by decide)).trans b_48), ((hF 49 (by decide)).trans b_49), ((hF 50 (by decide)).trans b_50), ((hF 51 (by decide)).trans b_51), ((hF 52 (by decide)).trans b_52), ((hF 53 (by decide)).trans b_53), ((hF 54 (by decide)).trans b_54), (fun t ht => (hF (15 + t) (by omega)).trans (hacts t ht)), (fun k hk => ⟨(hF (55 + 2 * k) (by omega)).trans (hsh k hk).1, (hF (56 + 2 * k) (by omega)).trans (hsh k hk).2⟩)⟩, (fun x9 h9 => hF x9 (by omega))⟩)
  · have c_9 := bI_eq.mp c_9
    have hhas := (not_congr (hlp_has hm3)).mp c_9
    have hD : cheV m2 kd tr x = (-1, tr) := by rw [cheV, if_neg hhas]
    refine lv_iconst (v := (-1)) hx hb dX8_cheer_12 (by decide) ?_
    exact hret dX8_cheer_13 hH (by rw [hD]; exact ⟨rfl, ⟨_, _, _, _, _, _, _, _, _, _, _, _, _, _, _, _, b_0, b_1, b_2, b_3, b_4, b_5, b_6, b_7, b_8, b_9, b_10, b_11, b_12, b_13, b_14, b_39, b_40, b_41, b_42, b_43, b_44, b_45, b_46, b_47, b_48, b_49, b_50, b_51, b_52, b_53, b_54, hacts, hsh⟩, (fun _ _ => rfl)⟩)

set_option maxHeartbeats 1000000 in
set_option maxRecDepth 100000 in
theorem c_X8_reading_ok (l : Launch) (G : qh_G) (z M : Nat) (E : Nat → va_E) (tr : Int32) (lf : Int32) (n : Nat) (f : Nat → Int64) (g : Nat → Int64) (bf : Nat → Int64) (m2 : Nat) (kd : Nat → Int32) (pa : Nat → Int32) (ln : Nat) (ts : Nat → Int32) (ga : Nat → Nat) (gb : Nat → Nat) (va : Nat → Int64) (rn : Nat) (cn : Nat → Nat) (vs : Nat → Int64) (hr : Nat → Int32) (la : Nat → Int32) (lg : Nat → Nat) (sc : Nat → Nat → Int32) (hM : 84 ≤ M) (hX : XE G z E tr lf n f g bf m2 kd pa ln ts ga gb va rn cn vs hr la lg sc) (hW : XW n m2 ln rn ga gb cn lg hr) (x : Int32) (v : Int64) (hr9 : rn < 8) : Met l yX8_reading wsX8_reading (qh_R 1) (qh_Pre G z M E [.ref (z + 0), .int x, .long v]) (qh_Q G z M (qh_i (fun r E' => match rdgD n rn x v with | some d => r = d ∧ XE G z E' tr lf n f g bf m2 kd pa ln ts ga gb va rn cn vs hr la lg sc ∧ ∀ x9, 63 ≤ x9 → E' x9 = E x9 | none => r = nI rn ∧ XE G z E' tr lf n f g bf m2 kd pa ln ts ga gb va (rn + 1) (upN cn rn x.toNatClampNeg) (vp_updL vs rn v) hr la lg sc ∧ ∀ x9, 63 ≤ x9 → E' x9 = E x9))) 0 0 (fun q => z ≤ q) := by
  refine qh_metI (cc := cX8_reading) (maxL := 4) (by decide) rfl (Nat.le_of_ble_eq_true rfl) ?_
  intro pZ eZ sZ mZ aZ bZ tZ cZ RR QQ ls hx hb hml hown hts hRf hRl hH hK hl hret
  have hown : sZ.vm.findClass RX8 = some mZ.cls := hown
  have hl : lv_has ls 4 [(0, .ref (z + 0)), (1, .int x), (2, .long v)] := hl
  obtain ⟨tc, dg, hn0, tk, tp, gn, gk, gp, t0, a0, b0, v0, bg, tn, tf, tg, b_0, b_1, b_2, b_3, b_4, b_5, b_6, b_7, b_8, b_9, b_10, b_11, b_12, b_13, b_14, b_39, b_40, b_41, b_42, b_43, b_44, b_45, b_46, b_47, b_48, b_49, b_50, b_51, b_52, b_53, b_54, hacts, hsh⟩ := hX
  obtain ⟨⟨hn16, hm3, hl24, hr8⟩, hval, hcn, hlg, hhr⟩ := hW
  have in_X8 : ∀ w ∈ wsX80, w ∈ wsX8_reading := fun w h => List.mem_cons_of_mem _ (List.mem_append_left _ (List.mem_append_left _ (List.mem_append_right _ h)))
  have f_51 : qh_F G sZ mZ aZ 51 8 6 := qh_F.of hts in_X8 hown hK rfl 6 (by decide) (by decide +kernel)
  have k_267 := hts (.constantLong RX8 267 (-1000000000000000)) (by decide +kernel)
  have k_269 := hts (.constantLong RX8 269 (1000000000000000)) (by decide +kernel)
  have f_71 : qh_F G sZ mZ aZ 71 8 10 := qh_F.of hts in_X8 hown hK rfl 10 (by decide) (by decide +kernel)
  refine lv_aload_n hx hb dX8_reading_0 rfl (lv_at hl 0 rfl) ?_
  refine qh_get hx hb hH f_51 (by omega) b_0 rfl dX8_reading_1 ?_
  refine lv_iload_n hx hb dX8_reading_4 rfl (lv_at hl 1 rfl) ?_
  refine qh_runV (As := [.int x]) (rest := []) (C := RX3) ⟨hx, hb, hml, hown, hts⟩ hK hH (c_X3_has l G z M E 40 (by omega) (nI n) (.ref (z + 41)) (.ref (z + 42)) x b_40) (cwV 1 hts gX8_reading_X3_has rfl rfl rfl (by decide +kernel) (by rw [hRf, hRl]; exact ⟨Nat.le_of_ble_eq_true rfl, Nat.le_of_ble_eq_true rfl⟩)) (by omega) b_40 rfl rfl hl.1 rfl (Nat.le_of_ble_eq_true rfl) dX8_reading_5 ⟨Nat.zero_le _, Nat.zero_le _⟩ (qh_kki fun r_5 E_1 H locs hpost hH => ?_)
  obtain ⟨rfl, rfl⟩ := hpost
  refine lv_if_ne (tgt := 13) hx hb dX8_reading_8 (by decide) (fun c_8 => ?_) (fun c_8 => ?_)
  · have c_8 := bI_ne.mp c_8
    obtain ⟨t, ht, et⟩ := nI_of_in (by omega) c_8
    have ec : x.toNatClampNeg = t := by rw [et]; exact nI_clamp (by omega)
    refine lv_lload_n hx hb dX8_reading_13 rfl (lv_at hl 2 rfl) ?_
    refine lv_ldc2 hx hb hown k_267 dX8_reading_14 ?_
    refine W.lcmp hx hb dX8_reading_17 ?_
    refine lv_if_lt (tgt := 29) hx hb dX8_reading_18 (by decide) (fun c_18 => ?_) (fun c_18 => ?_)
    · have c_18 := (lg_cmp_lt _ _).mp c_18
      have hD : rdgD n rn x v = some (-2) := by rw [rdgD, if_pos c_8, if_neg (fun w => w.1 c_18)]
      refine lv_bipush (v := (-2)) hx hb dX8_reading_29 (by decide) ?_
      exact hret dX8_reading_31 hH (by rw [hD]; exact ⟨rfl, ⟨_, _, _, _, _, _, _, _, _, _, _, _, _, _, _, _, b_0, b_1, b_2, b_3, b_4, b_5, b_6, b_7, b_8, b_9, b_10, b_11, b_12, b_13, b_14, b_39, b_40, b_41, b_42, b_43, b_44, b_45, b_46, b_47, b_48, b_49, b_50, b_51, b_52, b_53, b_54, hacts, hsh⟩, (fun _ _ => rfl)⟩)
    · have c_18 := (not_congr (lg_cmp_lt _ _)).mp c_18
      refine lv_lload_n hx hb dX8_reading_21 rfl (lv_at hl 2 rfl) ?_
      refine lv_ldc2 hx hb hown k_269 dX8_reading_22 ?_
      refine W.lcmp hx hb dX8_reading_25 ?_
      refine lv_if_le (tgt := 32) hx hb dX8_reading_26 (by decide) (fun c_26 => ?_) (fun c_26 => ?_)
      · have c_26 := (lg_cmp_le _ _).mp c_26
        have hD : rdgD n rn x v = none := by rw [rdgD, if_pos c_8, if_pos ⟨c_18, Int64.not_lt.mpr c_26⟩, if_pos hr9]
        have hl : lv_has ls 4 [(0, .ref (z + 0)), (1, .int (nI t)), (2, .long v)] := by rw [et] at hl; exact hl
        refine lv_aload_n hx hb dX8_reading_32 rfl (lv_at hl 0 rfl) ?_
        refine qh_get hx hb hH f_71 (by omega) b_0 rfl dX8_reading_33 ?_
        refine lv_iload_n hx hb dX8_reading_36 rfl (lv_at hl 1 rfl) ?_
        refine lv_lload_n hx hb dX8_reading_37 rfl (lv_at hl 2 rfl) ?_
        refine qh_runV (As := [.int (nI t), .long v]) (rest := []) (C := RX4) ⟨hx, hb, hml, hown, hts⟩ hK hH (c_X4_keep l G z M E 52 53 54 rn t v _ vs (⟨by omega, by omega, by omega⟩) (⟨by decide, by decide, by decide⟩) (hr9) b_52 b_53 b_54) (cwV 2 hts gX8_reading_X4_keep rfl rfl rfl (by decide +kernel) (by rw [hRf, hRl]; exact ⟨Nat.le_of_ble_eq_true rfl, Nat.le_of_ble_eq_true rfl⟩)) (by omega) b_52 rfl rfl hl.1 rfl (Nat.le_of_ble_eq_true rfl) dX8_reading_38 ⟨Nat.zero_le _, Nat.zero_le _⟩ (qh_kki fun r_38 E_2 H locs hpost hH => ?_)
        obtain ⟨rfl, h_52, h_53, h_54, hfr⟩ := hpost
        have hF : ∀ x9, x9 ≠ 52 → x9 ≠ 53 → x9 ≠ 54 → E_2 x9 = E x9 := fun x9 a0 a1 a2 => hfr x9 a0 a1 a2
        exact hret dX8_reading_41 hH (by rw [hD, ec]; exact ⟨rfl, ⟨_, _, _, _, _, _, _, _, _, _, _, _, _, _, _, _, ((hF 0 (by decide) (by decide) (by decide)).trans b_0), ((hF 1 (by decide) (by decide) (by decide)).trans b_1), ((hF 2 (by decide) (by decide) (by decide)).trans b_2), ((hF 3 (by decide) (by decide) (by decide)).trans b_3), ((hF 4 (by decide) (by decide) (by decide)).trans b_4), ((hF 5 (by decide) (by decide) (by decide)).trans b_5), ((hF 6 (by decide) (by decide) (by decide)).trans b_6), ((hF 7 (by decide) (by decide) (by decide)).trans b_7), ((hF 8 (by decide) (by decide) (by decide)).trans b_8), ((hF 9 (by decide) (by decide) (by decide)).trans b_9), ((hF 10 (by decide) (by decide) (by decide)).trans b_10), ((hF 11 (by decide) (by decide) (by decide)).trans b_11), ((hF 12 (by decide) (by decide) (by decide)).trans b_12), ((hF 13 (by decide) (by decide) (by decide)).trans b_13), ((hF 14 (by decide) (by decide) (by decide)).trans b_14), ((hF 39 (by decide) (by decide) (by decide)).trans b_39), ((hF 40 (by decide) (by decide) (by decide)).trans b_40), ((hF 41 (by decide) (by decide) (by decide)).trans b_41), ((hF 42 (by decide) (by decide) (by decide)).trans b_42), ((hF 43 (by decide) (by decide) (by decide)).trans b_43), ((hF 44 (by decide) (by decide) (by decide)).trans b_44), ((hF 45 (by decide) (by decide) (by decide)).trans b_45), ((hF 46 (by decide) (by decide) (by decide)).trans b_46), ((hF 47 (by decide) (by decide) (by decide)).trans b_47), ((hF 48 (by decide) (by decide) (by decide)).trans b_48), ((hF 49 (by decide) (by decide) (by decide)).trans b_49), ((hF 50 (by decide) (by decide) (by decide)).trans b_50), ((hF 51 (by decide) (by decide) (by decide)).trans b_51), h_52, h_53, h_54, (fun t ht => (hF (15 + t) (by omega) (by omega) (by omega)).trans (hacts t ht)), (fun k hk => ⟨(hF (55 + 2 * k) (by omega) (by omega) (by omega)).trans (hsh k hk).1, (hF (56 + 2 * k) (by omega) (by omega) (by omega)).trans (hsh k hk).2⟩)⟩, (fun x9 h9 => hF x9 (by omega) (by omega) (by omega))⟩)
      · have c_26 := (not_congr (lg_cmp_le _ _)).mp c_26
        have hD : rdgD n rn x v = some (-2) := by rw [rdgD, if_pos c_8, if_neg (fun w => w.2 (Int64.not_le.mp c_26))]
        refine lv_bipush (v := (-2)) hx hb dX8_reading_29 (by decide) ?_
        exact hret dX8_reading_31 hH (by rw [hD]; exact ⟨rfl, ⟨_, _, _, _, _, _, _, _, _, _, _, _, _, _, _, _, b_0, b_1, b_2, b_3, b_4, b_5, b_6, b_7, b_8, b_9, b_10, b_11, b_12, b_13, b_14, b_39, b_40, b_41, b_42, b_43, b_44, b_45, b_46, b_47, b_48, b_49, b_50, b_51, b_52, b_53, b_54, hacts, hsh⟩, (fun _ _ => rfl)⟩)
  · have c_8 := bI_eq.mp c_8
    have hD : rdgD n rn x v = some (-1) := by rw [rdgD, if_neg c_8]
    refine lv_iconst (v := (-1)) hx hb dX8_reading_11 (by decide) ?_
    exact hret dX8_reading_12 hH (by rw [hD]; exact ⟨rfl, ⟨_, _, _, _, _, _, _, _, _, _, _, _, _, _, _, _, b_0, b_1, b_2, b_3, b_4, b_5, b_6, b_7, b_8, b_9, b_10, b_11, b_12, b_13, b_14, b_39, b_40, b_41, b_42, b_43, b_44, b_45, b_46, b_47, b_48, b_49, b_50, b_51, b_52, b_53, b_54, hacts, hsh⟩, (fun _ _ => rfl)⟩)

set_option maxHeartbeats 1000000 in
set_option maxRecDepth 100000 in
theorem c_X8_reading_full (l : Launch) (G : qh_G) (z M : Nat) (E : Nat → va_E) (tr : Int32) (lf : Int32) (n : Nat) (f : Nat → Int64) (g : Nat → Int64) (bf : Nat → Int64) (m2 : Nat) (kd : Nat → Int32) (pa : Nat → Int32) (ln : Nat) (ts : Nat → Int32) (ga : Nat → Nat) (gb : Nat → Nat) (va : Nat → Int64) (rn : Nat) (cn : Nat → Nat) (vs : Nat → Int64) (hr : Nat → Int32) (la : Nat → Int32) (lg : Nat → Nat) (sc : Nat → Nat → Int32) (hM : 84 ≤ M) (hX : XE G z E tr lf n f g bf m2 kd pa ln ts ga gb va rn cn vs hr la lg sc) (hW : XW n m2 ln rn ga gb cn lg hr) (x : Int32) (v : Int64) (hr9 : 8 ≤ rn) : Met l yX8_reading wsX8_reading (qh_R 1) (qh_Pre G z M E [.ref (z + 0), .int x, .long v]) (qh_Q G z M (qh_i (fun r E' => match rdgD n rn x v with | some d => r = d ∧ XE G z E' tr lf n f g bf m2 kd pa ln ts ga gb va rn cn vs hr la lg sc ∧ ∀ x9, 63 ≤ x9 → E' x9 = E x9 | none => r = nI rn ∧ XE G z E' tr lf n f g bf m2 kd pa ln ts ga gb va (rn + 1) (upN cn rn x.toNatClampNeg) (vp_updL vs rn v) hr la lg sc ∧ ∀ x9, 63 ≤ x9 → E' x9 = E x9))) 0 0 (fun q => z ≤ q) := by
  refine qh_metI (cc := cX8_reading) (maxL := 4) (by decide) rfl (Nat.le_of_ble_eq_true rfl) ?_
  intro pZ eZ sZ mZ aZ bZ tZ cZ RR QQ ls hx hb hml hown hts hRf hRl hH hK hl hret
  have hown : sZ.vm.findClass RX8 = some mZ.cls := hown
  have hl : lv_has ls 4 [(0, .ref (z + 0)), (1, .int x), (2, .long v)] := hl
  obtain ⟨tc, dg, hn0, tk, tp, gn, gk, gp, t0, a0, b0, v0, bg, tn, tf, tg, b_0, b_1, b_2, b_3, b_4, b_5, b_6, b_7, b_8, b_9, b_10, b_11, b_12, b_13, b_14, b_39, b_40, b_41, b_42, b_43, b_44, b_45, b_46, b_47, b_48, b_49, b_50, b_51, b_52, b_53, b_54, hacts, hsh⟩ := hX
  obtain ⟨⟨hn16, hm3, hl24, hr8⟩, hval, hcn, hlg, hhr⟩ := hW
  have in_X8 : ∀ w ∈ wsX80, w ∈ wsX8_reading := fun w h => List.mem_cons_of_mem _ (List.mem_append_left _ (List.mem_append_left _ (List.mem_append_right _ h)))
  have f_51 : qh_F G sZ mZ aZ 51 8 6 := qh_F.of hts in_X8 hown hK rfl 6 (by decide) (by decide +kernel)
  have k_267 := hts (.constantLong RX8 267 (-1000000000000000)) (by decide +kernel)
  have k_269 := hts (.constantLong RX8 269 (1000000000000000)) (by decide +kernel)
  have f_71 : qh_F G sZ mZ aZ 71 8 10 := qh_F.of hts in_X8 hown hK rfl 10 (by decide) (by decide +kernel)
  refine lv_aload_n hx hb dX8_reading_0 rfl (lv_at hl 0 rfl) ?_
  refine qh_get hx hb hH f_51 (by omega) b_0 rfl dX8_reading_1 ?_
  refine lv_iload_n hx hb dX8_reading_4 rfl (lv_at hl 1 rfl) ?_
  refine qh_runV (As := [.int x]) (rest := []) (C := RX3) ⟨hx, hb, hml, hown, hts⟩ hK hH (c_X3_has l G z M E 40 (by omega) (nI n) (.ref (z + 41)) (.ref (z + 42)) x b_40) (cwV 1 hts gX8_reading_X3_has rfl rfl rfl (by decide +kernel) (by rw [hRf, hRl]; exact ⟨Nat.le_of_ble_eq_true rfl, Nat.le_of_ble_eq_true rfl⟩)) (by omega) b_40 rfl rfl hl.1 rfl (Nat.le_of_ble_eq_true rfl) dX8_reading_5 ⟨Nat.zero_le _, Nat.zero_le _⟩ (qh_kki fun r_5 E_1 H locs hpost hH => ?_)
  obtain ⟨rfl, rfl⟩ := hpost
  refine lv_if_ne (tgt := 13) hx hb dX8_reading_8 (by decide) (fun c_8 => ?_) (fun c_8 => ?_)
  · have c_8 := bI_ne.mp c_8
    obtain ⟨t, ht, et⟩ := nI_of_in (by omega) c_8
    have ec : x.toNatClampNeg = t := by rw [et]; exact nI_clamp (by omega)
    refine lv_lload_n hx hb dX8_reading_13 rfl (lv_at hl 2 rfl) ?_
    refine lv_ldc2 hx hb hown k_267 dX8_reading_14 ?_
    refine W.lcmp hx hb dX8_reading_17 ?_
    refine lv_if_lt (tgt := 29) hx hb dX8_reading_18 (by decide) (fun c_18 => ?_) (fun c_18 => ?_)
    · have c_18 := (lg_cmp_lt _ _).mp c_18
      have hD : rdgD n rn x v = some (-2) := by rw [rdgD, if_pos c_8, if_neg (fun w => w.1 c_18)]
      refine lv_bipush (v := (-2)) hx hb dX8_reading_29 (by decide) ?_
      exact hret dX8_reading_31 hH (by rw [hD]; exact ⟨rfl, ⟨_, _, _, _, _, _, _, _, _, _, _, _, _, _, _, _, b_0, b_1, b_2, b_3, b_4, b_5, b_6, b_7, b_8, b_9, b_10, b_11, b_12, b_13, b_14, b_39, b_40, b_41, b_42, b_43, b_44, b_45, b_46, b_47, b_48, b_49, b_50, b_51, b_52, b_53, b_54, hacts, hsh⟩, (fun _ _ => rfl)⟩)
    · have c_18 := (not_congr (lg_cmp_lt _ _)).mp c_18
      refine lv_lload_n hx hb dX8_reading_21 rfl (lv_at hl 2 rfl) ?_
      refine lv_ldc2 hx hb hown k_269 dX8_reading_22 ?_
      refine W.lcmp hx hb dX8_reading_25 ?_
      refine lv_if_le (tgt := 32) hx hb dX8_reading_26 (by decide) (fun c_26 => ?_) (fun c_26 => ?_)
      · have c_26 := (lg_cmp_le _ _).mp c_26
        have hD : rdgD n rn x v = some (-4) := by rw [rdgD, if_pos c_8, if_pos ⟨c_18, Int64.not_lt.mpr c_26⟩, if_neg (Nat.not_lt.mpr hr9)]
        refine lv_aload_n hx hb dX8_reading_32 rfl (lv_at hl 0 rfl) ?_
        refine qh_get hx hb hH f_71 (by omega) b_0 rfl dX8_reading_33 ?_
        refine lv_iload_n hx hb dX8_reading_36 rfl (lv_at hl 1 rfl) ?_
        refine lv_lload_n hx hb dX8_reading_37 rfl (lv_at hl 2 rfl) ?_
        refine qh_runV (As := [.int x, .long v]) (rest := []) (C := RX4) ⟨hx, hb, hml, hown, hts⟩ hK hH (c_X4_keep_full l G z M E 52 rn x v (.ref (z + 53)) (.ref (z + 54)) (by omega) (⟨hr9, by omega⟩) b_52) (cwV 2 hts gX8_reading_X4_keep rfl rfl rfl (by decide +kernel) (by rw [hRf, hRl]; exact ⟨Nat.le_of_ble_eq_true rfl, Nat.le_of_ble_eq_true rfl⟩)) (by omega) b_52 rfl rfl hl.1 rfl (Nat.le_of_ble_eq_true rfl) dX8_reading_38 ⟨Nat.zero_le _, Nat.zero_le _⟩ (qh_kki fun r_38 E_2 H locs hpost hH => ?_)
        obtain ⟨rfl, rfl⟩ := hpost
        exact hret dX8_reading_41 hH (by rw [hD]; exact ⟨rfl, ⟨_, _, _, _, _, _, _, _, _, _, _, _, _, _, _, _, b_0, b_1, b_2, b_3, b_4, b_5, b_6, b_7, b_8, b_9, b_10, b_11, b_12, b_13, b_14, b_39, b_40, b_41, b_42, b_43, b_44, b_45, b_46, b_47, b_48, b_49, b_50, b_51, b_52, b_53, b_54, hacts, hsh⟩, (fun _ _ => rfl)⟩)
      · have c_26 := (not_congr (lg_cmp_le _ _)).mp c_26
        have hD : rdgD n rn x v = some (-2) := by rw [rdgD, if_pos c_8, if_neg (fun w => w.2 (Int64.not_le.mp c_26))]
        refine lv_bipush (v := (-2)) hx hb dX8_reading_29 (by decide) ?_
        exact hret dX8_reading_31 hH (by rw [hD]; exact ⟨rfl, ⟨_, _, _, _, _, _, _, _, _, _, _, _, _, _, _, _, b_0, b_1, b_2, b_3, b_4, b_5, b_6, b_7, b_8, b_9, b_10, b_11, b_12, b_13, b_14, b_39, b_40, b_41, b_42, b_43, b_44, b_45, b_46, b_47, b_48, b_49, b_50, b_51, b_52, b_53, b_54, hacts, hsh⟩, (fun _ _ => rfl)⟩)
  · have c_8 := bI_eq.mp c_8
    have hD : rdgD n rn x v = some (-1) := by rw [rdgD, if_neg c_8]
    refine lv_iconst (v := (-1)) hx hb dX8_reading_11 (by decide) ?_
    exact hret dX8_reading_12 hH (by rw [hD]; exact ⟨rfl, ⟨_, _, _, _, _, _, _, _, _, _, _, _, _, _, _, _, b_0, b_1, b_2, b_3, b_4, b_5, b_6, b_7, b_8, b_9, b_10, b_11, b_12, b_13, b_14, b_39, b_40, b_41, b_42, b_43, b_44, b_45, b_46, b_47, b_48, b_49, b_50, b_51, b_52, b_53, b_54, hacts, hsh⟩, (fun _ _ => rfl)⟩)
