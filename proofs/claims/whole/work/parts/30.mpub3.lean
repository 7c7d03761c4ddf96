theorem refV_none {n ln : Nat} {x y : Int32} {v : Int64} (h : refV n ln x y v = 0) : actD n ln x y v = none := by
  unfold refV at h
  unfold actD at h ⊢
  by_cases h1 : rmR n x y v = 0
  · rw [if_pos h1] at h ⊢
    by_cases h2 : ln < 24
    · rw [if_pos h2]
    · rw [if_neg h2] at h
      exact absurd h (by decide)
  · rw [if_neg h1] at h
    exact absurd h h1
theorem refV_some {n ln : Nat} {x y : Int32} {v : Int64} (h : ¬ refV n ln x y v = 0) : actD n ln x y v = some (refV n ln x y v) := by
  unfold refV at h ⊢
  cases e : actD n ln x y v with
  | none => rw [e] at h; exact absurd rfl h
  | some q => rfl
theorem actD_none {n ln : Nat} {x y : Int32} {v : Int64} (h : actD n ln x y v = none) : rmR n x y v = 0 ∧ ln < 24 := by
  unfold actD at h
  by_cases h1 : rmR n x y v = 0
  · rw [if_pos h1] at h
    by_cases h2 : ln < 24
    · exact ⟨h1, h2⟩
    · rw [if_neg h2] at h
      cases h
  · rw [if_neg h1] at h
    cases h
theorem w01_in {w : Int32} (h : w = 0 ∨ w = 1) : ¬ w < 0 ∧ ¬ 1 < w := by
  rcases h with e | e
  · rw [e]; decide
  · rw [e]; decide
theorem w01_of {w : Int32} (h : ¬ w < 0 ∧ ¬ 1 < w) : w = 0 ∨ w = 1 := by
  by_cases e : w = 0
  · exact Or.inl e
  · exact Or.inr (in_01 h e)
theorem n_ne0 {n : Nat} (hn : n ≤ 16) (h : ¬ nI n = 0) : 0 < nI n := by
  rcases Nat.eq_zero_or_pos n with w | w
  · rw [w] at h
    exact absurd rfl h
  · exact nI_lt (a := 0) w (by omega)
theorem od_lt1 {q a b d : Nat} (h : q ≤ b + 1 - a) (hb : b < 2 ^ 30) : q / d < 2 ^ 31 := by
  have := Nat.div_le_self q d
  omega
theorem od_lt2 {q d : Nat} (h : q < 2 ^ 30) : q / d < 2 ^ 31 := by
  have := Nat.div_le_self q d
  omega
theorem tw_add (p : Int32) : 2 * p + 100 = p + 100 + p := by
  rw [show (2 : Int32) = 1 + 1 by decide, Int32.add_mul, Int32.one_mul, Int32.add_assoc, Int32.add_comm p 100, Int32.add_assoc, Int32.add_comm p (100 + p), Int32.add_assoc]
set_option maxHeartbeats 1000000 in
set_option maxRecDepth 100000 in
theorem c_X9_add (l : Launch) (G : qh_G) (z M : Nat) (E : Nat → va_E) (tr : Int32) (lf : Int32) (n : Nat) (f : Nat → Int64) (g : Nat → Int64) (mb : Nat → Int64) (m2 : Nat) (kd : Nat → Int32) (pa : Nat → Int32) (ln : Nat) (ts : Nat → Int32) (ga : Nat → Nat) (gb : Nat → Nat) (va : Nat → Int64) (rn : Nat) (cn : Nat → Nat) (vs : Nat → Int64) (so : Nat → Int32) (sg : Nat → Int32) (ce : Nat → Int32) (hM : 84 ≤ M) (hX : ME G z E tr lf n f g mb m2 kd pa ln ts ga gb va rn cn vs so sg ce) (hW : MW n m2 ln rn ga gb cn ts va kd so sg) (x : Int32) (y : Int32) (v : Int64) : Met l yX9_add wsX9_add (qh_R 3) (qh_Pre G z M E [.ref (z + 63), .int x, .int y, .long v]) (qh_Q G z M (qh_i (fun r E' => match actD n ln x y v with | some q => r = q ∧ ME G z E' tr lf n f g mb m2 kd pa ln ts ga gb va rn cn vs so sg ce ∧ ∀ x9, (x9 < 63 ∨ x9 = 81) → E' x9 = E x9 | none => r = nI (ln + 1) ∧ ME G z E' tr lf n (actF f 0 (amt 0 m2 kd pa v) x.toNatClampNeg (y.toNatClampNeg + 1 - x.toNatClampNeg)) (hisF g f 0 (amt 0 m2 kd pa v) x.toNatClampNeg (y.toNatClampNeg + 1 - x.toNatClampNeg)) mb m2 kd pa (ln + 1) (upd ts ln 0) (upN ga ln x.toNatClampNeg) (upN gb ln y.toNatClampNeg) (vp_updL va ln v) rn cn vs so sg ce ∧ ∀ x9, (x9 < 63 ∨ x9 = 81) → E' x9 = E x9))) 0 0 (fun q => z ≤ q) := by
  refine qh_metI (cc := cX9_add) (maxL := 6) (by decide) rfl (Nat.le_of_ble_eq_true rfl) ?_
  intro pZ eZ sZ mZ aZ bZ tZ cZ RR QQ ls hx hb hml hown hts hRf hRl hH hK hl hret
  have hown : sZ.vm.findClass RX9 = some mZ.cls := hown
  have hl : lv_has ls 6 [(0, .ref (z + 63)), (1, .int x), (2, .int y), (3, .long v)] := hl
  obtain ⟨pt, rm, rh, sf, sl, r1, r2, r3, k1, k2, b_63, b_64, b_65, b_66, b_67, b_68, b_69, b_70, b_71, b_72, b_73, b_74, b_75, b_76, b_77, b_78, b_79, b_80, b_82, b_83⟩ := hX
  obtain ⟨⟨hn16, hm3, hl24, hr8⟩, hval, hcn, hok, hvh, hkd, hso⟩ := hW
  have in_X9 : ∀ w ∈ wsX90, w ∈ wsX9_add := fun w h => List.mem_cons_of_mem _ (List.mem_append_right _ h)
  have f_120 : qh_F G sZ mZ aZ 120 9 12 := qh_F.of hts in_X9 hown hK rfl 12 (by decide) (by decide +kernel)
  refine lv_aload_n hx hb dX9_add_0 rfl (lv_at hl 0 rfl) ?_
  refine lv_iload_n hx hb dX9_add_1 rfl (lv_at hl 1 rfl) ?_
  refine lv_iload_n hx hb dX9_add_2 rfl (lv_at hl 2 rfl) ?_
  refine lv_lload_n hx hb dX9_add_3 rfl (lv_at hl 3 rfl) ?_
  refine qh_runV (As := [.int x, .int y, .long v]) (rest := []) (C := RX9) ⟨hx, hb, hml, hown, hts⟩ hK hH (c_X9_refused l G z M E lf tr n m2 ln pt rm rh sf sl rn (hM) b_63 x y v (by omega)) (cwV 3 hts gX9_add_X9_refused rfl rfl rfl (by decide +kernel) (by rw [hRf, hRl]; exact ⟨Nat.le_of_ble_eq_true rfl, Nat.le_of_ble_eq_true rfl⟩)) (by omega) b_63 rfl rfl hl.1 rfl (Nat.le_of_ble_eq_true rfl) dX9_add_4 ⟨Nat.zero_le _, Nat.zero_le _⟩ (qh_kki fun r_4 E_1 H locs hpost hH => ?_)
  obtain ⟨rfl, rfl⟩ := hpost
  refine lv_istore (lv' := [(5, .int (refV n ln x y v)), (0, .ref (z + 63)), (1, .int x), (2, .int y), (3, .long v)]) hx hb dX9_add_7 hl (by decide) rfl (fun ls hl => ?_)
  refine lv_iload hx hb dX9_add_9 (lv_at hl 0 rfl) ?_
  refine lv_if_eq (tgt := 17) hx hb dX9_add_11 (by decide) (fun c_11 => ?_) (fun c_11 => ?_)
  · have hD : actD n ln x y v = none := refV_none c_11
    have hl9 : ln < 24 := (actD_none hD).2
    obtain ⟨a, b, hab, hbn, ea, eb⟩ := rfR_ok hn16 (rmR_ok (actD_none hD).1)
    have eA : x.toNatClampNeg = a := by rw [ea]; exact nI_clamp (by omega)
    have eB : y.toNatClampNeg = b := by rw [eb]; exact nI_clamp (by omega)
    have hl : lv_has ls 6 [(5, .int (refV n ln x y v)), (0, .ref (z + 63)), (1, .int (nI a)), (2, .int y), (3, .long v)] := by rw [← ea]; exact hl
    have hl : lv_has ls 6 [(5, .int (refV n ln x y v)), (0, .ref (z + 63)), (1, .int (nI a)), (2, .int (nI b)), (3, .long v)] := by rw [← eb]; exact hl
    refine lv_aload_n hx hb dX9_add_17 rfl (lv_at hl 1 rfl) ?_
    refine lv_iconst (v := 0) hx hb dX9_add_18 (by decide) ?_
    refine lv_iload_n hx hb dX9_add_19 rfl (lv_at hl 2 rfl) ?_
    refine lv_iload_n hx hb dX9_add_20 rfl (lv_at hl 3 rfl) ?_
    refine lv_lload_n hx hb dX9_add_21 rfl (lv_at hl 4 rfl) ?_
    refine qh_runV (As := [.int 0, .int (nI a), .int (nI b), .long v]) (rest := []) (C := RX9) ⟨hx, hb, hml, hown, hts⟩ hK hH (c_X9_does l G z M E lf tr n m2 ln pt rm rh sf sl rn (hM) b_63 a b f g kd pa 0 v (⟨by omega, by omega⟩) (⟨by omega, by omega⟩) (by decide) (fun w => absurd w (by decide)) (hkd) b_67 b_68 b_70 b_71) (cwV 4 hts gX9_add_X9_does rfl rfl rfl (by decide +kernel) (by rw [hRf, hRl]; exact ⟨Nat.le_of_ble_eq_true rfl, Nat.le_of_ble_eq_true rfl⟩)) (by omega) b_63 rfl rfl hl.1 rfl (Nat.le_of_ble_eq_true rfl) dX9_add_22 ⟨Nat.zero_le _, Nat.zero_le _⟩ (qh_kki fun r_22 E_2 H locs hpost hH => ?_)
    obtain ⟨rfl, h_67, h_68, hfr⟩ := hpost
    have hF : ∀ x9, x9 ≠ 67 → x9 ≠ 68 → E_2 x9 = E x9 := fun x9 a0 a1 => hfr x9 a0 a1
    refine lv_pop hx hb dX9_add_25 rfl ?_
    refine lv_aload_n hx hb dX9_add_26 rfl (lv_at hl 1 rfl) ?_
    refine lv_iconst (v := 0) hx hb dX9_add_27 (by decide) ?_
    refine lv_iload_n hx hb dX9_add_28 rfl (lv_at hl 2 rfl) ?_
    refine lv_iload_n hx hb dX9_add_29 rfl (lv_at hl 3 rfl) ?_
    refine lv_lload_n hx hb dX9_add_30 rfl (lv_at hl 4 rfl) ?_
    refine qh_runV (As := [.int 0, .int (nI a), .int (nI b), .long v]) (rest := []) (C := RX9) ⟨hx, hb, hml, hown, hts⟩ hK hH (c_X9_writes l G z M E_2 lf tr n m2 ln pt rm rh sf sl rn (hM) ((hF 63 (by decide) (by decide)).trans b_63) a b ts _ _ va 0 v (hl9) ((hF 72 (by decide) (by decide)).trans b_72) ((hF 73 (by decide) (by decide)).trans b_73) ((hF 74 (by decide) (by decide)).trans b_74) ((hF 75 (by decide) (by decide)).trans b_75)) (cwV 4 hts gX9_add_X9_writes rfl rfl rfl (by decide +kernel) (by rw [hRf, hRl]; exact ⟨Nat.le_of_ble_eq_true rfl, Nat.le_of_ble_eq_true rfl⟩)) (by omega) ((hF 63 (by decide) (by decide)).trans b_63) rfl rfl hl.1 rfl (Nat.le_of_ble_eq_true rfl) dX9_add_31 ⟨Nat.zero_le _, Nat.zero_le _⟩ (qh_kkv fun E_3 H locs hpost hH => ?_)
    obtain ⟨h_72, h_73, h_74, h_75, h_63, hfr⟩ := hpost
    have h_67 := (hfr 67 (by decide) (by decide) (by decide) (by decide) (by decide)).trans h_67
    have h_68 := (hfr 68 (by decide) (by decide) (by decide) (by decide) (by decide)).trans h_68
    have hF : ∀ x9, x9 ≠ 67 → x9 ≠ 68 → x9 ≠ 72 → x9 ≠ 73 → x9 ≠ 74 → x9 ≠ 75 → x9 ≠ 63 → E_3 x9 = E x9 := fun x9 a0 a1 a2 a3 a4 a5 a6 => (hfr x9 a2 a3 a4 a5 a6).trans (hF x9 a0 a1)
    refine lv_aload_n hx hb dX9_add_34 rfl (lv_at hl 1 rfl) ?_
    refine qh_get hx hb hH f_120 (by omega) h_63 rfl dX9_add_35 ?_
    exact hret dX9_add_38 hH (by rw [hD, eA, eB]; exact ⟨rfl, ⟨_, _, _, _, _, _, _, _, _, _, h_63, ((hF 64 (by decide) (by decide) (by decide) (by decide) (by decide) (by decide) (by decide)).trans b_64), ((hF 65 (by decide) (by decide) (by decide) (by decide) (by decide) (by decide) (by decide)).trans b_65), ((hF 66 (by decide) (by decide) (by decide) (by decide) (by decide) (by decide) (by decide)).trans b_66), h_67, h_68, ((hF 69 (by decide) (by decide) (by decide) (by decide) (by decide) (by decide) (by decide)).trans b_69), ((hF 70 (by decide) (by decide) (by decide) (by decide) (by decide) (by decide) (by decide)).trans b_70), ((hF 71 (by decide) (by decide) (by decide) (by decide) (by decide) (by decide) (by decide)).trans b_71), h_72, h_73, h_74, h_75, ((hF 76 (by decide) (by decide) (by decide) (by decide) (by decide) (by decide) (by decide)).trans b_76), ((hF 77 (by decide) (by decide) (by decide) (by decide) (by decide) (by decide) (by decide)).trans b_77), ((hF 78 (by decide) (by decide) (by decide) (by decide) (by decide) (by decide) (by decide)).trans b_78), ((hF 79 (by decide) (by decide) (by decide) (by decide) (by decide) (by decide) (by decide)).trans b_79), ((hF 80 (by decide) (by decide) (by decide) (by decide) (by decide) (by decide) (by decide)).trans b_80), ((hF 82 (by decide) (by decide) (by decide) (by decide) (by decide) (by decide) (by decide)).trans b_82), ((hF 83 (by decide) (by decide) (by decide) (by decide) (by decide) (by decide) (by decide)).trans b_83)⟩, (fun x9 h9 => hF x9 (by omega) (by omega) (by omega) (by omega) (by omega) (by omega) (by omega))⟩)
  · have hD : actD n ln x y v = some (refV n ln x y v) := refV_some c_11
    refine lv_iload hx hb dX9_add_14 (lv_at hl 0 rfl) ?_
    exact hret dX9_add_16 hH (by rw [hD]; exact ⟨rfl, ⟨_, _, _, _, _, _, _, _, _, _, b_63, b_64, b_65, b_66, b_67, b_68, b_69, b_70, b_71, b_72, b_73, b_74, b_75, b_76, b_77, b_78, b_79, b_80, b_82, b_83⟩, (fun _ _ => rfl)⟩)

set_option maxHeartbeats 1000000 in
set_option maxRecDepth 100000 in
theorem c_X9_cap (l : Launch) (G : qh_G) (z M : Nat) (E : Nat → va_E) (tr : Int32) (lf : Int32) (n : Nat) (f : Nat → Int64) (g : Nat → Int64) (mb : Nat → Int64) (m2 : Nat) (kd : Nat → Int32) (pa : Nat → Int32) (ln : Nat) (ts : Nat → Int32) (ga : Nat → Nat) (gb : Nat → Nat) (va : Nat → Int64) (rn : Nat) (cn : Nat → Nat) (vs : Nat → Int64) (so : Nat → Int32) (sg : Nat → Int32) (ce : Nat → Int32) (hM : 84 ≤ M) (hX : ME G z E tr lf n f g mb m2 kd pa ln ts ga gb va rn cn vs so sg ce) (hW : MW n m2 ln rn ga gb cn ts va kd so sg) (x : Int32) (y : Int32) (v : Int64) : Met l yX9_cap wsX9_cap (qh_R 3) (qh_Pre G z M E [.ref (z + 63), .int x, .int y, .long v]) (qh_Q G z M (qh_i (fun r E' => match actD n ln x y v with | some q => r = q ∧ ME G z E' tr lf n f g mb m2 kd pa ln ts ga gb va rn cn vs so sg ce ∧ ∀ x9, (x9 < 63 ∨ x9 = 81) → E' x9 = E x9 | none => r = nI (othN f 1 (amt 1 m2 kd pa v) x.toNatClampNeg (y.toNatClampNeg + 1 - x.toNatClampNeg)) ∧ ME G z E' tr lf n (actF f 1 (amt 1 m2 kd pa v) x.toNatClampNeg (y.toNatClampNeg + 1 - x.toNatClampNeg)) (hisF g f 1 (amt 1 m2 kd pa v) x.toNatClampNeg (y.toNatClampNeg + 1 - x.toNatClampNeg)) mb m2 kd pa (ln + 1) (upd ts ln 1) (upN ga ln x.toNatClampNeg) (upN gb ln y.toNatClampNeg) (vp_updL va ln v) rn cn vs so sg ce ∧ ∀ x9, (x9 < 63 ∨ x9 = 81) → E' x9 = E x9))) 0 0 (fun q => z ≤ q) := by
  refine qh_metI (cc := cX9_cap) (maxL := 6) (by decide) rfl (Nat.le_of_ble_eq_true rfl) ?_
  intro pZ eZ sZ mZ aZ bZ tZ cZ RR QQ ls hx hb hml hown hts hRf hRl hH hK hl hret
  have hown : sZ.vm.findClass RX9 = some mZ.cls := hown
  have hl : lv_has ls 6 [(0, .ref (z + 63)), (1, .int x), (2, .int y), (3, .long v)] := hl
  obtain ⟨pt, rm, rh, sf, sl, r1, r2, r3, k1, k2, b_63, b_64, b_65, b_66, b_67, b_68, b_69, b_70, b_71, b_72, b_73, b_74, b_75, b_76, b_77, b_78, b_79, b_80, b_82, b_83⟩ := hX
  obtain ⟨⟨hn16, hm3, hl24, hr8⟩, hval, hcn, hok, hvh, hkd, hso⟩ := hW
  refine lv_aload_n hx hb dX9_cap_0 rfl (lv_at hl 0 rfl) ?_
  refine lv_iload_n hx hb dX9_cap_1 rfl (lv_at hl 1 rfl) ?_
  refine lv_iload_n hx hb dX9_cap_2 rfl (lv_at hl 2 rfl) ?_
  refine lv_lload_n hx hb dX9_cap_3 rfl (lv_at hl 3 rfl) ?_
  refine qh_runV (As := [.int x, .int y, .long v]) (rest := []) (C := RX9) ⟨hx, hb, hml, hown, hts⟩ hK hH (c_X9_refused l G z M E lf tr n m2 ln pt rm rh sf sl rn (hM) b_63 x y v (by omega)) (cwV 3 hts gX9_cap_X9_refused rfl rfl rfl (by decide +kernel) (by rw [hRf, hRl]; exact ⟨Nat.le_of_ble_eq_true rfl, Nat.le_of_ble_eq_true rfl⟩)) (by omega) b_63 rfl rfl hl.1 rfl (Nat.le_of_ble_eq_true rfl) dX9_cap_4 ⟨Nat.zero_le _, Nat.zero_le _⟩ (qh_kki fun r_4 E_1 H locs hpost hH => ?_)
  obtain ⟨rfl, rfl⟩ := hpost
  refine lv_istore (lv' := [(5, .int (refV n ln x y v)), (0, .ref (z + 63)), (1, .int x), (2, .int y), (3, .long v)]) hx hb dX9_cap_7 hl (by decide) rfl (fun ls hl => ?_)
  refine lv_iload hx hb dX9_cap_9 (lv_at hl 0 rfl) ?_
  refine lv_if_eq (tgt := 17) hx hb dX9_cap_11 (by decide) (fun c_11 => ?_) (fun c_11 => ?_)
  · have hD : actD n ln x y v = none := refV_none c_11
    have hl9 : ln < 24 := (actD_none hD).2
    obtain ⟨a, b, hab, hbn, ea, eb⟩ := rfR_ok hn16 (rmR_ok (actD_none hD).1)
    have eA : x.toNatClampNeg = a := by rw [ea]; exact nI_clamp (by omega)
    have eB : y.toNatClampNeg = b := by rw [eb]; exact nI_clamp (by omega)
    have hl : lv_has ls 6 [(5, .int (refV n ln x y v)), (0, .ref (z + 63)), (1, .int (nI a)), (2, .int y), (3, .long v)] := by rw [← ea]; exact hl
    have hl : lv_has ls 6 [(5, .int (refV n ln x y v)), (0, .ref (z + 63)), (1, .int (nI a)), (2, .int (nI b)), (3, .long v)] := by rw [← eb]; exact hl
    refine lv_aload_n hx hb dX9_cap_17 rfl (lv_at hl 1 rfl) ?_
    refine lv_iconst (v := 1) hx hb dX9_cap_18 (by decide) ?_
    refine lv_iload_n hx hb dX9_cap_19 rfl (lv_at hl 2 rfl) ?_
    refine lv_iload_n hx hb dX9_cap_20 rfl (lv_at hl 3 rfl) ?_
    refine lv_lload_n hx hb dX9_cap_21 rfl (lv_at hl 4 rfl) ?_
    refine qh_runV (As := [.int 1, .int (nI a), .int (nI b), .long v]) (rest := []) (C := RX9) ⟨hx, hb, hml, hown, hts⟩ hK hH (c_X9_writes l G z M E lf tr n m2 ln pt rm rh sf sl rn (hM) b_63 a b ts _ _ va 1 v (hl9) b_72 b_73 b_74 b_75) (cwV 4 hts gX9_cap_X9_writes rfl rfl rfl (by decide +kernel) (by rw [hRf, hRl]; exact ⟨Nat.le_of_ble_eq_true rfl, Nat.le_of_ble_eq_true rfl⟩)) (by omega) b_63 rfl rfl hl.1 rfl (Nat.le_of_ble_eq_true rfl) dX9_cap_22 ⟨Nat.zero_le _, Nat.zero_le _⟩ (qh_kkv fun E_2 H locs hpost hH => ?_)
    obtain ⟨h_72, h_73, h_74, h_75, h_63, hfr⟩ := hpost
    have hF : ∀ x9, x9 ≠ 72 → x9 ≠ 73 → x9 ≠ 74 → x9 ≠ 75 → x9 ≠ 63 → E_2 x9 = E x9 := fun x9 a0 a1 a2 a3 a4 => hfr x9 a0 a1 a2 a3 a4
    refine lv_aload_n hx hb dX9_cap_25 rfl (lv_at hl 1 rfl) ?_
    refine lv_iconst (v := 1) hx hb dX9_cap_26 (by decide) ?_
    refine lv_iload_n hx hb dX9_cap_27 rfl (lv_at hl 2 rfl) ?_
    refine lv_iload_n hx hb dX9_cap_28 rfl (lv_at hl 3 rfl) ?_
    refine lv_lload_n hx hb dX9_cap_29 rfl (lv_at hl 4 rfl) ?_
    refine qh_runV (As := [.int 1, .int (nI a), .int (nI b), .long v]) (rest := []) (C := RX9) ⟨hx, hb, hml, hown, hts⟩ hK hH (c_X9_does l G z M E_2 lf tr n m2 (ln + 1) pt rm rh sf sl rn (hM) h_63 a b f g kd pa 1 v (⟨by omega, by omega⟩) (⟨by omega, by omega⟩) (by decide) (fun w => absurd w (by decide)) (hkd) ((hF 67 (by decide) (by decide) (by decide) (by decide) (by decide)).trans b_67) ((hF 68 (by decide) (by decide) (by decide) (by decide) (by decide)).trans b_68) ((hF 70 (by decide) (by decide) (by decide) (by decide) (by decide)).trans b_70) ((hF 71 (by decide) (by decide) (by decide) (by decide) (by decide)).trans b_71)) (cwV 4 hts gX9_cap_X9_does rfl rfl rfl (by decide +kernel) (by rw [hRf, hRl]; exact ⟨Nat.le_of_ble_eq_true rfl, Nat.le_of_ble_eq_true rfl⟩)) (by omega) h_63 rfl rfl hl.1 rfl (Nat.le_of_ble_eq_true rfl) dX9_cap_30 ⟨Nat.zero_le _, Nat.zero_le _⟩ (qh_kki fun r_30 E_3 H locs hpost hH => ?_)
    obtain ⟨rfl, h_67, h_68, hfr⟩ := hpost
    have h_72 := (hfr 72 (by decide) (by decide)).trans h_72
    have h_73 := (hfr 73 (by decide) (by decide)).trans h_73
    have h_74 := (hfr 74 (by decide) (by decide)).trans h_74
    have h_75 := (hfr 75 (by decide) (by decide)).trans h_75
    have h_63 := (hfr 63 (by decide) (by decide)).trans h_63
    have hF : ∀ x9, x9 ≠ 72 → x9 ≠ 73 → x9 ≠ 74 → x9 ≠ 75 → x9 ≠ 63 → x9 ≠ 67 → x9 ≠ 68 → E_3 x9 = E x9 := fun x9 a0 a1 a2 a3 a4 a5 a6 => (hfr x9 a5 a6).trans (hF x9 a0 a1 a2 a3 a4)
    exact hret dX9_cap_33 hH (by rw [hD, eA, eB]; exact ⟨rfl, ⟨_, _, _, _, _, _, _, _, _, _, h_63, ((hF 64 (by decide) (by decide) (by decide) (by decide) (by decide) (by decide) (by decide)).trans b_64), ((hF 65 (by decide) (by decide) (by decide) (by decide) (by decide) (by decide) (by decide)).trans b_65), ((hF 66 (by decide) (by decide) (by decide) (by decide) (by decide) (by decide) (by decide)).trans b_66), h_67, h_68, ((hF 69 (by decide) (by decide) (by decide) (by decide) (by decide) (by decide) (by decide)).trans b_69), ((hF 70 (by decide) (by decide) (by decide) (by decide) (by decide) (by decide) (by decide)).trans b_70), ((hF 71 (by decide) (by decide) (by decide) (by decide) (by decide) (by decide) (by decide)).trans b_71), h_72, h_73, h_74, h_75, ((hF 76 (by decide) (by decide) (by decide) (by decide) (by decide) (by decide) (by decide)).trans b_76), ((hF 77 (by decide) (by decide) (by decide) (by decide) (by decide) (by decide) (by decide)).trans b_77), ((hF 78 (by decide) (by decide) (by decide) (by decide) (by decide) (by decide) (by decide)).trans b_78), ((hF 79 (by decide) (by decide) (by decide) (by decide) (by decide) (by decide) (by decide)).trans b_79), ((hF 80 (by decide) (by decide) (by decide) (by decide) (by decide) (by decide) (by decide)).trans b_80), ((hF 82 (by decide) (by decide) (by decide) (by decide) (by decide) (by decide) (by decide)).trans b_82), ((hF 83 (by decide) (by decide) (by decide) (by decide) (by decide) (by decide) (by decide)).trans b_83)⟩, (fun x9 h9 => hF x9 (by omega) (by omega) (by omega) (by omega) (by omega) (by omega) (by omega))⟩)
  · have hD : actD n ln x y v = some (refV n ln x y v) := refV_some c_11
    refine lv_iload hx hb dX9_cap_14 (lv_at hl 0 rfl) ?_
    exact hret dX9_cap_16 hH (by rw [hD]; exact ⟨rfl, ⟨_, _, _, _, _, _, _, _, _, _, b_63, b_64, b_65, b_66, b_67, b_68, b_69, b_70, b_71, b_72, b_73, b_74, b_75, b_76, b_77, b_78, b_79, b_80, b_82, b_83⟩, (fun _ _ => rfl)⟩)

set_option maxHeartbeats 1000000 in
set_option maxRecDepth 100000 in
theorem c_X9_floor (l : Launch) (G : qh_G) (z M : Nat) (E : Nat → va_E) (tr : Int32) (lf : Int32) (n : Nat) (f : Nat → Int64) (g : Nat → Int64) (mb : Nat → Int64) (m2 : Nat) (kd : Nat → Int32) (pa : Nat → Int32) (ln : Nat) (ts : Nat → Int32) (ga : Nat → Nat) (gb : Nat → Nat) (va : Nat → Int64) (rn : Nat) (cn : Nat → Nat) (vs : Nat → Int64) (so : Nat → Int32) (sg : Nat → Int32) (ce : Nat → Int32) (hM : 84 ≤ M) (hX : ME G z E tr lf n f g mb m2 kd pa ln ts ga gb va rn cn vs so sg ce) (hW : MW n m2 ln rn ga gb cn ts va kd so sg) (x : Int32) (y : Int32) (v : Int64) : Met l yX9_floor wsX9_floor (qh_R 3) (qh_Pre G z M E [.ref (z + 63), .int x, .int y, .long v]) (qh_Q G z M (qh_i (fun r E' => match actD n ln x y v with | some q => r = q ∧ ME G z E' tr lf n f g mb m2 kd pa ln ts ga gb va rn cn vs so sg ce ∧ ∀ x9, (x9 < 63 ∨ x9 = 81) → E' x9 = E x9 | none => r = nI (othN f 2 (amt 2 m2 kd pa v) x.toNatClampNeg (y.toNatClampNeg + 1 - x.toNatClampNeg)) ∧ ME G z E' tr lf n (actF f 2 (amt 2 m2 kd pa v) x.toNatClampNeg (y.toNatClampNeg + 1 - x.toNatClampNeg)) (hisF g f 2 (amt 2 m2 kd pa v) x.toNatClampNeg (y.toNatClampNeg + 1 - x.toNatClampNeg)) mb m2 kd pa (ln + 1) (upd ts ln 2) (upN ga ln x.toNatClampNeg) (upN gb ln y.toNatClampNeg) (vp_updL va ln v) rn cn vs so sg ce ∧ ∀ x9, (x9 < 63 ∨ x9 = 81) → E' x9 = E x9))) 0 0 (fun q => z ≤ q) := by
  refine qh_metI (cc := cX9_floor) (maxL := 6) (by decide) rfl (Nat.le_of_ble_eq_true rfl) ?_
  intro pZ eZ sZ mZ aZ bZ tZ cZ RR QQ ls hx hb hml hown hts hRf hRl hH hK hl hret
  have hown : sZ.vm.findClass RX9 = some mZ.cls := hown
  have hl : lv_has ls 6 [(0, .ref (z + 63)), (1, .int x), (2, .int y), (3, .long v)] := hl
  obtain ⟨pt, rm, rh, sf, sl, r1, r2, r3, k1, k2, b_63, b_64, b_65, b_66, b_67, b_68, b_69, b_70, b_71, b_72, b_73, b_74, b_75, b_76, b_77, b_78, b_79, b_80, b_82, b_83⟩ := hX
  obtain ⟨⟨hn16, hm3, hl24, hr8⟩, hval, hcn, hok, hvh, hkd, hso⟩ := hW
  refine lv_aload_n hx hb dX9_floor_0 rfl (lv_at hl 0 rfl) ?_
  refine lv_iload_n hx hb dX9_floor_1 rfl (lv_at hl 1 rfl) ?_
  refine lv_iload_n hx hb dX9_floor_2 rfl (lv_at hl 2 rfl) ?_
  refine lv_lload_n hx hb dX9_floor_3 rfl (lv_at hl 3 rfl) ?_
  refine qh_runV (As := [.int x, .int y, .long v]) (rest := []) (C := RX9) ⟨hx, hb, hml, hown, hts⟩ hK hH (c_X9_refused l G z M E lf tr n m2 ln pt rm rh sf sl rn (hM) b_63 x y v (by omega)) (cwV 3 hts gX9_floor_X9_refused rfl rfl rfl (by decide +kernel) (by rw [hRf, hRl]; exact ⟨Nat.le_of_ble_eq_true rfl, Nat.le_of_ble_eq_true rfl⟩)) (by omega) b_63 rfl rfl hl.1 rfl (Nat.le_of_ble_eq_true rfl) dX9_floor_4 ⟨Nat.zero_le _, Nat.zero_le _⟩ (qh_kki fun r_4 E_1 H locs hpost hH => ?_)
  obtain ⟨rfl, rfl⟩ := hpost
  refine lv_istore (lv' := [(5, .int (refV n ln x y v)), (0, .ref (z + 63)), (1, .int x), (2, .int y), (3, .long v)]) hx hb dX9_floor_7 hl (by decide) rfl (fun ls hl => ?_)
  refine lv_iload hx hb dX9_floor_9 (lv_at hl 0 rfl) ?_
  refine lv_if_eq (tgt := 17) hx hb dX9_floor_11 (by decide) (fun c_11 => ?_) (fun c_11 => ?_)
  · have hD : actD n ln x y v = none := refV_none c_11
    have hl9 : ln < 24 := (actD_none hD).2
    obtain ⟨a, b, hab, hbn, ea, eb⟩ := rfR_ok hn16 (rmR_ok (actD_none hD).1)
    have eA : x.toNatClampNeg = a := by rw [ea]; exact nI_clamp (by omega)
    have eB : y.toNatClampNeg = b := by rw [eb]; exact nI_clamp (by omega)
    have hl : lv_has ls 6 [(5, .int (refV n ln x y v)), (0, .ref (z + 63)), (1, .int (nI a)), (2, .int y), (3, .long v)] := by rw [← ea]; exact hl
    have hl : lv_has ls 6 [(5, .int (refV n ln x y v)), (0, .ref (z + 63)), (1, .int (nI a)), (2, .int (nI b)), (3, .long v)] := by rw [← eb]; exact hl
    refine lv_aload_n hx hb dX9_floor_17 rfl (lv_at hl 1 rfl) ?_
    refine lv_iconst (v := 2) hx hb dX9_floor_18 (by decide) ?_
    refine lv_iload_n hx hb dX9_floor_19 rfl (lv_at hl 2 rfl) ?_
    refine lv_iload_n hx hb dX9_floor_20 rfl (lv_at hl 3 rfl) ?_
    refine lv_lload_n hx hb dX9_floor_21 rfl (lv_at hl 4 rfl) ?_
    refine qh_runV (As := [.int 2, .int (nI a), .int (nI b), .long v]) (rest := []) (C := RX9) ⟨hx, hb, hml, hown, hts⟩ hK hH (c_X9_writes l G z M E lf tr n m2 ln pt rm rh sf sl rn (hM) b_63 a b ts _ _ va 2 v (hl9) b_72 b_73 b_74 b_75) (cwV 4 hts gX9_floor_X9_writes rfl rfl rfl (by decide +kernel) (by rw [hRf, hRl]; exact ⟨Nat.le_of_ble_eq_true rfl, Nat.le_of_ble_eq_true rfl⟩)) (by omega) b_63 rfl rfl hl.1 rfl (Nat.le_of_ble_eq_true rfl) dX9_floor_22 ⟨Nat.zero_le _, Nat.zero_le _⟩ (qh_kkv fun E_2 H locs hpost hH => ?_)
    obtain ⟨h_72, h_73, h_74, h_75, h_63, hfr⟩ := hpost
    have hF : ∀ x9, x9 ≠ 72 → x9 ≠ 73 → x9 ≠ 74 → x9 ≠ 75 → x9 ≠ 63 → E_2 x9 = E x9 := fun x9 a0 a1 a2 a3 a4 => hfr x9 a0 a1 a2 a3 a4
    refine lv_aload_n hx hb dX9_floor_25 rfl (lv_at hl 1 rfl) ?_
    refine lv_iconst (v := 2) hx hb dX9_floor_26 (by decide) ?_
    refine lv_iload_n hx hb dX9_floor_27 rfl (lv_at hl 2 rfl) ?_
    refine lv_iload_n hx hb dX9_floor_28 rfl (lv_at hl 3 rfl) ?_
    refine lv_lload_n hx hb dX9_floor_29 rfl (lv_at hl 4 rfl) ?_
    refine qh_runV (As := [.int 2, .int (nI a), .int (nI b), .long v]) (rest := []) (C := RX9) ⟨hx, hb, hml, hown, hts⟩ hK hH (c_X9_does l G z M E_2 lf tr n m2 (ln + 1) pt rm rh sf sl rn (hM) h_63 a b f g kd pa 2 v (⟨by omega, by omega⟩) (⟨by omega, by omega⟩) (by decide) (fun w => absurd w (by decide)) (hkd) ((hF 67 (by decide) (by decide) (by decide) (by decide) (by decide)).trans b_67) ((hF 68 (by decide) (by decide) (by decide) (by decide) (by decide)).trans b_68) ((hF 70 (by decide) (by decide) (by decide) (by decide) (by decide)).trans b_70) ((hF 71 (by decide) (by decide) (by decide) (by decide) (by decide)).trans b_71)) (cwV 4 hts gX9_floor_X9_does rfl rfl rfl (by decide +kernel) (by rw [hRf, hRl]; exact ⟨Nat.le_of_ble_eq_true rfl, Nat.le_of_ble_eq_true rfl⟩)) (by omega) h_63 rfl rfl hl.1 rfl (Nat.le_of_ble_eq_true rfl) dX9_floor_30 ⟨Nat.zero_le _, Nat.zero_le _⟩ (qh_kki fun r_30 E_3 H locs hpost hH => ?_)
    obtain ⟨rfl, h_67, h_68, hfr⟩ := hpost
    have h_72 := (hfr 72 (by decide) (by decide)).trans h_72
    have h_73 := (hfr 73 (by decide) (by decide)).trans h_73
    have h_74 := (hfr 74 (by decide) (by decide)).trans h_74
    have h_75 := (hfr 75 (by decide) (by decide)).trans h_75
    have h_63 := (hfr 63 (by decide) (by decide)).trans h_63
    have hF : ∀ x9, x9 ≠ 72 → x9 ≠ 73 → x9 ≠ 74 → x9 ≠ 75 → x9 ≠ 63 → x9 ≠ 67 → x9 ≠ 68 → E_3 x9 = E x9 := fun x9 a0 a1 a2 a3 a4 a5 a6 => (hfr x9 a5 a6).trans (hF x9 a0 a1 a2 a3 a4)
    exact hret dX9_floor_33 hH (by rw [hD, eA, eB]; exact ⟨rfl, ⟨_, _, _, _, _, _, _, _, _, _, h_63, ((hF 64 (by decide) (by decide) (by decide) (by decide) (by decide) (by decide) (by decide)).trans b_64), ((hF 65 (by decide) (by decide) (by decide) (by decide) (by decide) (by decide) (by decide)).trans b_65), ((hF 66 (by decide) (by decide) (by decide) (by decide) (by decide) (by decide) (by decide)).trans b_66), h_67, h_68, ((hF 69 (by decide) (by decide) (by decide) (by decide) (by decide) (by decide) (by decide)).trans b_69), ((hF 70 (by decide) (by decide) (by decide) (by decide) (by decide) (by decide) (by decide)).trans b_70), ((hF 71 (by decide) (by decide) (by decide) (by decide) (by decide) (by decide) (by decide)).trans b_71), h_72, h_73, h_74, h_75, ((hF 76 (by decide) (by decide) (by decide) (by decide) (by decide) (by decide) (by decide)).trans b_76), ((hF 77 (by decide) (by decide) (by decide) (by decide) (by decide) (by decide) (by decide)).trans b_77), ((hF 78 (by decide) (by decide) (by decide) (by decide) (by decide) (by decide) (by decide)).trans b_78), ((hF 79 (by decide) (by decide) (by decide) (by decide) (by decide) (by decide) (by decide)).trans b_79), ((hF 80 (by decide) (by decide) (by decide) (by decide) (by decide) (by decide) (by decide)).trans b_80), ((hF 82 (by decide) (by decide) (by decide) (by decide) (by decide) (by decide) (by decide)).trans b_82), ((hF 83 (by decide) (by decide) (by decide) (by decide) (by decide) (by decide) (by decide)).trans b_83)⟩, (fun x9 h9 => hF x9 (by omega) (by omega) (by omega) (by omega) (by omega) (by omega) (by omega))⟩)
  · have hD : actD n ln x y v = some (refV n ln x y v) := refV_some c_11
    refine lv_iload hx hb dX9_floor_14 (lv_at hl 0 rfl) ?_
    exact hret dX9_floor_16 hH (by rw [hD]; exact ⟨rfl, ⟨_, _, _, _, _, _, _, _, _, _, b_63, b_64, b_65, b_66, b_67, b_68, b_69, b_70, b_71, b_72, b_73, b_74, b_75, b_76, b_77, b_78, b_79, b_80, b_82, b_83⟩, (fun _ _ => rfl)⟩)

set_option maxHeartbeats 1000000 in
set_option maxRecDepth 100000 in
theorem c_X9_help (l : Launch) (G : qh_G) (z M : Nat) (E : Nat → va_E) (tr : Int32) (lf : Int32) (n : Nat) (f : Nat → Int64) (g : Nat → Int64) (mb : Nat → Int64) (m2 : Nat) (kd : Nat → Int32) (pa : Nat → Int32) (ln : Nat) (ts : Nat → Int32) (ga : Nat → Nat) (gb : Nat → Nat) (va : Nat → Int64) (rn : Nat) (cn : Nat → Nat) (vs : Nat → Int64) (so : Nat → Int32) (sg : Nat → Int32) (ce : Nat → Int32) (hM : 84 ≤ M) (hX : ME G z E tr lf n f g mb m2 kd pa ln ts ga gb va rn cn vs so sg ce) (hW : MW n m2 ln rn ga gb cn ts va kd so sg) (x : Int32) (y : Int32) (q : Int32) (w : Int32) : Met l yX9_help wsX9_help (qh_R 3) (qh_Pre G z M E [.ref (z + 63), .int x, .int y, .int q, .int w]) (qh_Q G z M (qh_i (fun r E' => match helD n m2 ln x y q w with | some d => r = d ∧ ME G z E' tr lf n f g mb m2 kd pa ln ts ga gb va rn cn vs so sg ce ∧ ∀ x9, (x9 < 63 ∨ x9 = 81) → E' x9 = E x9 | none => r = strg m2 kd pa x.toInt64 ∧ ME G z E' tr lf n (actF f (if w = 1 then 3 else 4) (amt (if w = 1 then 3 else 4) m2 kd pa x.toInt64) y.toNatClampNeg (q.toNatClampNeg + 1 - y.toNatClampNeg)) (hisF g f (if w = 1 then 3 else 4) (amt (if w = 1 then 3 else 4) m2 kd pa x.toInt64) y.toNatClampNeg (q.toNatClampNeg + 1 - y.toNatClampNeg)) mb m2 kd pa (ln + 1) (upd ts ln (if w = 1 then 3 else 4)) (upN ga ln y.toNatClampNeg) (upN gb ln q.toNatClampNeg) (vp_updL va ln x.toInt64) rn cn vs so sg ce ∧ ∀ x9, (x9 < 63 ∨ x9 = 81) → E' x9 = E x9))) 0 0 (fun q => z ≤ q) := by
  refine qh_metI (cc := cX9_help) (maxL := 6) (by decide) rfl (Nat.le_of_ble_eq_true rfl) ?_
  intro pZ eZ sZ mZ aZ bZ tZ cZ RR QQ ls hx hb hml hown hts hRf hRl hH hK hl hret
  have hown : sZ.vm.findClass RX9 = some mZ.cls := hown
  have hl : lv_has ls 6 [(0, .ref (z + 63)), (1, .int x), (2, .int y), (3, .int q), (4, .int w)] := hl
  obtain ⟨pt, rm, rh, sf, sl, r1, r2, r3, k1, k2, b_63, b_64, b_65, b_66, b_67, b_68, b_69, b_70, b_71, b_72, b_73, b_74, b_75, b_76, b_77, b_78, b_79, b_80, b_82, b_83⟩ := hX
  obtain ⟨⟨hn16, hm3, hl24, hr8⟩, hval, hcn, hok, hvh, hkd, hso⟩ := hW
  have in_X9 : ∀ w ∈ wsX90, w ∈ wsX9_help := fun w h => List.mem_cons_of_mem _ (List.mem_append_right _ h)
  have f_120 : qh_F G sZ mZ aZ 120 9 12 := qh_F.of hts in_X9 hown hK rfl 12 (by decide) (by decide +kernel)
  refine lv_aload_n hx hb dX9_help_0 rfl (lv_at hl 0 rfl) ?_
  refine lv_iload_n hx hb dX9_help_1 rfl (lv_at hl 1 rfl) ?_
  refine qh_runV (As := [.int x]) (rest := []) (C := RX9) ⟨hx, hb, hml, hown, hts⟩ hK hH (c_X9_isHelper l G z M E lf tr n m2 ln pt rm rh sf sl rn (hM) b_63 x) (cwV 1 hts gX9_help_X9_isHelper rfl rfl rfl (by decide +kernel) (by rw [hRf, hRl]; exact ⟨Nat.le_of_ble_eq_true rfl, Nat.le_of_ble_eq_true rfl⟩)) (by omega) b_63 rfl rfl hl.1 rfl (Nat.le_of_ble_eq_true rfl) dX9_help_2 ⟨Nat.zero_le _, Nat.zero_le _⟩ (qh_kki fun r_2 E_1 H locs hpost hH => ?_)
  obtain ⟨rfl, rfl⟩ := hpost
  refine lv_if_eq (tgt := 24) hx hb dX9_help_5 (by decide) (fun c_5 => ?_) (fun c_5 => ?_)
  · have c_5 := bI_eq.mp c_5
    have hD : helD n m2 ln x y q w = some (-1) := by rw [helD, if_neg c_5]
    refine lv_iconst (v := (-1)) hx hb dX9_help_24 (by decide) ?_
    exact hret dX9_help_25 hH (by rw [hD]; exact ⟨rfl, ⟨_, _, _, _, _, _, _, _, _, _, b_63, b_64, b_65, b_66, b_67, b_68, b_69, b_70, b_71, b_72, b_73, b_74, b_75, b_76, b_77, b_78, b_79, b_80, b_82, b_83⟩, (fun _ _ => rfl)⟩)
  · have c_5 := bI_ne.mp c_5
    obtain ⟨t, ht, et⟩ := nI_of_in (by omega) c_5
    have ec : x.toNatClampNeg = t := by rw [et]; exact nI_clamp (by omega)
    refine lv_aload_n hx hb dX9_help_8 rfl (lv_at hl 0 rfl) ?_
    refine lv_iload_n hx hb dX9_help_9 rfl (lv_at hl 2 rfl) ?_
    refine qh_runV (As := [.int y]) (rest := []) (C := RX9) ⟨hx, hb, hml, hown, hts⟩ hK hH (c_X9_isCell l G z M E lf tr n m2 ln pt rm rh sf sl rn (hM) b_63 y) (cwV 1 hts gX9_help_X9_isCell rfl rfl rfl (by decide +kernel) (by rw [hRf, hRl]; exact ⟨Nat.le_of_ble_eq_true rfl, Nat.le_of_ble_eq_true rfl⟩)) (by omega) b_63 rfl rfl hl.1 rfl (Nat.le_of_ble_eq_true rfl) dX9_help_10 ⟨Nat.zero_le _, Nat.zero_le _⟩ (qh_kki fun r_10 E_2 H locs hpost hH => ?_)
    obtain ⟨rfl, rfl⟩ := hpost
    refine lv_if_eq (tgt := 24) hx hb dX9_help_13 (by decide) (fun c_13 => ?_) (fun c_13 => ?_)
    · have c_13 := bI_eq.mp c_13
      have hD : helD n m2 ln x y q w = some (-1) := by rw [helD, if_pos c_5, show rfR n y q = -1 from if_neg (fun u => c_13 u.1), if_neg (by decide)]
      refine lv_iconst (v := (-1)) hx hb dX9_help_24 (by decide) ?_
      exact hret dX9_help_25 hH (by rw [hD]; exact ⟨rfl, ⟨_, _, _, _, _, _, _, _, _, _, b_63, b_64, b_65, b_66, b_67, b_68, b_69, b_70, b_71, b_72, b_73, b_74, b_75, b_76, b_77, b_78, b_79, b_80, b_82, b_83⟩, (fun _ _ => rfl)⟩)
    · have c_13 := bI_ne.mp c_13
      refine lv_aload_n hx hb dX9_help_16 rfl (lv_at hl 0 rfl) ?_
      refine lv_iload_n hx hb dX9_help_17 rfl (lv_at hl 3 rfl) ?_
      refine qh_runV (As := [.int q]) (rest := []) (C := RX9) ⟨hx, hb, hml, hown, hts⟩ hK hH (c_X9_isCell l G z M E lf tr n m2 ln pt rm rh sf sl rn (hM) b_63 q) (cwV 1 hts gX9_help_X9_isCell rfl rfl rfl (by decide +kernel) (by rw [hRf, hRl]; exact ⟨Nat.le_of_ble_eq_true rfl, Nat.le_of_ble_eq_true rfl⟩)) (by omega) b_63 rfl rfl hl.1 rfl (Nat.le_of_ble_eq_true rfl) dX9_help_18 ⟨Nat.zero_le _, Nat.zero_le _⟩ (qh_kki fun r_18 E_3 H locs hpost hH => ?_)
      obtain ⟨rfl, rfl⟩ := hpost
      refine lv_if_ne (tgt := 26) hx hb dX9_help_21 (by decide) (fun c_21 => ?_) (fun c_21 => ?_)
      · have c_21 := bI_ne.mp c_21
        refine lv_iload_n hx hb dX9_help_26 rfl (lv_at hl 2 rfl) ?_
        refine lv_iload_n hx hb dX9_help_27 rfl (lv_at hl 3 rfl) ?_
        refine lv_icmp_gt (tgt := 41) hx hb dX9_help_28 (by decide) (fun c_28 => ?_) (fun c_28 => ?_)
        · have hD : helD n m2 ln x y q w = some (-2) := by rw [helD, if_pos c_5, show rfR n y q = -2 by rw [rfR, if_pos ⟨c_13, c_21⟩, if_pos c_28], if_neg (by decide)]
          refine lv_bipush (v := (-2)) hx hb dX9_help_41 (by decide) ?_
          exact hret dX9_help_43 hH (by rw [hD]; exact ⟨rfl, ⟨_, _, _, _, _, _, _, _, _, _, b_63, b_64, b_65, b_66, b_67, b_68, b_69, b_70, b_71, b_72, b_73, b_74, b_75, b_76, b_77, b_78, b_79, b_80, b_82, b_83⟩, (fun _ _ => rfl)⟩)
        · have hrf : rfR n y q = 0 := canB_of c_13 c_21 (fun w => c_28 w)
          obtain ⟨a, b, hab, hbn, ea, eb⟩ := rfR_ok hn16 hrf
          have eA : y.toNatClampNeg = a := by rw [ea]; exact nI_clamp (by omega)
          have eB : q.toNatClampNeg = b := by rw [eb]; exact nI_clamp (by omega)
          have hl : lv_has ls 6 [(0, .ref (z + 63)), (1, .int x), (2, .int (nI a)), (3, .int q), (4, .int w)] := by rw [← ea]; exact hl
          have hl : lv_has ls 6 [(0, .ref (z + 63)), (1, .int x), (2, .int (nI a)), (3, .int (nI b)), (4, .int w)] := by rw [← eb]; exact hl
          refine lv_iload hx hb dX9_help_31 (lv_at hl 4 rfl) ?_
          refine lv_iconst (v := 0) hx hb dX9_help_33 (by decide) ?_
          refine lv_iconst (v := 1) hx hb dX9_help_34 (by decide) ?_
          refine qh_runS (As := [.int w, .int 0, .int 1]) (rest := []) ⟨hx, hb, hml, hown, hts⟩ hK hH (c_X9_within l G z M E w 0 1) (va_cwS 3 hts gX9_help_X9_within rfl rfl rfl (by decide +kernel) (by rw [hRf, hRl]; exact ⟨Nat.le_of_ble_eq_true rfl, Nat.le_of_ble_eq_true rfl⟩)) rfl hl.1 rfl (Nat.le_of_ble_eq_true rfl) dX9_help_35 ⟨Nat.zero_le _, Nat.zero_le _⟩ (qh_kki fun r_35 E_4 H locs hpost hH => ?_)
          obtain ⟨rfl, rfl⟩ := hpost
          refine lv_if_ne (tgt := 44) hx hb dX9_help_38 (by decide) (fun c_38 => ?_) (fun c_38 => ?_)
          · have c_38 := bI_ne.mp c_38
            refine lv_aload_n hx hb dX9_help_44 rfl (lv_at hl 0 rfl) ?_
            refine qh_get hx hb hH f_120 (by omega) b_63 rfl dX9_help_45 ?_
            refine lv_bipush (v := 24) hx hb dX9_help_48 (by decide) ?_
            refine lv_icmp_ne (tgt := 56) hx hb dX9_help_50 (by decide) (fun c_50 => ?_) (fun c_50 => ?_)
            · have hl9 : ln < 24 := by
                rcases Nat.lt_or_ge ln 24 with u | u
                · exact u
                · exact absurd (by rw [show ln = 24 by omega]; rfl) c_50
              have hD : helD n m2 ln x y q w = none := by rw [helD, if_pos c_5, if_pos hrf, if_pos (w01_of c_38), if_pos hl9]
              refine lv_iload hx hb dX9_help_56 (lv_at hl 4 rfl) ?_
              refine lv_iconst (v := 1) hx hb dX9_help_58 (by decide) ?_
              refine lv_icmp_ne (tgt := 66) hx hb dX9_help_59 (by decide) (fun c_59 => ?_) (fun c_59 => ?_)
              · have hsw : (if w = 1 then (3 : Int32) else 4) = 4 := if_neg c_59
                refine lv_iconst (v := 4) hx hb dX9_help_66 (by decide) ?_
                refine lv_istore (lv' := [(5, .int 4), (0, .ref (z + 63)), (1, .int x), (2, .int (nI a)), (3, .int (nI b)), (4, .int w)]) hx hb dX9_help_67 hl (by decide) rfl (fun ls hl => ?_)
                refine lv_aload_n hx hb dX9_help_69 rfl (lv_at hl 1 rfl) ?_
                refine lv_iload hx hb dX9_help_70 (lv_at hl 0 rfl) ?_
                refine lv_iload_n hx hb dX9_help_72 rfl (lv_at hl 3 rfl) ?_
                refine lv_iload_n hx hb dX9_help_73 rfl (lv_at hl 4 rfl) ?_
                refine lv_iload_n hx hb dX9_help_74 rfl (lv_at hl 2 rfl) ?_
                refine lv_i2l (v := x.toInt64) hx hb dX9_help_75 rfl ?_
                refine qh_runV (As := [.int 4, .int (nI a), .int (nI b), .long (x.toInt64)]) (rest := []) (C := RX9) ⟨hx, hb, hml, hown, hts⟩ hK hH (c_X9_does l G z M E lf tr n m2 ln pt rm rh sf sl rn (hM) b_63 a b f g kd pa 4 (x.toInt64) (⟨by omega, by omega⟩) (⟨by omega, by omega⟩) (by decide) (fun _ => ⟨t, ht, by rw [et]; exact nI_l (by omega)⟩) (hkd) b_67 b_68 b_70 b_71) (cwV 4 hts gX9_help_X9_does rfl rfl rfl (by decide +kernel) (by rw [hRf, hRl]; exact ⟨Nat.le_of_ble_eq_true rfl, Nat.le_of_ble_eq_true rfl⟩)) (by omega) b_63 rfl rfl hl.1 rfl (Nat.le_of_ble_eq_true rfl) dX9_help_76 ⟨Nat.zero_le _, Nat.zero_le _⟩ (qh_kki fun r_76 E_5 H locs hpost hH => ?_)
                obtain ⟨rfl, h_67, h_68, hfr⟩ := hpost
                have hF : ∀ x9, x9 ≠ 67 → x9 ≠ 68 → E_5 x9 = E x9 := fun x9 a0 a1 => hfr x9 a0 a1
                refine lv_pop hx hb dX9_help_79 rfl ?_
                refine lv_aload_n hx hb dX9_help_80 rfl (lv_at hl 1 rfl) ?_
                refine lv_iload hx hb dX9_help_81 (lv_at hl 0 rfl) ?_
                refine lv_iload_n hx hb dX9_help_83 rfl (lv_at hl 3 rfl) ?_
                refine lv_iload_n hx hb dX9_help_84 rfl (lv_at hl 4 rfl) ?_
                refine lv_iload_n hx hb dX9_help_85 rfl (lv_at hl 2 rfl) ?_
                refine lv_i2l (v := x.toInt64) hx hb dX9_help_86 rfl ?_
                refine qh_runV (As := [.int 4, .int (nI a), .int (nI b), .long (x.toInt64)]) (rest := []) (C := RX9) ⟨hx, hb, hml, hown, hts⟩ hK hH (c_X9_writes l G z M E_5 lf tr n m2 ln pt rm rh sf sl rn (hM) ((hF 63 (by decide) (by decide)).trans b_63) a b ts _ _ va 4 (x.toInt64) (hl9) ((hF 72 (by decide) (by decide)).trans b_72) ((hF 73 (by decide) (by decide)).trans b_73) ((hF 74 (by decide) (by decide)).trans b_74) ((hF 75 (by decide) (by decide)).trans b_75)) (cwV 4 hts gX9_help_X9_writes rfl rfl rfl (by decide +kernel) (by rw [hRf, hRl]; exact ⟨Nat.le_of_ble_eq_true rfl, Nat.le_of_ble_eq_true rfl⟩)) (by omega) ((hF 63 (by decide) (by decide)).trans b_63) rfl rfl hl.1 rfl (Nat.le_of_ble_eq_true rfl) dX9_help_87 ⟨Nat.zero_le _, Nat.zero_le _⟩ (qh_kkv fun E_6 H locs hpost hH => ?_)
                obtain ⟨h_72, h_73, h_74, h_75, h_63, hfr⟩ := hpost
                have h_67 := (hfr 67 (by decide) (by decide) (by decide) (by decide) (by decide)).trans h_67
                have h_68 := (hfr 68 (by decide) (by decide) (by decide) (by decide) (by decide)).trans h_68
                have hF : ∀ x9, x9 ≠ 67 → x9 ≠ 68 → x9 ≠ 72 → x9 ≠ 73 → x9 ≠ 74 → x9 ≠ 75 → x9 ≠ 63 → E_6 x9 = E x9 := fun x9 a0 a1 a2 a3 a4 a5 a6 => (hfr x9 a2 a3 a4 a5 a6).trans (hF x9 a0 a1)
                have hst : strg m2 kd pa x.toInt64 = stM (kd t) (pa t) := by rw [et, nI_l (by omega), strg_lN ht hm3, stM_stv (hkd t ht)]
                rw [et] at hl
                refine lv_aload_n hx hb dX9_help_90 rfl (lv_at hl 1 rfl) ?_
                refine lv_iload_n hx hb dX9_help_91 rfl (lv_at hl 2 rfl) ?_
                refine qh_runV (As := [.int (nI t)]) (rest := []) (C := RX9) ⟨hx, hb, hml, hown, hts⟩ hK hH (c_X9_strengthOf l G z M E_6 lf tr n m2 (ln + 1) pt rm rh sf sl rn (hM) h_63 t kd pa (by omega) ((hF 70 (by decide) (by decide) (by decide) (by decide) (by decide) (by decide) (by decide)).trans b_70) ((hF 71 (by decide) (by decide) (by decide) (by decide) (by decide) (by decide) (by decide)).trans b_71)) (cwV 1 hts gX9_help_X9_strengthOf rfl rfl rfl (by decide +kernel) (by rw [hRf, hRl]; exact ⟨Nat.le_of_ble_eq_true rfl, Nat.le_of_ble_eq_true rfl⟩)) (by omega) h_63 rfl rfl hl.1 rfl (Nat.le_of_ble_eq_true rfl) dX9_help_92 ⟨Nat.zero_le _, Nat.zero_le _⟩ (qh_kki fun r_92 E_7 H locs hpost hH => ?_)
                obtain ⟨rfl, rfl⟩ := hpost
                exact hret dX9_help_95 hH (by rw [hD, eA, eB, hsw, hst]; exact ⟨rfl, ⟨_, _, _, _, _, _, _, _, _, _, h_63, ((hF 64 (by decide) (by decide) (by decide) (by decide) (by decide) (by decide) (by decide)).trans b_64), ((hF 65 (by decide) (by decide) (by decide) (by decide) (by decide) (by decide) (by decide)).trans b_65), ((hF 66 (by decide) (by decide) (by decide) (by decide) (by decide) (by decide) (by decide)).trans b_66), h_67, h_68, ((hF 69 (by decide) (by decide) (by decide) (by decide) (by decide) (by decide) (by decide)).trans b_69), ((hF 70 (by decide) (by decide) (by decide) (by decide) (by decide) (by decide) (by decide)).trans b_70), ((hF 71 (by decide) (by decide) (by decide) (by decide) (by decide) (by decide) (by decide)).trans b_71), h_72, h_73, h_74, h_75, ((hF 76 (by decide) (by decide) (by decide) (by decide) (by decide) (by decide) (by decide)).trans b_76), ((hF 77 (by decide) (by decide) (by decide) (by decide) (by decide) (by decide) (by decide)).trans b_77), ((hF 78 (by decide) (by decide) (by decide) (by decide) (by decide) (by decide) (by decide)).trans b_78), ((hF 79 (by decide) (by decide) (by decide) (by decide) (by decide) (by decide) (by decide)).trans b_79), ((hF 80 (by decide) (by decide) (by decide) (by decide) (by decide) (by decide) (by decide)).trans b_80), ((hF 82 (by decide) (by decide) (by decide) (by decide) (by decide) (by decide) (by decide)).trans b_82), ((hF 83 (by decide) (by decide) (by decide) (by decide) (by decide) (by decide) (by decide)).trans b_83)⟩, (fun x9 h9 => hF x9 (by omega) (by omega) (by omega) (by omega) (by omega) (by omega) (by omega))⟩)
              · have hsw : (if w = 1 then (3 : Int32) else 4) = 3 := if_pos c_59
                refine lv_iconst (v := 3) hx hb dX9_help_62 (by decide) ?_
                refine lv_goto (tgt := 67) hx hb dX9_help_63 (by decide) ?_
                refine lv_istore (lv' := [(5, .int 3), (0, .ref (z + 63)), (1, .int x), (2, .int (nI a)), (3, .int (nI b)), (4, .int w)]) hx hb dX9_help_67 hl (by decide) rfl (fun ls hl => ?_)
                refine lv_aload_n hx hb dX9_help_69 rfl (lv_at hl 1 rfl) ?_
                refine lv_iload hx hb dX9_help_70 (lv_at hl 0 rfl) ?_
                refine lv_iload_n hx hb dX9_help_72 rfl (lv_at hl 3 rfl) ?_
                refine lv_iload_n hx hb dX9_help_73 rfl (lv_at hl 4 rfl) ?_
                refine lv_iload_n hx hb dX9_help_74 rfl (lv_at hl 2 rfl) ?_
                refine lv_i2l (v := x.toInt64) hx hb dX9_help_75 rfl ?_
                refine qh_runV (As := [.int 3, .int (nI a), .int (nI b), .long (x.toInt64)]) (rest := []) (C := RX9) ⟨hx, hb, hml, hown, hts⟩ hK hH (c_X9_does l G z M E lf tr n m2 ln pt rm rh sf sl rn (hM) b_63 a b f g kd pa 3 (x.toInt64) (⟨by omega, by omega⟩) (⟨by omega, by omega⟩) (by decide) (fun _ => ⟨t, ht, by rw [et]; exact nI_l (by omega)⟩) (hkd) b_67 b_68 b_70 b_71) (cwV 4 hts gX9_help_X9_does rfl rfl rfl (by decide +kernel) (by rw [hRf, hRl]; exact ⟨Nat.le_of_ble_eq_true rfl, Nat.le_of_ble_eq_true rfl⟩)) (by omega) b_63 rfl rfl hl.1 rfl (Nat.le_of_ble_eq_true rfl) dX9_help_76 ⟨Nat.zero_le _, Nat.zero_le _⟩ (qh_kki fun r_76 E_8 H locs hpost hH => ?_)
                obtain ⟨rfl, h_67, h_68, hfr⟩ := hpost
                have hF : ∀ x9, x9 ≠ 67 → x9 ≠ 68 → E_8 x9 = E x9 := fun x9 a0 a1 => hfr x9 a0 a1
                refine lv_pop hx hb dX9_help_79 rfl ?_
                refine lv_aload_n hx hb dX9_help_80 rfl (lv_at hl 1 rfl) ?_
                refine lv_iload hx hb dX9_help_81 (lv_at hl 0 rfl) ?_
                refine lv_iload_n hx hb dX9_help_83 rfl (lv_at hl 3 rfl) ?_
                refine lv_iload_n hx hb dX9_help_84 rfl (lv_at hl 4 rfl) ?_
                refine lv_iload_n hx hb dX9_help_85 rfl (lv_at hl 2 rfl) ?_
                refine lv_i2l (v := x.toInt64) hx hb dX9_help_86 rfl ?_
                refine qh_runV (As := [.int 3, .int (nI a), .int (nI b), .long (x.toInt64)]) (rest := []) (C := RX9) ⟨hx, hb, hml, hown, hts⟩ hK hH (c_X9_writes l G z M E_8 lf tr n m2 ln pt rm rh sf sl rn (hM) ((hF 63 (by decide) (by decide)).trans b_63) a b ts _ _ va 3 (x.toInt64) (hl9) ((hF 72 (by decide) (by decide)).trans b_72) ((hF 73 (by decide) (by decide)).trans b_73) ((hF 74 (by decide) (by decide)).trans b_74) ((hF 75 (by decide) (by decide)).trans b_75)) (cwV 4 hts gX9_help_X9_writes rfl rfl rfl (by decide +kernel) (by rw [hRf, hRl]; exact ⟨Nat.le_of_ble_eq_true rfl, Nat.le_of_ble_eq_true rfl⟩)) (by omega) ((hF 63 (by decide) (by decide)).trans b_63) rfl rfl hl.1 rfl (Nat.le_of_ble_eq_true rfl) dX9_help_87 ⟨Nat.zero_le _, Nat.zero_le _⟩ (qh_kkv fun E_9 H locs hpost hH => ?_)
                obtain ⟨h_72, h_73, h_74, h_75, h_63, hfr⟩ := hpost
                have h_67 := (hfr 67 (by decide) (by decide) (by decide) (by decide) (by decide)).trans h_67
                have h_68 := (hfr 68 (by decide) (by decide) (by decide) (by decide) (by decide)).trans h_68
                have hF : ∀ x9, x9 ≠ 67 → x9 ≠ 68 → x9 ≠ 72 → x9 ≠ 73 → x9 ≠ 74 → x9 ≠ 75 → x9 ≠ 63 → E_9 x9 = E x9 := fun x9 a0 a1 a2 a3 a4 a5 a6 => (hfr x9 a2 a3 a4 a5 a6).trans (hF x9 a0 a1)
                have hst : strg m2 kd pa x.toInt64 = stM (kd t) (pa t) := by rw [et, nI_l (by omega), strg_lN ht hm3, stM_stv (hkd t ht)]
                rw [et] at hl
                refine lv_aload_n hx hb dX9_help_90 rfl (lv_at hl 1 rfl) ?_
                refine lv_iload_n hx hb dX9_help_91 rfl (lv_at hl 2 rfl) ?_
                refine qh_runV (As := [.int (nI t)]) (rest := []) (C := RX9) ⟨hx, hb, hml, hown, hts⟩ hK hH (c_X9_strengthOf l G z M E_9 lf tr n m2 (ln + 1) pt rm rh sf sl rn (hM) h_63 t kd pa (by omega) ((hF 70 (by decide) (by decide) (by decide) (by decide) (by decide) (by decide) (by decide)).trans b_70) ((hF 71 (by decide) (by decide) (by decide) (by decide) (by decide) (by decide) (by decide)).trans b_71)) (cwV 1 hts gX9_help_X9_strengthOf rfl rfl rfl (by decide +kernel) (by rw [hRf, hRl]; exact ⟨Nat.le_of_ble_eq_true rfl, Nat.le_of_ble_eq_true rfl⟩)) (by omega) h_63 rfl rfl hl.1 rfl (Nat.le_of_ble_eq_true rfl) dX9_help_92 ⟨Nat.zero_le _, Nat.zero_le _⟩ (qh_kki fun r_92 E_10 H locs hpost hH => ?_)
                obtain ⟨rfl, rfl⟩ := hpost
                exact hret dX9_help_95 hH (by rw [hD, eA, eB, hsw, hst]; exact ⟨rfl, ⟨_, _, _, _, _, _, _, _, _, _, h_63, ((hF 64 (by decide) (by decide) (by decide) (by decide) (by decide) (by decide) (by decide)).trans b_64), ((hF 65 (by decide) (by decide) (by decide) (by decide) (by decide) (by decide) (by decide)).trans b_65), ((hF 66 (by decide) (by decide) (by decide) (by decide) (by decide) (by decide) (by decide)).trans b_66), h_67, h_68, ((hF 69 (by decide) (by decide) (by decide) (by decide) (by decide) (by decide) (by decide)).trans b_69), ((hF 70 (by decide) (by decide) (by decide) (by decide) (by decide) (by decide) (by decide)).trans b_70), ((hF 71 (by decide) (by decide) (by decide) (by decide) (by decide) (by decide) (by decide)).trans b_71), h_72, h_73, h_74, h_75, ((hF 76 (by decide) (by decide) (by decide) (by decide) (by decide) (by decide) (by decide)).trans b_76), ((hF 77 (by decide) (by decide) (by decide) (by decide) (by decide) (by decide) (by decide)).trans b_77), ((hF 78 (by decide) (by decide) (by decide) (by decide) (by decide) (by decide) (by decide)).trans b_78), ((hF 79 (by decide) (by decide) (by decide) (by decide) (by decide) (by decide) (by decide)).trans b_79), ((hF 80 (by decide) (by decide) (by decide) (by decide) (by decide) (by decide) (by decide)).trans b_80), ((hF 82 (by decide) (by decide) (by decide) (by decide) (by decide) (by decide) (by decide)).trans b_82), ((hF 83 (by decide) (by decide) (by decide) (by decide) (by decide) (by decide) (by decide)).trans b_83)⟩, (fun x9 h9 => hF x9 (by omega) (by omega) (by omega) (by omega) (by omega) (by omega) (by omega))⟩)
            · have hl9 : ¬ ln < 24 := by
                have := (nI_eq (b := 24) (by omega) (by decide)).mp c_50
                omega
              have hD : helD n m2 ln x y q w = some (-4) := by rw [helD, if_pos c_5, if_pos hrf, if_pos (w01_of c_38), if_neg hl9]
              refine lv_bipush (v := (-4)) hx hb dX9_help_53 (by decide) ?_
              exact hret dX9_help_55 hH (by rw [hD]; exact ⟨rfl, ⟨_, _, _, _, _, _, _, _, _, _, b_63, b_64, b_65, b_66, b_67, b_68, b_69, b_70, b_71, b_72, b_73, b_74, b_75, b_76, b_77, b_78, b_79, b_80, b_82, b_83⟩, (fun _ _ => rfl)⟩)
          · have c_38 := bI_eq.mp c_38
            have hD : helD n m2 ln x y q w = some (-2) := by rw [helD, if_pos c_5, if_pos hrf, if_neg (fun u => c_38 (w01_in u))]
            refine lv_bipush (v := (-2)) hx hb dX9_help_41 (by decide) ?_
            exact hret dX9_help_43 hH (by rw [hD]; exact ⟨rfl, ⟨_, _, _, _, _, _, _, _, _, _, b_63, b_64, b_65, b_66, b_67, b_68, b_69, b_70, b_71, b_72, b_73, b_74, b_75, b_76, b_77, b_78, b_79, b_80, b_82, b_83⟩, (fun _ _ => rfl)⟩)
      · have c_21 := bI_eq.mp c_21
        have hD : helD n m2 ln x y q w = some (-1) := by rw [helD, if_pos c_5, show rfR n y q = -1 from if_neg (fun u => c_21 u.2), if_neg (by decide)]
        refine lv_iconst (v := (-1)) hx hb dX9_help_24 (by decide) ?_
        exact hret dX9_help_25 hH (by rw [hD]; exact ⟨rfl, ⟨_, _, _, _, _, _, _, _, _, _, b_63, b_64, b_65, b_66, b_67, b_68, b_69, b_70, b_71, b_72, b_73, b_74, b_75, b_76, b_77, b_78, b_79, b_80, b_82, b_83⟩, (fun _ _ => rfl)⟩)

set_option maxHeartbeats 1000000 in
set_option maxRecDepth 100000 in
theorem c_X9_fresh (l : Launch) (G : qh_G) (z M : Nat) (E : Nat → va_E) (tr : Int32) (lf : Int32) (n : Nat) (f : Nat → Int64) (g : Nat → Int64) (mb : Nat → Int64) (m2 : Nat) (kd : Nat → Int32) (pa : Nat → Int32) (ln : Nat) (ts : Nat → Int32) (ga : Nat → Nat) (gb : Nat → Nat) (va : Nat → Int64) (rn : Nat) (cn : Nat → Nat) (vs : Nat → Int64) (so : Nat → Int32) (sg : Nat → Int32) (ce : Nat → Int32) (hM : 84 ≤ M) (hX : ME G z E tr lf n f g mb m2 kd pa ln ts ga gb va rn cn vs so sg ce) (hW : MW n m2 ln rn ga gb cn ts va kd so sg) : Met l yX9_fresh wsX9_fresh (qh_R 1) (qh_Pre G z M E [.ref (z + 63)]) (qh_Q G z M (qh_i (fun r E' => match freD n with | some d => r = d ∧ ME G z E' tr lf n f g mb m2 kd pa ln ts ga gb va rn cn vs so sg ce ∧ ∀ x9, (x9 < 63 ∨ x9 = 81) → E' x9 = E x9 | none => r = nI ln ∧ ME G z E' tr lf n f (mixL f g n) (mixL f mb n) m2 kd pa 0 ts ga gb va rn cn vs so sg ce ∧ ∀ x9, (x9 < 63 ∨ x9 = 81) → E' x9 = E x9))) 0 0 (fun q => z ≤ q) := by
  refine qh_metI (cc := cX9_fresh) (maxL := 2) (by decide) rfl (Nat.le_of_ble_eq_true rfl) ?_
  intro pZ eZ sZ mZ aZ bZ tZ cZ RR QQ ls hx hb hml hown hts hRf hRl hH hK hl hret
  have hown : sZ.vm.findClass RX9 = some mZ.cls := hown
  have hl : lv_has ls 2 [(0, .ref (z + 63))] := hl
  obtain ⟨pt, rm, rh, sf, sl, r1, r2, r3, k1, k2, b_63, b_64, b_65, b_66, b_67, b_68, b_69, b_70, b_71, b_72, b_73, b_74, b_75, b_76, b_77, b_78, b_79, b_80, b_82, b_83⟩ := hX
  obtain ⟨⟨hn16, hm3, hl24, hr8⟩, hval, hcn, hok, hvh, hkd, hso⟩ := hW
  have in_X9 : ∀ w ∈ wsX90, w ∈ wsX9_fresh := fun w h => List.mem_cons_of_mem _ (List.mem_append_right _ h)
  have f_81 : qh_F G sZ mZ aZ 81 9 5 := qh_F.of hts in_X9 hown hK rfl 5 (by decide) (by decide +kernel)
  have f_120 : qh_F G sZ mZ aZ 120 9 12 := qh_F.of hts in_X9 hown hK rfl 12 (by decide) (by decide +kernel)
  refine lv_aload_n hx hb dX9_fresh_0 rfl (lv_at hl 0 rfl) ?_
  refine qh_get hx hb hH f_81 (by omega) b_63 rfl dX9_fresh_1 ?_
  refine lv_if_ne (tgt := 10) hx hb dX9_fresh_4 (by decide) (fun c_4 => ?_) (fun c_4 => ?_)
  · have hD : freD n = none := if_pos (n_ne0 hn16 c_4)
    refine lv_aload_n hx hb dX9_fresh_10 rfl (lv_at hl 0 rfl) ?_
    refine qh_get hx hb hH f_120 (by omega) b_63 rfl dX9_fresh_11 ?_
    refine lv_istore_n (lv' := [(1, .int (nI ln)), (0, .ref (z + 63))]) hx hb dX9_fresh_14 rfl hl (by decide) rfl (fun ls hl => ?_)
    refine lv_aload_n hx hb dX9_fresh_15 rfl (lv_at hl 1 rfl) ?_
    refine qh_runV (As := []) (rest := []) (C := RX9) ⟨hx, hb, hml, hown, hts⟩ hK hH (c_X9_begins l G z M E lf tr n m2 ln pt rm rh sf sl rn (hM) b_63 f g mb (by omega) b_67 b_68 b_69) (cwV 0 hts gX9_fresh_X9_begins rfl rfl rfl (by decide +kernel) (by rw [hRf, hRl]; exact ⟨Nat.le_of_ble_eq_true rfl, Nat.le_of_ble_eq_true rfl⟩)) (by omega) b_63 rfl rfl hl.1 rfl (Nat.le_of_ble_eq_true rfl) dX9_fresh_16 ⟨Nat.zero_le _, Nat.zero_le _⟩ (qh_kkv fun E_1 H locs hpost hH => ?_)
    obtain ⟨h_63, h_68, h_69, hfr⟩ := hpost
    have hF : ∀ x9, x9 ≠ 63 → x9 ≠ 68 → x9 ≠ 69 → E_1 x9 = E x9 := fun x9 a0 a1 a2 => hfr x9 a0 a1 a2
    refine lv_iload_n hx hb dX9_fresh_19 rfl (lv_at hl 0 rfl) ?_
    exact hret dX9_fresh_20 hH (by rw [hD]; exact ⟨rfl, ⟨_, _, _, _, _, _, _, _, _, _, h_63, ((hF 64 (by decide) (by decide) (by decide)).trans b_64), ((hF 65 (by decide) (by decide) (by decide)).trans b_65), ((hF 66 (by decide) (by decide) (by decide)).trans b_66), ((hF 67 (by decide) (by decide) (by decide)).trans b_67), h_68, h_69, ((hF 70 (by decide) (by decide) (by decide)).trans b_70), ((hF 71 (by decide) (by decide) (by decide)).trans b_71), ((hF 72 (by decide) (by decide) (by decide)).trans b_72), ((hF 73 (by decide) (by decide) (by decide)).trans b_73), ((hF 74 (by decide) (by decide) (by decide)).trans b_74), ((hF 75 (by decide) (by decide) (by decide)).trans b_75), ((hF 76 (by decide) (by decide) (by decide)).trans b_76), ((hF 77 (by decide) (by decide) (by decide)).trans b_77), ((hF 78 (by decide) (by decide) (by decide)).trans b_78), ((hF 79 (by decide) (by decide) (by decide)).trans b_79), ((hF 80 (by decide) (by decide) (by decide)).trans b_80), ((hF 82 (by decide) (by decide) (by decide)).trans b_82), ((hF 83 (by decide) (by decide) (by decide)).trans b_83)⟩, (fun x9 h9 => hF x9 (by omega) (by omega) (by omega))⟩)
  · have hD : freD n = some (-3) := if_neg (by rw [c_4]; decide)
    refine lv_bipush (v := (-3)) hx hb dX9_fresh_7 (by decide) ?_
    exact hret dX9_fresh_9 hH (by rw [hD]; exact ⟨rfl, ⟨_, _, _, _, _, _, _, _, _, _, b_63, b_64, b_65, b_66, b_67, b_68, b_69, b_70, b_71, b_72, b_73, b_74, b_75, b_76, b_77, b_78, b_79, b_80, b_82, b_83⟩, (fun _ _ => rfl)⟩)

set_option maxHeartbeats 1000000 in
set_option maxRecDepth 100000 in
theorem c_X9_odds (l : Launch) (G : qh_G) (z M : Nat) (E : Nat → va_E) (tr : Int32) (lf : Int32) (n : Nat) (f : Nat → Int64) (g : Nat → Int64) (mb : Nat → Int64) (m2 : Nat) (kd : Nat → Int32) (pa : Nat → Int32) (ln : Nat) (ts : Nat → Int32) (ga : Nat → Nat) (gb : Nat → Nat) (va : Nat → Int64) (rn : Nat) (cn : Nat → Nat) (vs : Nat → Int64) (so : Nat → Int32) (sg : Nat → Int32) (ce : Nat → Int32) (hM : 84 ≤ M) (hX : ME G z E tr lf n f g mb m2 kd pa ln ts ga gb va rn cn vs so sg ce) (hW : MW n m2 ln rn ga gb cn ts va kd so sg) (x : Int32) (y : Int32) (v : Int64) (w : Int32) : Met l yX9_odds wsX9_odds (qh_R 1) (qh_Pre G z M E [.ref (z + 63), .int x, .int y, .long v, .int w]) (qh_Q G z M (qh_l (fun r E' => E = E' ∧ r = oddR n f x y v w))) 0 0 (fun q => z ≤ q) := by
  refine qh_metL (cc := cX9_odds) (maxL := 8) (by decide) rfl (Nat.le_of_ble_eq_true rfl) ?_
  intro pZ eZ sZ mZ aZ bZ tZ cZ RR QQ ls hx hb hml hown hts hRf hRl hH hK hl hret
  have hown : sZ.vm.findClass RX9 = some mZ.cls := hown
  have hl : lv_has ls 8 [(0, .ref (z + 63)), (1, .int x), (2, .int y), (3, .long v), (5, .int w)] := hl
  obtain ⟨pt, rm, rh, sf, sl, r1, r2, r3, k1, k2, b_63, b_64, b_65, b_66, b_67, b_68, b_69, b_70, b_71, b_72, b_73, b_74, b_75, b_76, b_77, b_78, b_79, b_80, b_82, b_83⟩ := hX
  obtain ⟨⟨hn16, hm3, hl24, hr8⟩, hval, hcn, hok, hvh, hkd, hso⟩ := hW
  have in_X9 : ∀ w ∈ wsX90, w ∈ wsX9_odds := fun w h => List.mem_cons_of_mem _ (List.mem_append_right _ h)
  have k_75 := hts (.constantLong RX9 75 (-9223372036854775808)) (by decide +kernel)
  have f_19 : qh_F G sZ mZ aZ 19 9 7 := qh_F.of hts in_X9 hown hK rfl 7 (by decide) (by decide +kernel)
  refine lv_aload_n hx hb dX9_odds_0 rfl (lv_at hl 0 rfl) ?_
  refine lv_iload_n hx hb dX9_odds_1 rfl (lv_at hl 1 rfl) ?_
  refine qh_runV (As := [.int x]) (rest := []) (C := RX9) ⟨hx, hb, hml, hown, hts⟩ hK hH (c_X9_isCell l G z M E lf tr n m2 ln pt rm rh sf sl rn (hM) b_63 x) (cwV 1 hts gX9_odds_X9_isCell rfl rfl rfl (by decide +kernel) (by rw [hRf, hRl]; exact ⟨Nat.le_of_ble_eq_true rfl, Nat.le_of_ble_eq_true rfl⟩)) (by omega) b_63 rfl rfl hl.1 rfl (Nat.le_of_ble_eq_true rfl) dX9_odds_2 ⟨Nat.zero_le _, Nat.zero_le _⟩ (qh_kki fun r_2 E_1 H locs hpost hH => ?_)
  obtain ⟨rfl, rfl⟩ := hpost
  refine lv_if_eq (tgt := 31) hx hb dX9_odds_5 (by decide) (fun c_5 => ?_) (fun c_5 => ?_)
  · have c_5 := bI_eq.mp c_5
    refine lv_ldc2 hx hb hown k_75 dX9_odds_31 ?_
    refine qh_topl (y := LOSTv) (rfl) ?_
    exact hret dX9_odds_34 hH (⟨rfl, by rw [oddR, if_neg (fun q => c_5 (rfR_in q.1).1)]⟩)
  · have c_5 := bI_ne.mp c_5
    refine lv_aload_n hx hb dX9_odds_8 rfl (lv_at hl 0 rfl) ?_
    refine lv_iload_n hx hb dX9_odds_9 rfl (lv_at hl 2 rfl) ?_
    refine qh_runV (As := [.int y]) (rest := []) (C := RX9) ⟨hx, hb, hml, hown, hts⟩ hK hH (c_X9_isCell l G z M E lf tr n m2 ln pt rm rh sf sl rn (hM) b_63 y) (cwV 1 hts gX9_odds_X9_isCell rfl rfl rfl (by decide +kernel) (by rw [hRf, hRl]; exact ⟨Nat.le_of_ble_eq_true rfl, Nat.le_of_ble_eq_true rfl⟩)) (by omega) b_63 rfl rfl hl.1 rfl (Nat.le_of_ble_eq_true rfl) dX9_odds_10 ⟨Nat.zero_le _, Nat.zero_le _⟩ (qh_kki fun r_10 E_2 H locs hpost hH => ?_)
    obtain ⟨rfl, rfl⟩ := hpost
    refine lv_if_eq (tgt := 31) hx hb dX9_odds_13 (by decide) (fun c_13 => ?_) (fun c_13 => ?_)
    · have c_13 := bI_eq.mp c_13
      refine lv_ldc2 hx hb hown k_75 dX9_odds_31 ?_
      refine qh_topl (y := LOSTv) (rfl) ?_
      exact hret dX9_odds_34 hH (⟨rfl, by rw [oddR, if_neg (fun q => c_13 (rfR_in q.1).2.1)]⟩)
    · have c_13 := bI_ne.mp c_13
      refine lv_iload_n hx hb dX9_odds_16 rfl (lv_at hl 1 rfl) ?_
      refine lv_iload_n hx hb dX9_odds_17 rfl (lv_at hl 2 rfl) ?_
      refine lv_icmp_gt (tgt := 31) hx hb dX9_odds_18 (by decide) (fun c_18 => ?_) (fun c_18 => ?_)
      · refine lv_ldc2 hx hb hown k_75 dX9_odds_31 ?_
        refine qh_topl (y := LOSTv) (rfl) ?_
        exact hret dX9_odds_34 hH (⟨rfl, by rw [oddR, if_neg (fun q => (rfR_in q.1).2.2 c_18)]⟩)
      · refine lv_iload hx hb dX9_odds_21 (lv_at hl 4 rfl) ?_
        refine lv_iconst (v := 0) hx hb dX9_odds_23 (by decide) ?_
        refine lv_iconst (v := 1) hx hb dX9_odds_24 (by decide) ?_
        refine qh_runS (As := [.int w, .int 0, .int 1]) (rest := []) ⟨hx, hb, hml, hown, hts⟩ hK hH (c_X9_within l G z M E w 0 1) (va_cwS 3 hts gX9_odds_X9_within rfl rfl rfl (by decide +kernel) (by rw [hRf, hRl]; exact ⟨Nat.le_of_ble_eq_true rfl, Nat.le_of_ble_eq_true rfl⟩)) rfl hl.1 rfl (Nat.le_of_ble_eq_true rfl) dX9_odds_25 ⟨Nat.zero_le _, Nat.zero_le _⟩ (qh_kki fun r_25 E_3 H locs hpost hH => ?_)
        obtain ⟨rfl, rfl⟩ := hpost
        refine lv_if_ne (tgt := 35) hx hb dX9_odds_28 (by decide) (fun c_28 => ?_) (fun c_28 => ?_)
        · have c_28 := bI_ne.mp c_28
          have hw : w = 0 ∨ w = 1 := w01_of c_28
          have c_6 : rfR n x y = 0 := canB_of c_5 c_13 (fun w => c_18 w)
          obtain ⟨a, b, hab, hbn, ea, eb⟩ := rfR_ok hn16 c_6
          have eA : x.toNatClampNeg = a := by rw [ea]; exact nI_clamp (by omega)
          have eB : y.toNatClampNeg = b := by rw [eb]; exact nI_clamp (by omega)
          have hl : lv_has ls 8 [(0, .ref (z + 63)), (1, .int (nI a)), (2, .int y), (3, .long v), (5, .int w)] := by rw [← ea]; exact hl
          have hl : lv_has ls 8 [(0, .ref (z + 63)), (1, .int (nI a)), (2, .int (nI b)), (3, .long v), (5, .int w)] := by rw [← eb]; exact hl
          have hoN := odN_le f a b v
          refine lv_iconst (v := 0) hx hb dX9_odds_35 (by decide) ?_
          refine lv_istore (lv' := [(6, .int 0), (0, .ref (z + 63)), (1, .int (nI a)), (2, .int (nI b)), (3, .long v), (5, .int w)]) hx hb dX9_odds_36 hl (by decide) rfl (fun ls hl => ?_)
          refine lv_iload_n hx hb dX9_odds_38 rfl (lv_at hl 2 rfl) ?_
          refine lv_istore (lv' := [(7, .int (nI a)), (6, .int 0), (0, .ref (z + 63)), (1, .int (nI a)), (2, .int (nI b)), (3, .long v), (5, .int w)]) hx hb dX9_odds_39 hl (by decide) rfl (fun ls hl => ?_)
          have L_41 : ∀ fu_41 : Nat, ∀ u : Nat, (u ≤ b + 1 - a) → (b + 1 - a - u < fu_41) → ∀ (H : Heap) (locs : List Loc), qh_H G z M E sZ.heap H locs → ∀ ls : Array Slot, lv_has ls 8 [(0, .ref (z + 63)), (1, .int (nI a)), (2, .int (nI b)), (3, .long v), (5, .int w), (6, .int (nI (cntR (fun k => decide (¬ f k < v)) a u))), (7, .int (nI (a + u)))] → W pZ l eZ RR sZ mZ aZ bZ tZ cZ H locs 0 0 QQ (F0 mZ 41 ls []) := by
            intro fu_41
            induction fu_41 with
            | zero =>
              intro u hu hfuel
              exact absurd hfuel (by omega)
            | succ fu_41 ih_41 =>
              intro u hu hfuel H locs hH ls hl
              refine lv_iload hx hb dX9_odds_41 (lv_at hl 6 rfl) ?_
              refine lv_iload_n hx hb dX9_odds_43 rfl (lv_at hl 2 rfl) ?_
              refine lv_icmp_gt (tgt := 75) hx hb dX9_odds_44 (by decide) (fun c_44 => ?_) (fun c_44 => ?_)
              · have hk : b < a + u := (nI_ltI (by omega) (by omega)).mp c_44
                have hex : b + 1 - a = u := by omega
                subst hex
                refine lv_iload hx hb dX9_odds_75 (lv_at hl 5 rfl) ?_
                refine lv_i2l (v := lN (odN f a b v)) hx hb dX9_odds_77 (nI_l (by rw [show cntR (fun k => decide (¬ f k < v)) a (b + 1 - a) = odN f a b v from rfl]; omega)) ?_
                refine lv_iload_n hx hb dX9_odds_78 rfl (lv_at hl 2 rfl) ?_
                refine lv_iload_n hx hb dX9_odds_79 rfl (lv_at hl 1 rfl) ?_
                refine lv_isub hx hb dX9_odds_80 ?_
                refine qh_topi (y := nI (b - a)) (pk_sub hab) ?_
                refine lv_iconst (v := 1) hx hb dX9_odds_81 (by decide) ?_
                refine lv_iadd hx hb dX9_odds_82 ?_
                refine qh_topi (y := nI (b - a + 1)) (nI_1 _) ?_
                refine lv_i2l (v := lN (b - a + 1)) hx hb dX9_odds_83 (nI_l (by omega)) ?_
                refine lv_iload hx hb dX9_odds_84 (lv_at hl 4 rfl) ?_
                refine qh_runS (As := [.long (lN (odN f a b v)), .long (lN (b - a + 1)), .int w]) (rest := []) ⟨hx, hb, hml, hown, hts⟩ hK hH (c_X9_inLeastTerms l G z M E (odN f a b v) (b - a + 1) w (⟨by omega, by omega, by omega⟩)) (va_cwS 3 hts gX9_odds_X9_inLeastTerms rfl rfl rfl (by decide +kernel) (by rw [hRf, hRl]; exact ⟨Nat.le_of_ble_eq_true rfl, Nat.le_of_ble_eq_true rfl⟩)) rfl hl.1 rfl (Nat.le_of_ble_eq_true rfl) dX9_odds_86 ⟨Nat.zero_le _, Nat.zero_le _⟩ (qh_kkl fun r_86 E_4 H locs hpost hH => ?_)
                obtain ⟨rfl, rfl⟩ := hpost
                exact hret dX9_odds_89 hH (⟨rfl, by rw [show oddR n f x y v w = _ from if_pos ⟨c_6, hw⟩, eA, eB, nI_l (od_lt1 hoN (by omega)), nI_l (od_lt2 (by omega))]⟩)
              · have hk : ¬ b < a + u := fun w => c_44 (nI_lt w (by omega))
                refine lv_iload hx hb dX9_odds_47 (lv_at hl 5 rfl) ?_
                refine lv_aload_n hx hb dX9_odds_49 rfl (lv_at hl 0 rfl) ?_
                refine qh_get hx hb hH f_19 (by omega) b_63 rfl dX9_odds_50 ?_
                refine lv_iload hx hb dX9_odds_53 (lv_at hl 6 rfl) ?_
                refine qh_lald hx hb hK hH (by omega) b_67 (j := a + u) (rfl) (by omega) (by omega) dX9_odds_55 ?_
                refine lv_lload_n hx hb dX9_odds_56 rfl (lv_at hl 3 rfl) ?_
                refine W.lcmp hx hb dX9_odds_57 ?_
                refine lv_if_lt (tgt := 65) hx hb dX9_odds_58 (by decide) (fun c_58 => ?_) (fun c_58 => ?_)
                · have c_58 := (lg_cmp_lt _ _).mp c_58
                  refine lv_iconst (v := 0) hx hb dX9_odds_65 (by decide) ?_
                  refine lv_iadd hx hb dX9_odds_66 ?_
                  refine qh_topi (y := nI (cntR (fun k => decide (¬ f k < v)) a u)) (Int32.add_zero _) ?_
                  refine lv_istore (lv' := [(6, .int (nI (cntR (fun k => decide (¬ f k < v)) a u))), (0, .ref (z + 63)), (1, .int (nI a)), (2, .int (nI b)), (3, .long v), (5, .int w), (7, .int (nI (a + u)))]) hx hb dX9_odds_67 hl (by decide) rfl (fun ls hl => ?_)
                  refine lv_iinc (v := nI ((a + u) + 1)) (lv' := [(7, .int (nI ((a + u) + 1))), (6, .int (nI (cntR (fun k => decide (¬ f k < v)) a u))), (0, .ref (z + 63)), (1, .int (nI a)), (2, .int (nI b)), (3, .long v), (5, .int w)]) hx hb dX9_odds_69 hl (k := 6) rfl (qn_inc (a + u)) (by decide) rfl (fun ls hl => ?_)
                  refine lv_goto (tgt := 41) hx hb dX9_odds_72 (by decide) ?_
                  rw [← cnt_n (q := (fun k => decide (¬ f k < v))) (by simp [c_58])] at hl
                  exact ih_41 (u + 1) (by omega) (by omega) _ _ hH ls (lv_sub hl [2, 3, 4, 5, 6, 1, 0] rfl)
                · have c_58 := (not_congr (lg_cmp_lt _ _)).mp c_58
                  refine lv_iconst (v := 1) hx hb dX9_odds_61 (by decide) ?_
                  refine lv_goto (tgt := 66) hx hb dX9_odds_62 (by decide) ?_
                  refine lv_iadd hx hb dX9_odds_66 ?_
                  refine qh_topi (y := nI (cntR (fun k => decide (¬ f k < v)) a u + 1)) (nI_1 _) ?_
                  refine lv_istore (lv' := [(6, .int (nI (cntR (fun k => decide (¬ f k < v)) a u + 1))), (0, .ref (z + 63)), (1, .int (nI a)), (2, .int (nI b)), (3, .long v), (5, .int w), (7, .int (nI (a + u)))]) hx hb dX9_odds_67 hl (by decide) rfl (fun ls hl => ?_)
                  refine lv_iinc (v := nI ((a + u) + 1)) (lv' := [(7, .int (nI ((a + u) + 1))), (6, .int (nI (cntR (fun k => decide (¬ f k < v)) a u + 1))), (0, .ref (z + 63)), (1, .int (nI a)), (2, .int (nI b)), (3, .long v), (5, .int w)]) hx hb dX9_odds_69 hl (k := 6) rfl (qn_inc (a + u)) (by decide) rfl (fun ls hl => ?_)
                  refine lv_goto (tgt := 41) hx hb dX9_odds_72 (by decide) ?_
                  rw [← cnt_y (q := (fun k => decide (¬ f k < v))) (by simp [c_58])] at hl
                  exact ih_41 (u + 1) (by omega) (by omega) _ _ hH ls (lv_sub hl [2, 3, 4, 5, 6, 1, 0] rfl)
          exact L_41 (b + 1 - a + 1) 0 (Nat.zero_le _) (by omega) _ _ hH ls (lv_sub hl [2, 3, 4, 5, 6, 1, 0] rfl)
        · have c_28 := bI_eq.mp c_28
          refine lv_ldc2 hx hb hown k_75 dX9_odds_31 ?_
          refine qh_topl (y := LOSTv) (rfl) ?_
          exact hret dX9_odds_34 hH (⟨rfl, by rw [oddR, if_neg (fun q => c_28 (w01_in q.2))]⟩)

set_option maxHeartbeats 1000000 in
set_option maxRecDepth 100000 in
theorem c_X9_reading (l : Launch) (G : qh_G) (z M : Nat) (E : Nat → va_E) (tr : Int32) (lf : Int32) (n : Nat) (f : Nat → Int64) (g : Nat → Int64) (mb : Nat → Int64) (m2 : Nat) (kd : Nat → Int32) (pa : Nat → Int32) (ln : Nat) (ts : Nat → Int32) (ga : Nat → Nat) (gb : Nat → Nat) (va : Nat → Int64) (rn : Nat) (cn : Nat → Nat) (vs : Nat → Int64) (so : Nat → Int32) (sg : Nat → Int32) (ce : Nat → Int32) (hM : 84 ≤ M) (hX : ME G z E tr lf n f g mb m2 kd pa ln ts ga gb va rn cn vs so sg ce) (hW : MW n m2 ln rn ga gb cn ts va kd so sg) (x : Int32) (v : Int64) : Met l yX9_reading wsX9_reading (qh_R 1) (qh_Pre G z M E [.ref (z + 63), .int x, .long v]) (qh_Q G z M (qh_i (fun r E' => match rdgD n rn x v with | some d => r = d ∧ ME G z E' tr lf n f g mb m2 kd pa ln ts ga gb va rn cn vs so sg ce ∧ ∀ x9, (x9 < 63 ∨ x9 = 81) → E' x9 = E x9 | none => r = nI rn ∧ ME G z E' tr lf n f g mb m2 kd pa ln ts ga gb va (rn + 1) (upN cn rn x.toNatClampNeg) (vp_updL vs rn v) so sg ce ∧ ∀ x9, (x9 < 63 ∨ x9 = 81) → E' x9 = E x9))) 0 0 (fun q => z ≤ q) := by
  refine qh_metI (cc := cX9_reading) (maxL := 4) (by decide) rfl (Nat.le_of_ble_eq_true rfl) ?_
  intro pZ eZ sZ mZ aZ bZ tZ cZ RR QQ ls hx hb hml hown hts hRf hRl hH hK hl hret
  have hown : sZ.vm.findClass RX9 = some mZ.cls := hown
  have hl : lv_has ls 4 [(0, .ref (z + 63)), (1, .int x), (2, .long v)] := hl
  obtain ⟨pt, rm, rh, sf, sl, r1, r2, r3, k1, k2, b_63, b_64, b_65, b_66, b_67, b_68, b_69, b_70, b_71, b_72, b_73, b_74, b_75, b_76, b_77, b_78, b_79, b_80, b_82, b_83⟩ := hX
  obtain ⟨⟨hn16, hm3, hl24, hr8⟩, hval, hcn, hok, hvh, hkd, hso⟩ := hW
  have in_X9 : ∀ w ∈ wsX90, w ∈ wsX9_reading := fun w h => List.mem_cons_of_mem _ (List.mem_append_right _ h)
  have k_224 := hts (.constantLong RX9 224 (-1000000000000000)) (by decide +kernel)
  have k_226 := hts (.constantLong RX9 226 (1000000000000000)) (by decide +kernel)
  have f_117 : qh_F G sZ mZ aZ 117 9 28 := qh_F.of hts in_X9 hown hK rfl 28 (by decide) (by decide +kernel)
  have f_65 : qh_F G sZ mZ aZ 65 9 29 := qh_F.of hts in_X9 hown hK rfl 29 (by decide) (by decide +kernel)
  have f_68 : qh_F G sZ mZ aZ 68 9 30 := qh_F.of hts in_X9 hown hK rfl 30 (by decide) (by decide +kernel)
  have w_117 : qh_W G sZ mZ aZ 117 9 28 .int := qh_W.of hts in_X9 tyX9 tyX9_ok nmX9 hown hK rfl 28 (by decide) (by decide +kernel) rfl (by decide +kernel)
  refine lv_aload_n hx hb dX9_reading_0 rfl (lv_at hl 0 rfl) ?_
  refine lv_iload_n hx hb dX9_reading_1 rfl (lv_at hl 1 rfl) ?_
  refine qh_runV (As := [.int x]) (rest := []) (C := RX9) ⟨hx, hb, hml, hown, hts⟩ hK hH (c_X9_isCell l G z M E lf tr n m2 ln pt rm rh sf sl rn (hM) b_63 x) (cwV 1 hts gX9_reading_X9_isCell rfl rfl rfl (by decide +kernel) (by rw [hRf, hRl]; exact ⟨Nat.le_of_ble_eq_true rfl, Nat.le_of_ble_eq_true rfl⟩)) (by omega) b_63 rfl rfl hl.1 rfl (Nat.le_of_ble_eq_true rfl) dX9_reading_2 ⟨Nat.zero_le _, Nat.zero_le _⟩ (qh_kki fun r_2 E_1 H locs hpost hH => ?_)
  obtain ⟨rfl, rfl⟩ := hpost
  refine lv_if_ne (tgt := 10) hx hb dX9_reading_5 (by decide) (fun c_5 => ?_) (fun c_5 => ?_)
  · have c_5 := bI_ne.mp c_5
    obtain ⟨t, ht, et⟩ := nI_of_in (by omega) c_5
    have ec : x.toNatClampNeg = t := by rw [et]; exact nI_clamp (by omega)
    refine lv_lload_n hx hb dX9_reading_10 rfl (lv_at hl 2 rfl) ?_
    refine lv_ldc2 hx hb hown k_224 dX9_reading_11 ?_
    refine lv_ldc2 hx hb hown k_226 dX9_reading_14 ?_
    refine qh_runS (As := [.long v, .long (-1000000000000000), .long 1000000000000000]) (rest := []) ⟨hx, hb, hml, hown, hts⟩ hK hH (c_X9_isBetween l G z M E v (-1000000000000000) 1000000000000000) (va_cwS 3 hts gX9_reading_X9_isBetween rfl rfl rfl (by decide +kernel) (by rw [hRf, hRl]; exact ⟨Nat.le_of_ble_eq_true rfl, Nat.le_of_ble_eq_true rfl⟩)) rfl hl.1 rfl (Nat.le_of_ble_eq_true rfl) dX9_reading_17 ⟨Nat.zero_le _, Nat.zero_le _⟩ (qh_kki fun r_17 E_2 H locs hpost hH => ?_)
    obtain ⟨rfl, rfl⟩ := hpost
    refine lv_if_ne (tgt := 26) hx hb dX9_reading_20 (by decide) (fun c_20 => ?_) (fun c_20 => ?_)
    · have c_20 := bI_ne.mp c_20
      refine lv_aload_n hx hb dX9_reading_26 rfl (lv_at hl 0 rfl) ?_
      refine qh_get hx hb hH f_117 (by omega) b_63 rfl dX9_reading_27 ?_
      refine lv_bipush (v := 8) hx hb dX9_reading_30 (by decide) ?_
      refine lv_icmp_ne (tgt := 38) hx hb dX9_reading_32 (by decide) (fun c_32 => ?_) (fun c_32 => ?_)
      · have hr9 : rn < 8 := by
          rcases Nat.lt_or_ge rn 8 with u | u
          · exact u
          · exact absurd (by rw [show rn = 8 by omega]; rfl) c_32
        have hD : rdgD n rn x v = none := by rw [rdgD, if_pos c_5, if_pos c_20, if_pos hr9]
        have hl : lv_has ls 4 [(0, .ref (z + 63)), (1, .int (nI t)), (2, .long v)] := by rw [← et]; exact hl
        refine lv_aload_n hx hb dX9_reading_38 rfl (lv_at hl 0 rfl) ?_
        refine qh_get hx hb hH f_65 (by omega) b_63 rfl dX9_reading_39 ?_
        refine lv_aload_n hx hb dX9_reading_42 rfl (lv_at hl 0 rfl) ?_
        refine qh_get hx hb hH f_117 (by omega) b_63 rfl dX9_reading_43 ?_
        refine lv_iload_n hx hb dX9_reading_46 rfl (lv_at hl 1 rfl) ?_
        refine qh_iast hx hb hK hH (by omega) b_82 (j := rn) (rfl) (by omega) (by omega) dX9_reading_47 (fun E_3 H locs h_82 hfr hH _ => ?_)
        have h_82 : E_3 82 = qa_I G 8 (rdC (upN cn rn t)) := h_82.trans (congrArg (qa_I G 8) (rdC_up ..))
        have hF : ∀ x9, x9 ≠ 82 → E_3 x9 = E x9 := fun x9 a0 => hfr x9 a0
        refine lv_aload_n hx hb dX9_reading_48 rfl (lv_at hl 0 rfl) ?_
        refine qh_get hx hb hH f_68 (by omega) ((hF 63 (by decide)).trans b_63) rfl dX9_reading_49 ?_
        refine lv_aload_n hx hb dX9_reading_52 rfl (lv_at hl 0 rfl) ?_
        refine qh_get hx hb hH f_117 (by omega) ((hF 63 (by decide)).trans b_63) rfl dX9_reading_53 ?_
        refine lv_lload_n hx hb dX9_reading_56 rfl (lv_at hl 2 rfl) ?_
        refine qh_last hx hb hK hH (by omega) ((hF 83 (by decide)).trans b_83) (j := rn) (rfl) (by omega) (by omega) dX9_reading_57 (fun E_4 H locs h_83 hfr hH _ => ?_)
        have h_82 := (hfr 82 (by decide)).trans h_82
        have hF : ∀ x9, x9 ≠ 82 → x9 ≠ 83 → E_4 x9 = E x9 := fun x9 a0 a1 => (hfr x9 a1).trans (hF x9 a0)
        refine lv_aload_n hx hb dX9_reading_58 rfl (lv_at hl 0 rfl) ?_
        refine lv_dup hx hb dX9_reading_59 rfl ?_
        refine qh_get hx hb hH f_117 (by omega) ((hF 63 (by decide) (by decide)).trans b_63) rfl dX9_reading_60 ?_
        refine lv_iconst (v := 1) hx hb dX9_reading_63 (by decide) ?_
        refine lv_iadd hx hb dX9_reading_64 ?_
        refine qh_topi (y := nI (rn + 1)) (nI_1 rn) ?_
        refine qh_put (fs' := [.int lf, .int tr, .ref (z + 64), .ref (z + 65), .ref (z + 66), .int (nI n), .int (nI m2), .ref (z + 67), .ref (z + 68), .ref (z + 69), .ref (z + 70), .ref (z + 71), .int (nI ln), .ref (z + 72), .ref (z + 73), .ref (z + 74), .ref (z + 75), .int pt, .int rm, .int rh, .ref (z + 76), .ref (z + 77), .ref (z + 78), .ref (z + 79), .ref (z + 80), .int sf, .int sl, .ref (z + 81), .int (nI (rn + 1)), .ref (z + 82), .ref (z + 83)]) hx hb hH w_117 (by omega) ((hF 63 (by decide) (by decide)).trans b_63) rfl rfl (Nat.le_of_ble_eq_true rfl) rfl dX9_reading_65 (fun E_5 H locs h_63 hfr hH _ => ?_)
        have h_82 := (hfr 82 (by decide)).trans h_82
        have h_83 := (hfr 83 (by decide)).trans h_83
        have hF : ∀ x9, x9 ≠ 82 → x9 ≠ 83 → x9 ≠ 63 → E_5 x9 = E x9 := fun x9 a0 a1 a2 => (hfr x9 a2).trans (hF x9 a0 a1)
        refine lv_aload_n hx hb dX9_reading_68 rfl (lv_at hl 0 rfl) ?_
        refine qh_get hx hb hH f_117 (by omega) h_63 rfl dX9_reading_69 ?_
        refine lv_iconst (v := 1) hx hb dX9_reading_72 (by decide) ?_
        refine lv_isub hx hb dX9_reading_73 ?_
        refine qh_topi (y := nI rn) (pk_sub (a := rn + 1) (b := 1) (by omega)) ?_
        exact hret dX9_reading_74 hH (by rw [hD, ec]; exact ⟨rfl, ⟨_, _, _, _, _, _, _, _, _, _, h_63, ((hF 64 (by decide) (by decide) (by decide)).trans b_64), ((hF 65 (by decide) (by decide) (by decide)).trans b_65), ((hF 66 (by decide) (by decide) (by decide)).trans b_66), ((hF 67 (by decide) (by decide) (by decide)).trans b_67), ((hF 68 (by decide) (by decide) (by decide)).trans b_68), ((hF 69 (by decide) (by decide) (by decide)).trans b_69), ((hF 70 (by decide) (by decide) (by decide)).trans b_70), ((hF 71 (by decide) (by decide) (by decide)).trans b_71), ((hF 72 (by decide) (by decide) (by decide)).trans b_72), ((hF 73 (by decide) (by decide) (by decide)).trans b_73), ((hF 74 (by decide) (by decide) (by decide)).trans b_74), ((hF 75 (by decide) (by decide) (by decide)).trans b_75), ((hF 76 (by decide) (by decide) (by decide)).trans b_76), ((hF 77 (by decide) (by decide) (by decide)).trans b_77), ((hF 78 (by decide) (by decide) (by decide)).trans b_78), ((hF 79 (by decide) (by decide) (by decide)).trans b_79), ((hF 80 (by decide) (by decide) (by decide)).trans b_80), h_82, h_83⟩, (fun x9 h9 => hF x9 (by omega) (by omega) (by omega))⟩)
      · have hr9 : ¬ rn < 8 := by
          have := (nI_eq (b := 8) (by omega) (by decide)).mp c_32
          omega
        have hD : rdgD n rn x v = some (-4) := by rw [rdgD, if_pos c_5, if_pos c_20, if_neg hr9]
        refine lv_bipush (v := (-4)) hx hb dX9_reading_35 (by decide) ?_
        exact hret dX9_reading_37 hH (by rw [hD]; exact ⟨rfl, ⟨_, _, _, _, _, _, _, _, _, _, b_63, b_64, b_65, b_66, b_67, b_68, b_69, b_70, b_71, b_72, b_73, b_74, b_75, b_76, b_77, b_78, b_79, b_80, b_82, b_83⟩, (fun _ _ => rfl)⟩)
    · have c_20 := bI_eq.mp c_20
      have hD : rdgD n rn x v = some (-2) := by rw [rdgD, if_pos c_5, if_neg c_20]
      refine lv_bipush (v := (-2)) hx hb dX9_reading_23 (by decide) ?_
      exact hret dX9_reading_25 hH (by rw [hD]; exact ⟨rfl, ⟨_, _, _, _, _, _, _, _, _, _, b_63, b_64, b_65, b_66, b_67, b_68, b_69, b_70, b_71, b_72, b_73, b_74, b_75, b_76, b_77, b_78, b_79, b_80, b_82, b_83⟩, (fun _ _ => rfl)⟩)
  · have c_5 := bI_eq.mp c_5
    have hD : rdgD n rn x v = some (-1) := by rw [rdgD, if_neg c_5]
    refine lv_iconst (v := (-1)) hx hb dX9_reading_8 (by decide) ?_
    exact hret dX9_reading_9 hH (by rw [hD]; exact ⟨rfl, ⟨_, _, _, _, _, _, _, _, _, _, b_63, b_64, b_65, b_66, b_67, b_68, b_69, b_70, b_71, b_72, b_73, b_74, b_75, b_76, b_77, b_78, b_79, b_80, b_82, b_83⟩, (fun _ _ => rfl)⟩)

set_option maxHeartbeats 1000000 in
set_option maxRecDepth 100000 in
theorem c_X9_back (l : Launch) (G : qh_G) (z M : Nat) (E : Nat → va_E) (tr : Int32) (lf : Int32) (n : Nat) (f : Nat → Int64) (g : Nat → Int64) (mb : Nat → Int64) (m2 : Nat) (kd : Nat → Int32) (pa : Nat → Int32) (ln : Nat) (ts : Nat → Int32) (ga : Nat → Nat) (gb : Nat → Nat) (va : Nat → Int64) (rn : Nat) (cn : Nat → Nat) (vs : Nat → Int64) (so : Nat → Int32) (sg : Nat → Int32) (ce : Nat → Int32) (hM : 84 ≤ M) (hX : ME G z E tr lf n f g mb m2 kd pa ln ts ga gb va rn cn vs so sg ce) (hW : MW n m2 ln rn ga gb cn ts va kd so sg) (x : Int32) : Met l yX9_back wsX9_back (qh_R 1) (qh_Pre G z M E [.ref (z + 63), .int x]) (qh_Q G z M (qh_i (fun r E' => match bakD rn x with | some q => r = q ∧ ME G z E' tr lf n f g mb m2 kd pa ln ts ga gb va rn cn vs so sg ce ∧ ∀ x9, (x9 < 63 ∨ x9 = 81) → E' x9 = E x9 | none => r = nI (rn - x.toNatClampNeg) ∧ ME G z E' tr lf n f g mb m2 kd pa ln ts ga gb va (rn - x.toNatClampNeg) cn vs so sg ce ∧ ∀ x9, (x9 < 63 ∨ x9 = 81) → E' x9 = E x9))) 0 0 (fun q => z ≤ q) := by
  refine qh_metI (cc := cX9_back) (maxL := 2) (by decide) rfl (Nat.le_of_ble_eq_true rfl) ?_
  intro pZ eZ sZ mZ aZ bZ tZ cZ RR QQ ls hx hb hml hown hts hRf hRl hH hK hl hret
  have hown : sZ.vm.findClass RX9 = some mZ.cls := hown
  have hl : lv_has ls 2 [(0, .ref (z + 63)), (1, .int x)] := hl
  obtain ⟨pt, rm, rh, sf, sl, r1, r2, r3, k1, k2, b_63, b_64, b_65, b_66, b_67, b_68, b_69, b_70, b_71, b_72, b_73, b_74, b_75, b_76, b_77, b_78, b_79, b_80, b_82, b_83⟩ := hX
  obtain ⟨⟨hn16, hm3, hl24, hr8⟩, hval, hcn, hok, hvh, hkd, hso⟩ := hW
  have in_X9 : ∀ w ∈ wsX90, w ∈ wsX9_back := fun w h => List.mem_cons_of_mem _ (List.mem_append_right _ h)
  have f_117 : qh_F G sZ mZ aZ 117 9 28 := qh_F.of hts in_X9 hown hK rfl 28 (by decide) (by decide +kernel)
  have w_117 : qh_W G sZ mZ aZ 117 9 28 .int := qh_W.of hts in_X9 tyX9 tyX9_ok nmX9 hown hK rfl 28 (by decide) (by decide +kernel) rfl (by decide +kernel)
  refine lv_iload_n hx hb dX9_back_0 rfl (lv_at hl 1 rfl) ?_
  refine lv_iconst (v := 0) hx hb dX9_back_1 (by decide) ?_
  refine lv_aload_n hx hb dX9_back_2 rfl (lv_at hl 0 rfl) ?_
  refine qh_get hx hb hH f_117 (by omega) b_63 rfl dX9_back_3 ?_
  refine qh_runS (As := [.int x, .int 0, .int (nI rn)]) (rest := []) ⟨hx, hb, hml, hown, hts⟩ hK hH (c_X9_within l G z M E x 0 (nI rn)) (va_cwS 3 hts gX9_back_X9_within rfl rfl rfl (by decide +kernel) (by rw [hRf, hRl]; exact ⟨Nat.le_of_ble_eq_true rfl, Nat.le_of_ble_eq_true rfl⟩)) rfl hl.1 rfl (Nat.le_of_ble_eq_true rfl) dX9_back_6 ⟨Nat.zero_le _, Nat.zero_le _⟩ (qh_kki fun r_6 E_1 H locs hpost hH => ?_)
  obtain ⟨rfl, rfl⟩ := hpost
  refine lv_if_ne (tgt := 15) hx hb dX9_back_9 (by decide) (fun c_9 => ?_) (fun c_9 => ?_)
  · have c_9 := bI_ne.mp c_9
    have hD : bakD rn x = none := if_pos ⟨c_9.1, Int32.not_lt.mp c_9.2⟩
    obtain ⟨t, ht, et⟩ := nI_of2 (n := rn) (nI_toInt (by omega)) c_9.1 (Int32.not_lt.mp c_9.2)
    have eT : x.toNatClampNeg = t := by rw [et]; exact nI_clamp (by omega)
    refine lv_aload_n hx hb dX9_back_15 rfl (lv_at hl 0 rfl) ?_
    refine lv_dup hx hb dX9_back_16 rfl ?_
    refine qh_get hx hb hH f_117 (by omega) b_63 rfl dX9_back_17 ?_
    refine lv_iload_n hx hb dX9_back_20 rfl (lv_at hl 1 rfl) ?_
    refine lv_isub hx hb dX9_back_21 ?_
    refine qh_topi (y := nI (rn - x.toNatClampNeg)) (by rw [eT, et]; exact pk_sub ht) ?_
    refine qh_put (fs' := [.int lf, .int tr, .ref (z + 64), .ref (z + 65), .ref (z + 66), .int (nI n), .int (nI m2), .ref (z + 67), .ref (z + 68), .ref (z + 69), .ref (z + 70), .ref (z + 71), .int (nI ln), .ref (z + 72), .ref (z + 73), .ref (z + 74), .ref (z + 75), .int pt, .int rm, .int rh, .ref (z + 76), .ref (z + 77), .ref (z + 78), .ref (z + 79), .ref (z + 80), .int sf, .int sl, .ref (z + 81), .int (nI (rn - x.toNatClampNeg)), .ref (z + 82), .ref (z + 83)]) hx hb hH w_117 (by omega) b_63 rfl rfl (Nat.le_of_ble_eq_true rfl) rfl dX9_back_22 (fun E_2 H locs h_63 hfr hH _ => ?_)
    have hF : ∀ x9, x9 ≠ 63 → E_2 x9 = E x9 := fun x9 a0 => hfr x9 a0
    refine lv_aload_n hx hb dX9_back_25 rfl (lv_at hl 0 rfl) ?_
    refine qh_get hx hb hH f_117 (by omega) h_63 rfl dX9_back_26 ?_
    exact hret dX9_back_29 hH (by rw [hD]; exact ⟨rfl, ⟨_, _, _, _, _, _, _, _, _, _, h_63, ((hF 64 (by decide)).trans b_64), ((hF 65 (by decide)).trans b_65), ((hF 66 (by decide)).trans b_66), ((hF 67 (by decide)).trans b_67), ((hF 68 (by decide)).trans b_68), ((hF 69 (by decide)).trans b_69), ((hF 70 (by decide)).trans b_70), ((hF 71 (by decide)).trans b_71), ((hF 72 (by decide)).trans b_72), ((hF 73 (by decide)).trans b_73), ((hF 74 (by decide)).trans b_74), ((hF 75 (by decide)).trans b_75), ((hF 76 (by decide)).trans b_76), ((hF 77 (by decide)).trans b_77), ((hF 78 (by decide)).trans b_78), ((hF 79 (by decide)).trans b_79), ((hF 80 (by decide)).trans b_80), ((hF 82 (by decide)).trans b_82), ((hF 83 (by decide)).trans b_83)⟩, (fun x9 h9 => hF x9 (by omega))⟩)
  · have c_9 := bI_eq.mp c_9
    have hD : bakD rn x = some (-2) := if_neg (fun q => c_9 ⟨q.1, Int32.not_lt.mpr q.2⟩)
    refine lv_bipush (v := (-2)) hx hb dX9_back_12 (by decide) ?_
    exact hret dX9_back_14 hH (by rw [hD]; exact ⟨rfl, ⟨_, _, _, _, _, _, _, _, _, _, b_63, b_64, b_65, b_66, b_67, b_68, b_69, b_70, b_71, b_72, b_73, b_74, b_75, b_76, b_77, b_78, b_79, b_80, b_82, b_83⟩, (fun _ _ => rfl)⟩)

set_option maxHeartbeats 1000000 in
set_option maxRecDepth 100000 in
theorem c_X9_as (l : Launch) (G : qh_G) (z M : Nat) (E : Nat → va_E) (tr : Int32) (lf : Int32) (n : Nat) (f : Nat → Int64) (g : Nat → Int64) (mb : Nat → Int64) (m2 : Nat) (kd : Nat → Int32) (pa : Nat → Int32) (ln : Nat) (ts : Nat → Int32) (ga : Nat → Nat) (gb : Nat → Nat) (va : Nat → Int64) (rn : Nat) (cn : Nat → Nat) (vs : Nat → Int64) (so : Nat → Int32) (sg : Nat → Int32) (ce : Nat → Int32) (hM : 84 ≤ M) (hX : ME G z E tr lf n f g mb m2 kd pa ln ts ga gb va rn cn vs so sg ce) (hW : MW n m2 ln rn ga gb cn ts va kd so sg) (x : Int32) (y : Int32) : Met l yX9_as wsX9_as (qh_R 1) (qh_Pre G z M E [.ref (z + 63), .int x, .int y]) (qh_Q G z M (qh_i (fun r E' => r = (asV m2 kd x y).1 ∧ ME G z E' tr ((asV m2 kd x y).2) n f g mb m2 kd pa ln ts ga gb va rn cn vs so sg ce ∧ ∀ x9, (x9 < 63 ∨ x9 = 81) → E' x9 = E x9))) 0 0 (fun q => z ≤ q) := by
  refine qh_metI (cc := cX9_as) (maxL := 3) (by decide) rfl (Nat.le_of_ble_eq_true rfl) ?_
  intro pZ eZ sZ mZ aZ bZ tZ cZ RR QQ ls hx hb hml hown hts hRf hRl hH hK hl hret
  have hown : sZ.vm.findClass RX9 = some mZ.cls := hown
  have hl : lv_has ls 3 [(0, .ref (z + 63)), (1, .int x), (2, .int y)] := hl
  obtain ⟨pt, rm, rh, sf, sl, r1, r2, r3, k1, k2, b_63, b_64, b_65, b_66, b_67, b_68, b_69, b_70, b_71, b_72, b_73, b_74, b_75, b_76, b_77, b_78, b_79, b_80, b_82, b_83⟩ := hX
  obtain ⟨⟨hn16, hm3, hl24, hr8⟩, hval, hcn, hok, hvh, hkd, hso⟩ := hW
  have in_X9 : ∀ w ∈ wsX90, w ∈ wsX9_as := fun w h => List.mem_cons_of_mem _ (List.mem_append_right _ h)
  have w_71 : qh_W G sZ mZ aZ 71 9 0 .int := qh_W.of hts in_X9 tyX9 tyX9_ok nmX9 hown hK rfl 0 (by decide) (by decide +kernel) rfl (by decide +kernel)
  have f_29 : qh_F G sZ mZ aZ 29 9 10 := qh_F.of hts in_X9 hown hK rfl 10 (by decide) (by decide +kernel)
  refine lv_aload_n hx hb dX9_as_0 rfl (lv_at hl 0 rfl) ?_
  refine lv_iconst (v := 0) hx hb dX9_as_1 (by decide) ?_
  refine qh_put (fs' := [.int 0, .int tr, .ref (z + 64), .ref (z + 65), .ref (z + 66), .int (nI n), .int (nI m2), .ref (z + 67), .ref (z + 68), .ref (z + 69), .ref (z + 70), .ref (z + 71), .int (nI ln), .ref (z + 72), .ref (z + 73), .ref (z + 74), .ref (z + 75), .int pt, .int rm, .int rh, .ref (z + 76), .ref (z + 77), .ref (z + 78), .ref (z + 79), .ref (z + 80), .int sf, .int sl, .ref (z + 81), .int (nI rn), .ref (z + 82), .ref (z + 83)]) hx hb hH w_71 (by omega) b_63 rfl rfl (Nat.le_of_ble_eq_true rfl) rfl dX9_as_2 (fun E_1 H locs h_63 hfr hH _ => ?_)
  have hF : ∀ x9, x9 ≠ 63 → E_1 x9 = E x9 := fun x9 a0 => hfr x9 a0
  refine lv_aload_n hx hb dX9_as_5 rfl (lv_at hl 0 rfl) ?_
  refine lv_iload_n hx hb dX9_as_6 rfl (lv_at hl 1 rfl) ?_
  refine qh_runV (As := [.int x]) (rest := []) (C := RX9) ⟨hx, hb, hml, hown, hts⟩ hK hH (c_X9_isHelper l G z M E_1 0 tr n m2 ln pt rm rh sf sl rn (hM) h_63 x) (cwV 1 hts gX9_as_X9_isHelper rfl rfl rfl (by decide +kernel) (by rw [hRf, hRl]; exact ⟨Nat.le_of_ble_eq_true rfl, Nat.le_of_ble_eq_true rfl⟩)) (by omega) h_63 rfl rfl hl.1 rfl (Nat.le_of_ble_eq_true rfl) dX9_as_7 ⟨Nat.zero_le _, Nat.zero_le _⟩ (qh_kki fun r_7 E_2 H locs hpost hH => ?_)
  obtain ⟨rfl, rfl⟩ := hpost
  refine lv_if_ne (tgt := 15) hx hb dX9_as_10 (by decide) (fun c_10 => ?_) (fun c_10 => ?_)
  · have c_10 := bI_ne.mp c_10
    obtain ⟨t, ht, et⟩ := nI_of_in (by omega) c_10
    have ec : x.toNatClampNeg = t := by rw [et]; exact nI_clamp (by omega)
    refine lv_iload_n hx hb dX9_as_15 rfl (lv_at hl 2 rfl) ?_
    refine lv_iconst (v := 0) hx hb dX9_as_16 (by decide) ?_
    refine lv_iconst (v := 2) hx hb dX9_as_17 (by decide) ?_
    refine qh_runS (As := [.int y, .int 0, .int 2]) (rest := []) ⟨hx, hb, hml, hown, hts⟩ hK hH (c_X9_within l G z M E_1 y 0 2) (va_cwS 3 hts gX9_as_X9_within rfl rfl rfl (by decide +kernel) (by rw [hRf, hRl]; exact ⟨Nat.le_of_ble_eq_true rfl, Nat.le_of_ble_eq_true rfl⟩)) rfl hl.1 rfl (Nat.le_of_ble_eq_true rfl) dX9_as_18 ⟨Nat.zero_le _, Nat.zero_le _⟩ (qh_kki fun r_18 E_3 H locs hpost hH => ?_)
    obtain ⟨rfl, rfl⟩ := hpost
    refine lv_if_ne (tgt := 27) hx hb dX9_as_21 (by decide) (fun c_21 => ?_) (fun c_21 => ?_)
    · have c_21 := bI_ne.mp c_21
      refine lv_aload_n hx hb dX9_as_27 rfl (lv_at hl 0 rfl) ?_
      refine qh_get hx hb hH f_29 (by omega) h_63 rfl dX9_as_28 ?_
      refine lv_iload_n hx hb dX9_as_31 rfl (lv_at hl 1 rfl) ?_
      refine qh_iald hx hb hK hH (by omega) ((hF 70 (by decide)).trans b_70) (j := t) (et) (by omega) (by omega) dX9_as_32 ?_
      refine lv_iload_n hx hb dX9_as_33 rfl (lv_at hl 2 rfl) ?_
      refine lv_icmp_lt (tgt := 41) hx hb dX9_as_34 (by decide) (fun c_34 => ?_) (fun c_34 => ?_)
      · have hD : asV m2 kd x y = (-10 - 2, 2) := by rw [asV, if_pos c_10, if_pos ⟨c_21.1, Int32.not_lt.mp c_21.2⟩, ec, if_neg (Int32.not_le.mpr c_34)]
        refine lv_aload_n hx hb dX9_as_41 rfl (lv_at hl 0 rfl) ?_
        refine lv_iconst (v := 2) hx hb dX9_as_42 (by decide) ?_
        refine qh_runV (As := [.int 2]) (rest := []) (C := RX9) ⟨hx, hb, hml, hown, hts⟩ hK hH (c_X9_fails l G z M E_1 0 tr n m2 ln pt rm rh sf sl rn (hM) h_63 2) (cwV 1 hts gX9_as_X9_fails rfl rfl rfl (by decide +kernel) (by rw [hRf, hRl]; exact ⟨Nat.le_of_ble_eq_true rfl, Nat.le_of_ble_eq_true rfl⟩)) (by omega) h_63 rfl rfl hl.1 rfl (Nat.le_of_ble_eq_true rfl) dX9_as_43 ⟨Nat.zero_le _, Nat.zero_le _⟩ (qh_kki fun r_43 E_4 H locs hpost hH => ?_)
        obtain ⟨rfl, h_63, hfr⟩ := hpost
        have hF : ∀ x9, x9 ≠ 63 → E_4 x9 = E x9 := fun x9 a0 => (hfr x9 a0).trans (hF x9 a0)
        exact hret dX9_as_46 hH (by rw [hD]; exact ⟨rfl, ⟨_, _, _, _, _, _, _, _, _, _, h_63, ((hF 64 (by decide)).trans b_64), ((hF 65 (by decide)).trans b_65), ((hF 66 (by decide)).trans b_66), ((hF 67 (by decide)).trans b_67), ((hF 68 (by decide)).trans b_68), ((hF 69 (by decide)).trans b_69), ((hF 70 (by decide)).trans b_70), ((hF 71 (by decide)).trans b_71), ((hF 72 (by decide)).trans b_72), ((hF 73 (by decide)).trans b_73), ((hF 74 (by decide)).trans b_74), ((hF 75 (by decide)).trans b_75), ((hF 76 (by decide)).trans b_76), ((hF 77 (by decide)).trans b_77), ((hF 78 (by decide)).trans b_78), ((hF 79 (by decide)).trans b_79), ((hF 80 (by decide)).trans b_80), ((hF 82 (by decide)).trans b_82), ((hF 83 (by decide)).trans b_83)⟩, (fun x9 h9 => hF x9 (by omega))⟩)
      · have hD : asV m2 kd x y = (1, 0) := by rw [asV, if_pos c_10, if_pos ⟨c_21.1, Int32.not_lt.mp c_21.2⟩, ec, if_pos (Int32.not_lt.mp c_34)]
        refine lv_iconst (v := 1) hx hb dX9_as_37 (by decide) ?_
        refine lv_goto (tgt := 46) hx hb dX9_as_38 (by decide) ?_
        exact hret dX9_as_46 hH (by rw [hD]; exact ⟨rfl, ⟨_, _, _, _, _, _, _, _, _, _, h_63, ((hF 64 (by decide)).trans b_64), ((hF 65 (by decide)).trans b_65), ((hF 66 (by decide)).trans b_66), ((hF 67 (by decide)).trans b_67), ((hF 68 (by decide)).trans b_68), ((hF 69 (by decide)).trans b_69), ((hF 70 (by decide)).trans b_70), ((hF 71 (by decide)).trans b_71), ((hF 72 (by decide)).trans b_72), ((hF 73 (by decide)).trans b_73), ((hF 74 (by decide)).trans b_74), ((hF 75 (by decide)).trans b_75), ((hF 76 (by decide)).trans b_76), ((hF 77 (by decide)).trans b_77), ((hF 78 (by decide)).trans b_78), ((hF 79 (by decide)).trans b_79), ((hF 80 (by decide)).trans b_80), ((hF 82 (by decide)).trans b_82), ((hF 83 (by decide)).trans b_83)⟩, (fun x9 h9 => hF x9 (by omega))⟩)
    · have c_21 := bI_eq.mp c_21
      have hD : asV m2 kd x y = (-2, 0) := by rw [asV, if_pos c_10, if_neg (fun w => c_21 ⟨w.1, Int32.not_lt.mpr w.2⟩)]
      refine lv_bipush (v := (-2)) hx hb dX9_as_24 (by decide) ?_
      exact hret dX9_as_26 hH (by rw [hD]; exact ⟨rfl, ⟨_, _, _, _, _, _, _, _, _, _, h_63, ((hF 64 (by decide)).trans b_64), ((hF 65 (by decide)).trans b_65), ((hF 66 (by decide)).trans b_66), ((hF 67 (by decide)).trans b_67), ((hF 68 (by decide)).trans b_68), ((hF 69 (by decide)).trans b_69), ((hF 70 (by decide)).trans b_70), ((hF 71 (by decide)).trans b_71), ((hF 72 (by decide)).trans b_72), ((hF 73 (by decide)).trans b_73), ((hF 74 (by decide)).trans b_74), ((hF 75 (by decide)).trans b_75), ((hF 76 (by decide)).trans b_76), ((hF 77 (by decide)).trans b_77), ((hF 78 (by decide)).trans b_78), ((hF 79 (by decide)).trans b_79), ((hF 80 (by decide)).trans b_80), ((hF 82 (by decide)).trans b_82), ((hF 83 (by decide)).trans b_83)⟩, (fun x9 h9 => hF x9 (by omega))⟩)
  · have c_10 := bI_eq.mp c_10
    have hD : asV m2 kd x y = (-1, 0) := by rw [asV, if_neg c_10]
    refine lv_iconst (v := (-1)) hx hb dX9_as_13 (by decide) ?_
    exact hret dX9_as_14 hH (by rw [hD]; exact ⟨rfl, ⟨_, _, _, _, _, _, _, _, _, _, h_63, ((hF 64 (by decide)).trans b_64), ((hF 65 (by decide)).trans b_65), ((hF 66 (by decide)).trans b_66), ((hF 67 (by decide)).trans b_67), ((hF 68 (by decide)).trans b_68), ((hF 69 (by decide)).trans b_69), ((hF 70 (by decide)).trans b_70), ((hF 71 (by decide)).trans b_71), ((hF 72 (by decide)).trans b_72), ((hF 73 (by decide)).trans b_73), ((hF 74 (by decide)).trans b_74), ((hF 75 (by decide)).trans b_75), ((hF 76 (by decide)).trans b_76), ((hF 77 (by decide)).trans b_77), ((hF 78 (by decide)).trans b_78), ((hF 79 (by decide)).trans b_79), ((hF 80 (by decide)).trans b_80), ((hF 82 (by decide)).trans b_82), ((hF 83 (by decide)).trans b_83)⟩, (fun x9 h9 => hF x9 (by omega))⟩)

set_option maxHeartbeats 1000000 in
set_option maxRecDepth 100000 in
theorem c_X9_cheer (l : Launch) (G : qh_G) (z M : Nat) (E : Nat → va_E) (tr : Int32) (lf : Int32) (n : Nat) (f : Nat → Int64) (g : Nat → Int64) (mb : Nat → Int64) (m2 : Nat) (kd : Nat → Int32) (pa : Nat → Int32) (ln : Nat) (ts : Nat → Int32) (ga : Nat → Nat) (gb : Nat → Nat) (va : Nat → Int64) (rn : Nat) (cn : Nat → Nat) (vs : Nat → Int64) (so : Nat → Int32) (sg : Nat → Int32) (ce : Nat → Int32) (hM : 84 ≤ M) (hX : ME G z E tr lf n f g mb m2 kd pa ln ts ga gb va rn cn vs so sg ce) (hW : MW n m2 ln rn ga gb cn ts va kd so sg) (x : Int32) : Met l yX9_cheer wsX9_cheer (qh_R 1) (qh_Pre G z M E [.ref (z + 63), .int x]) (qh_Q G z M (qh_i (fun r E' => r = (cheV m2 kd tr x).1 ∧ ME G z E' ((cheV m2 kd tr x).2) lf n f g mb m2 kd pa ln ts ga gb va rn cn vs so sg ce ∧ ∀ x9, (x9 < 63 ∨ x9 = 81) → E' x9 = E x9))) 0 0 (fun q => z ≤ q) := by
  refine qh_metI (cc := cX9_cheer) (maxL := 2) (by decide) rfl (Nat.le_of_ble_eq_true rfl) ?_
  intro pZ eZ sZ mZ aZ bZ tZ cZ RR QQ ls hx hb hml hown hts hRf hRl hH hK hl hret
  have hown : sZ.vm.findClass RX9 = some mZ.cls := hown
  have hl : lv_has ls 2 [(0, .ref (z + 63)), (1, .int x)] := hl
  obtain ⟨pt, rm, rh, sf, sl, r1, r2, r3, k1, k2, b_63, b_64, b_65, b_66, b_67, b_68, b_69, b_70, b_71, b_72, b_73, b_74, b_75, b_76, b_77, b_78, b_79, b_80, b_82, b_83⟩ := hX
  obtain ⟨⟨hn16, hm3, hl24, hr8⟩, hval, hcn, hok, hvh, hkd, hso⟩ := hW
  have in_X9 : ∀ w ∈ wsX90, w ∈ wsX9_cheer := fun w h => List.mem_cons_of_mem _ (List.mem_append_right _ h)
  have f_29 : qh_F G sZ mZ aZ 29 9 10 := qh_F.of hts in_X9 hown hK rfl 10 (by decide) (by decide +kernel)
  refine lv_aload_n hx hb dX9_cheer_0 rfl (lv_at hl 0 rfl) ?_
  refine lv_iload_n hx hb dX9_cheer_1 rfl (lv_at hl 1 rfl) ?_
  refine qh_runV (As := [.int x]) (rest := []) (C := RX9) ⟨hx, hb, hml, hown, hts⟩ hK hH (c_X9_isHelper l G z M E lf tr n m2 ln pt rm rh sf sl rn (hM) b_63 x) (cwV 1 hts gX9_cheer_X9_isHelper rfl rfl rfl (by decide +kernel) (by rw [hRf, hRl]; exact ⟨Nat.le_of_ble_eq_true rfl, Nat.le_of_ble_eq_true rfl⟩)) (by omega) b_63 rfl rfl hl.1 rfl (Nat.le_of_ble_eq_true rfl) dX9_cheer_2 ⟨Nat.zero_le _, Nat.zero_le _⟩ (qh_kki fun r_2 E_1 H locs hpost hH => ?_)
  obtain ⟨rfl, rfl⟩ := hpost
  refine lv_if_ne (tgt := 10) hx hb dX9_cheer_5 (by decide) (fun c_5 => ?_) (fun c_5 => ?_)
  · have c_5 := bI_ne.mp c_5
    obtain ⟨t, ht, et⟩ := nI_of_in (by omega) c_5
    have ec : x.toNatClampNeg = t := by rw [et]; exact nI_clamp (by omega)
    refine lv_aload_n hx hb dX9_cheer_10 rfl (lv_at hl 0 rfl) ?_
    refine lv_aload_n hx hb dX9_cheer_11 rfl (lv_at hl 0 rfl) ?_
    refine qh_get hx hb hH f_29 (by omega) b_63 rfl dX9_cheer_12 ?_
    refine lv_iload_n hx hb dX9_cheer_15 rfl (lv_at hl 1 rfl) ?_
    refine qh_iald hx hb hK hH (by omega) b_70 (j := t) (et) (by omega) (by omega) dX9_cheer_16 ?_
    refine lv_iconst (v := 2) hx hb dX9_cheer_17 (by decide) ?_
    refine lv_icmp_ne (tgt := 25) hx hb dX9_cheer_18 (by decide) (fun c_18 => ?_) (fun c_18 => ?_)
    · have hD : cheV m2 kd tr x = (x, lvT tr 4) := by rw [cheV, if_pos c_5, ec, if_neg c_18]
      refine lv_iconst (v := 4) hx hb dX9_cheer_25 (by decide) ?_
      refine qh_runV (As := [.int 4]) (rest := []) (C := RX9) ⟨hx, hb, hml, hown, hts⟩ hK hH (c_X9_leaves l G z M E lf tr n m2 ln pt rm rh sf sl rn (hM) b_63 4) (cwV 1 hts gX9_cheer_X9_leaves rfl rfl rfl (by decide +kernel) (by rw [hRf, hRl]; exact ⟨Nat.le_of_ble_eq_true rfl, Nat.le_of_ble_eq_true rfl⟩)) (by omega) b_63 rfl rfl hl.1 rfl (Nat.le_of_ble_eq_true rfl) dX9_cheer_26 ⟨Nat.zero_le _, Nat.zero_le _⟩ (qh_kkv fun E_2 H locs hpost hH => ?_)
      obtain ⟨h_63, hfr⟩ := hpost
      have hF : ∀ x9, x9 ≠ 63 → E_2 x9 = E x9 := fun x9 a0 => hfr x9 a0
      refine lv_aload_n hx hb dX9_cheer_29 rfl (lv_at hl 0 rfl) ?_
      refine qh_get hx hb hH f_29 (by omega) h_63 rfl dX9_cheer_30 ?_
      refine lv_iload_n hx hb dX9_cheer_33 rfl (lv_at hl 1 rfl) ?_
      refine qh_iald hx hb hK hH (by omega) ((hF 70 (by decide)).trans b_70) (j := t) (et) (by omega) (by omega) dX9_cheer_34 ?_
      refine lv_iconst (v := 2) hx hb dX9_cheer_35 (by decide) ?_
      refine lv_icmp_ne (tgt := 44) hx hb dX9_cheer_36 (by decide) (fun c_36 => ?_) (fun c_36 => ?_)
      · refine lv_iload_n hx hb dX9_cheer_44 rfl (lv_at hl 1 rfl) ?_
        exact hret dX9_cheer_45 hH (by rw [hD]; exact ⟨rfl, ⟨_, _, _, _, _, _, _, _, _, _, h_63, ((hF 64 (by decide)).trans b_64), ((hF 65 (by decide)).trans b_65), ((hF 66 (by decide)).trans b_66), ((hF 67 (by decide)).trans b_67), ((hF 68 (by decide)).trans b_68), ((hF 69 (by decide)).trans b_69), ((hF 70 (by decide)).trans b_70), ((hF 71 (by decide)).trans b_71), ((hF 72 (by decide)).trans b_72), ((hF 73 (by decide)).trans b_73), ((hF 74 (by decide)).trans b_74), ((hF 75 (by decide)).trans b_75), ((hF 76 (by decide)).trans b_76), ((hF 77 (by decide)).trans b_77), ((hF 78 (by decide)).trans b_78), ((hF 79 (by decide)).trans b_79), ((hF 80 (by decide)).trans b_80), ((hF 82 (by decide)).trans b_82), ((hF 83 (by decide)).trans b_83)⟩, (fun x9 h9 => hF x9 (by omega))⟩)
      · exact absurd c_36 c_18
    · have hD : cheV m2 kd tr x = (60, lvT tr 5) := by rw [cheV, if_pos c_5, ec, if_pos c_18]
      refine lv_iconst (v := 5) hx hb dX9_cheer_21 (by decide) ?_
      refine lv_goto (tgt := 26) hx hb dX9_cheer_22 (by decide) ?_
      refine qh_runV (As := [.int 5]) (rest := []) (C := RX9) ⟨hx, hb, hml, hown, hts⟩ hK hH (c_X9_leaves l G z M E lf tr n m2 ln pt rm rh sf sl rn (hM) b_63 5) (cwV 1 hts gX9_cheer_X9_leaves rfl rfl rfl (by decide +kernel) (by rw [hRf, hRl]; exact ⟨Nat.le_of_ble_eq_true rfl, Nat.le_of_ble_eq_true rfl⟩)) (by omega) b_63 rfl rfl hl.1 rfl (Nat.le_of_ble_eq_true rfl) dX9_cheer_26 ⟨Nat.zero_le _, Nat.zero_le _⟩ (qh_kkv fun E_3 H locs hpost hH => ?_)
      obtain ⟨h_63, hfr⟩ := hpost
      have hF : ∀ x9, x9 ≠ 63 → E_3 x9 = E x9 := fun x9 a0 => hfr x9 a0
      refine lv_aload_n hx hb dX9_cheer_29 rfl (lv_at hl 0 rfl) ?_
      refine qh_get hx hb hH f_29 (by omega) h_63 rfl dX9_cheer_30 ?_
      refine lv_iload_n hx hb dX9_cheer_33 rfl (lv_at hl 1 rfl) ?_
      refine qh_iald hx hb hK hH (by omega) ((hF 70 (by decide)).trans b_70) (j := t) (et) (by omega) (by omega) dX9_cheer_34 ?_
      refine lv_iconst (v := 2) hx hb dX9_cheer_35 (by decide) ?_
      refine lv_icmp_ne (tgt := 44) hx hb dX9_cheer_36 (by decide) (fun c_36 => ?_) (fun c_36 => ?_)
      · exact absurd c_18 c_36
      · refine lv_bipush (v := 60) hx hb dX9_cheer_39 (by decide) ?_
        refine lv_goto (tgt := 45) hx hb dX9_cheer_41 (by decide) ?_
        exact hret dX9_cheer_45 hH (by rw [hD]; exact ⟨rfl, ⟨_, _, _, _, _, _, _, _, _, _, h_63, ((hF 64 (by decide)).trans b_64), ((hF 65 (by decide)).trans b_65), ((hF 66 (by decide)).trans b_66), ((hF 67 (by decide)).trans b_67), ((hF 68 (by decide)).trans b_68), ((hF 69 (by decide)).trans b_69), ((hF 70 (by decide)).trans b_70), ((hF 71 (by decide)).trans b_71), ((hF 72 (by decide)).trans b_72), ((hF 73 (by decide)).trans b_73), ((hF 74 (by decide)).trans b_74), ((hF 75 (by decide)).trans b_75), ((hF 76 (by decide)).trans b_76), ((hF 77 (by decide)).trans b_77), ((hF 78 (by decide)).trans b_78), ((hF 79 (by decide)).trans b_79), ((hF 80 (by decide)).trans b_80), ((hF 82 (by decide)).trans b_82), ((hF 83 (by decide)).trans b_83)⟩, (fun x9 h9 => hF x9 (by omega))⟩)
  · have c_5 := bI_eq.mp c_5
    have hD : cheV m2 kd tr x = (-1, tr) := by rw [cheV, if_neg c_5]
    refine lv_iconst (v := (-1)) hx hb dX9_cheer_8 (by decide) ?_
    exact hret dX9_cheer_9 hH (by rw [hD]; exact ⟨rfl, ⟨_, _, _, _, _, _, _, _, _, _, b_63, b_64, b_65, b_66, b_67, b_68, b_69, b_70, b_71, b_72, b_73, b_74, b_75, b_76, b_77, b_78, b_79, b_80, b_82, b_83⟩, (fun _ _ => rfl)⟩)

set_option maxHeartbeats 1000000 in
set_option maxRecDepth 100000 in
theorem c_X9_tell (l : Launch) (G : qh_G) (z M : Nat) (E : Nat → va_E) (tr : Int32) (lf : Int32) (n : Nat) (f : Nat → Int64) (g : Nat → Int64) (mb : Nat → Int64) (m2 : Nat) (kd : Nat → Int32) (pa : Nat → Int32) (ln : Nat) (ts : Nat → Int32) (ga : Nat → Nat) (gb : Nat → Nat) (va : Nat → Int64) (rn : Nat) (cn : Nat → Nat) (vs : Nat → Int64) (so : Nat → Int32) (sg : Nat → Int32) (ce : Nat → Int32) (hM : 84 ≤ M) (hX : ME G z E tr lf n f g mb m2 kd pa ln ts ga gb va rn cn vs so sg ce) (hW : MW n m2 ln rn ga gb cn ts va kd so sg) (x : Int32) : Met l yX9_tell wsX9_tell (qh_R 1) (qh_Pre G z M E [.ref (z + 63), .int x]) (qh_Q G z M (qh_i (fun r E' => r = (telV m2 kd pa tr x).1 ∧ ME G z E' ((telV m2 kd pa tr x).2) lf n f g mb m2 kd pa ln ts ga gb va rn cn vs so sg ce ∧ ∀ x9, (x9 < 63 ∨ x9 = 81) → E' x9 = E x9))) 0 0 (fun q => z ≤ q) := by
  refine qh_metI (cc := cX9_tell) (maxL := 3) (by decide) rfl (Nat.le_of_ble_eq_true rfl) ?_
  intro pZ eZ sZ mZ aZ bZ tZ cZ RR QQ ls hx hb hml hown hts hRf hRl hH hK hl hret
  have hown : sZ.vm.findClass RX9 = some mZ.cls := hown
  have hl : lv_has ls 3 [(0, .ref (z + 63)), (1, .int x)] := hl
  obtain ⟨pt, rm, rh, sf, sl, r1, r2, r3, k1, k2, b_63, b_64, b_65, b_66, b_67, b_68, b_69, b_70, b_71, b_72, b_73, b_74, b_75, b_76, b_77, b_78, b_79, b_80, b_82, b_83⟩ := hX
  obtain ⟨⟨hn16, hm3, hl24, hr8⟩, hval, hcn, hok, hvh, hkd, hso⟩ := hW
  have in_X9 : ∀ w ∈ wsX90, w ∈ wsX9_tell := fun w h => List.mem_cons_of_mem _ (List.mem_append_right _ h)
  have f_32 : qh_F G sZ mZ aZ 32 9 11 := qh_F.of hts in_X9 hown hK rfl 11 (by decide) (by decide +kernel)
  have f_29 : qh_F G sZ mZ aZ 29 9 10 := qh_F.of hts in_X9 hown hK rfl 10 (by decide) (by decide +kernel)
  refine lv_aload_n hx hb dX9_tell_0 rfl (lv_at hl 0 rfl) ?_
  refine lv_iload_n hx hb dX9_tell_1 rfl (lv_at hl 1 rfl) ?_
  refine qh_runV (As := [.int x]) (rest := []) (C := RX9) ⟨hx, hb, hml, hown, hts⟩ hK hH (c_X9_isHelper l G z M E lf tr n m2 ln pt rm rh sf sl rn (hM) b_63 x) (cwV 1 hts gX9_tell_X9_isHelper rfl rfl rfl (by decide +kernel) (by rw [hRf, hRl]; exact ⟨Nat.le_of_ble_eq_true rfl, Nat.le_of_ble_eq_true rfl⟩)) (by omega) b_63 rfl rfl hl.1 rfl (Nat.le_of_ble_eq_true rfl) dX9_tell_2 ⟨Nat.zero_le _, Nat.zero_le _⟩ (qh_kki fun r_2 E_1 H locs hpost hH => ?_)
  obtain ⟨rfl, rfl⟩ := hpost
  refine lv_if_ne (tgt := 10) hx hb dX9_tell_5 (by decide) (fun c_5 => ?_) (fun c_5 => ?_)
  · have c_5 := bI_ne.mp c_5
    obtain ⟨t, ht, et⟩ := nI_of_in (by omega) c_5
    have ec : x.toNatClampNeg = t := by rw [et]; exact nI_clamp (by omega)
    refine lv_aload_n hx hb dX9_tell_10 rfl (lv_at hl 0 rfl) ?_
    refine qh_get hx hb hH f_32 (by omega) b_63 rfl dX9_tell_11 ?_
    refine lv_iload_n hx hb dX9_tell_14 rfl (lv_at hl 1 rfl) ?_
    refine qh_iald hx hb hK hH (by omega) b_71 (j := t) (et) (by omega) (by omega) dX9_tell_15 ?_
    refine lv_istore_n (lv' := [(2, .int (pa t)), (0, .ref (z + 63)), (1, .int x)]) hx hb dX9_tell_16 rfl hl (by decide) rfl (fun ls hl => ?_)
    refine lv_aload_n hx hb dX9_tell_17 rfl (lv_at hl 1 rfl) ?_
    refine qh_get hx hb hH f_29 (by omega) b_63 rfl dX9_tell_18 ?_
    refine lv_iload_n hx hb dX9_tell_21 rfl (lv_at hl 2 rfl) ?_
    refine qh_iald hx hb hK hH (by omega) b_70 (j := t) (et) (by omega) (by omega) dX9_tell_22 ?_
    by_cases c_23_1 : kd t = 1
    · refine lv_lookup (tgt := 48) (off := 25) hx hb dX9_tell_23 (by decide) (by rw [c_23_1] <;> decide) (by decide) ?_
      have hD : telV m2 kd pa tr x = (pa t + 100, lvT (lvT tr 2) 1) := by rw [telV, if_pos c_5, ec, if_pos c_23_1]
      refine lv_aload_n hx hb dX9_tell_48 rfl (lv_at hl 1 rfl) ?_
      refine lv_iconst (v := 2) hx hb dX9_tell_49 (by decide) ?_
      refine qh_runV (As := [.int 2]) (rest := []) (C := RX9) ⟨hx, hb, hml, hown, hts⟩ hK hH (c_X9_leaves l G z M E lf tr n m2 ln pt rm rh sf sl rn (hM) b_63 2) (cwV 1 hts gX9_tell_X9_leaves rfl rfl rfl (by decide +kernel) (by rw [hRf, hRl]; exact ⟨Nat.le_of_ble_eq_true rfl, Nat.le_of_ble_eq_true rfl⟩)) (by omega) b_63 rfl rfl hl.1 rfl (Nat.le_of_ble_eq_true rfl) dX9_tell_50 ⟨Nat.zero_le _, Nat.zero_le _⟩ (qh_kkv fun E_2 H locs hpost hH => ?_)
      obtain ⟨h_63, hfr⟩ := hpost
      have hF : ∀ x9, x9 ≠ 63 → E_2 x9 = E x9 := fun x9 a0 => hfr x9 a0
      refine lv_aload_n hx hb dX9_tell_53 rfl (lv_at hl 1 rfl) ?_
      refine lv_iconst (v := 1) hx hb dX9_tell_54 (by decide) ?_
      refine qh_runV (As := [.int 1]) (rest := []) (C := RX9) ⟨hx, hb, hml, hown, hts⟩ hK hH (c_X9_leaves l G z M E_2 lf (lvT tr 2) n m2 ln pt rm rh sf sl rn (hM) h_63 1) (cwV 1 hts gX9_tell_X9_leaves rfl rfl rfl (by decide +kernel) (by rw [hRf, hRl]; exact ⟨Nat.le_of_ble_eq_true rfl, Nat.le_of_ble_eq_true rfl⟩)) (by omega) h_63 rfl rfl hl.1 rfl (Nat.le_of_ble_eq_true rfl) dX9_tell_55 ⟨Nat.zero_le _, Nat.zero_le _⟩ (qh_kkv fun E_3 H locs hpost hH => ?_)
      obtain ⟨h_63, hfr⟩ := hpost
      have hF : ∀ x9, x9 ≠ 63 → E_3 x9 = E x9 := fun x9 a0 => (hfr x9 a0).trans (hF x9 a0)
      refine lv_iload_n hx hb dX9_tell_58 rfl (lv_at hl 0 rfl) ?_
      refine lv_bipush (v := 100) hx hb dX9_tell_59 (by decide) ?_
      refine lv_iadd hx hb dX9_tell_61 ?_
      exact hret dX9_tell_62 hH (by rw [hD]; exact ⟨rfl, ⟨_, _, _, _, _, _, _, _, _, _, h_63, ((hF 64 (by decide)).trans b_64), ((hF 65 (by decide)).trans b_65), ((hF 66 (by decide)).trans b_66), ((hF 67 (by decide)).trans b_67), ((hF 68 (by decide)).trans b_68), ((hF 69 (by decide)).trans b_69), ((hF 70 (by decide)).trans b_70), ((hF 71 (by decide)).trans b_71), ((hF 72 (by decide)).trans b_72), ((hF 73 (by decide)).trans b_73), ((hF 74 (by decide)).trans b_74), ((hF 75 (by decide)).trans b_75), ((hF 76 (by decide)).trans b_76), ((hF 77 (by decide)).trans b_77), ((hF 78 (by decide)).trans b_78), ((hF 79 (by decide)).trans b_79), ((hF 80 (by decide)).trans b_80), ((hF 82 (by decide)).trans b_82), ((hF 83 (by decide)).trans b_83)⟩, (fun x9 h9 => hF x9 (by omega))⟩)
    by_cases c_23_2 : kd t = 2
    · refine lv_lookup (tgt := 63) (off := 40) hx hb dX9_tell_23 (by decide) (by rw [c_23_2] <;> decide) (by decide) ?_
      have hD : telV m2 kd pa tr x = (pa t + 100 + pa t, lvT (lvT (lvT (lvT tr 3) 2) 1) 1) := by rw [telV, if_pos c_5, ec, if_neg c_23_1, if_pos c_23_2]
      refine lv_aload_n hx hb dX9_tell_63 rfl (lv_at hl 1 rfl) ?_
      refine lv_iconst (v := 3) hx hb dX9_tell_64 (by decide) ?_
      refine qh_runV (As := [.int 3]) (rest := []) (C := RX9) ⟨hx, hb, hml, hown, hts⟩ hK hH (c_X9_leaves l G z M E lf tr n m2 ln pt rm rh sf sl rn (hM) b_63 3) (cwV 1 hts gX9_tell_X9_leaves rfl rfl rfl (by decide +kernel) (by rw [hRf, hRl]; exact ⟨Nat.le_of_ble_eq_true rfl, Nat.le_of_ble_eq_true rfl⟩)) (by omega) b_63 rfl rfl hl.1 rfl (Nat.le_of_ble_eq_true rfl) dX9_tell_65 ⟨Nat.zero_le _, Nat.zero_le _⟩ (qh_kkv fun E_4 H locs hpost hH => ?_)
      obtain ⟨h_63, hfr⟩ := hpost
      have hF : ∀ x9, x9 ≠ 63 → E_4 x9 = E x9 := fun x9 a0 => hfr x9 a0
      refine lv_aload_n hx hb dX9_tell_68 rfl (lv_at hl 1 rfl) ?_
      refine lv_iconst (v := 2) hx hb dX9_tell_69 (by decide) ?_
      refine qh_runV (As := [.int 2]) (rest := []) (C := RX9) ⟨hx, hb, hml, hown, hts⟩ hK hH (c_X9_leaves l G z M E_4 lf (lvT tr 3) n m2 ln pt rm rh sf sl rn (hM) h_63 2) (cwV 1 hts gX9_tell_X9_leaves rfl rfl rfl (by decide +kernel) (by rw [hRf, hRl]; exact ⟨Nat.le_of_ble_eq_true rfl, Nat.le_of_ble_eq_true rfl⟩)) (by omega) h_63 rfl rfl hl.1 rfl (Nat.le_of_ble_eq_true rfl) dX9_tell_70 ⟨Nat.zero_le _, Nat.zero_le _⟩ (qh_kkv fun E_5 H locs hpost hH => ?_)
      obtain ⟨h_63, hfr⟩ := hpost
      have hF : ∀ x9, x9 ≠ 63 → E_5 x9 = E x9 := fun x9 a0 => (hfr x9 a0).trans (hF x9 a0)
      refine lv_aload_n hx hb dX9_tell_73 rfl (lv_at hl 1 rfl) ?_
      refine lv_iconst (v := 1) hx hb dX9_tell_74 (by decide) ?_
      refine qh_runV (As := [.int 1]) (rest := []) (C := RX9) ⟨hx, hb, hml, hown, hts⟩ hK hH (c_X9_leaves l G z M E_5 lf (lvT (lvT tr 3) 2) n m2 ln pt rm rh sf sl rn (hM) h_63 1) (cwV 1 hts gX9_tell_X9_leaves rfl rfl rfl (by decide +kernel) (by rw [hRf, hRl]; exact ⟨Nat.le_of_ble_eq_true rfl, Nat.le_of_ble_eq_true rfl⟩)) (by omega) h_63 rfl rfl hl.1 rfl (Nat.le_of_ble_eq_true rfl) dX9_tell_75 ⟨Nat.zero_le _, Nat.zero_le _⟩ (qh_kkv fun E_6 H locs hpost hH => ?_)
      obtain ⟨h_63, hfr⟩ := hpost
      have hF : ∀ x9, x9 ≠ 63 → E_6 x9 = E x9 := fun x9 a0 => (hfr x9 a0).trans (hF x9 a0)
      refine lv_aload_n hx hb dX9_tell_78 rfl (lv_at hl 1 rfl) ?_
      refine lv_iconst (v := 1) hx hb dX9_tell_79 (by decide) ?_
      refine qh_runV (As := [.int 1]) (rest := []) (C := RX9) ⟨hx, hb, hml, hown, hts⟩ hK hH (c_X9_leaves l G z M E_6 lf (lvT (lvT (lvT tr 3) 2) 1) n m2 ln pt rm rh sf sl rn (hM) h_63 1) (cwV 1 hts gX9_tell_X9_leaves rfl rfl rfl (by decide +kernel) (by rw [hRf, hRl]; exact ⟨Nat.le_of_ble_eq_true rfl, Nat.le_of_ble_eq_true rfl⟩)) (by omega) h_63 rfl rfl hl.1 rfl (Nat.le_of_ble_eq_true rfl) dX9_tell_80 ⟨Nat.zero_le _, Nat.zero_le _⟩ (qh_kkv fun E_7 H locs hpost hH => ?_)
      obtain ⟨h_63, hfr⟩ := hpost
      have hF : ∀ x9, x9 ≠ 63 → E_7 x9 = E x9 := fun x9 a0 => (hfr x9 a0).trans (hF x9 a0)
      refine lv_iconst (v := 2) hx hb dX9_tell_83 (by decide) ?_
      refine lv_iload_n hx hb dX9_tell_84 rfl (lv_at hl 0 rfl) ?_
      refine lv_imul hx hb dX9_tell_85 ?_
      refine lv_bipush (v := 100) hx hb dX9_tell_86 (by decide) ?_
      refine lv_iadd hx hb dX9_tell_88 ?_
      refine qh_topi (y := pa t + 100 + pa t) (tw_add (pa t)) ?_
      exact hret dX9_tell_89 hH (by rw [hD]; exact ⟨rfl, ⟨_, _, _, _, _, _, _, _, _, _, h_63, ((hF 64 (by decide)).trans b_64), ((hF 65 (by decide)).trans b_65), ((hF 66 (by decide)).trans b_66), ((hF 67 (by decide)).trans b_67), ((hF 68 (by decide)).trans b_68), ((hF 69 (by decide)).trans b_69), ((hF 70 (by decide)).trans b_70), ((hF 71 (by decide)).trans b_71), ((hF 72 (by decide)).trans b_72), ((hF 73 (by decide)).trans b_73), ((hF 74 (by decide)).trans b_74), ((hF 75 (by decide)).trans b_75), ((hF 76 (by decide)).trans b_76), ((hF 77 (by decide)).trans b_77), ((hF 78 (by decide)).trans b_78), ((hF 79 (by decide)).trans b_79), ((hF 80 (by decide)).trans b_80), ((hF 82 (by decide)).trans b_82), ((hF 83 (by decide)).trans b_83)⟩, (fun x9 h9 => hF x9 (by omega))⟩)
    refine lv_lookup (tgt := 90) (off := 67) hx hb dX9_tell_23 (by decide) (by rw [lv_osw (k := 1) c_23_1 (by decide), lv_osw (k := 2) c_23_2 (by decide)] <;> rfl) (by decide) ?_
    have hD : telV m2 kd pa tr x = (pa t, lvT tr 1) := by rw [telV, if_pos c_5, ec, if_neg c_23_1, if_neg c_23_2]
    refine lv_aload_n hx hb dX9_tell_90 rfl (lv_at hl 1 rfl) ?_
    refine lv_iconst (v := 1) hx hb dX9_tell_91 (by decide) ?_
    refine qh_runV (As := [.int 1]) (rest := []) (C := RX9) ⟨hx, hb, hml, hown, hts⟩ hK hH (c_X9_leaves l G z M E lf tr n m2 ln pt rm rh sf sl rn (hM) b_63 1) (cwV 1 hts gX9_tell_X9_leaves rfl rfl rfl (by decide +kernel) (by rw [hRf, hRl]; exact ⟨Nat.le_of_ble_eq_true rfl, Nat.le_of_ble_eq_true rfl⟩)) (by omega) b_63 rfl rfl hl.1 rfl (Nat.le_of_ble_eq_true rfl) dX9_tell_92 ⟨Nat.zero_le _, Nat.zero_le _⟩ (qh_kkv fun E_8 H locs hpost hH => ?_)
    obtain ⟨h_63, hfr⟩ := hpost
    have hF : ∀ x9, x9 ≠ 63 → E_8 x9 = E x9 := fun x9 a0 => hfr x9 a0
    refine lv_iload_n hx hb dX9_tell_95 rfl (lv_at hl 0 rfl) ?_
    exact hret dX9_tell_96 hH (by rw [hD]; exact ⟨rfl, ⟨_, _, _, _, _, _, _, _, _, _, h_63, ((hF 64 (by decide)).trans b_64), ((hF 65 (by decide)).trans b_65), ((hF 66 (by decide)).trans b_66), ((hF 67 (by decide)).trans b_67), ((hF 68 (by decide)).trans b_68), ((hF 69 (by decide)).trans b_69), ((hF 70 (by decide)).trans b_70), ((hF 71 (by decide)).trans b_71), ((hF 72 (by decide)).trans b_72), ((hF 73 (by decide)).trans b_73), ((hF 74 (by decide)).trans b_74), ((hF 75 (by decide)).trans b_75), ((hF 76 (by decide)).trans b_76), ((hF 77 (by decide)).trans b_77), ((hF 78 (by decide)).trans b_78), ((hF 79 (by decide)).trans b_79), ((hF 80 (by decide)).trans b_80), ((hF 82 (by decide)).trans b_82), ((hF 83 (by decide)).trans b_83)⟩, (fun x9 h9 => hF x9 (by omega))⟩)
  · have c_5 := bI_eq.mp c_5
    have hD : telV m2 kd pa tr x = (-1, tr) := by rw [telV, if_neg c_5]
    refine lv_iconst (v := (-1)) hx hb dX9_tell_8 (by decide) ?_
    exact hret dX9_tell_9 hH (by rw [hD]; exact ⟨rfl, ⟨_, _, _, _, _, _, _, _, _, _, b_63, b_64, b_65, b_66, b_67, b_68, b_69, b_70, b_71, b_72, b_73, b_74, b_75, b_76, b_77, b_78, b_79, b_80, b_82, b_83⟩, (fun _ _ => rfl)⟩)
