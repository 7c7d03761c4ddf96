theorem sp_lo : ∀ n, n < 17 → ∀ s, s < 32 → spN n (32 + s) = none := by decide +kernel
theorem sp_big {n : Nat} (hn : n ≤ 16) : ∀ (fu s : Nat), s < fu → 32 ≤ s → s < 2 ^ 31 → spN n s = none
  | 0, s, h, _, _ => absurd h (Nat.not_lt_zero s)
  | fu + 1, s, h, h1, h2 => by
    by_cases w : s < 64
    · have := sp_lo n (by omega) (s - 32) (by omega)
      rw [show 32 + (s - 32) = s by omega] at this
      exact this
    · rw [sp_rec (by omega) h2, sp_big hn fu (s / 2) (by omega) (by omega) (by omega)]
      rfl
theorem spM_nI {n q : Nat} (h1 : 1 ≤ q) (hq : q < 2 ^ 31) : spM n (nI q) = spN n q := by
  have h : ¬ nI q < 1 := nI_nlt (b := 1) h1 hq
  rw [spM, if_neg h, nI_clamp hq]
theorem spM_bd {n u w : Nat} {x : Int32} (hn : n ≤ 16) (h : spM n x = some (u, w)) : u ≤ w ∧ w < 16 := by
  unfold spM at h
  by_cases q : x < 1
  · rw [if_pos q] at h; cases h
  · rw [if_neg q] at h
    exact sp_bd hn h
/-- what is told of a span, by the model's own way to it -/
theorem osp_M {n : Nat} {f : Nat → Int64} {x y : Int32} (hn : n ≤ 16) : ospR n f x y = (match spM n x with
  | some (u, w) => spvR f u w y
  | none => LOSTv) := by
  by_cases q : x < 1
  · rw [ospR, if_neg (fun h => h.1 q), spM, if_pos q]
  · obtain ⟨s, hs, e⟩ := nI_of (x := x) (Int32.not_lt.mpr (Int32.le_trans (by decide) (Int32.not_lt.mp q)))
    have ec : x.toNatClampNeg = s := by rw [e]; exact nI_clamp hs
    by_cases h : spH n x
    · rw [ospR, if_pos h, spM, if_neg q]
      cases spN n x.toNatClampNeg with
      | none => rfl
      | some p => rfl
    · have hz : spN n x.toNatClampNeg = none := by
        rw [ec]
        by_cases h32 : s < 32
        · cases w : spN n s with
          | none => rfl
          | some p => exact absurd ⟨q, by rw [e]; exact nI_lt (b := 32) h32 (by decide), by rw [ec, w]; rfl⟩ h
        · exact sp_big hn (s + 1) s (by omega) (by omega) hs
      rw [ospR, if_neg h, spM, if_neg q, hz]
theorem unk_big {n : Nat} {f : Nat → Int64} (hn : n ≤ 16) : ∀ k, k ≤ 32 → unkS n f (31 + k) = unkS n f 31
  | 0, _ => rfl
  | k + 1, h => by
    rw [show 31 + (k + 1) = (31 + k) + 1 by omega, unkS_n (by rw [sp_big hn (1 + (31 + k) + 1) (1 + (31 + k)) (by omega) (by omega) (by omega)]; rfl)]
    exact unk_big hn k (by omega)
theorem unk_63 {n : Nat} {f : Nat → Int64} (hn : n ≤ 16) : unkS n f 31 = unkS n f 63 := (unk_big hn 32 (by decide)).symm
theorem upd_upd (f : Nat → Int32) (t : Nat) (a b : Int32) : upd (upd f t a) t b = upd f t b := by
  funext k
  simp only [upd]
  split <;> rfl
theorem nI_012 {q : Nat} (h : q < 3) : nI q = 0 ∨ nI q = 1 ∨ nI q = 2 := by
  rcases (show q = 0 ∨ q = 1 ∨ q = 2 by omega) with e | e | e
  · rw [e]; exact Or.inl rfl
  · rw [e]; exact Or.inr (Or.inl rfl)
  · rw [e]; exact Or.inr (Or.inr rfl)
theorem kd_up {m2 t : Nat} {kd : Nat → Int32} {v : Int32} (h : ∀ j, j < m2 → kd j = 0 ∨ kd j = 1 ∨ kd j = 2) (hv : v = 0 ∨ v = 1 ∨ v = 2) : ∀ j, j < m2 → upd kd t v j = 0 ∨ upd kd t v j = 1 ∨ upd kd t v j = 2 := by
  intro j hj
  simp only [upd]
  split
  · exact hv
  · exact h j hj
theorem sh4 {x : Int32} : (¬ x < 0 ∧ ¬ 3 < x) ↔ (¬ x < 0 ∧ x < 4) := by
  rw [i32_lt, i32_lt, i32_lt]
  have e3 : (3 : Int32).toInt = 3 := rfl
  have e4 : (4 : Int32).toInt = 4 := rfl
  rw [e3, e4]
  omega
theorem le2 {x : Int32} : (¬ x < 0 ∧ ¬ 2 < x) ↔ (¬ x < 0 ∧ x ≤ 2) := by
  rw [Int32.not_lt (a := 2)]
def zerF (f : Nat → Int32) (a n : Nat) : Nat → Int32 := fun k => if a ≤ k ∧ k < a + n then 0 else f k
theorem zerF_0 (f : Nat → Int32) (a : Nat) : zerF f a 0 = f := by
  funext k
  exact if_neg (by omega)
theorem zerF_s (f : Nat → Int32) (a n : Nat) : upd (zerF f a n) (a + n) 0 = zerF f a (n + 1) := by
  funext k
  simp only [upd, zerF]
  by_cases h : k = a + n
  · subst h
    rw [if_pos rfl, if_pos (by omega)]
  · rw [if_neg h]
    by_cases h2 : a ≤ k ∧ k < a + n
    · rw [if_pos h2, if_pos (by omega)]
    · rw [if_neg h2, if_neg (by omega)]
/-- the model's sheets in the class's words: whether there is one, its length, its cells -/
def hrM (so : Nat → Int32) : Nat → Int32 := fun k => if so k = -9 then 0 else 1
def lgM (sg : Nat → Int32) : Nat → Nat := fun k => (sg k).toNatClampNeg
def scM (ce : Nat → Int32) : Nat → Nat → Int32 := fun k i => ce (60 * k + i)
theorem hrM_0 {so : Nat → Int32} {k : Nat} (h : so k = -9) : hrM so k = 0 := if_pos h
theorem hrM_1 {so : Nat → Int32} {k : Nat} (h : ¬ so k = -9) : ¬ hrM so k = 0 := by
  rw [hrM, if_neg h]
  decide
/-- a place within a sheet: within its bounds, or as a run of one -/
theorem in_has {v : Nat} {s y : Int32} (hv : v ≤ 60) (es : s = nI v) : (¬ y < 0 ∧ ¬ s - 1 < y) ↔ hasP v y 1 := by
  have e1 : (1 : Int32).toInt = 1 := rfl
  rw [es]
  constructor
  · intro h
    obtain ⟨p, hp, e⟩ := nI_of h.1
    rw [e] at h ⊢
    have h2 := h.2
    rcases Nat.eq_zero_or_pos v with w | w
    · subst w
      exact absurd (Int32.lt_of_lt_of_le (by decide) (Int32.not_lt.mp h.1)) h2
    · rw [show nI v - 1 = nI (v - 1) from pk_sub (b := 1) w] at h2
      have h3 : ¬ v - 1 < p := fun q => h2 (nI_lt q hp)
      exact has_of (b := 1) hv (by omega)
  · intro h
    obtain ⟨p, hp, e⟩ := has_1 hv h
    rw [e]
    refine ⟨nI_pos (by omega), ?_⟩
    rw [show nI v - 1 = nI (v - 1) from pk_sub (b := 1) (by omega)]
    exact nI_nlt (by omega) (by omega)
set_option maxHeartbeats 1000000 in
set_option maxRecDepth 100000 in
theorem c_X9_ofSpan (l : Launch) (G : qh_G) (z M : Nat) (E : Nat → va_E) (tr : Int32) (lf : Int32) (n : Nat) (f : Nat → Int64) (g : Nat → Int64) (mb : Nat → Int64) (m2 : Nat) (kd : Nat → Int32) (pa : Nat → Int32) (ln : Nat) (ts : Nat → Int32) (ga : Nat → Nat) (gb : Nat → Nat) (va : Nat → Int64) (rn : Nat) (cn : Nat → Nat) (vs : Nat → Int64) (so : Nat → Int32) (sg : Nat → Int32) (ce : Nat → Int32) (hM : 84 ≤ M) (hX : ME G z E tr lf n f g mb m2 kd pa ln ts ga gb va rn cn vs so sg ce) (hW : MW n m2 ln rn ga gb cn ts va kd so sg) (x : Int32) (y : Int32) : Met l yX9_ofSpan wsX9_ofSpan (qh_R 2) (qh_Pre G z M E [.ref (z + 63), .int x, .int y]) (qh_Q G z M (qh_l (fun r E' => r = ospR n f x y ∧ ME G z E' tr lf n f g mb m2 kd pa ln ts ga gb va rn cn vs so sg ce ∧ ∀ x9, (x9 < 63 ∨ x9 = 81) → E' x9 = E x9))) 0 0 (fun q => z ≤ q) := by
  refine qh_metL (cc := cX9_ofSpan) (maxL := 3) (by decide) rfl (Nat.le_of_ble_eq_true rfl) ?_
  intro pZ eZ sZ mZ aZ bZ tZ cZ RR QQ ls hx hb hml hown hts hRf hRl hH hK hl hret
  have hown : sZ.vm.findClass RX9 = some mZ.cls := hown
  have hl : lv_has ls 3 [(0, .ref (z + 63)), (1, .int x), (2, .int y)] := hl
  obtain ⟨pt, rm, rh, sf, sl, r1, r2, r3, k1, k2, b_63, b_64, b_65, b_66, b_67, b_68, b_69, b_70, b_71, b_72, b_73, b_74, b_75, b_76, b_77, b_78, b_79, b_80, b_82, b_83⟩ := hX
  obtain ⟨⟨hn16, hm3, hl24, hr8⟩, hval, hcn, hok, hvh, hkd, hso⟩ := hW
  have in_X9 : ∀ w ∈ wsX90, w ∈ wsX9_ofSpan := fun w h => List.mem_cons_of_mem _ (List.mem_append_right _ h)
  have k_75 := hts (.constantLong RX9 75 (-9223372036854775808)) (by decide +kernel)
  have f_211 : qh_F G sZ mZ aZ 211 9 25 := qh_F.of hts in_X9 hown hK rfl 25 (by decide) (by decide +kernel)
  have f_214 : qh_F G sZ mZ aZ 214 9 26 := qh_F.of hts in_X9 hown hK rfl 26 (by decide) (by decide +kernel)
  refine lv_aload_n hx hb dX9_ofSpan_0 rfl (lv_at hl 0 rfl) ?_
  refine lv_iload_n hx hb dX9_ofSpan_1 rfl (lv_at hl 1 rfl) ?_
  by_cases hS : spM n x = none
  · refine qh_runV (As := [.int x]) (rest := []) (C := RX9) ⟨hx, hb, hml, hown, hts⟩ hK hH (c_X9_findSpan l G z M E lf tr n m2 ln pt rm rh sf sl rn (hM) b_63 x (by omega)) (cwV 1 hts gX9_ofSpan_X9_findSpan rfl rfl rfl (by decide +kernel) (by rw [hRf, hRl]; exact ⟨Nat.le_of_ble_eq_true rfl, Nat.le_of_ble_eq_true rfl⟩)) (by omega) b_63 rfl rfl hl.1 rfl (Nat.le_of_ble_eq_true rfl) dX9_ofSpan_2 ⟨Nat.zero_le _, Nat.zero_le _⟩ (qh_kki fun r_2 E_1 H locs hpost hH => ?_)
    obtain ⟨sf1, sl1, h_63, hmt, hfr⟩ := hpost
    rw [hS] at hmt
    subst hmt
    have hF : ∀ x9, x9 ≠ 63 → E_1 x9 = E x9 := fun x9 a0 => hfr x9 a0
    refine lv_if_ne (tgt := 12) hx hb dX9_ofSpan_5 (by decide) (fun c_5 => ?_) (fun c_5 => ?_)
    · exact absurd (by decide) c_5
    · refine lv_ldc2 hx hb hown k_75 dX9_ofSpan_8 ?_
      refine qh_topl (y := LOSTv) (rfl) ?_
      exact hret dX9_ofSpan_11 hH (⟨by rw [osp_M hn16, hS], ⟨_, _, _, _, _, _, _, _, _, _, h_63, ((hF 64 (by decide)).trans b_64), ((hF 65 (by decide)).trans b_65), ((hF 66 (by decide)).trans b_66), ((hF 67 (by decide)).trans b_67), ((hF 68 (by decide)).trans b_68), ((hF 69 (by decide)).trans b_69), ((hF 70 (by decide)).trans b_70), ((hF 71 (by decide)).trans b_71), ((hF 72 (by decide)).trans b_72), ((hF 73 (by decide)).trans b_73), ((hF 74 (by decide)).trans b_74), ((hF 75 (by decide)).trans b_75), ((hF 76 (by decide)).trans b_76), ((hF 77 (by decide)).trans b_77), ((hF 78 (by decide)).trans b_78), ((hF 79 (by decide)).trans b_79), ((hF 80 (by decide)).trans b_80), ((hF 82 (by decide)).trans b_82), ((hF 83 (by decide)).trans b_83)⟩, (fun x9 h9 => hF x9 (by omega))⟩)
  · refine qh_runV (As := [.int x]) (rest := []) (C := RX9) ⟨hx, hb, hml, hown, hts⟩ hK hH (c_X9_findSpan l G z M E lf tr n m2 ln pt rm rh sf sl rn (hM) b_63 x (by omega)) (cwV 1 hts gX9_ofSpan_X9_findSpan rfl rfl rfl (by decide +kernel) (by rw [hRf, hRl]; exact ⟨Nat.le_of_ble_eq_true rfl, Nat.le_of_ble_eq_true rfl⟩)) (by omega) b_63 rfl rfl hl.1 rfl (Nat.le_of_ble_eq_true rfl) dX9_ofSpan_2 ⟨Nat.zero_le _, Nat.zero_le _⟩ (qh_kki fun r_2 E_2 H locs hpost hH => ?_)
    obtain ⟨⟨u, w1⟩, hsp⟩ := Option.ne_none_iff_exists'.mp hS
    obtain ⟨sf1, sl1, h_63, hmt, hfr⟩ := hpost
    rw [hsp] at hmt
    obtain ⟨rfl, rfl, rfl⟩ := hmt
    have hF : ∀ x9, x9 ≠ 63 → E_2 x9 = E x9 := fun x9 a0 => hfr x9 a0
    refine lv_if_ne (tgt := 12) hx hb dX9_ofSpan_5 (by decide) (fun c_5 => ?_) (fun c_5 => ?_)
    · have hbd := spM_bd hn16 hsp
      refine lv_iload_n hx hb dX9_ofSpan_12 rfl (lv_at hl 2 rfl) ?_
      by_cases c_13_0 : y = 0
      · refine lv_tableIn (tgt := 56) (off := 43) hx hb dX9_ofSpan_13 (by rw [c_13_0]; decide) (by rw [c_13_0]; decide) (by rw [c_13_0]; decide) (by decide) ?_
        refine lv_aload_n hx hb dX9_ofSpan_56 rfl (lv_at hl 0 rfl) ?_
        refine qh_get hx hb hH f_211 (by omega) h_63 rfl dX9_ofSpan_57 ?_
        refine lv_i2l (v := (nI u).toInt64) hx hb dX9_ofSpan_60 rfl ?_
        exact hret dX9_ofSpan_61 hH (⟨by rw [osp_M hn16, hsp]; show _ = spvR f u w1 y; rw [spvR, if_pos c_13_0], ⟨_, _, _, _, _, _, _, _, _, _, h_63, ((hF 64 (by decide)).trans b_64), ((hF 65 (by decide)).trans b_65), ((hF 66 (by decide)).trans b_66), ((hF 67 (by decide)).trans b_67), ((hF 68 (by decide)).trans b_68), ((hF 69 (by decide)).trans b_69), ((hF 70 (by decide)).trans b_70), ((hF 71 (by decide)).trans b_71), ((hF 72 (by decide)).trans b_72), ((hF 73 (by decide)).trans b_73), ((hF 74 (by decide)).trans b_74), ((hF 75 (by decide)).trans b_75), ((hF 76 (by decide)).trans b_76), ((hF 77 (by decide)).trans b_77), ((hF 78 (by decide)).trans b_78), ((hF 79 (by decide)).trans b_79), ((hF 80 (by decide)).trans b_80), ((hF 82 (by decide)).trans b_82), ((hF 83 (by decide)).trans b_83)⟩, (fun x9 h9 => hF x9 (by omega))⟩)
      by_cases c_13_1 : y = 1
      · refine lv_tableIn (tgt := 62) (off := 49) hx hb dX9_ofSpan_13 (by rw [c_13_1]; decide) (by rw [c_13_1]; decide) (by rw [c_13_1]; decide) (by decide) ?_
        refine lv_aload_n hx hb dX9_ofSpan_62 rfl (lv_at hl 0 rfl) ?_
        refine qh_get hx hb hH f_214 (by omega) h_63 rfl dX9_ofSpan_63 ?_
        refine lv_i2l (v := (nI w1).toInt64) hx hb dX9_ofSpan_66 rfl ?_
        exact hret dX9_ofSpan_67 hH (⟨by rw [osp_M hn16, hsp]; show _ = spvR f u w1 y; rw [spvR, if_neg c_13_0, if_pos c_13_1], ⟨_, _, _, _, _, _, _, _, _, _, h_63, ((hF 64 (by decide)).trans b_64), ((hF 65 (by decide)).trans b_65), ((hF 66 (by decide)).trans b_66), ((hF 67 (by decide)).trans b_67), ((hF 68 (by decide)).trans b_68), ((hF 69 (by decide)).trans b_69), ((hF 70 (by decide)).trans b_70), ((hF 71 (by decide)).trans b_71), ((hF 72 (by decide)).trans b_72), ((hF 73 (by decide)).trans b_73), ((hF 74 (by decide)).trans b_74), ((hF 75 (by decide)).trans b_75), ((hF 76 (by decide)).trans b_76), ((hF 77 (by decide)).trans b_77), ((hF 78 (by decide)).trans b_78), ((hF 79 (by decide)).trans b_79), ((hF 80 (by decide)).trans b_80), ((hF 82 (by decide)).trans b_82), ((hF 83 (by decide)).trans b_83)⟩, (fun x9 h9 => hF x9 (by omega))⟩)
      by_cases c_13_2 : y = 2
      · refine lv_tableIn (tgt := 68) (off := 55) hx hb dX9_ofSpan_13 (by rw [c_13_2]; decide) (by rw [c_13_2]; decide) (by rw [c_13_2]; decide) (by decide) ?_
        refine lv_aload_n hx hb dX9_ofSpan_68 rfl (lv_at hl 0 rfl) ?_
        refine lv_aload_n hx hb dX9_ofSpan_69 rfl (lv_at hl 0 rfl) ?_
        refine qh_get hx hb hH f_211 (by omega) h_63 rfl dX9_ofSpan_70 ?_
        refine lv_aload_n hx hb dX9_ofSpan_73 rfl (lv_at hl 0 rfl) ?_
        refine qh_get hx hb hH f_214 (by omega) h_63 rfl dX9_ofSpan_74 ?_
        refine qh_runV (As := [.int (nI u), .int (nI w1)]) (rest := []) (C := RX9) ⟨hx, hb, hml, hown, hts⟩ hK hH (c_X9_greatestOf l G z M E_2 lf tr n m2 ln pt rm rh (nI u) (nI w1) rn (hM) h_63 u w1 f (⟨by omega, by omega⟩) ((hF 67 (by decide)).trans b_67)) (cwV 2 hts gX9_ofSpan_X9_greatestOf rfl rfl rfl (by decide +kernel) (by rw [hRf, hRl]; exact ⟨Nat.le_of_ble_eq_true rfl, Nat.le_of_ble_eq_true rfl⟩)) (by omega) h_63 rfl rfl hl.1 rfl (Nat.le_of_ble_eq_true rfl) dX9_ofSpan_77 ⟨Nat.zero_le _, Nat.zero_le _⟩ (qh_kkl fun r_77 E_3 H locs hpost hH => ?_)
        obtain ⟨rfl, rfl⟩ := hpost
        exact hret dX9_ofSpan_80 hH (⟨by rw [osp_M hn16, hsp]; show _ = spvR f u w1 y; rw [spvR, if_neg c_13_0, if_neg c_13_1, if_pos c_13_2], ⟨_, _, _, _, _, _, _, _, _, _, h_63, ((hF 64 (by decide)).trans b_64), ((hF 65 (by decide)).trans b_65), ((hF 66 (by decide)).trans b_66), ((hF 67 (by decide)).trans b_67), ((hF 68 (by decide)).trans b_68), ((hF 69 (by decide)).trans b_69), ((hF 70 (by decide)).trans b_70), ((hF 71 (by decide)).trans b_71), ((hF 72 (by decide)).trans b_72), ((hF 73 (by decide)).trans b_73), ((hF 74 (by decide)).trans b_74), ((hF 75 (by decide)).trans b_75), ((hF 76 (by decide)).trans b_76), ((hF 77 (by decide)).trans b_77), ((hF 78 (by decide)).trans b_78), ((hF 79 (by decide)).trans b_79), ((hF 80 (by decide)).trans b_80), ((hF 82 (by decide)).trans b_82), ((hF 83 (by decide)).trans b_83)⟩, (fun x9 h9 => hF x9 (by omega))⟩)
      by_cases c_13_3 : y = 3
      · refine lv_tableIn (tgt := 81) (off := 68) hx hb dX9_ofSpan_13 (by rw [c_13_3]; decide) (by rw [c_13_3]; decide) (by rw [c_13_3]; decide) (by decide) ?_
        refine lv_aload_n hx hb dX9_ofSpan_81 rfl (lv_at hl 0 rfl) ?_
        refine lv_aload_n hx hb dX9_ofSpan_82 rfl (lv_at hl 0 rfl) ?_
        refine qh_get hx hb hH f_211 (by omega) h_63 rfl dX9_ofSpan_83 ?_
        refine lv_aload_n hx hb dX9_ofSpan_86 rfl (lv_at hl 0 rfl) ?_
        refine qh_get hx hb hH f_214 (by omega) h_63 rfl dX9_ofSpan_87 ?_
        refine qh_runV (As := [.int (nI u), .int (nI w1)]) (rest := []) (C := RX9) ⟨hx, hb, hml, hown, hts⟩ hK hH (c_X9_secondOf l G z M E_2 lf tr n m2 ln pt rm rh (nI u) (nI w1) rn (hM) h_63 u w1 f (⟨by omega, by omega⟩) ((hF 67 (by decide)).trans b_67)) (cwV 2 hts gX9_ofSpan_X9_secondOf rfl rfl rfl (by decide +kernel) (by rw [hRf, hRl]; exact ⟨Nat.le_of_ble_eq_true rfl, Nat.le_of_ble_eq_true rfl⟩)) (by omega) h_63 rfl rfl hl.1 rfl (Nat.le_of_ble_eq_true rfl) dX9_ofSpan_90 ⟨Nat.zero_le _, Nat.zero_le _⟩ (qh_kkl fun r_90 E_4 H locs hpost hH => ?_)
        obtain ⟨rfl, rfl⟩ := hpost
        exact hret dX9_ofSpan_93 hH (⟨by rw [osp_M hn16, hsp]; show _ = spvR f u w1 y; rw [spvR, if_neg c_13_0, if_neg c_13_1, if_neg c_13_2, if_pos c_13_3], ⟨_, _, _, _, _, _, _, _, _, _, h_63, ((hF 64 (by decide)).trans b_64), ((hF 65 (by decide)).trans b_65), ((hF 66 (by decide)).trans b_66), ((hF 67 (by decide)).trans b_67), ((hF 68 (by decide)).trans b_68), ((hF 69 (by decide)).trans b_69), ((hF 70 (by decide)).trans b_70), ((hF 71 (by decide)).trans b_71), ((hF 72 (by decide)).trans b_72), ((hF 73 (by decide)).trans b_73), ((hF 74 (by decide)).trans b_74), ((hF 75 (by decide)).trans b_75), ((hF 76 (by decide)).trans b_76), ((hF 77 (by decide)).trans b_77), ((hF 78 (by decide)).trans b_78), ((hF 79 (by decide)).trans b_79), ((hF 80 (by decide)).trans b_80), ((hF 82 (by decide)).trans b_82), ((hF 83 (by decide)).trans b_83)⟩, (fun x9 h9 => hF x9 (by omega))⟩)
      by_cases c_13_4 : y = 4
      · refine lv_tableIn (tgt := 94) (off := 81) hx hb dX9_ofSpan_13 (by rw [c_13_4]; decide) (by rw [c_13_4]; decide) (by rw [c_13_4]; decide) (by decide) ?_
        refine lv_aload_n hx hb dX9_ofSpan_94 rfl (lv_at hl 0 rfl) ?_
        refine lv_aload_n hx hb dX9_ofSpan_95 rfl (lv_at hl 0 rfl) ?_
        refine qh_get hx hb hH f_211 (by omega) h_63 rfl dX9_ofSpan_96 ?_
        refine lv_aload_n hx hb dX9_ofSpan_99 rfl (lv_at hl 0 rfl) ?_
        refine qh_get hx hb hH f_214 (by omega) h_63 rfl dX9_ofSpan_100 ?_
        refine qh_runV (As := [.int (nI u), .int (nI w1)]) (rest := []) (C := RX9) ⟨hx, hb, hml, hown, hts⟩ hK hH (c_X9_manyGreatest l G z M E_2 lf tr n m2 ln pt rm rh (nI u) (nI w1) rn (hM) h_63 u w1 f (⟨by omega, by omega⟩) ((hF 67 (by decide)).trans b_67)) (cwV 2 hts gX9_ofSpan_X9_manyGreatest rfl rfl rfl (by decide +kernel) (by rw [hRf, hRl]; exact ⟨Nat.le_of_ble_eq_true rfl, Nat.le_of_ble_eq_true rfl⟩)) (by omega) h_63 rfl rfl hl.1 rfl (Nat.le_of_ble_eq_true rfl) dX9_ofSpan_103 ⟨Nat.zero_le _, Nat.zero_le _⟩ (qh_kki fun r_103 E_5 H locs hpost hH => ?_)
        obtain ⟨rfl, rfl⟩ := hpost
        refine lv_i2l (v := (nI (cntR (fun k => decide (¬ f k < maxR f u (w1 - u))) u (w1 + 1 - u))).toInt64) hx hb dX9_ofSpan_106 rfl ?_
        exact hret dX9_ofSpan_107 hH (⟨by rw [osp_M hn16, hsp]; show _ = spvR f u w1 y; rw [spvR, if_neg c_13_0, if_neg c_13_1, if_neg c_13_2, if_neg c_13_3, if_pos c_13_4], ⟨_, _, _, _, _, _, _, _, _, _, h_63, ((hF 64 (by decide)).trans b_64), ((hF 65 (by decide)).trans b_65), ((hF 66 (by decide)).trans b_66), ((hF 67 (by decide)).trans b_67), ((hF 68 (by decide)).trans b_68), ((hF 69 (by decide)).trans b_69), ((hF 70 (by decide)).trans b_70), ((hF 71 (by decide)).trans b_71), ((hF 72 (by decide)).trans b_72), ((hF 73 (by decide)).trans b_73), ((hF 74 (by decide)).trans b_74), ((hF 75 (by decide)).trans b_75), ((hF 76 (by decide)).trans b_76), ((hF 77 (by decide)).trans b_77), ((hF 78 (by decide)).trans b_78), ((hF 79 (by decide)).trans b_79), ((hF 80 (by decide)).trans b_80), ((hF 82 (by decide)).trans b_82), ((hF 83 (by decide)).trans b_83)⟩, (fun x9 h9 => hF x9 (by omega))⟩)
      by_cases c_13_5 : y = 5
      · refine lv_tableIn (tgt := 108) (off := 95) hx hb dX9_ofSpan_13 (by rw [c_13_5]; decide) (by rw [c_13_5]; decide) (by rw [c_13_5]; decide) (by decide) ?_
        refine lv_aload_n hx hb dX9_ofSpan_108 rfl (lv_at hl 0 rfl) ?_
        refine lv_aload_n hx hb dX9_ofSpan_109 rfl (lv_at hl 0 rfl) ?_
        refine qh_get hx hb hH f_211 (by omega) h_63 rfl dX9_ofSpan_110 ?_
        refine lv_aload_n hx hb dX9_ofSpan_113 rfl (lv_at hl 0 rfl) ?_
        refine qh_get hx hb hH f_214 (by omega) h_63 rfl dX9_ofSpan_114 ?_
        refine qh_runV (As := [.int (nI u), .int (nI w1)]) (rest := []) (C := RX9) ⟨hx, hb, hml, hown, hts⟩ hK hH (c_X9_sumOf l G z M E_2 lf tr n m2 ln pt rm rh (nI u) (nI w1) rn (hM) h_63 u w1 f (⟨by omega, by omega⟩) ((hF 67 (by decide)).trans b_67)) (cwV 2 hts gX9_ofSpan_X9_sumOf rfl rfl rfl (by decide +kernel) (by rw [hRf, hRl]; exact ⟨Nat.le_of_ble_eq_true rfl, Nat.le_of_ble_eq_true rfl⟩)) (by omega) h_63 rfl rfl hl.1 rfl (Nat.le_of_ble_eq_true rfl) dX9_ofSpan_117 ⟨Nat.zero_le _, Nat.zero_le _⟩ (qh_kkl fun r_117 E_6 H locs hpost hH => ?_)
        obtain ⟨rfl, rfl⟩ := hpost
        exact hret dX9_ofSpan_120 hH (⟨by rw [osp_M hn16, hsp]; show _ = spvR f u w1 y; rw [spvR, if_neg c_13_0, if_neg c_13_1, if_neg c_13_2, if_neg c_13_3, if_neg c_13_4, if_pos c_13_5], ⟨_, _, _, _, _, _, _, _, _, _, h_63, ((hF 64 (by decide)).trans b_64), ((hF 65 (by decide)).trans b_65), ((hF 66 (by decide)).trans b_66), ((hF 67 (by decide)).trans b_67), ((hF 68 (by decide)).trans b_68), ((hF 69 (by decide)).trans b_69), ((hF 70 (by decide)).trans b_70), ((hF 71 (by decide)).trans b_71), ((hF 72 (by decide)).trans b_72), ((hF 73 (by decide)).trans b_73), ((hF 74 (by decide)).trans b_74), ((hF 75 (by decide)).trans b_75), ((hF 76 (by decide)).trans b_76), ((hF 77 (by decide)).trans b_77), ((hF 78 (by decide)).trans b_78), ((hF 79 (by decide)).trans b_79), ((hF 80 (by decide)).trans b_80), ((hF 82 (by decide)).trans b_82), ((hF 83 (by decide)).trans b_83)⟩, (fun x9 h9 => hF x9 (by omega))⟩)
      by_cases c_13_6 : y = 6
      · refine lv_tableIn (tgt := 121) (off := 108) hx hb dX9_ofSpan_13 (by rw [c_13_6]; decide) (by rw [c_13_6]; decide) (by rw [c_13_6]; decide) (by decide) ?_
        refine lv_aload_n hx hb dX9_ofSpan_121 rfl (lv_at hl 0 rfl) ?_
        refine lv_aload_n hx hb dX9_ofSpan_122 rfl (lv_at hl 0 rfl) ?_
        refine qh_get hx hb hH f_211 (by omega) h_63 rfl dX9_ofSpan_123 ?_
        refine lv_aload_n hx hb dX9_ofSpan_126 rfl (lv_at hl 0 rfl) ?_
        refine qh_get hx hb hH f_214 (by omega) h_63 rfl dX9_ofSpan_127 ?_
        refine qh_runV (As := [.int (nI u), .int (nI w1)]) (rest := []) (C := RX9) ⟨hx, hb, hml, hown, hts⟩ hK hH (c_X9_unlikeIn l G z M E_2 lf tr n m2 ln pt rm rh (nI u) (nI w1) rn (hM) h_63 u w1 f (⟨by omega, by omega⟩) ((hF 67 (by decide)).trans b_67)) (cwV 2 hts gX9_ofSpan_X9_unlikeIn rfl rfl rfl (by decide +kernel) (by rw [hRf, hRl]; exact ⟨Nat.le_of_ble_eq_true rfl, Nat.le_of_ble_eq_true rfl⟩)) (by omega) h_63 rfl rfl hl.1 rfl (Nat.le_of_ble_eq_true rfl) dX9_ofSpan_130 ⟨Nat.zero_le _, Nat.zero_le _⟩ (qh_kki fun r_130 E_7 H locs hpost hH => ?_)
        obtain ⟨rfl, rfl⟩ := hpost
        refine lv_i2l (v := (nI (unlR f u (w1 + 1 - u))).toInt64) hx hb dX9_ofSpan_133 rfl ?_
        exact hret dX9_ofSpan_134 hH (⟨by rw [osp_M hn16, hsp]; show _ = spvR f u w1 y; rw [spvR, if_neg c_13_0, if_neg c_13_1, if_neg c_13_2, if_neg c_13_3, if_neg c_13_4, if_neg c_13_5, if_pos c_13_6], ⟨_, _, _, _, _, _, _, _, _, _, h_63, ((hF 64 (by decide)).trans b_64), ((hF 65 (by decide)).trans b_65), ((hF 66 (by decide)).trans b_66), ((hF 67 (by decide)).trans b_67), ((hF 68 (by decide)).trans b_68), ((hF 69 (by decide)).trans b_69), ((hF 70 (by decide)).trans b_70), ((hF 71 (by decide)).trans b_71), ((hF 72 (by decide)).trans b_72), ((hF 73 (by decide)).trans b_73), ((hF 74 (by decide)).trans b_74), ((hF 75 (by decide)).trans b_75), ((hF 76 (by decide)).trans b_76), ((hF 77 (by decide)).trans b_77), ((hF 78 (by decide)).trans b_78), ((hF 79 (by decide)).trans b_79), ((hF 80 (by decide)).trans b_80), ((hF 82 (by decide)).trans b_82), ((hF 83 (by decide)).trans b_83)⟩, (fun x9 h9 => hF x9 (by omega))⟩)
      refine lv_tableOut (tgt := 135) hx hb dX9_ofSpan_13 (qs_out7 c_13_0 c_13_1 c_13_2 c_13_3 c_13_4 c_13_5 c_13_6) (by decide) ?_
      refine lv_ldc2 hx hb hown k_75 dX9_ofSpan_135 ?_
      refine qh_topl (y := LOSTv) (rfl) ?_
      exact hret dX9_ofSpan_138 hH (⟨by rw [osp_M hn16, hsp]; show _ = spvR f u w1 y; rw [spvR, if_neg c_13_0, if_neg c_13_1, if_neg c_13_2, if_neg c_13_3, if_neg c_13_4, if_neg c_13_5, if_neg c_13_6], ⟨_, _, _, _, _, _, _, _, _, _, h_63, ((hF 64 (by decide)).trans b_64), ((hF 65 (by decide)).trans b_65), ((hF 66 (by decide)).trans b_66), ((hF 67 (by decide)).trans b_67), ((hF 68 (by decide)).trans b_68), ((hF 69 (by decide)).trans b_69), ((hF 70 (by decide)).trans b_70), ((hF 71 (by decide)).trans b_71), ((hF 72 (by decide)).trans b_72), ((hF 73 (by decide)).trans b_73), ((hF 74 (by decide)).trans b_74), ((hF 75 (by decide)).trans b_75), ((hF 76 (by decide)).trans b_76), ((hF 77 (by decide)).trans b_77), ((hF 78 (by decide)).trans b_78), ((hF 79 (by decide)).trans b_79), ((hF 80 (by decide)).trans b_80), ((hF 82 (by decide)).trans b_82), ((hF 83 (by decide)).trans b_83)⟩, (fun x9 h9 => hF x9 (by omega))⟩)
    · exact absurd c_5 (by decide)

set_option maxHeartbeats 1000000 in
set_option maxRecDepth 100000 in
theorem c_X9_unlike (l : Launch) (G : qh_G) (z M : Nat) (E : Nat → va_E) (tr : Int32) (lf : Int32) (n : Nat) (f : Nat → Int64) (g : Nat → Int64) (mb : Nat → Int64) (m2 : Nat) (kd : Nat → Int32) (pa : Nat → Int32) (ln : Nat) (ts : Nat → Int32) (ga : Nat → Nat) (gb : Nat → Nat) (va : Nat → Int64) (rn : Nat) (cn : Nat → Nat) (vs : Nat → Int64) (so : Nat → Int32) (sg : Nat → Int32) (ce : Nat → Int32) (hM : 84 ≤ M) (hX : ME G z E tr lf n f g mb m2 kd pa ln ts ga gb va rn cn vs so sg ce) (hW : MW n m2 ln rn ga gb cn ts va kd so sg) : Met l yX9_unlike wsX9_unlike (qh_R 1) (qh_Pre G z M E [.ref (z + 63)]) (qh_Q G z M (qh_i (fun r E' => r = unkR n f ∧ ME G z E' tr lf n f g mb m2 kd pa ln ts ga gb va rn cn vs so sg ce ∧ ∀ x9, (x9 < 63 ∨ x9 = 81) → E' x9 = E x9))) 0 0 (fun q => z ≤ q) := by
  refine qh_metI (cc := cX9_unlike) (maxL := 3) (by decide) rfl (Nat.le_of_ble_eq_true rfl) ?_
  intro pZ eZ sZ mZ aZ bZ tZ cZ RR QQ ls hx hb hml hown hts hRf hRl hH hK hl hret
  have hown : sZ.vm.findClass RX9 = some mZ.cls := hown
  have hl : lv_has ls 3 [(0, .ref (z + 63))] := hl
  obtain ⟨pt, rm, rh, sf, sl, r1, r2, r3, k1, k2, b_63, b_64, b_65, b_66, b_67, b_68, b_69, b_70, b_71, b_72, b_73, b_74, b_75, b_76, b_77, b_78, b_79, b_80, b_82, b_83⟩ := hX
  obtain ⟨⟨hn16, hm3, hl24, hr8⟩, hval, hcn, hok, hvh, hkd, hso⟩ := hW
  have in_X9 : ∀ w ∈ wsX90, w ∈ wsX9_unlike := fun w h => List.mem_cons_of_mem _ (List.mem_append_right _ h)
  have f_81 : qh_F G sZ mZ aZ 81 9 5 := qh_F.of hts in_X9 hown hK rfl 5 (by decide) (by decide +kernel)
  have f_211 : qh_F G sZ mZ aZ 211 9 25 := qh_F.of hts in_X9 hown hK rfl 25 (by decide) (by decide +kernel)
  have f_214 : qh_F G sZ mZ aZ 214 9 26 := qh_F.of hts in_X9 hown hK rfl 26 (by decide) (by decide +kernel)
  refine lv_aload_n hx hb dX9_unlike_0 rfl (lv_at hl 0 rfl) ?_
  refine qh_get hx hb hH f_81 (by omega) b_63 rfl dX9_unlike_1 ?_
  refine lv_if_ne (tgt := 10) hx hb dX9_unlike_4 (by decide) (fun c_4 => ?_) (fun c_4 => ?_)
  · refine lv_iconst (v := 0) hx hb dX9_unlike_10 (by decide) ?_
    refine lv_istore_n (lv' := [(1, .int 0), (0, .ref (z + 63))]) hx hb dX9_unlike_11 rfl hl (by decide) rfl (fun ls hl => ?_)
    refine lv_iconst (v := 1) hx hb dX9_unlike_12 (by decide) ?_
    refine lv_istore_n (lv' := [(2, .int 1), (1, .int 0), (0, .ref (z + 63))]) hx hb dX9_unlike_13 rfl hl (by decide) rfl (fun ls hl => ?_)
    have L_14 : ∀ fu_14 : Nat, ∀ q : Nat, ∀ sf0 : Int32, ∀ sl0 : Int32, (q ≤ 63) → (63 - q < fu_14) → ∀ Ek : Nat → va_E, Ek 63 = .inr (9, [.int lf, .int tr, .ref (z + 64), .ref (z + 65), .ref (z + 66), .int (nI n), .int (nI m2), .ref (z + 67), .ref (z + 68), .ref (z + 69), .ref (z + 70), .ref (z + 71), .int (nI ln), .ref (z + 72), .ref (z + 73), .ref (z + 74), .ref (z + 75), .int pt, .int rm, .int rh, .ref (z + 76), .ref (z + 77), .ref (z + 78), .ref (z + 79), .ref (z + 80), .int sf0, .int sl0, .ref (z + 81), .int (nI rn), .ref (z + 82), .ref (z + 83)]) → (∀ x9, x9 ≠ 63 → Ek x9 = E x9) → ∀ (H : Heap) (locs : List Loc), qh_H G z M Ek sZ.heap H locs → ∀ ls : Array Slot, lv_has ls 3 [(0, .ref (z + 63)), (1, .int (unkS n f q)), (2, .int (nI (1 + q)))] → W pZ l eZ RR sZ mZ aZ bZ tZ cZ H locs 0 0 QQ (F0 mZ 14 ls []) := by
      intro fu_14
      induction fu_14 with
      | zero =>
        intro q sf0 sl0 hq hfuel
        exact absurd hfuel (by omega)
      | succ fu_14 ih_14 =>
        intro q sf0 sl0 hq hfuel Ek h_63 hF H locs hH ls hl
        refine lv_iload_n hx hb dX9_unlike_14 rfl (lv_at hl 2 rfl) ?_
        refine lv_bipush (v := 64) hx hb dX9_unlike_15 (by decide) ?_
        refine lv_icmp_ge (tgt := 53) hx hb dX9_unlike_17 (by decide) (fun c_17 => ?_) (fun c_17 => ?_)
        · have hk : 64 ≤ 1 + q := (nI_leI (by omega) (by omega)).mp c_17
          have hex : 63 = q := by omega
          subst hex
          refine lv_iload_n hx hb dX9_unlike_53 rfl (lv_at hl 1 rfl) ?_
          exact hret dX9_unlike_54 hH (⟨by rw [unkR, if_pos (n_ne0 hn16 c_4), unk_63 hn16], ⟨_, _, _, _, _, _, _, _, _, _, h_63, ((hF 64 (by decide)).trans b_64), ((hF 65 (by decide)).trans b_65), ((hF 66 (by decide)).trans b_66), ((hF 67 (by decide)).trans b_67), ((hF 68 (by decide)).trans b_68), ((hF 69 (by decide)).trans b_69), ((hF 70 (by decide)).trans b_70), ((hF 71 (by decide)).trans b_71), ((hF 72 (by decide)).trans b_72), ((hF 73 (by decide)).trans b_73), ((hF 74 (by decide)).trans b_74), ((hF 75 (by decide)).trans b_75), ((hF 76 (by decide)).trans b_76), ((hF 77 (by decide)).trans b_77), ((hF 78 (by decide)).trans b_78), ((hF 79 (by decide)).trans b_79), ((hF 80 (by decide)).trans b_80), ((hF 82 (by decide)).trans b_82), ((hF 83 (by decide)).trans b_83)⟩, (fun x9 h9 => hF x9 (by omega))⟩)
        · have hk : ¬ 64 ≤ 1 + q := fun w => c_17 (nI_le w (by omega))
          refine lv_iload_n hx hb dX9_unlike_20 rfl (lv_at hl 1 rfl) ?_
          refine lv_aload_n hx hb dX9_unlike_21 rfl (lv_at hl 0 rfl) ?_
          refine lv_iload_n hx hb dX9_unlike_22 rfl (lv_at hl 2 rfl) ?_
          by_cases hS : spN n (1 + q) = none
          · refine qh_runV (As := [.int (nI (1 + q))]) (rest := [.int (unkS n f q)]) (C := RX9) ⟨hx, hb, hml, hown, hts⟩ hK hH (c_X9_findSpan l G z M Ek lf tr n m2 ln pt rm rh sf0 sl0 rn (hM) h_63 (nI (1 + q)) (by omega)) (cwV 1 hts gX9_unlike_X9_findSpan rfl rfl rfl (by decide +kernel) (by rw [hRf, hRl]; exact ⟨Nat.le_of_ble_eq_true rfl, Nat.le_of_ble_eq_true rfl⟩)) (by omega) h_63 rfl rfl hl.1 rfl (Nat.le_of_ble_eq_true rfl) dX9_unlike_23 ⟨Nat.zero_le _, Nat.zero_le _⟩ (qh_kki fun r_23 E_1 H locs hpost hH => ?_)
            have hsm : spM n (nI (1 + q)) = spN n (1 + q) := spM_nI (by omega) (by omega)
            rw [hS] at hsm
            obtain ⟨sf1, sl1, h_63, hmt, hfr⟩ := hpost
            rw [hsm] at hmt
            subst hmt
            have hF : ∀ x9, x9 ≠ 63 → E_1 x9 = E x9 := fun x9 a0 => (hfr x9 a0).trans (hF x9 a0)
            refine lv_if_eq (tgt := 44) hx hb dX9_unlike_26 (by decide) (fun c_26 => ?_) (fun c_26 => ?_)
            · refine lv_iconst (v := 0) hx hb dX9_unlike_44 (by decide) ?_
              refine lv_iadd hx hb dX9_unlike_45 ?_
              refine qh_topi (y := unkS n f (q + 1)) (by rw [unkS_n (by rw [hS]; rfl)]; exact Int32.add_zero _) ?_
              refine lv_istore_n (lv' := [(1, .int (unkS n f (q + 1))), (0, .ref (z + 63)), (2, .int (nI (1 + q)))]) hx hb dX9_unlike_46 rfl hl (by decide) rfl (fun ls hl => ?_)
              refine lv_iinc (v := nI ((1 + q) + 1)) (lv' := [(2, .int (nI ((1 + q) + 1))), (1, .int (unkS n f (q + 1))), (0, .ref (z + 63))]) hx hb dX9_unlike_47 hl (k := 2) rfl (qn_inc (1 + q)) (by decide) rfl (fun ls hl => ?_)
              refine lv_goto (tgt := 14) hx hb dX9_unlike_50 (by decide) ?_
              exact ih_14 (q + 1) _ _ (by omega) (by omega) E_1 h_63 (fun x9 a0 => hF x9 a0) _ _ hH ls (lv_sub hl [2, 1, 0] rfl)
            · exact absurd (by decide) c_26
          · refine qh_runV (As := [.int (nI (1 + q))]) (rest := [.int (unkS n f q)]) (C := RX9) ⟨hx, hb, hml, hown, hts⟩ hK hH (c_X9_findSpan l G z M Ek lf tr n m2 ln pt rm rh sf0 sl0 rn (hM) h_63 (nI (1 + q)) (by omega)) (cwV 1 hts gX9_unlike_X9_findSpan rfl rfl rfl (by decide +kernel) (by rw [hRf, hRl]; exact ⟨Nat.le_of_ble_eq_true rfl, Nat.le_of_ble_eq_true rfl⟩)) (by omega) h_63 rfl rfl hl.1 rfl (Nat.le_of_ble_eq_true rfl) dX9_unlike_23 ⟨Nat.zero_le _, Nat.zero_le _⟩ (qh_kki fun r_23 E_2 H locs hpost hH => ?_)
            have hsm : spM n (nI (1 + q)) = spN n (1 + q) := spM_nI (by omega) (by omega)
            obtain ⟨⟨u, w1⟩, hsp⟩ := Option.ne_none_iff_exists'.mp hS
            rw [hsp] at hsm
            have hbd := sp_bd hn16 hsp
            obtain ⟨sf1, sl1, h_63, hmt, hfr⟩ := hpost
            rw [hsm] at hmt
            obtain ⟨rfl, rfl, rfl⟩ := hmt
            have hF : ∀ x9, x9 ≠ 63 → E_2 x9 = E x9 := fun x9 a0 => (hfr x9 a0).trans (hF x9 a0)
            refine lv_if_eq (tgt := 44) hx hb dX9_unlike_26 (by decide) (fun c_26 => ?_) (fun c_26 => ?_)
            · exact absurd c_26 (by decide)
            · refine lv_aload_n hx hb dX9_unlike_29 rfl (lv_at hl 0 rfl) ?_
              refine lv_aload_n hx hb dX9_unlike_30 rfl (lv_at hl 0 rfl) ?_
              refine qh_get hx hb hH f_211 (by omega) h_63 rfl dX9_unlike_31 ?_
              refine lv_aload_n hx hb dX9_unlike_34 rfl (lv_at hl 0 rfl) ?_
              refine qh_get hx hb hH f_214 (by omega) h_63 rfl dX9_unlike_35 ?_
              refine qh_runV (As := [.int (nI u), .int (nI w1)]) (rest := [.int (unkS n f q)]) (C := RX9) ⟨hx, hb, hml, hown, hts⟩ hK hH (c_X9_unlikeIn l G z M E_2 lf tr n m2 ln pt rm rh (nI u) (nI w1) rn (hM) h_63 u w1 f (⟨by omega, by omega⟩) ((hF 67 (by decide)).trans b_67)) (cwV 2 hts gX9_unlike_X9_unlikeIn rfl rfl rfl (by decide +kernel) (by rw [hRf, hRl]; exact ⟨Nat.le_of_ble_eq_true rfl, Nat.le_of_ble_eq_true rfl⟩)) (by omega) h_63 rfl rfl hl.1 rfl (Nat.le_of_ble_eq_true rfl) dX9_unlike_38 ⟨Nat.zero_le _, Nat.zero_le _⟩ (qh_kki fun r_38 E_3 H locs hpost hH => ?_)
              obtain ⟨rfl, rfl⟩ := hpost
              refine lv_goto (tgt := 45) hx hb dX9_unlike_41 (by decide) ?_
              refine lv_iadd hx hb dX9_unlike_45 ?_
              refine qh_topi (y := unkS n f (q + 1)) ((unkS_y hsp).symm) ?_
              refine lv_istore_n (lv' := [(1, .int (unkS n f (q + 1))), (0, .ref (z + 63)), (2, .int (nI (1 + q)))]) hx hb dX9_unlike_46 rfl hl (by decide) rfl (fun ls hl => ?_)
              refine lv_iinc (v := nI ((1 + q) + 1)) (lv' := [(2, .int (nI ((1 + q) + 1))), (1, .int (unkS n f (q + 1))), (0, .ref (z + 63))]) hx hb dX9_unlike_47 hl (k := 2) rfl (qn_inc (1 + q)) (by decide) rfl (fun ls hl => ?_)
              refine lv_goto (tgt := 14) hx hb dX9_unlike_50 (by decide) ?_
              exact ih_14 (q + 1) _ _ (by omega) (by omega) E_2 h_63 (fun x9 a0 => hF x9 a0) _ _ hH ls (lv_sub hl [2, 1, 0] rfl)
    exact L_14 64 0 _ _ (Nat.zero_le _) (by omega) E b_63 (fun x9 a0 => rfl) _ _ hH ls (lv_sub hl [2, 1, 0] rfl)
  · refine lv_bipush (v := (-3)) hx hb dX9_unlike_7 (by decide) ?_
    exact hret dX9_unlike_9 hH (⟨by rw [unkR, if_neg (by rw [c_4]; decide)], ⟨_, _, _, _, _, _, _, _, _, _, b_63, b_64, b_65, b_66, b_67, b_68, b_69, b_70, b_71, b_72, b_73, b_74, b_75, b_76, b_77, b_78, b_79, b_80, b_82, b_83⟩, (fun _ _ => rfl)⟩)

set_option maxHeartbeats 1000000 in
set_option maxRecDepth 100000 in
theorem c_X9_kinds (l : Launch) (G : qh_G) (z M : Nat) (E : Nat → va_E) (tr : Int32) (lf : Int32) (n : Nat) (f : Nat → Int64) (g : Nat → Int64) (mb : Nat → Int64) (m2 : Nat) (kd : Nat → Int32) (pa : Nat → Int32) (ln : Nat) (ts : Nat → Int32) (ga : Nat → Nat) (gb : Nat → Nat) (va : Nat → Int64) (rn : Nat) (cn : Nat → Nat) (vs : Nat → Int64) (so : Nat → Int32) (sg : Nat → Int32) (ce : Nat → Int32) (hM : 84 ≤ M) (hX : ME G z E tr lf n f g mb m2 kd pa ln ts ga gb va rn cn vs so sg ce) (hW : MW n m2 ln rn ga gb cn ts va kd so sg) (x : Int32) : Met l yX9_kinds wsX9_kinds (qh_R 3) (qh_Pre G z M E [.ref (z + 63), .int x]) (qh_Q G z M (qh_i (fun r E' => r = (if ¬ x < 0 ∧ x < nI m2 then setR (fun q => allR (fun s => decide (repF (mixL mb f n) m2 (upd kd x.toNatClampNeg (nI q)) pa ts ga gb va ln (cn s) = vs s)) rn) 3 else -1) ∧ ME G z E' tr lf n f g mb m2 kd pa ln ts ga gb va rn cn vs so sg ce ∧ ∀ x9, (x9 < 63 ∨ x9 = 81) → E' x9 = E x9))) 0 0 (fun q => z ≤ q) := by
  refine qh_metI (cc := cX9_kinds) (maxL := 5) (by decide) rfl (Nat.le_of_ble_eq_true rfl) ?_
  intro pZ eZ sZ mZ aZ bZ tZ cZ RR QQ ls hx hb hml hown hts hRf hRl hH hK hl hret
  have hown : sZ.vm.findClass RX9 = some mZ.cls := hown
  have hl : lv_has ls 5 [(0, .ref (z + 63)), (1, .int x)] := hl
  obtain ⟨pt, rm, rh, sf, sl, r1, r2, r3, k1, k2, b_63, b_64, b_65, b_66, b_67, b_68, b_69, b_70, b_71, b_72, b_73, b_74, b_75, b_76, b_77, b_78, b_79, b_80, b_82, b_83⟩ := hX
  obtain ⟨⟨hn16, hm3, hl24, hr8⟩, hval, hcn, hok, hvh, hkd, hso⟩ := hW
  have in_X9 : ∀ w ∈ wsX90, w ∈ wsX9_kinds := fun w h => List.mem_cons_of_mem _ (List.mem_append_right _ h)
  have f_29 : qh_F G sZ mZ aZ 29 9 10 := qh_F.of hts in_X9 hown hK rfl 10 (by decide) (by decide +kernel)
  refine lv_aload_n hx hb dX9_kinds_0 rfl (lv_at hl 0 rfl) ?_
  refine lv_iload_n hx hb dX9_kinds_1 rfl (lv_at hl 1 rfl) ?_
  refine qh_runV (As := [.int x]) (rest := []) (C := RX9) ⟨hx, hb, hml, hown, hts⟩ hK hH (c_X9_isHelper l G z M E lf tr n m2 ln pt rm rh sf sl rn (hM) b_63 x) (cwV 1 hts gX9_kinds_X9_isHelper rfl rfl rfl (by decide +kernel) (by rw [hRf, hRl]; exact ⟨Nat.le_of_ble_eq_true rfl, Nat.le_of_ble_eq_true rfl⟩)) (by omega) b_63 rfl rfl hl.1 rfl (Nat.le_of_ble_eq_true rfl) dX9_kinds_2 ⟨Nat.zero_le _, Nat.zero_le _⟩ (qh_kki fun r_2 E_1 H locs hpost hH => ?_)
  obtain ⟨rfl, rfl⟩ := hpost
  refine lv_if_ne (tgt := 10) hx hb dX9_kinds_5 (by decide) (fun c_5 => ?_) (fun c_5 => ?_)
  · have c_5 := bI_ne.mp c_5
    obtain ⟨t, ht, et⟩ := nI_of_in (by omega) c_5
    have ec : x.toNatClampNeg = t := by rw [et]; exact nI_clamp (by omega)
    have hl : lv_has ls 5 [(0, .ref (z + 63)), (1, .int (nI t))] := by rw [← et]; exact hl
    refine lv_aload_n hx hb dX9_kinds_10 rfl (lv_at hl 0 rfl) ?_
    refine qh_get hx hb hH f_29 (by omega) b_63 rfl dX9_kinds_11 ?_
    refine lv_iload_n hx hb dX9_kinds_14 rfl (lv_at hl 1 rfl) ?_
    refine qh_iald hx hb hK hH (by omega) b_70 (j := t) (rfl) (by omega) (by omega) dX9_kinds_15 ?_
    refine lv_istore_n (lv' := [(2, .int (kd t)), (0, .ref (z + 63)), (1, .int (nI t))]) hx hb dX9_kinds_16 rfl hl (by decide) rfl (fun ls hl => ?_)
    refine lv_iconst (v := 0) hx hb dX9_kinds_17 (by decide) ?_
    refine lv_istore_n (lv' := [(3, .int 0), (2, .int (kd t)), (0, .ref (z + 63)), (1, .int (nI t))]) hx hb dX9_kinds_18 rfl hl (by decide) rfl (fun ls hl => ?_)
    refine lv_iconst (v := 0) hx hb dX9_kinds_19 (by decide) ?_
    refine lv_istore (lv' := [(4, .int 0), (3, .int 0), (2, .int (kd t)), (0, .ref (z + 63)), (1, .int (nI t))]) hx hb dX9_kinds_20 hl (by decide) rfl (fun ls hl => ?_)
    have L_22 : ∀ fu_22 : Nat, ∀ q : Nat, ∀ w0 : Int32, ∀ k10 : Nat → Int64, ∀ k20 : Nat → Int64, (q ≤ 3) → (3 - q < fu_22) → ∀ Ek : Nat → va_E, Ek 70 = qa_I G 3 (upd kd t w0) → Ek 79 = qa_J G 16 k10 → Ek 80 = qa_J G 16 k20 → Ek 67 = qa_J G 16 f → Ek 68 = qa_J G 16 g → (∀ x9, x9 ≠ 70 → x9 ≠ 79 → x9 ≠ 80 → x9 ≠ 67 → x9 ≠ 68 → Ek x9 = E x9) → ∀ (H : Heap) (locs : List Loc), qh_H G z M Ek sZ.heap H locs → ∀ ls : Array Slot, lv_has ls 5 [(0, .ref (z + 63)), (1, .int (nI t)), (2, .int (kd t)), (3, .int (setR (fun q => allR (fun s => decide (repF (mixL mb f n) m2 (upd kd t (nI q)) pa ts ga gb va ln (cn s) = vs s)) rn) q)), (4, .int (nI q))] → W pZ l eZ RR sZ mZ aZ bZ tZ cZ H locs 0 0 QQ (F0 mZ 22 ls []) := by
      intro fu_22
      induction fu_22 with
      | zero =>
        intro q w0 k10 k20 hq hfuel
        exact absurd hfuel (by omega)
      | succ fu_22 ih_22 =>
        intro q w0 k10 k20 hq hfuel Ek h_70 h_79 h_80 h_67 h_68 hF H locs hH ls hl
        refine lv_iload hx hb dX9_kinds_22 (lv_at hl 4 rfl) ?_
        refine lv_iconst (v := 3) hx hb dX9_kinds_24 (by decide) ?_
        refine lv_icmp_ge (tgt := 60) hx hb dX9_kinds_25 (by decide) (fun c_25 => ?_) (fun c_25 => ?_)
        · have hk : 3 ≤ q := (nI_leI (by omega) (by omega)).mp c_25
          have hex : 3 = q := by omega
          subst hex
          refine lv_aload_n hx hb dX9_kinds_60 rfl (lv_at hl 0 rfl) ?_
          refine qh_get hx hb hH f_29 (by omega) ((hF 63 (by decide) (by decide) (by decide) (by decide) (by decide)).trans b_63) rfl dX9_kinds_61 ?_
          refine lv_iload_n hx hb dX9_kinds_64 rfl (lv_at hl 1 rfl) ?_
          refine lv_iload_n hx hb dX9_kinds_65 rfl (lv_at hl 2 rfl) ?_
          refine qh_iast hx hb hK hH (by omega) h_70 (j := t) (rfl) (by omega) (by omega) dX9_kinds_66 (fun E_2 H locs h_70 hfr hH _ => ?_)
          have h_70 : E_2 70 = qa_I G 3 kd := h_70.trans (congrArg (qa_I G 3) ((upd_upd ..).trans (upd_id ..)))
          have h_79 := (hfr 79 (by decide)).trans h_79
          have h_80 := (hfr 80 (by decide)).trans h_80
          have h_67 := (hfr 67 (by decide)).trans h_67
          have h_68 := (hfr 68 (by decide)).trans h_68
          have hF : ∀ x9, x9 ≠ 70 → x9 ≠ 79 → x9 ≠ 80 → x9 ≠ 67 → x9 ≠ 68 → E_2 x9 = E x9 := fun x9 a0 a1 a2 a3 a4 => (hfr x9 a0).trans (hF x9 a0 a1 a2 a3 a4)
          refine lv_iload_n hx hb dX9_kinds_67 rfl (lv_at hl 3 rfl) ?_
          exact hret dX9_kinds_68 hH (⟨by rw [if_pos c_5, ec], ⟨_, _, _, _, _, _, _, _, _, _, ((hF 63 (by decide) (by decide) (by decide) (by decide) (by decide)).trans b_63), ((hF 64 (by decide) (by decide) (by decide) (by decide) (by decide)).trans b_64), ((hF 65 (by decide) (by decide) (by decide) (by decide) (by decide)).trans b_65), ((hF 66 (by decide) (by decide) (by decide) (by decide) (by decide)).trans b_66), h_67, h_68, ((hF 69 (by decide) (by decide) (by decide) (by decide) (by decide)).trans b_69), h_70, ((hF 71 (by decide) (by decide) (by decide) (by decide) (by decide)).trans b_71), ((hF 72 (by decide) (by decide) (by decide) (by decide) (by decide)).trans b_72), ((hF 73 (by decide) (by decide) (by decide) (by decide) (by decide)).trans b_73), ((hF 74 (by decide) (by decide) (by decide) (by decide) (by decide)).trans b_74), ((hF 75 (by decide) (by decide) (by decide) (by decide) (by decide)).trans b_75), ((hF 76 (by decide) (by decide) (by decide) (by decide) (by decide)).trans b_76), ((hF 77 (by decide) (by decide) (by decide) (by decide) (by decide)).trans b_77), ((hF 78 (by decide) (by decide) (by decide) (by decide) (by decide)).trans b_78), h_79, h_80, ((hF 82 (by decide) (by decide) (by decide) (by decide) (by decide)).trans b_82), ((hF 83 (by decide) (by decide) (by decide) (by decide) (by decide)).trans b_83)⟩, (fun x9 h9 => hF x9 (by omega) (by omega) (by omega) (by omega) (by omega))⟩)
        · have hk : ¬ 3 ≤ q := fun w => c_25 (nI_le w (by omega))
          refine lv_aload_n hx hb dX9_kinds_28 rfl (lv_at hl 0 rfl) ?_
          refine qh_get hx hb hH f_29 (by omega) ((hF 63 (by decide) (by decide) (by decide) (by decide) (by decide)).trans b_63) rfl dX9_kinds_29 ?_
          refine lv_iload_n hx hb dX9_kinds_32 rfl (lv_at hl 1 rfl) ?_
          refine lv_iload hx hb dX9_kinds_33 (lv_at hl 4 rfl) ?_
          refine qh_iast hx hb hK hH (by omega) h_70 (j := t) (rfl) (by omega) (by omega) dX9_kinds_35 (fun E_3 H locs h_70 hfr hH _ => ?_)
          have h_70 : E_3 70 = qa_I G 3 (upd kd t (nI q)) := h_70.trans (congrArg (qa_I G 3) (upd_upd ..))
          have h_79 := (hfr 79 (by decide)).trans h_79
          have h_80 := (hfr 80 (by decide)).trans h_80
          have h_67 := (hfr 67 (by decide)).trans h_67
          have h_68 := (hfr 68 (by decide)).trans h_68
          have hF : ∀ x9, x9 ≠ 70 → x9 ≠ 79 → x9 ≠ 80 → x9 ≠ 67 → x9 ≠ 68 → E_3 x9 = E x9 := fun x9 a0 a1 a2 a3 a4 => (hfr x9 a0).trans (hF x9 a0 a1 a2 a3 a4)
          refine lv_iload_n hx hb dX9_kinds_36 rfl (lv_at hl 3 rfl) ?_
          refine lv_aload_n hx hb dX9_kinds_37 rfl (lv_at hl 0 rfl) ?_
          refine qh_runV (As := []) (rest := [.int (setR (fun q => allR (fun s => decide (repF (mixL mb f n) m2 (upd kd t (nI q)) pa ts ga gb va ln (cn s) = vs s)) rn) q)]) (C := RX9) ⟨hx, hb, hml, hown, hts⟩ hK hH (c_X9_areSo l G z M E_3 lf tr n m2 ln pt rm rh sf sl rn (hM) ((hF 63 (by decide) (by decide) (by decide) (by decide) (by decide)).trans b_63) f g mb k10 k20 vs ts _ _ va (upd kd t (nI q)) pa _ (⟨by omega, by omega, by omega, by omega⟩) (hval) (hok) (hvh) ((kd_up hkd (nI_012 (by omega)))) (hcn) h_67 h_68 h_79 h_80 ((hF 69 (by decide) (by decide) (by decide) (by decide) (by decide)).trans b_69) ((hF 72 (by decide) (by decide) (by decide) (by decide) (by decide)).trans b_72) ((hF 73 (by decide) (by decide) (by decide) (by decide) (by decide)).trans b_73) ((hF 74 (by decide) (by decide) (by decide) (by decide) (by decide)).trans b_74) ((hF 75 (by decide) (by decide) (by decide) (by decide) (by decide)).trans b_75) h_70 ((hF 71 (by decide) (by decide) (by decide) (by decide) (by decide)).trans b_71) ((hF 82 (by decide) (by decide) (by decide) (by decide) (by decide)).trans b_82) ((hF 83 (by decide) (by decide) (by decide) (by decide) (by decide)).trans b_83)) (cwV 0 hts gX9_kinds_X9_areSo rfl rfl rfl (by decide +kernel) (by rw [hRf, hRl]; exact ⟨Nat.le_of_ble_eq_true rfl, Nat.le_of_ble_eq_true rfl⟩)) (by omega) ((hF 63 (by decide) (by decide) (by decide) (by decide) (by decide)).trans b_63) rfl rfl hl.1 rfl (Nat.le_of_ble_eq_true rfl) dX9_kinds_38 ⟨Nat.zero_le _, Nat.zero_le _⟩ (qh_kki fun r_38 E_4 H locs hpost hH => ?_)
          obtain ⟨rfl, h_79, h_80, h_67, h_68, hfr⟩ := hpost
          have h_70 := (hfr 70 (by decide) (by decide) (by decide) (by decide)).trans h_70
          have hF : ∀ x9, x9 ≠ 70 → x9 ≠ 79 → x9 ≠ 80 → x9 ≠ 67 → x9 ≠ 68 → E_4 x9 = E x9 := fun x9 a0 a1 a2 a3 a4 => (hfr x9 a1 a2 a3 a4).trans (hF x9 a0 a1 a2 a3 a4)
          refine lv_if_eq (tgt := 51) hx hb dX9_kinds_41 (by decide) (fun c_41 => ?_) (fun c_41 => ?_)
          · have c_41 := bI_eq.mp c_41
            refine lv_iconst (v := 0) hx hb dX9_kinds_51 (by decide) ?_
            refine lv_ior hx hb dX9_kinds_52 ?_
            refine qh_topi (y := setR (fun q => allR (fun s => decide (repF (mixL mb f n) m2 (upd kd t (nI q)) pa ts ga gb va ln (cn s) = vs s)) rn) (q + 1)) (by rw [set_n (p := (fun q => allR (fun s => decide (repF (mixL mb f n) m2 (upd kd t (nI q)) pa ts ga gb va ln (cn s) = vs s)) rn)) c_41]; exact Int32.or_zero) ?_
            refine lv_istore_n (lv' := [(3, .int (setR (fun q => allR (fun s => decide (repF (mixL mb f n) m2 (upd kd t (nI q)) pa ts ga gb va ln (cn s) = vs s)) rn) (q + 1))), (0, .ref (z + 63)), (1, .int (nI t)), (2, .int (kd t)), (4, .int (nI q))]) hx hb dX9_kinds_53 rfl hl (by decide) rfl (fun ls hl => ?_)
            refine lv_iinc (v := nI (q + 1)) (lv' := [(4, .int (nI (q + 1))), (3, .int (setR (fun q => allR (fun s => decide (repF (mixL mb f n) m2 (upd kd t (nI q)) pa ts ga gb va ln (cn s) = vs s)) rn) (q + 1))), (0, .ref (z + 63)), (1, .int (nI t)), (2, .int (kd t))]) hx hb dX9_kinds_54 hl (k := 4) rfl (qn_inc q) (by decide) rfl (fun ls hl => ?_)
            refine lv_goto (tgt := 22) hx hb dX9_kinds_57 (by decide) ?_
            exact ih_22 (q + 1) (nI q) _ _ (by omega) (by omega) E_4 h_70 h_79 h_80 h_67 h_68 (fun x9 a0 a1 a2 a3 a4 => hF x9 a0 a1 a2 a3 a4) _ _ hH ls (lv_sub hl [2, 3, 4, 1, 0] rfl)
          · have c_41 := bI_ne.mp c_41
            refine lv_iconst (v := 1) hx hb dX9_kinds_44 (by decide) ?_
            refine lv_iload hx hb dX9_kinds_45 (lv_at hl 4 rfl) ?_
            refine lv_ishl hx hb dX9_kinds_47 ?_
            refine lv_goto (tgt := 52) hx hb dX9_kinds_48 (by decide) ?_
            refine lv_ior hx hb dX9_kinds_52 ?_
            refine qh_topi (y := setR (fun q => allR (fun s => decide (repF (mixL mb f n) m2 (upd kd t (nI q)) pa ts ga gb va ln (cn s) = vs s)) rn) (q + 1)) ((set_y (p := (fun q => allR (fun s => decide (repF (mixL mb f n) m2 (upd kd t (nI q)) pa ts ga gb va ln (cn s) = vs s)) rn)) c_41).symm) ?_
            refine lv_istore_n (lv' := [(3, .int (setR (fun q => allR (fun s => decide (repF (mixL mb f n) m2 (upd kd t (nI q)) pa ts ga gb va ln (cn s) = vs s)) rn) (q + 1))), (0, .ref (z + 63)), (1, .int (nI t)), (2, .int (kd t)), (4, .int (nI q))]) hx hb dX9_kinds_53 rfl hl (by decide) rfl (fun ls hl => ?_)
            refine lv_iinc (v := nI (q + 1)) (lv' := [(4, .int (nI (q + 1))), (3, .int (setR (fun q => allR (fun s => decide (repF (mixL mb f n) m2 (upd kd t (nI q)) pa ts ga gb va ln (cn s) = vs s)) rn) (q + 1))), (0, .ref (z + 63)), (1, .int (nI t)), (2, .int (kd t))]) hx hb dX9_kinds_54 hl (k := 4) rfl (qn_inc q) (by decide) rfl (fun ls hl => ?_)
            refine lv_goto (tgt := 22) hx hb dX9_kinds_57 (by decide) ?_
            exact ih_22 (q + 1) (nI q) _ _ (by omega) (by omega) E_4 h_70 h_79 h_80 h_67 h_68 (fun x9 a0 a1 a2 a3 a4 => hF x9 a0 a1 a2 a3 a4) _ _ hH ls (lv_sub hl [2, 3, 4, 1, 0] rfl)
    exact L_22 4 0 (kd t) _ _ (Nat.zero_le _) (by omega) E (b_70.trans (congrArg (qa_I G 3) (upd_id ..).symm)) b_79 b_80 b_67 b_68 (fun x9 a0 a1 a2 a3 a4 => rfl) _ _ hH ls (lv_sub hl [3, 4, 2, 1, 0] rfl)
  · have c_5 := bI_eq.mp c_5
    refine lv_iconst (v := (-1)) hx hb dX9_kinds_8 (by decide) ?_
    exact hret dX9_kinds_9 hH (⟨by rw [if_neg c_5], ⟨_, _, _, _, _, _, _, _, _, _, b_63, b_64, b_65, b_66, b_67, b_68, b_69, b_70, b_71, b_72, b_73, b_74, b_75, b_76, b_77, b_78, b_79, b_80, b_82, b_83⟩, (fun _ _ => rfl)⟩)

set_option maxHeartbeats 1000000 in
set_option maxRecDepth 100000 in
theorem c_X9_paces (l : Launch) (G : qh_G) (z M : Nat) (E : Nat → va_E) (tr : Int32) (lf : Int32) (n : Nat) (f : Nat → Int64) (g : Nat → Int64) (mb : Nat → Int64) (m2 : Nat) (kd : Nat → Int32) (pa : Nat → Int32) (ln : Nat) (ts : Nat → Int32) (ga : Nat → Nat) (gb : Nat → Nat) (va : Nat → Int64) (rn : Nat) (cn : Nat → Nat) (vs : Nat → Int64) (so : Nat → Int32) (sg : Nat → Int32) (ce : Nat → Int32) (hM : 84 ≤ M) (hX : ME G z E tr lf n f g mb m2 kd pa ln ts ga gb va rn cn vs so sg ce) (hW : MW n m2 ln rn ga gb cn ts va kd so sg) (x : Int32) : Met l yX9_paces wsX9_paces (qh_R 3) (qh_Pre G z M E [.ref (z + 63), .int x]) (qh_Q G z M (qh_i (fun r E' => r = (if ¬ x < 0 ∧ x < nI m2 then setR (fun q => allR (fun s => decide (repF (mixL mb f n) m2 kd (upd pa x.toNatClampNeg (nI q)) ts ga gb va ln (cn s) = vs s)) rn) 10 else -1) ∧ ME G z E' tr lf n f g mb m2 kd pa ln ts ga gb va rn cn vs so sg ce ∧ ∀ x9, (x9 < 63 ∨ x9 = 81) → E' x9 = E x9))) 0 0 (fun q => z ≤ q) := by
  refine qh_metI (cc := cX9_paces) (maxL := 5) (by decide) rfl (Nat.le_of_ble_eq_true rfl) ?_
  intro pZ eZ sZ mZ aZ bZ tZ cZ RR QQ ls hx hb hml hown hts hRf hRl hH hK hl hret
  have hown : sZ.vm.findClass RX9 = some mZ.cls := hown
  have hl : lv_has ls 5 [(0, .ref (z + 63)), (1, .int x)] := hl
  obtain ⟨pt, rm, rh, sf, sl, r1, r2, r3, k1, k2, b_63, b_64, b_65, b_66, b_67, b_68, b_69, b_70, b_71, b_72, b_73, b_74, b_75, b_76, b_77, b_78, b_79, b_80, b_82, b_83⟩ := hX
  obtain ⟨⟨hn16, hm3, hl24, hr8⟩, hval, hcn, hok, hvh, hkd, hso⟩ := hW
  have in_X9 : ∀ w ∈ wsX90, w ∈ wsX9_paces := fun w h => List.mem_cons_of_mem _ (List.mem_append_right _ h)
  have f_32 : qh_F G sZ mZ aZ 32 9 11 := qh_F.of hts in_X9 hown hK rfl 11 (by decide) (by decide +kernel)
  refine lv_aload_n hx hb dX9_paces_0 rfl (lv_at hl 0 rfl) ?_
  refine lv_iload_n hx hb dX9_paces_1 rfl (lv_at hl 1 rfl) ?_
  refine qh_runV (As := [.int x]) (rest := []) (C := RX9) ⟨hx, hb, hml, hown, hts⟩ hK hH (c_X9_isHelper l G z M E lf tr n m2 ln pt rm rh sf sl rn (hM) b_63 x) (cwV 1 hts gX9_paces_X9_isHelper rfl rfl rfl (by decide +kernel) (by rw [hRf, hRl]; exact ⟨Nat.le_of_ble_eq_true rfl, Nat.le_of_ble_eq_true rfl⟩)) (by omega) b_63 rfl rfl hl.1 rfl (Nat.le_of_ble_eq_true rfl) dX9_paces_2 ⟨Nat.zero_le _, Nat.zero_le _⟩ (qh_kki fun r_2 E_1 H locs hpost hH => ?_)
  obtain ⟨rfl, rfl⟩ := hpost
  refine lv_if_ne (tgt := 10) hx hb dX9_paces_5 (by decide) (fun c_5 => ?_) (fun c_5 => ?_)
  · have c_5 := bI_ne.mp c_5
    obtain ⟨t, ht, et⟩ := nI_of_in (by omega) c_5
    have ec : x.toNatClampNeg = t := by rw [et]; exact nI_clamp (by omega)
    have hl : lv_has ls 5 [(0, .ref (z + 63)), (1, .int (nI t))] := by rw [← et]; exact hl
    refine lv_aload_n hx hb dX9_paces_10 rfl (lv_at hl 0 rfl) ?_
    refine qh_get hx hb hH f_32 (by omega) b_63 rfl dX9_paces_11 ?_
    refine lv_iload_n hx hb dX9_paces_14 rfl (lv_at hl 1 rfl) ?_
    refine qh_iald hx hb hK hH (by omega) b_71 (j := t) (rfl) (by omega) (by omega) dX9_paces_15 ?_
    refine lv_istore_n (lv' := [(2, .int (pa t)), (0, .ref (z + 63)), (1, .int (nI t))]) hx hb dX9_paces_16 rfl hl (by decide) rfl (fun ls hl => ?_)
    refine lv_iconst (v := 0) hx hb dX9_paces_17 (by decide) ?_
    refine lv_istore_n (lv' := [(3, .int 0), (2, .int (pa t)), (0, .ref (z + 63)), (1, .int (nI t))]) hx hb dX9_paces_18 rfl hl (by decide) rfl (fun ls hl => ?_)
    refine lv_iconst (v := 0) hx hb dX9_paces_19 (by decide) ?_
    refine lv_istore (lv' := [(4, .int 0), (3, .int 0), (2, .int (pa t)), (0, .ref (z + 63)), (1, .int (nI t))]) hx hb dX9_paces_20 hl (by decide) rfl (fun ls hl => ?_)
    have L_22 : ∀ fu_22 : Nat, ∀ q : Nat, ∀ w0 : Int32, ∀ k10 : Nat → Int64, ∀ k20 : Nat → Int64, (q ≤ 10) → (10 - q < fu_22) → ∀ Ek : Nat → va_E, Ek 71 = qa_I G 3 (upd pa t w0) → Ek 79 = qa_J G 16 k10 → Ek 80 = qa_J G 16 k20 → Ek 67 = qa_J G 16 f → Ek 68 = qa_J G 16 g → (∀ x9, x9 ≠ 71 → x9 ≠ 79 → x9 ≠ 80 → x9 ≠ 67 → x9 ≠ 68 → Ek x9 = E x9) → ∀ (H : Heap) (locs : List Loc), qh_H G z M Ek sZ.heap H locs → ∀ ls : Array Slot, lv_has ls 5 [(0, .ref (z + 63)), (1, .int (nI t)), (2, .int (pa t)), (3, .int (setR (fun q => allR (fun s => decide (repF (mixL mb f n) m2 kd (upd pa t (nI q)) ts ga gb va ln (cn s) = vs s)) rn) q)), (4, .int (nI q))] → W pZ l eZ RR sZ mZ aZ bZ tZ cZ H locs 0 0 QQ (F0 mZ 22 ls []) := by
      intro fu_22
      induction fu_22 with
      | zero =>
        intro q w0 k10 k20 hq hfuel
        exact absurd hfuel (by omega)
      | succ fu_22 ih_22 =>
        intro q w0 k10 k20 hq hfuel Ek h_71 h_79 h_80 h_67 h_68 hF H locs hH ls hl
        refine lv_iload hx hb dX9_paces_22 (lv_at hl 4 rfl) ?_
        refine lv_bipush (v := 9) hx hb dX9_paces_24 (by decide) ?_
        refine lv_icmp_gt (tgt := 61) hx hb dX9_paces_26 (by decide) (fun c_26 => ?_) (fun c_26 => ?_)
        · have hk : 9 < q := (nI_ltI (by omega) (by omega)).mp c_26
          have hex : 10 = q := by omega
          subst hex
          refine lv_aload_n hx hb dX9_paces_61 rfl (lv_at hl 0 rfl) ?_
          refine qh_get hx hb hH f_32 (by omega) ((hF 63 (by decide) (by decide) (by decide) (by decide) (by decide)).trans b_63) rfl dX9_paces_62 ?_
          refine lv_iload_n hx hb dX9_paces_65 rfl (lv_at hl 1 rfl) ?_
          refine lv_iload_n hx hb dX9_paces_66 rfl (lv_at hl 2 rfl) ?_
          refine qh_iast hx hb hK hH (by omega) h_71 (j := t) (rfl) (by omega) (by omega) dX9_paces_67 (fun E_2 H locs h_71 hfr hH _ => ?_)
          have h_71 : E_2 71 = qa_I G 3 pa := h_71.trans (congrArg (qa_I G 3) ((upd_upd ..).trans (upd_id ..)))
          have h_79 := (hfr 79 (by decide)).trans h_79
          have h_80 := (hfr 80 (by decide)).trans h_80
          have h_67 := (hfr 67 (by decide)).trans h_67
          have h_68 := (hfr 68 (by decide)).trans h_68
          have hF : ∀ x9, x9 ≠ 71 → x9 ≠ 79 → x9 ≠ 80 → x9 ≠ 67 → x9 ≠ 68 → E_2 x9 = E x9 := fun x9 a0 a1 a2 a3 a4 => (hfr x9 a0).trans (hF x9 a0 a1 a2 a3 a4)
          refine lv_iload_n hx hb dX9_paces_68 rfl (lv_at hl 3 rfl) ?_
          exact hret dX9_paces_69 hH (⟨by rw [if_pos c_5, ec], ⟨_, _, _, _, _, _, _, _, _, _, ((hF 63 (by decide) (by decide) (by decide) (by decide) (by decide)).trans b_63), ((hF 64 (by decide) (by decide) (by decide) (by decide) (by decide)).trans b_64), ((hF 65 (by decide) (by decide) (by decide) (by decide) (by decide)).trans b_65), ((hF 66 (by decide) (by decide) (by decide) (by decide) (by decide)).trans b_66), h_67, h_68, ((hF 69 (by decide) (by decide) (by decide) (by decide) (by decide)).trans b_69), ((hF 70 (by decide) (by decide) (by decide) (by decide) (by decide)).trans b_70), h_71, ((hF 72 (by decide) (by decide) (by decide) (by decide) (by decide)).trans b_72), ((hF 73 (by decide) (by decide) (by decide) (by decide) (by decide)).trans b_73), ((hF 74 (by decide) (by decide) (by decide) (by decide) (by decide)).trans b_74), ((hF 75 (by decide) (by decide) (by decide) (by decide) (by decide)).trans b_75), ((hF 76 (by decide) (by decide) (by decide) (by decide) (by decide)).trans b_76), ((hF 77 (by decide) (by decide) (by decide) (by decide) (by decide)).trans b_77), ((hF 78 (by decide) (by decide) (by decide) (by decide) (by decide)).trans b_78), h_79, h_80, ((hF 82 (by decide) (by decide) (by decide) (by decide) (by decide)).trans b_82), ((hF 83 (by decide) (by decide) (by decide) (by decide) (by decide)).trans b_83)⟩, (fun x9 h9 => hF x9 (by omega) (by omega) (by omega) (by omega) (by omega))⟩)
        · have hk : ¬ 9 < q := fun w => c_26 (nI_lt w (by omega))
          refine lv_aload_n hx hb dX9_paces_29 rfl (lv_at hl 0 rfl) ?_
          refine qh_get hx hb hH f_32 (by omega) ((hF 63 (by decide) (by decide) (by decide) (by decide) (by decide)).trans b_63) rfl dX9_paces_30 ?_
          refine lv_iload_n hx hb dX9_paces_33 rfl (lv_at hl 1 rfl) ?_
          refine lv_iload hx hb dX9_paces_34 (lv_at hl 4 rfl) ?_
          refine qh_iast hx hb hK hH (by omega) h_71 (j := t) (rfl) (by omega) (by omega) dX9_paces_36 (fun E_3 H locs h_71 hfr hH _ => ?_)
          have h_71 : E_3 71 = qa_I G 3 (upd pa t (nI q)) := h_71.trans (congrArg (qa_I G 3) (upd_upd ..))
          have h_79 := (hfr 79 (by decide)).trans h_79
          have h_80 := (hfr 80 (by decide)).trans h_80
          have h_67 := (hfr 67 (by decide)).trans h_67
          have h_68 := (hfr 68 (by decide)).trans h_68
          have hF : ∀ x9, x9 ≠ 71 → x9 ≠ 79 → x9 ≠ 80 → x9 ≠ 67 → x9 ≠ 68 → E_3 x9 = E x9 := fun x9 a0 a1 a2 a3 a4 => (hfr x9 a0).trans (hF x9 a0 a1 a2 a3 a4)
          refine lv_iload_n hx hb dX9_paces_37 rfl (lv_at hl 3 rfl) ?_
          refine lv_aload_n hx hb dX9_paces_38 rfl (lv_at hl 0 rfl) ?_
          refine qh_runV (As := []) (rest := [.int (setR (fun q => allR (fun s => decide (repF (mixL mb f n) m2 kd (upd pa t (nI q)) ts ga gb va ln (cn s) = vs s)) rn) q)]) (C := RX9) ⟨hx, hb, hml, hown, hts⟩ hK hH (c_X9_areSo l G z M E_3 lf tr n m2 ln pt rm rh sf sl rn (hM) ((hF 63 (by decide) (by decide) (by decide) (by decide) (by decide)).trans b_63) f g mb k10 k20 vs ts _ _ va kd (upd pa t (nI q)) _ (⟨by omega, by omega, by omega, by omega⟩) (hval) (hok) (hvh) (hkd) (hcn) h_67 h_68 h_79 h_80 ((hF 69 (by decide) (by decide) (by decide) (by decide) (by decide)).trans b_69) ((hF 72 (by decide) (by decide) (by decide) (by decide) (by decide)).trans b_72) ((hF 73 (by decide) (by decide) (by decide) (by decide) (by decide)).trans b_73) ((hF 74 (by decide) (by decide) (by decide) (by decide) (by decide)).trans b_74) ((hF 75 (by decide) (by decide) (by decide) (by decide) (by decide)).trans b_75) ((hF 70 (by decide) (by decide) (by decide) (by decide) (by decide)).trans b_70) h_71 ((hF 82 (by decide) (by decide) (by decide) (by decide) (by decide)).trans b_82) ((hF 83 (by decide) (by decide) (by decide) (by decide) (by decide)).trans b_83)) (cwV 0 hts gX9_paces_X9_areSo rfl rfl rfl (by decide +kernel) (by rw [hRf, hRl]; exact ⟨Nat.le_of_ble_eq_true rfl, Nat.le_of_ble_eq_true rfl⟩)) (by omega) ((hF 63 (by decide) (by decide) (by decide) (by decide) (by decide)).trans b_63) rfl rfl hl.1 rfl (Nat.le_of_ble_eq_true rfl) dX9_paces_39 ⟨Nat.zero_le _, Nat.zero_le _⟩ (qh_kki fun r_39 E_4 H locs hpost hH => ?_)
          obtain ⟨rfl, h_79, h_80, h_67, h_68, hfr⟩ := hpost
          have h_71 := (hfr 71 (by decide) (by decide) (by decide) (by decide)).trans h_71
          have hF : ∀ x9, x9 ≠ 71 → x9 ≠ 79 → x9 ≠ 80 → x9 ≠ 67 → x9 ≠ 68 → E_4 x9 = E x9 := fun x9 a0 a1 a2 a3 a4 => (hfr x9 a1 a2 a3 a4).trans (hF x9 a0 a1 a2 a3 a4)
          refine lv_if_eq (tgt := 52) hx hb dX9_paces_42 (by decide) (fun c_42 => ?_) (fun c_42 => ?_)
          · have c_42 := bI_eq.mp c_42
            refine lv_iconst (v := 0) hx hb dX9_paces_52 (by decide) ?_
            refine lv_ior hx hb dX9_paces_53 ?_
            refine qh_topi (y := setR (fun q => allR (fun s => decide (repF (mixL mb f n) m2 kd (upd pa t (nI q)) ts ga gb va ln (cn s) = vs s)) rn) (q + 1)) (by rw [set_n (p := (fun q => allR (fun s => decide (repF (mixL mb f n) m2 kd (upd pa t (nI q)) ts ga gb va ln (cn s) = vs s)) rn)) c_42]; exact Int32.or_zero) ?_
            refine lv_istore_n (lv' := [(3, .int (setR (fun q => allR (fun s => decide (repF (mixL mb f n) m2 kd (upd pa t (nI q)) ts ga gb va ln (cn s) = vs s)) rn) (q + 1))), (0, .ref (z + 63)), (1, .int (nI t)), (2, .int (pa t)), (4, .int (nI q))]) hx hb dX9_paces_54 rfl hl (by decide) rfl (fun ls hl => ?_)
            refine lv_iinc (v := nI (q + 1)) (lv' := [(4, .int (nI (q + 1))), (3, .int (setR (fun q => allR (fun s => decide (repF (mixL mb f n) m2 kd (upd pa t (nI q)) ts ga gb va ln (cn s) = vs s)) rn) (q + 1))), (0, .ref (z + 63)), (1, .int (nI t)), (2, .int (pa t))]) hx hb dX9_paces_55 hl (k := 4) rfl (qn_inc q) (by decide) rfl (fun ls hl => ?_)
            refine lv_goto (tgt := 22) hx hb dX9_paces_58 (by decide) ?_
            exact ih_22 (q + 1) (nI q) _ _ (by omega) (by omega) E_4 h_71 h_79 h_80 h_67 h_68 (fun x9 a0 a1 a2 a3 a4 => hF x9 a0 a1 a2 a3 a4) _ _ hH ls (lv_sub hl [2, 3, 4, 1, 0] rfl)
          · have c_42 := bI_ne.mp c_42
            refine lv_iconst (v := 1) hx hb dX9_paces_45 (by decide) ?_
            refine lv_iload hx hb dX9_paces_46 (lv_at hl 4 rfl) ?_
            refine lv_ishl hx hb dX9_paces_48 ?_
            refine lv_goto (tgt := 53) hx hb dX9_paces_49 (by decide) ?_
            refine lv_ior hx hb dX9_paces_53 ?_
            refine qh_topi (y := setR (fun q => allR (fun s => decide (repF (mixL mb f n) m2 kd (upd pa t (nI q)) ts ga gb va ln (cn s) = vs s)) rn) (q + 1)) ((set_y (p := (fun q => allR (fun s => decide (repF (mixL mb f n) m2 kd (upd pa t (nI q)) ts ga gb va ln (cn s) = vs s)) rn)) c_42).symm) ?_
            refine lv_istore_n (lv' := [(3, .int (setR (fun q => allR (fun s => decide (repF (mixL mb f n) m2 kd (upd pa t (nI q)) ts ga gb va ln (cn s) = vs s)) rn) (q + 1))), (0, .ref (z + 63)), (1, .int (nI t)), (2, .int (pa t)), (4, .int (nI q))]) hx hb dX9_paces_54 rfl hl (by decide) rfl (fun ls hl => ?_)
            refine lv_iinc (v := nI (q + 1)) (lv' := [(4, .int (nI (q + 1))), (3, .int (setR (fun q => allR (fun s => decide (repF (mixL mb f n) m2 kd (upd pa t (nI q)) ts ga gb va ln (cn s) = vs s)) rn) (q + 1))), (0, .ref (z + 63)), (1, .int (nI t)), (2, .int (pa t))]) hx hb dX9_paces_55 hl (k := 4) rfl (qn_inc q) (by decide) rfl (fun ls hl => ?_)
            refine lv_goto (tgt := 22) hx hb dX9_paces_58 (by decide) ?_
            exact ih_22 (q + 1) (nI q) _ _ (by omega) (by omega) E_4 h_71 h_79 h_80 h_67 h_68 (fun x9 a0 a1 a2 a3 a4 => hF x9 a0 a1 a2 a3 a4) _ _ hH ls (lv_sub hl [2, 3, 4, 1, 0] rfl)
    exact L_22 11 0 (pa t) _ _ (Nat.zero_le _) (by omega) E (b_71.trans (congrArg (qa_I G 3) (upd_id ..).symm)) b_79 b_80 b_67 b_68 (fun x9 a0 a1 a2 a3 a4 => rfl) _ _ hH ls (lv_sub hl [3, 4, 2, 1, 0] rfl)
  · have c_5 := bI_eq.mp c_5
    refine lv_iconst (v := (-1)) hx hb dX9_paces_8 (by decide) ?_
    exact hret dX9_paces_9 hH (⟨by rw [if_neg c_5], ⟨_, _, _, _, _, _, _, _, _, _, b_63, b_64, b_65, b_66, b_67, b_68, b_69, b_70, b_71, b_72, b_73, b_74, b_75, b_76, b_77, b_78, b_79, b_80, b_82, b_83⟩, (fun _ _ => rfl)⟩)

set_option maxHeartbeats 1000000 in
set_option maxRecDepth 100000 in
theorem c_X9_sheet (l : Launch) (G : qh_G) (z M : Nat) (E : Nat → va_E) (tr : Int32) (lf : Int32) (n : Nat) (f : Nat → Int64) (g : Nat → Int64) (mb : Nat → Int64) (m2 : Nat) (kd : Nat → Int32) (pa : Nat → Int32) (ln : Nat) (ts : Nat → Int32) (ga : Nat → Nat) (gb : Nat → Nat) (va : Nat → Int64) (rn : Nat) (cn : Nat → Nat) (vs : Nat → Int64) (so : Nat → Int32) (sg : Nat → Int32) (ce : Nat → Int32) (hM : 84 ≤ M) (hX : ME G z E tr lf n f g mb m2 kd pa ln ts ga gb va rn cn vs so sg ce) (hW : MW n m2 ln rn ga gb cn ts va kd so sg) (x : Int32) (y : Int32) (q : Int32) : Met l yX9_sheet wsX9_sheet (qh_R 2) (qh_Pre G z M E [.ref (z + 63), .int x, .int y, .int q]) (qh_Q G z M (qh_i (fun r E' => match shtD x y q with | some u => r = u.1 ∧ ME G z E' tr u.2 n f g mb m2 kd pa ln ts ga gb va rn cn vs so sg ce ∧ ∀ x9, (x9 < 63 ∨ x9 = 81) → E' x9 = E x9 | none => r = 1 ∧ ME G z E' tr 0 n f g mb m2 kd pa ln ts ga gb va rn cn vs (upd so x.toNatClampNeg y) (upd sg x.toNatClampNeg q) (zerF ce (60 * x.toNatClampNeg) 60) ∧ ∀ x9, (x9 < 63 ∨ x9 = 81) → E' x9 = E x9))) 0 0 (fun q => z ≤ q) := by
  refine qh_metI (cc := cX9_sheet) (maxL := 5) (by decide) rfl (Nat.le_of_ble_eq_true rfl) ?_
  intro pZ eZ sZ mZ aZ bZ tZ cZ RR QQ ls hx hb hml hown hts hRf hRl hH hK hl hret
  have hown : sZ.vm.findClass RX9 = some mZ.cls := hown
  have hl : lv_has ls 5 [(0, .ref (z + 63)), (1, .int x), (2, .int y), (3, .int q)] := hl
  obtain ⟨pt, rm, rh, sf, sl, r1, r2, r3, k1, k2, b_63, b_64, b_65, b_66, b_67, b_68, b_69, b_70, b_71, b_72, b_73, b_74, b_75, b_76, b_77, b_78, b_79, b_80, b_82, b_83⟩ := hX
  obtain ⟨⟨hn16, hm3, hl24, hr8⟩, hval, hcn, hok, hvh, hkd, hso⟩ := hW
  have in_X9 : ∀ w ∈ wsX90, w ∈ wsX9_sheet := fun w h => List.mem_cons_of_mem _ (List.mem_append_right _ h)
  have w_71 : qh_W G sZ mZ aZ 71 9 0 .int := qh_W.of hts in_X9 tyX9 tyX9_ok nmX9 hown hK rfl 0 (by decide) (by decide +kernel) rfl (by decide +kernel)
  have f_9 : qh_F G sZ mZ aZ 9 9 2 := qh_F.of hts in_X9 hown hK rfl 2 (by decide) (by decide +kernel)
  have f_13 : qh_F G sZ mZ aZ 13 9 3 := qh_F.of hts in_X9 hown hK rfl 3 (by decide) (by decide +kernel)
  have f_16 : qh_F G sZ mZ aZ 16 9 4 := qh_F.of hts in_X9 hown hK rfl 4 (by decide) (by decide +kernel)
  refine lv_aload_n hx hb dX9_sheet_0 rfl (lv_at hl 0 rfl) ?_
  refine lv_iconst (v := 0) hx hb dX9_sheet_1 (by decide) ?_
  refine qh_put (fs' := [.int 0, .int tr, .ref (z + 64), .ref (z + 65), .ref (z + 66), .int (nI n), .int (nI m2), .ref (z + 67), .ref (z + 68), .ref (z + 69), .ref (z + 70), .ref (z + 71), .int (nI ln), .ref (z + 72), .ref (z + 73), .ref (z + 74), .ref (z + 75), .int pt, .int rm, .int rh, .ref (z + 76), .ref (z + 77), .ref (z + 78), .ref (z + 79), .ref (z + 80), .int sf, .int sl, .ref (z + 81), .int (nI rn), .ref (z + 82), .ref (z + 83)]) hx hb hH w_71 (by omega) b_63 rfl rfl (Nat.le_of_ble_eq_true rfl) rfl dX9_sheet_2 (fun E_1 H locs h_63 hfr hH _ => ?_)
  have hF : ∀ x9, x9 ≠ 63 → E_1 x9 = E x9 := fun x9 a0 => hfr x9 a0
  refine lv_iload_n hx hb dX9_sheet_5 rfl (lv_at hl 1 rfl) ?_
  refine qh_runS (As := [.int x]) (rest := []) ⟨hx, hb, hml, hown, hts⟩ hK hH (c_X9_isSheet l G z M E_1 x) (va_cwS 1 hts gX9_sheet_X9_isSheet rfl rfl rfl (by decide +kernel) (by rw [hRf, hRl]; exact ⟨Nat.le_of_ble_eq_true rfl, Nat.le_of_ble_eq_true rfl⟩)) rfl hl.1 rfl (Nat.le_of_ble_eq_true rfl) dX9_sheet_6 ⟨Nat.zero_le _, Nat.zero_le _⟩ (qh_kki fun r_6 E_2 H locs hpost hH => ?_)
  obtain ⟨rfl, rfl⟩ := hpost
  refine lv_if_ne (tgt := 14) hx hb dX9_sheet_9 (by decide) (fun c_9 => ?_) (fun c_9 => ?_)
  · have c_9 := bI_ne.mp c_9
    have c_9 := sh4.mp c_9
    obtain ⟨j, hj, ej⟩ := nI_of_in (k := x) (c := 4) (by decide) c_9
    have Ej : x.toNatClampNeg = j := by rw [ej]; exact nI_clamp (by omega)
    refine lv_iload_n hx hb dX9_sheet_14 rfl (lv_at hl 2 rfl) ?_
    refine qh_runS (As := [.int y]) (rest := []) ⟨hx, hb, hml, hown, hts⟩ hK hH (c_X9_isSort l G z M E_1 y) (va_cwS 1 hts gX9_sheet_X9_isSort rfl rfl rfl (by decide +kernel) (by rw [hRf, hRl]; exact ⟨Nat.le_of_ble_eq_true rfl, Nat.le_of_ble_eq_true rfl⟩)) rfl hl.1 rfl (Nat.le_of_ble_eq_true rfl) dX9_sheet_15 ⟨Nat.zero_le _, Nat.zero_le _⟩ (qh_kki fun r_15 E_3 H locs hpost hH => ?_)
    obtain ⟨rfl, rfl⟩ := hpost
    refine lv_if_eq (tgt := 27) hx hb dX9_sheet_18 (by decide) (fun c_18 => ?_) (fun c_18 => ?_)
    · have c_18 := bI_eq.mp c_18
      have c_18 := (not_congr le2).mp c_18
      have hD : shtD x y q = some (-2, 0) := by rw [shtD, if_pos c_9, if_neg (fun u => c_18 u.1)]
      refine lv_bipush (v := (-2)) hx hb dX9_sheet_27 (by decide) ?_
      exact hret dX9_sheet_29 hH (by rw [hD]; exact ⟨rfl, ⟨_, _, _, _, _, _, _, _, _, _, h_63, ((hF 64 (by decide)).trans b_64), ((hF 65 (by decide)).trans b_65), ((hF 66 (by decide)).trans b_66), ((hF 67 (by decide)).trans b_67), ((hF 68 (by decide)).trans b_68), ((hF 69 (by decide)).trans b_69), ((hF 70 (by decide)).trans b_70), ((hF 71 (by decide)).trans b_71), ((hF 72 (by decide)).trans b_72), ((hF 73 (by decide)).trans b_73), ((hF 74 (by decide)).trans b_74), ((hF 75 (by decide)).trans b_75), ((hF 76 (by decide)).trans b_76), ((hF 77 (by decide)).trans b_77), ((hF 78 (by decide)).trans b_78), ((hF 79 (by decide)).trans b_79), ((hF 80 (by decide)).trans b_80), ((hF 82 (by decide)).trans b_82), ((hF 83 (by decide)).trans b_83)⟩, (fun x9 h9 => hF x9 (by omega))⟩)
    · have c_18 := bI_ne.mp c_18
      have c_18 := le2.mp c_18
      refine lv_iload_n hx hb dX9_sheet_21 rfl (lv_at hl 3 rfl) ?_
      refine lv_bipush (v := 60) hx hb dX9_sheet_22 (by decide) ?_
      refine lv_icmp_le (tgt := 30) hx hb dX9_sheet_24 (by decide) (fun c_24 => ?_) (fun c_24 => ?_)
      · refine lv_iload_n hx hb dX9_sheet_30 rfl (lv_at hl 3 rfl) ?_
        refine lv_if_ge (tgt := 40) hx hb dX9_sheet_31 (by decide) (fun c_31 => ?_) (fun c_31 => ?_)
        · have hD : shtD x y q = none := by rw [shtD, if_pos c_9, if_pos ⟨c_18, c_24⟩, if_pos c_31]
          refine lv_aload_n hx hb dX9_sheet_40 rfl (lv_at hl 0 rfl) ?_
          refine qh_get hx hb hH f_9 (by omega) h_63 rfl dX9_sheet_41 ?_
          refine lv_iload_n hx hb dX9_sheet_44 rfl (lv_at hl 1 rfl) ?_
          refine lv_iload_n hx hb dX9_sheet_45 rfl (lv_at hl 2 rfl) ?_
          refine qh_iast hx hb hK hH (by omega) ((hF 64 (by decide)).trans b_64) (j := j) (ej) (hj) (by omega) dX9_sheet_46 (fun E_4 H locs h_64 hfr hH _ => ?_)
          have h_63 := (hfr 63 (by decide)).trans h_63
          have hF : ∀ x9, x9 ≠ 63 → x9 ≠ 64 → E_4 x9 = E x9 := fun x9 a0 a1 => (hfr x9 a1).trans (hF x9 a0)
          refine lv_aload_n hx hb dX9_sheet_47 rfl (lv_at hl 0 rfl) ?_
          refine qh_get hx hb hH f_13 (by omega) h_63 rfl dX9_sheet_48 ?_
          refine lv_iload_n hx hb dX9_sheet_51 rfl (lv_at hl 1 rfl) ?_
          refine lv_iload_n hx hb dX9_sheet_52 rfl (lv_at hl 3 rfl) ?_
          refine qh_iast hx hb hK hH (by omega) ((hF 65 (by decide) (by decide)).trans b_65) (j := j) (ej) (hj) (by omega) dX9_sheet_53 (fun E_5 H locs h_65 hfr hH _ => ?_)
          have h_63 := (hfr 63 (by decide)).trans h_63
          have h_64 := (hfr 64 (by decide)).trans h_64
          have hF : ∀ x9, x9 ≠ 63 → x9 ≠ 64 → x9 ≠ 65 → E_5 x9 = E x9 := fun x9 a0 a1 a2 => (hfr x9 a2).trans (hF x9 a0 a1)
          refine lv_iconst (v := 0) hx hb dX9_sheet_54 (by decide) ?_
          refine lv_istore (lv' := [(4, .int 0), (0, .ref (z + 63)), (1, .int x), (2, .int y), (3, .int q)]) hx hb dX9_sheet_55 hl (by decide) rfl (fun ls hl => ?_)
          have L_57 : ∀ fu_57 : Nat, ∀ i : Nat, (i ≤ 60) → (60 - i < fu_57) → ∀ Ek : Nat → va_E, Ek 63 = .inr (9, [.int 0, .int tr, .ref (z + 64), .ref (z + 65), .ref (z + 66), .int (nI n), .int (nI m2), .ref (z + 67), .ref (z + 68), .ref (z + 69), .ref (z + 70), .ref (z + 71), .int (nI ln), .ref (z + 72), .ref (z + 73), .ref (z + 74), .ref (z + 75), .int pt, .int rm, .int rh, .ref (z + 76), .ref (z + 77), .ref (z + 78), .ref (z + 79), .ref (z + 80), .int sf, .int sl, .ref (z + 81), .int (nI rn), .ref (z + 82), .ref (z + 83)]) → Ek 64 = qa_I G 4 (upd so j y) → Ek 65 = qa_I G 4 (upd sg j q) → Ek 66 = qa_I G 240 (zerF ce (60 * j) i) → (∀ x9, x9 ≠ 63 → x9 ≠ 64 → x9 ≠ 65 → x9 ≠ 66 → Ek x9 = E x9) → ∀ (H : Heap) (locs : List Loc), qh_H G z M Ek sZ.heap H locs → ∀ ls : Array Slot, lv_has ls 5 [(0, .ref (z + 63)), (1, .int x), (4, .int (nI i))] → W pZ l eZ RR sZ mZ aZ bZ tZ cZ H locs 0 0 QQ (F0 mZ 57 ls []) := by
            intro fu_57
            induction fu_57 with
            | zero =>
              intro i hi hfuel
              exact absurd hfuel (by omega)
            | succ fu_57 ih_57 =>
              intro i hi hfuel Ek h_63 h_64 h_65 h_66 hF H locs hH ls hl
              refine lv_iload hx hb dX9_sheet_57 (lv_at hl 2 rfl) ?_
              refine lv_bipush (v := 60) hx hb dX9_sheet_59 (by decide) ?_
              refine lv_icmp_ge (tgt := 83) hx hb dX9_sheet_61 (by decide) (fun c_61 => ?_) (fun c_61 => ?_)
              · have hk : 60 ≤ i := (nI_leI (by omega) (by omega)).mp c_61
                have hex : 60 = i := by omega
                subst hex
                refine lv_iconst (v := 1) hx hb dX9_sheet_83 (by decide) ?_
                exact hret dX9_sheet_84 hH (by rw [hD, Ej]; exact ⟨rfl, ⟨_, _, _, _, _, _, _, _, _, _, h_63, h_64, h_65, h_66, ((hF 67 (by decide) (by decide) (by decide) (by decide)).trans b_67), ((hF 68 (by decide) (by decide) (by decide) (by decide)).trans b_68), ((hF 69 (by decide) (by decide) (by decide) (by decide)).trans b_69), ((hF 70 (by decide) (by decide) (by decide) (by decide)).trans b_70), ((hF 71 (by decide) (by decide) (by decide) (by decide)).trans b_71), ((hF 72 (by decide) (by decide) (by decide) (by decide)).trans b_72), ((hF 73 (by decide) (by decide) (by decide) (by decide)).trans b_73), ((hF 74 (by decide) (by decide) (by decide) (by decide)).trans b_74), ((hF 75 (by decide) (by decide) (by decide) (by decide)).trans b_75), ((hF 76 (by decide) (by decide) (by decide) (by decide)).trans b_76), ((hF 77 (by decide) (by decide) (by decide) (by decide)).trans b_77), ((hF 78 (by decide) (by decide) (by decide) (by decide)).trans b_78), ((hF 79 (by decide) (by decide) (by decide) (by decide)).trans b_79), ((hF 80 (by decide) (by decide) (by decide) (by decide)).trans b_80), ((hF 82 (by decide) (by decide) (by decide) (by decide)).trans b_82), ((hF 83 (by decide) (by decide) (by decide) (by decide)).trans b_83)⟩, (fun x9 h9 => hF x9 (by omega) (by omega) (by omega) (by omega))⟩)
              · have hk : ¬ 60 ≤ i := fun w => c_61 (nI_le w (by omega))
                refine lv_aload_n hx hb dX9_sheet_64 rfl (lv_at hl 0 rfl) ?_
                refine qh_get hx hb hH f_16 (by omega) h_63 rfl dX9_sheet_65 ?_
                refine lv_bipush (v := 60) hx hb dX9_sheet_68 (by decide) ?_
                refine lv_iload_n hx hb dX9_sheet_70 rfl (lv_at hl 1 rfl) ?_
                refine lv_imul hx hb dX9_sheet_71 ?_
                refine qh_topi (y := nI (60 * j)) (by rw [ej]; exact pk_mul 60 j) ?_
                refine lv_iload hx hb dX9_sheet_72 (lv_at hl 2 rfl) ?_
                refine lv_iadd hx hb dX9_sheet_74 ?_
                refine qh_topi (y := nI (60 * j + i)) (nI_add _ _) ?_
                refine lv_iconst (v := 0) hx hb dX9_sheet_75 (by decide) ?_
                refine qh_iast hx hb hK hH (by omega) h_66 (j := 60 * j + i) (rfl) (by omega) (by omega) dX9_sheet_76 (fun E_6 H locs h_66 hfr hH _ => ?_)
                have h_66 : E_6 66 = qa_I G 240 (zerF ce (60 * j) (i + 1)) := h_66.trans (congrArg (qa_I G 240) (zerF_s ..))
                have h_63 := (hfr 63 (by decide)).trans h_63
                have h_64 := (hfr 64 (by decide)).trans h_64
                have h_65 := (hfr 65 (by decide)).trans h_65
                have hF : ∀ x9, x9 ≠ 63 → x9 ≠ 64 → x9 ≠ 65 → x9 ≠ 66 → E_6 x9 = E x9 := fun x9 a0 a1 a2 a3 => (hfr x9 a3).trans (hF x9 a0 a1 a2 a3)
                refine lv_iinc (v := nI (i + 1)) (lv' := [(4, .int (nI (i + 1))), (0, .ref (z + 63)), (1, .int x)]) hx hb dX9_sheet_77 hl (k := 2) rfl (qn_inc i) (by decide) rfl (fun ls hl => ?_)
                refine lv_goto (tgt := 57) hx hb dX9_sheet_80 (by decide) ?_
                exact ih_57 (i + 1) (by omega) (by omega) E_6 h_63 h_64 h_65 h_66 (fun x9 a0 a1 a2 a3 => hF x9 a0 a1 a2 a3) _ _ hH ls (lv_sub hl [1, 2, 0] rfl)
          exact L_57 61 0 (Nat.zero_le _) (by omega) E_5 h_63 h_64 h_65 (((hF 66 (by decide) (by decide) (by decide)).trans b_66).trans (congrArg (qa_I G 240) (zerF_0 ..).symm)) (fun x9 a0 a1 a2 a3 => hF x9 a0 a1 a2) _ _ hH ls (lv_sub hl [1, 2, 0] rfl)
        · have hD : shtD x y q = some (-10 - 4, 4) := by rw [shtD, if_pos c_9, if_pos ⟨c_18, c_24⟩, if_neg c_31]
          refine lv_aload_n hx hb dX9_sheet_34 rfl (lv_at hl 0 rfl) ?_
          refine lv_iconst (v := 4) hx hb dX9_sheet_35 (by decide) ?_
          refine qh_runV (As := [.int 4]) (rest := []) (C := RX9) ⟨hx, hb, hml, hown, hts⟩ hK hH (c_X9_fails l G z M E_1 0 tr n m2 ln pt rm rh sf sl rn (hM) h_63 4) (cwV 1 hts gX9_sheet_X9_fails rfl rfl rfl (by decide +kernel) (by rw [hRf, hRl]; exact ⟨Nat.le_of_ble_eq_true rfl, Nat.le_of_ble_eq_true rfl⟩)) (by omega) h_63 rfl rfl hl.1 rfl (Nat.le_of_ble_eq_true rfl) dX9_sheet_36 ⟨Nat.zero_le _, Nat.zero_le _⟩ (qh_kki fun r_36 E_7 H locs hpost hH => ?_)
          obtain ⟨rfl, h_63, hfr⟩ := hpost
          have hF : ∀ x9, x9 ≠ 63 → E_7 x9 = E x9 := fun x9 a0 => (hfr x9 a0).trans (hF x9 a0)
          exact hret dX9_sheet_39 hH (by rw [hD]; exact ⟨rfl, ⟨_, _, _, _, _, _, _, _, _, _, h_63, ((hF 64 (by decide)).trans b_64), ((hF 65 (by decide)).trans b_65), ((hF 66 (by decide)).trans b_66), ((hF 67 (by decide)).trans b_67), ((hF 68 (by decide)).trans b_68), ((hF 69 (by decide)).trans b_69), ((hF 70 (by decide)).trans b_70), ((hF 71 (by decide)).trans b_71), ((hF 72 (by decide)).trans b_72), ((hF 73 (by decide)).trans b_73), ((hF 74 (by decide)).trans b_74), ((hF 75 (by decide)).trans b_75), ((hF 76 (by decide)).trans b_76), ((hF 77 (by decide)).trans b_77), ((hF 78 (by decide)).trans b_78), ((hF 79 (by decide)).trans b_79), ((hF 80 (by decide)).trans b_80), ((hF 82 (by decide)).trans b_82), ((hF 83 (by decide)).trans b_83)⟩, (fun x9 h9 => hF x9 (by omega))⟩)
      · have hD : shtD x y q = some (-2, 0) := by rw [shtD, if_pos c_9, if_neg (fun u => c_24 u.2)]
        refine lv_bipush (v := (-2)) hx hb dX9_sheet_27 (by decide) ?_
        exact hret dX9_sheet_29 hH (by rw [hD]; exact ⟨rfl, ⟨_, _, _, _, _, _, _, _, _, _, h_63, ((hF 64 (by decide)).trans b_64), ((hF 65 (by decide)).trans b_65), ((hF 66 (by decide)).trans b_66), ((hF 67 (by decide)).trans b_67), ((hF 68 (by decide)).trans b_68), ((hF 69 (by decide)).trans b_69), ((hF 70 (by decide)).trans b_70), ((hF 71 (by decide)).trans b_71), ((hF 72 (by decide)).trans b_72), ((hF 73 (by decide)).trans b_73), ((hF 74 (by decide)).trans b_74), ((hF 75 (by decide)).trans b_75), ((hF 76 (by decide)).trans b_76), ((hF 77 (by decide)).trans b_77), ((hF 78 (by decide)).trans b_78), ((hF 79 (by decide)).trans b_79), ((hF 80 (by decide)).trans b_80), ((hF 82 (by decide)).trans b_82), ((hF 83 (by decide)).trans b_83)⟩, (fun x9 h9 => hF x9 (by omega))⟩)
  · have c_9 := bI_eq.mp c_9
    have c_9 := (not_congr sh4).mp c_9
    have hD : shtD x y q = some (-1, 0) := if_neg c_9
    refine lv_iconst (v := (-1)) hx hb dX9_sheet_12 (by decide) ?_
    exact hret dX9_sheet_13 hH (by rw [hD]; exact ⟨rfl, ⟨_, _, _, _, _, _, _, _, _, _, h_63, ((hF 64 (by decide)).trans b_64), ((hF 65 (by decide)).trans b_65), ((hF 66 (by decide)).trans b_66), ((hF 67 (by decide)).trans b_67), ((hF 68 (by decide)).trans b_68), ((hF 69 (by decide)).trans b_69), ((hF 70 (by decide)).trans b_70), ((hF 71 (by decide)).trans b_71), ((hF 72 (by decide)).trans b_72), ((hF 73 (by decide)).trans b_73), ((hF 74 (by decide)).trans b_74), ((hF 75 (by decide)).trans b_75), ((hF 76 (by decide)).trans b_76), ((hF 77 (by decide)).trans b_77), ((hF 78 (by decide)).trans b_78), ((hF 79 (by decide)).trans b_79), ((hF 80 (by decide)).trans b_80), ((hF 82 (by decide)).trans b_82), ((hF 83 (by decide)).trans b_83)⟩, (fun x9 h9 => hF x9 (by omega))⟩)

set_option maxHeartbeats 1000000 in
set_option maxRecDepth 100000 in
theorem c_X9_lose (l : Launch) (G : qh_G) (z M : Nat) (E : Nat → va_E) (tr : Int32) (lf : Int32) (n : Nat) (f : Nat → Int64) (g : Nat → Int64) (mb : Nat → Int64) (m2 : Nat) (kd : Nat → Int32) (pa : Nat → Int32) (ln : Nat) (ts : Nat → Int32) (ga : Nat → Nat) (gb : Nat → Nat) (va : Nat → Int64) (rn : Nat) (cn : Nat → Nat) (vs : Nat → Int64) (so : Nat → Int32) (sg : Nat → Int32) (ce : Nat → Int32) (hM : 84 ≤ M) (hX : ME G z E tr lf n f g mb m2 kd pa ln ts ga gb va rn cn vs so sg ce) (hW : MW n m2 ln rn ga gb cn ts va kd so sg) (x : Int32) : Met l yX9_lose wsX9_lose (qh_R 2) (qh_Pre G z M E [.ref (z + 63), .int x]) (qh_Q G z M (qh_i (fun r E' => match losD x with | some q => r = q ∧ ME G z E' tr lf n f g mb m2 kd pa ln ts ga gb va rn cn vs so sg ce ∧ ∀ x9, (x9 < 63 ∨ x9 = 81) → E' x9 = E x9 | none => r = hrM so x.toNatClampNeg ∧ ME G z E' tr lf n f g mb m2 kd pa ln ts ga gb va rn cn vs (upd so x.toNatClampNeg (-9)) sg ce ∧ ∀ x9, (x9 < 63 ∨ x9 = 81) → E' x9 = E x9))) 0 0 (fun q => z ≤ q) := by
  refine qh_metI (cc := cX9_lose) (maxL := 3) (by decide) rfl (Nat.le_of_ble_eq_true rfl) ?_
  intro pZ eZ sZ mZ aZ bZ tZ cZ RR QQ ls hx hb hml hown hts hRf hRl hH hK hl hret
  have hown : sZ.vm.findClass RX9 = some mZ.cls := hown
  have hl : lv_has ls 3 [(0, .ref (z + 63)), (1, .int x)] := hl
  obtain ⟨pt, rm, rh, sf, sl, r1, r2, r3, k1, k2, b_63, b_64, b_65, b_66, b_67, b_68, b_69, b_70, b_71, b_72, b_73, b_74, b_75, b_76, b_77, b_78, b_79, b_80, b_82, b_83⟩ := hX
  obtain ⟨⟨hn16, hm3, hl24, hr8⟩, hval, hcn, hok, hvh, hkd, hso⟩ := hW
  have in_X9 : ∀ w ∈ wsX90, w ∈ wsX9_lose := fun w h => List.mem_cons_of_mem _ (List.mem_append_right _ h)
  have f_9 : qh_F G sZ mZ aZ 9 9 2 := qh_F.of hts in_X9 hown hK rfl 2 (by decide) (by decide +kernel)
  refine lv_iload_n hx hb dX9_lose_0 rfl (lv_at hl 1 rfl) ?_
  refine qh_runS (As := [.int x]) (rest := []) ⟨hx, hb, hml, hown, hts⟩ hK hH (c_X9_isSheet l G z M E x) (va_cwS 1 hts gX9_lose_X9_isSheet rfl rfl rfl (by decide +kernel) (by rw [hRf, hRl]; exact ⟨Nat.le_of_ble_eq_true rfl, Nat.le_of_ble_eq_true rfl⟩)) rfl hl.1 rfl (Nat.le_of_ble_eq_true rfl) dX9_lose_1 ⟨Nat.zero_le _, Nat.zero_le _⟩ (qh_kki fun r_1 E_1 H locs hpost hH => ?_)
  obtain ⟨rfl, rfl⟩ := hpost
  refine lv_if_ne (tgt := 9) hx hb dX9_lose_4 (by decide) (fun c_4 => ?_) (fun c_4 => ?_)
  · have c_4 := bI_ne.mp c_4
    have c_4 := sh4.mp c_4
    have hD : losD x = none := if_pos c_4
    obtain ⟨j, hj, ej⟩ := nI_of_in (k := x) (c := 4) (by decide) c_4
    have Ej : x.toNatClampNeg = j := by rw [ej]; exact nI_clamp (by omega)
    refine lv_aload_n hx hb dX9_lose_9 rfl (lv_at hl 0 rfl) ?_
    refine qh_get hx hb hH f_9 (by omega) b_63 rfl dX9_lose_10 ?_
    refine lv_iload_n hx hb dX9_lose_13 rfl (lv_at hl 1 rfl) ?_
    refine qh_iald hx hb hK hH (by omega) b_64 (j := j) (ej) (hj) (by omega) dX9_lose_14 ?_
    refine lv_bipush (v := (-9)) hx hb dX9_lose_15 (by decide) ?_
    refine lv_icmp_ne (tgt := 24) hx hb dX9_lose_17 (by decide) (fun c_17 => ?_) (fun c_17 => ?_)
    · have hh : (1 : Int32) = hrM so j := (if_neg c_17).symm
      refine lv_iconst (v := 1) hx hb dX9_lose_24 (by decide) ?_
      refine lv_istore_n (lv' := [(2, .int 1), (0, .ref (z + 63)), (1, .int x)]) hx hb dX9_lose_25 rfl hl (by decide) rfl (fun ls hl => ?_)
      refine lv_aload_n hx hb dX9_lose_26 rfl (lv_at hl 1 rfl) ?_
      refine qh_get hx hb hH f_9 (by omega) b_63 rfl dX9_lose_27 ?_
      refine lv_iload_n hx hb dX9_lose_30 rfl (lv_at hl 2 rfl) ?_
      refine lv_bipush (v := (-9)) hx hb dX9_lose_31 (by decide) ?_
      refine qh_iast hx hb hK hH (by omega) b_64 (j := j) (ej) (hj) (by omega) dX9_lose_33 (fun E_2 H locs h_64 hfr hH _ => ?_)
      have hF : ∀ x9, x9 ≠ 64 → E_2 x9 = E x9 := fun x9 a0 => hfr x9 a0
      refine lv_iload_n hx hb dX9_lose_34 rfl (lv_at hl 0 rfl) ?_
      exact hret dX9_lose_35 hH (by rw [hD, Ej]; exact ⟨hh, ⟨_, _, _, _, _, _, _, _, _, _, ((hF 63 (by decide)).trans b_63), h_64, ((hF 65 (by decide)).trans b_65), ((hF 66 (by decide)).trans b_66), ((hF 67 (by decide)).trans b_67), ((hF 68 (by decide)).trans b_68), ((hF 69 (by decide)).trans b_69), ((hF 70 (by decide)).trans b_70), ((hF 71 (by decide)).trans b_71), ((hF 72 (by decide)).trans b_72), ((hF 73 (by decide)).trans b_73), ((hF 74 (by decide)).trans b_74), ((hF 75 (by decide)).trans b_75), ((hF 76 (by decide)).trans b_76), ((hF 77 (by decide)).trans b_77), ((hF 78 (by decide)).trans b_78), ((hF 79 (by decide)).trans b_79), ((hF 80 (by decide)).trans b_80), ((hF 82 (by decide)).trans b_82), ((hF 83 (by decide)).trans b_83)⟩, (fun x9 h9 => hF x9 (by omega))⟩)
    · have hh : (0 : Int32) = hrM so j := (if_pos c_17).symm
      refine lv_iconst (v := 0) hx hb dX9_lose_20 (by decide) ?_
      refine lv_goto (tgt := 25) hx hb dX9_lose_21 (by decide) ?_
      refine lv_istore_n (lv' := [(2, .int 0), (0, .ref (z + 63)), (1, .int x)]) hx hb dX9_lose_25 rfl hl (by decide) rfl (fun ls hl => ?_)
      refine lv_aload_n hx hb dX9_lose_26 rfl (lv_at hl 1 rfl) ?_
      refine qh_get hx hb hH f_9 (by omega) b_63 rfl dX9_lose_27 ?_
      refine lv_iload_n hx hb dX9_lose_30 rfl (lv_at hl 2 rfl) ?_
      refine lv_bipush (v := (-9)) hx hb dX9_lose_31 (by decide) ?_
      refine qh_iast hx hb hK hH (by omega) b_64 (j := j) (ej) (hj) (by omega) dX9_lose_33 (fun E_3 H locs h_64 hfr hH _ => ?_)
      have hF : ∀ x9, x9 ≠ 64 → E_3 x9 = E x9 := fun x9 a0 => hfr x9 a0
      refine lv_iload_n hx hb dX9_lose_34 rfl (lv_at hl 0 rfl) ?_
      exact hret dX9_lose_35 hH (by rw [hD, Ej]; exact ⟨hh, ⟨_, _, _, _, _, _, _, _, _, _, ((hF 63 (by decide)).trans b_63), h_64, ((hF 65 (by decide)).trans b_65), ((hF 66 (by decide)).trans b_66), ((hF 67 (by decide)).trans b_67), ((hF 68 (by decide)).trans b_68), ((hF 69 (by decide)).trans b_69), ((hF 70 (by decide)).trans b_70), ((hF 71 (by decide)).trans b_71), ((hF 72 (by decide)).trans b_72), ((hF 73 (by decide)).trans b_73), ((hF 74 (by decide)).trans b_74), ((hF 75 (by decide)).trans b_75), ((hF 76 (by decide)).trans b_76), ((hF 77 (by decide)).trans b_77), ((hF 78 (by decide)).trans b_78), ((hF 79 (by decide)).trans b_79), ((hF 80 (by decide)).trans b_80), ((hF 82 (by decide)).trans b_82), ((hF 83 (by decide)).trans b_83)⟩, (fun x9 h9 => hF x9 (by omega))⟩)
  · have c_4 := bI_eq.mp c_4
    have c_4 := (not_congr sh4).mp c_4
    have hD : losD x = some (-1) := if_neg c_4
    refine lv_iconst (v := (-1)) hx hb dX9_lose_7 (by decide) ?_
    exact hret dX9_lose_8 hH (by rw [hD]; exact ⟨rfl, ⟨_, _, _, _, _, _, _, _, _, _, b_63, b_64, b_65, b_66, b_67, b_68, b_69, b_70, b_71, b_72, b_73, b_74, b_75, b_76, b_77, b_78, b_79, b_80, b_82, b_83⟩, (fun _ _ => rfl)⟩)

set_option maxHeartbeats 1000000 in
set_option maxRecDepth 100000 in
theorem c_X9_put (l : Launch) (G : qh_G) (z M : Nat) (E : Nat → va_E) (tr : Int32) (lf : Int32) (n : Nat) (f : Nat → Int64) (g : Nat → Int64) (mb : Nat → Int64) (m2 : Nat) (kd : Nat → Int32) (pa : Nat → Int32) (ln : Nat) (ts : Nat → Int32) (ga : Nat → Nat) (gb : Nat → Nat) (va : Nat → Int64) (rn : Nat) (cn : Nat → Nat) (vs : Nat → Int64) (so : Nat → Int32) (sg : Nat → Int32) (ce : Nat → Int32) (hM : 84 ≤ M) (hX : ME G z E tr lf n f g mb m2 kd pa ln ts ga gb va rn cn vs so sg ce) (hW : MW n m2 ln rn ga gb cn ts va kd so sg) (x : Int32) (y : Int32) (q : Int32) : Met l yX9_put wsX9_put (qh_R 2) (qh_Pre G z M E [.ref (z + 63), .int x, .int y, .int q]) (qh_Q G z M (qh_i (fun r E' => match putD x y (hrM so) (lgM sg) with | some u => r = u.1 ∧ ME G z E' tr u.2 n f g mb m2 kd pa ln ts ga gb va rn cn vs so sg ce ∧ ∀ x9, (x9 < 63 ∨ x9 = 81) → E' x9 = E x9 | none => r = 1 ∧ ME G z E' tr 0 n f g mb m2 kd pa ln ts ga gb va rn cn vs so sg (upd ce (60 * x.toNatClampNeg + y.toNatClampNeg) (cutF (so x.toNatClampNeg) q)) ∧ ∀ x9, (x9 < 63 ∨ x9 = 81) → E' x9 = E x9))) 0 0 (fun q => z ≤ q) := by
  refine qh_metI (cc := cX9_put) (maxL := 4) (by decide) rfl (Nat.le_of_ble_eq_true rfl) ?_
  intro pZ eZ sZ mZ aZ bZ tZ cZ RR QQ ls hx hb hml hown hts hRf hRl hH hK hl hret
  have hown : sZ.vm.findClass RX9 = some mZ.cls := hown
  have hl : lv_has ls 4 [(0, .ref (z + 63)), (1, .int x), (2, .int y), (3, .int q)] := hl
  obtain ⟨pt, rm, rh, sf, sl, r1, r2, r3, k1, k2, b_63, b_64, b_65, b_66, b_67, b_68, b_69, b_70, b_71, b_72, b_73, b_74, b_75, b_76, b_77, b_78, b_79, b_80, b_82, b_83⟩ := hX
  obtain ⟨⟨hn16, hm3, hl24, hr8⟩, hval, hcn, hok, hvh, hkd, hso⟩ := hW
  have in_X9 : ∀ w ∈ wsX90, w ∈ wsX9_put := fun w h => List.mem_cons_of_mem _ (List.mem_append_right _ h)
  have w_71 : qh_W G sZ mZ aZ 71 9 0 .int := qh_W.of hts in_X9 tyX9 tyX9_ok nmX9 hown hK rfl 0 (by decide) (by decide +kernel) rfl (by decide +kernel)
  have f_9 : qh_F G sZ mZ aZ 9 9 2 := qh_F.of hts in_X9 hown hK rfl 2 (by decide) (by decide +kernel)
  have f_13 : qh_F G sZ mZ aZ 13 9 3 := qh_F.of hts in_X9 hown hK rfl 3 (by decide) (by decide +kernel)
  have f_16 : qh_F G sZ mZ aZ 16 9 4 := qh_F.of hts in_X9 hown hK rfl 4 (by decide) (by decide +kernel)
  refine lv_aload_n hx hb dX9_put_0 rfl (lv_at hl 0 rfl) ?_
  refine lv_iconst (v := 0) hx hb dX9_put_1 (by decide) ?_
  refine qh_put (fs' := [.int 0, .int tr, .ref (z + 64), .ref (z + 65), .ref (z + 66), .int (nI n), .int (nI m2), .ref (z + 67), .ref (z + 68), .ref (z + 69), .ref (z + 70), .ref (z + 71), .int (nI ln), .ref (z + 72), .ref (z + 73), .ref (z + 74), .ref (z + 75), .int pt, .int rm, .int rh, .ref (z + 76), .ref (z + 77), .ref (z + 78), .ref (z + 79), .ref (z + 80), .int sf, .int sl, .ref (z + 81), .int (nI rn), .ref (z + 82), .ref (z + 83)]) hx hb hH w_71 (by omega) b_63 rfl rfl (Nat.le_of_ble_eq_true rfl) rfl dX9_put_2 (fun E_1 H locs h_63 hfr hH _ => ?_)
  have hF : ∀ x9, x9 ≠ 63 → E_1 x9 = E x9 := fun x9 a0 => hfr x9 a0
  refine lv_iload_n hx hb dX9_put_5 rfl (lv_at hl 1 rfl) ?_
  refine qh_runS (As := [.int x]) (rest := []) ⟨hx, hb, hml, hown, hts⟩ hK hH (c_X9_isSheet l G z M E_1 x) (va_cwS 1 hts gX9_put_X9_isSheet rfl rfl rfl (by decide +kernel) (by rw [hRf, hRl]; exact ⟨Nat.le_of_ble_eq_true rfl, Nat.le_of_ble_eq_true rfl⟩)) rfl hl.1 rfl (Nat.le_of_ble_eq_true rfl) dX9_put_6 ⟨Nat.zero_le _, Nat.zero_le _⟩ (qh_kki fun r_6 E_2 H locs hpost hH => ?_)
  obtain ⟨rfl, rfl⟩ := hpost
  refine lv_if_ne (tgt := 14) hx hb dX9_put_9 (by decide) (fun c_9 => ?_) (fun c_9 => ?_)
  · have c_9 := bI_ne.mp c_9
    have c_9 := sh4.mp c_9
    obtain ⟨j, hj, ej⟩ := nI_of_in (k := x) (c := 4) (by decide) c_9
    have Ej : x.toNatClampNeg = j := by rw [ej]; exact nI_clamp (by omega)
    refine lv_aload_n hx hb dX9_put_14 rfl (lv_at hl 0 rfl) ?_
    refine qh_get hx hb hH f_9 (by omega) h_63 rfl dX9_put_15 ?_
    refine lv_iload_n hx hb dX9_put_18 rfl (lv_at hl 1 rfl) ?_
    refine qh_iald hx hb hK hH (by omega) ((hF 64 (by decide)).trans b_64) (j := j) (ej) (hj) (by omega) dX9_put_19 ?_
    refine lv_bipush (v := (-9)) hx hb dX9_put_20 (by decide) ?_
    refine lv_icmp_ne (tgt := 31) hx hb dX9_put_22 (by decide) (fun c_22 => ?_) (fun c_22 => ?_)
    · have hrj : ¬ hrM so j = 0 := hrM_1 c_22
      obtain ⟨v, hv, es⟩ := ((hso j hj).resolve_left c_22).2
      have el : lgM sg j = v := by rw [lgM, es]; exact nI_clamp (by omega)
      refine lv_iload_n hx hb dX9_put_31 rfl (lv_at hl 2 rfl) ?_
      refine lv_iconst (v := 0) hx hb dX9_put_32 (by decide) ?_
      refine lv_aload_n hx hb dX9_put_33 rfl (lv_at hl 0 rfl) ?_
      refine qh_get hx hb hH f_13 (by omega) h_63 rfl dX9_put_34 ?_
      refine lv_iload_n hx hb dX9_put_37 rfl (lv_at hl 1 rfl) ?_
      refine qh_iald hx hb hK hH (by omega) ((hF 65 (by decide)).trans b_65) (j := j) (ej) (hj) (by omega) dX9_put_38 ?_
      refine lv_iconst (v := 1) hx hb dX9_put_39 (by decide) ?_
      refine lv_isub hx hb dX9_put_40 ?_
      refine qh_runS (As := [.int y, .int 0, .int ((sg j) - 1)]) (rest := []) ⟨hx, hb, hml, hown, hts⟩ hK hH (c_X9_within l G z M E_1 y 0 ((sg j) - 1)) (va_cwS 3 hts gX9_put_X9_within rfl rfl rfl (by decide +kernel) (by rw [hRf, hRl]; exact ⟨Nat.le_of_ble_eq_true rfl, Nat.le_of_ble_eq_true rfl⟩)) rfl hl.1 rfl (Nat.le_of_ble_eq_true rfl) dX9_put_41 ⟨Nat.zero_le _, Nat.zero_le _⟩ (qh_kki fun r_41 E_3 H locs hpost hH => ?_)
      obtain ⟨rfl, rfl⟩ := hpost
      refine lv_if_ne (tgt := 53) hx hb dX9_put_44 (by decide) (fun c_44 => ?_) (fun c_44 => ?_)
      · have c_44 := bI_ne.mp c_44
        have c_44 := (in_has (v := v) hv es).mp c_44
        have hD : putD x y (hrM so) (lgM sg) = none := by rw [putD, if_pos c_9, Ej, if_neg hrj, el, if_pos c_44]
        obtain ⟨p, hp, ep⟩ := has_1 hv c_44
        have Ep : y.toNatClampNeg = p := by rw [ep]; exact nI_clamp (by omega)
        refine lv_aload_n hx hb dX9_put_53 rfl (lv_at hl 0 rfl) ?_
        refine qh_get hx hb hH f_16 (by omega) h_63 rfl dX9_put_54 ?_
        refine lv_bipush (v := 60) hx hb dX9_put_57 (by decide) ?_
        refine lv_iload_n hx hb dX9_put_59 rfl (lv_at hl 1 rfl) ?_
        refine lv_imul hx hb dX9_put_60 ?_
        refine qh_topi (y := nI (60 * j)) (by rw [ej]; exact pk_mul 60 j) ?_
        refine lv_iload_n hx hb dX9_put_61 rfl (lv_at hl 2 rfl) ?_
        refine lv_iadd hx hb dX9_put_62 ?_
        refine qh_topi (y := nI (60 * j + p)) (by rw [ep]; exact nI_add _ _) ?_
        refine lv_aload_n hx hb dX9_put_63 rfl (lv_at hl 0 rfl) ?_
        refine qh_get hx hb hH f_9 (by omega) h_63 rfl dX9_put_64 ?_
        refine lv_iload_n hx hb dX9_put_67 rfl (lv_at hl 1 rfl) ?_
        refine qh_iald hx hb hK hH (by omega) ((hF 64 (by decide)).trans b_64) (j := j) (ej) (hj) (by omega) dX9_put_68 ?_
        refine lv_if_ne (tgt := 77) hx hb dX9_put_69 (by decide) (fun c_69 => ?_) (fun c_69 => ?_)
        · refine lv_aload_n hx hb dX9_put_77 rfl (lv_at hl 0 rfl) ?_
          refine qh_get hx hb hH f_9 (by omega) h_63 rfl dX9_put_78 ?_
          refine lv_iload_n hx hb dX9_put_81 rfl (lv_at hl 1 rfl) ?_
          refine qh_iald hx hb hK hH (by omega) ((hF 64 (by decide)).trans b_64) (j := j) (ej) (hj) (by omega) dX9_put_82 ?_
          refine lv_iconst (v := 1) hx hb dX9_put_83 (by decide) ?_
          refine lv_icmp_ne (tgt := 92) hx hb dX9_put_84 (by decide) (fun c_84 => ?_) (fun c_84 => ?_)
          · refine lv_iload_n hx hb dX9_put_92 rfl (lv_at hl 3 rfl) ?_
            refine qh_iast hx hb hK hH (by omega) ((hF 66 (by decide)).trans b_66) (j := (60 * j + p)) (rfl) (by omega) (by omega) dX9_put_93 (fun E_4 H locs h_66 hfr hH _ => ?_)
            have h_66 : E_4 66 = qa_I G 240 (upd ce (60 * j + p) (cutF (so j) q)) := h_66.trans (congrArg (qa_I G 240) (by rw [cutF, if_neg c_69, if_neg c_84]))
            have h_63 := (hfr 63 (by decide)).trans h_63
            have hF : ∀ x9, x9 ≠ 63 → x9 ≠ 66 → E_4 x9 = E x9 := fun x9 a0 a1 => (hfr x9 a1).trans (hF x9 a0)
            refine lv_iconst (v := 1) hx hb dX9_put_94 (by decide) ?_
            exact hret dX9_put_95 hH (by rw [hD, Ej, Ep]; exact ⟨rfl, ⟨_, _, _, _, _, _, _, _, _, _, h_63, ((hF 64 (by decide) (by decide)).trans b_64), ((hF 65 (by decide) (by decide)).trans b_65), h_66, ((hF 67 (by decide) (by decide)).trans b_67), ((hF 68 (by decide) (by decide)).trans b_68), ((hF 69 (by decide) (by decide)).trans b_69), ((hF 70 (by decide) (by decide)).trans b_70), ((hF 71 (by decide) (by decide)).trans b_71), ((hF 72 (by decide) (by decide)).trans b_72), ((hF 73 (by decide) (by decide)).trans b_73), ((hF 74 (by decide) (by decide)).trans b_74), ((hF 75 (by decide) (by decide)).trans b_75), ((hF 76 (by decide) (by decide)).trans b_76), ((hF 77 (by decide) (by decide)).trans b_77), ((hF 78 (by decide) (by decide)).trans b_78), ((hF 79 (by decide) (by decide)).trans b_79), ((hF 80 (by decide) (by decide)).trans b_80), ((hF 82 (by decide) (by decide)).trans b_82), ((hF 83 (by decide) (by decide)).trans b_83)⟩, (fun x9 h9 => hF x9 (by omega) (by omega))⟩)
          · refine lv_iload_n hx hb dX9_put_87 rfl (lv_at hl 3 rfl) ?_
            refine lv_i2s (v := q.toInt16.toInt32) hx hb dX9_put_88 rfl ?_
            refine lv_goto (tgt := 93) hx hb dX9_put_89 (by decide) ?_
            refine qh_iast hx hb hK hH (by omega) ((hF 66 (by decide)).trans b_66) (j := (60 * j + p)) (rfl) (by omega) (by omega) dX9_put_93 (fun E_5 H locs h_66 hfr hH _ => ?_)
            have h_66 : E_5 66 = qa_I G 240 (upd ce (60 * j + p) (cutF (so j) q)) := h_66.trans (congrArg (qa_I G 240) (by rw [cutF, if_neg c_69, if_pos c_84]))
            have h_63 := (hfr 63 (by decide)).trans h_63
            have hF : ∀ x9, x9 ≠ 63 → x9 ≠ 66 → E_5 x9 = E x9 := fun x9 a0 a1 => (hfr x9 a1).trans (hF x9 a0)
            refine lv_iconst (v := 1) hx hb dX9_put_94 (by decide) ?_
            exact hret dX9_put_95 hH (by rw [hD, Ej, Ep]; exact ⟨rfl, ⟨_, _, _, _, _, _, _, _, _, _, h_63, ((hF 64 (by decide) (by decide)).trans b_64), ((hF 65 (by decide) (by decide)).trans b_65), h_66, ((hF 67 (by decide) (by decide)).trans b_67), ((hF 68 (by decide) (by decide)).trans b_68), ((hF 69 (by decide) (by decide)).trans b_69), ((hF 70 (by decide) (by decide)).trans b_70), ((hF 71 (by decide) (by decide)).trans b_71), ((hF 72 (by decide) (by decide)).trans b_72), ((hF 73 (by decide) (by decide)).trans b_73), ((hF 74 (by decide) (by decide)).trans b_74), ((hF 75 (by decide) (by decide)).trans b_75), ((hF 76 (by decide) (by decide)).trans b_76), ((hF 77 (by decide) (by decide)).trans b_77), ((hF 78 (by decide) (by decide)).trans b_78), ((hF 79 (by decide) (by decide)).trans b_79), ((hF 80 (by decide) (by decide)).trans b_80), ((hF 82 (by decide) (by decide)).trans b_82), ((hF 83 (by decide) (by decide)).trans b_83)⟩, (fun x9 h9 => hF x9 (by omega) (by omega))⟩)
        · refine lv_iload_n hx hb dX9_put_72 rfl (lv_at hl 3 rfl) ?_
          refine lv_i2b (v := q.toInt8.toInt32) hx hb dX9_put_73 rfl ?_
          refine lv_goto (tgt := 93) hx hb dX9_put_74 (by decide) ?_
          refine qh_iast hx hb hK hH (by omega) ((hF 66 (by decide)).trans b_66) (j := (60 * j + p)) (rfl) (by omega) (by omega) dX9_put_93 (fun E_6 H locs h_66 hfr hH _ => ?_)
          have h_66 : E_6 66 = qa_I G 240 (upd ce (60 * j + p) (cutF (so j) q)) := h_66.trans (congrArg (qa_I G 240) (by rw [cutF, if_pos c_69]))
          have h_63 := (hfr 63 (by decide)).trans h_63
          have hF : ∀ x9, x9 ≠ 63 → x9 ≠ 66 → E_6 x9 = E x9 := fun x9 a0 a1 => (hfr x9 a1).trans (hF x9 a0)
          refine lv_iconst (v := 1) hx hb dX9_put_94 (by decide) ?_
          exact hret dX9_put_95 hH (by rw [hD, Ej, Ep]; exact ⟨rfl, ⟨_, _, _, _, _, _, _, _, _, _, h_63, ((hF 64 (by decide) (by decide)).trans b_64), ((hF 65 (by decide) (by decide)).trans b_65), h_66, ((hF 67 (by decide) (by decide)).trans b_67), ((hF 68 (by decide) (by decide)).trans b_68), ((hF 69 (by decide) (by decide)).trans b_69), ((hF 70 (by decide) (by decide)).trans b_70), ((hF 71 (by decide) (by decide)).trans b_71), ((hF 72 (by decide) (by decide)).trans b_72), ((hF 73 (by decide) (by decide)).trans b_73), ((hF 74 (by decide) (by decide)).trans b_74), ((hF 75 (by decide) (by decide)).trans b_75), ((hF 76 (by decide) (by decide)).trans b_76), ((hF 77 (by decide) (by decide)).trans b_77), ((hF 78 (by decide) (by decide)).trans b_78), ((hF 79 (by decide) (by decide)).trans b_79), ((hF 80 (by decide) (by decide)).trans b_80), ((hF 82 (by decide) (by decide)).trans b_82), ((hF 83 (by decide) (by decide)).trans b_83)⟩, (fun x9 h9 => hF x9 (by omega) (by omega))⟩)
      · have c_44 := bI_eq.mp c_44
        have c_44 := (not_congr (in_has (v := v) hv es)).mp c_44
        have hD : putD x y (hrM so) (lgM sg) = some (-10 - 3, 3) := by rw [putD, if_pos c_9, Ej, if_neg hrj, el, if_neg c_44]
        refine lv_aload_n hx hb dX9_put_47 rfl (lv_at hl 0 rfl) ?_
        refine lv_iconst (v := 3) hx hb dX9_put_48 (by decide) ?_
        refine qh_runV (As := [.int 3]) (rest := []) (C := RX9) ⟨hx, hb, hml, hown, hts⟩ hK hH (c_X9_fails l G z M E_1 0 tr n m2 ln pt rm rh sf sl rn (hM) h_63 3) (cwV 1 hts gX9_put_X9_fails rfl rfl rfl (by decide +kernel) (by rw [hRf, hRl]; exact ⟨Nat.le_of_ble_eq_true rfl, Nat.le_of_ble_eq_true rfl⟩)) (by omega) h_63 rfl rfl hl.1 rfl (Nat.le_of_ble_eq_true rfl) dX9_put_49 ⟨Nat.zero_le _, Nat.zero_le _⟩ (qh_kki fun r_49 E_7 H locs hpost hH => ?_)
        obtain ⟨rfl, h_63, hfr⟩ := hpost
        have hF : ∀ x9, x9 ≠ 63 → E_7 x9 = E x9 := fun x9 a0 => (hfr x9 a0).trans (hF x9 a0)
        exact hret dX9_put_52 hH (by rw [hD]; exact ⟨rfl, ⟨_, _, _, _, _, _, _, _, _, _, h_63, ((hF 64 (by decide)).trans b_64), ((hF 65 (by decide)).trans b_65), ((hF 66 (by decide)).trans b_66), ((hF 67 (by decide)).trans b_67), ((hF 68 (by decide)).trans b_68), ((hF 69 (by decide)).trans b_69), ((hF 70 (by decide)).trans b_70), ((hF 71 (by decide)).trans b_71), ((hF 72 (by decide)).trans b_72), ((hF 73 (by decide)).trans b_73), ((hF 74 (by decide)).trans b_74), ((hF 75 (by decide)).trans b_75), ((hF 76 (by decide)).trans b_76), ((hF 77 (by decide)).trans b_77), ((hF 78 (by decide)).trans b_78), ((hF 79 (by decide)).trans b_79), ((hF 80 (by decide)).trans b_80), ((hF 82 (by decide)).trans b_82), ((hF 83 (by decide)).trans b_83)⟩, (fun x9 h9 => hF x9 (by omega))⟩)
    · have hD : putD x y (hrM so) (lgM sg) = some (-10 - 1, 1) := by rw [putD, if_pos c_9, Ej, if_pos (hrM_0 c_22)]
      refine lv_aload_n hx hb dX9_put_25 rfl (lv_at hl 0 rfl) ?_
      refine lv_iconst (v := 1) hx hb dX9_put_26 (by decide) ?_
      refine qh_runV (As := [.int 1]) (rest := []) (C := RX9) ⟨hx, hb, hml, hown, hts⟩ hK hH (c_X9_fails l G z M E_1 0 tr n m2 ln pt rm rh sf sl rn (hM) h_63 1) (cwV 1 hts gX9_put_X9_fails rfl rfl rfl (by decide +kernel) (by rw [hRf, hRl]; exact ⟨Nat.le_of_ble_eq_true rfl, Nat.le_of_ble_eq_true rfl⟩)) (by omega) h_63 rfl rfl hl.1 rfl (Nat.le_of_ble_eq_true rfl) dX9_put_27 ⟨Nat.zero_le _, Nat.zero_le _⟩ (qh_kki fun r_27 E_8 H locs hpost hH => ?_)
      obtain ⟨rfl, h_63, hfr⟩ := hpost
      have hF : ∀ x9, x9 ≠ 63 → E_8 x9 = E x9 := fun x9 a0 => (hfr x9 a0).trans (hF x9 a0)
      exact hret dX9_put_30 hH (by rw [hD]; exact ⟨rfl, ⟨_, _, _, _, _, _, _, _, _, _, h_63, ((hF 64 (by decide)).trans b_64), ((hF 65 (by decide)).trans b_65), ((hF 66 (by decide)).trans b_66), ((hF 67 (by decide)).trans b_67), ((hF 68 (by decide)).trans b_68), ((hF 69 (by decide)).trans b_69), ((hF 70 (by decide)).trans b_70), ((hF 71 (by decide)).trans b_71), ((hF 72 (by decide)).trans b_72), ((hF 73 (by decide)).trans b_73), ((hF 74 (by decide)).trans b_74), ((hF 75 (by decide)).trans b_75), ((hF 76 (by decide)).trans b_76), ((hF 77 (by decide)).trans b_77), ((hF 78 (by decide)).trans b_78), ((hF 79 (by decide)).trans b_79), ((hF 80 (by decide)).trans b_80), ((hF 82 (by decide)).trans b_82), ((hF 83 (by decide)).trans b_83)⟩, (fun x9 h9 => hF x9 (by omega))⟩)
  · have c_9 := bI_eq.mp c_9
    have c_9 := (not_congr sh4).mp c_9
    have hD : putD x y (hrM so) (lgM sg) = some (-1, 0) := if_neg c_9
    refine lv_iconst (v := (-1)) hx hb dX9_put_12 (by decide) ?_
    exact hret dX9_put_13 hH (by rw [hD]; exact ⟨rfl, ⟨_, _, _, _, _, _, _, _, _, _, h_63, ((hF 64 (by decide)).trans b_64), ((hF 65 (by decide)).trans b_65), ((hF 66 (by decide)).trans b_66), ((hF 67 (by decide)).trans b_67), ((hF 68 (by decide)).trans b_68), ((hF 69 (by decide)).trans b_69), ((hF 70 (by decide)).trans b_70), ((hF 71 (by decide)).trans b_71), ((hF 72 (by decide)).trans b_72), ((hF 73 (by decide)).trans b_73), ((hF 74 (by decide)).trans b_74), ((hF 75 (by decide)).trans b_75), ((hF 76 (by decide)).trans b_76), ((hF 77 (by decide)).trans b_77), ((hF 78 (by decide)).trans b_78), ((hF 79 (by decide)).trans b_79), ((hF 80 (by decide)).trans b_80), ((hF 82 (by decide)).trans b_82), ((hF 83 (by decide)).trans b_83)⟩, (fun x9 h9 => hF x9 (by omega))⟩)

set_option maxHeartbeats 1000000 in
set_option maxRecDepth 100000 in
theorem c_X9_cell (l : Launch) (G : qh_G) (z M : Nat) (E : Nat → va_E) (tr : Int32) (lf : Int32) (n : Nat) (f : Nat → Int64) (g : Nat → Int64) (mb : Nat → Int64) (m2 : Nat) (kd : Nat → Int32) (pa : Nat → Int32) (ln : Nat) (ts : Nat → Int32) (ga : Nat → Nat) (gb : Nat → Nat) (va : Nat → Int64) (rn : Nat) (cn : Nat → Nat) (vs : Nat → Int64) (so : Nat → Int32) (sg : Nat → Int32) (ce : Nat → Int32) (hM : 84 ≤ M) (hX : ME G z E tr lf n f g mb m2 kd pa ln ts ga gb va rn cn vs so sg ce) (hW : MW n m2 ln rn ga gb cn ts va kd so sg) (x : Int32) (y : Int32) (q : Int32) : Met l yX9_cell wsX9_cell (qh_R 2) (qh_Pre G z M E [.ref (z + 63), .int x, .int y, .int q]) (qh_Q G z M (qh_l (fun r E' => r = (celV x y q (hrM so) so (lgM sg) (scM ce)).1 ∧ ME G z E' tr ((celV x y q (hrM so) so (lgM sg) (scM ce)).2) n f g mb m2 kd pa ln ts ga gb va rn cn vs so sg ce ∧ ∀ x9, (x9 < 63 ∨ x9 = 81) → E' x9 = E x9))) 0 0 (fun q => z ≤ q) := by
  refine qh_metL (cc := cX9_cell) (maxL := 4) (by decide) rfl (Nat.le_of_ble_eq_true rfl) ?_
  intro pZ eZ sZ mZ aZ bZ tZ cZ RR QQ ls hx hb hml hown hts hRf hRl hH hK hl hret
  have hown : sZ.vm.findClass RX9 = some mZ.cls := hown
  have hl : lv_has ls 4 [(0, .ref (z + 63)), (1, .int x), (2, .int y), (3, .int q)] := hl
  obtain ⟨pt, rm, rh, sf, sl, r1, r2, r3, k1, k2, b_63, b_64, b_65, b_66, b_67, b_68, b_69, b_70, b_71, b_72, b_73, b_74, b_75, b_76, b_77, b_78, b_79, b_80, b_82, b_83⟩ := hX
  obtain ⟨⟨hn16, hm3, hl24, hr8⟩, hval, hcn, hok, hvh, hkd, hso⟩ := hW
  have in_X9 : ∀ w ∈ wsX90, w ∈ wsX9_cell := fun w h => List.mem_cons_of_mem _ (List.mem_append_right _ h)
  have w_71 : qh_W G sZ mZ aZ 71 9 0 .int := qh_W.of hts in_X9 tyX9 tyX9_ok nmX9 hown hK rfl 0 (by decide) (by decide +kernel) rfl (by decide +kernel)
  have k_75 := hts (.constantLong RX9 75 (-9223372036854775808)) (by decide +kernel)
  have f_9 : qh_F G sZ mZ aZ 9 9 2 := qh_F.of hts in_X9 hown hK rfl 2 (by decide) (by decide +kernel)
  have f_13 : qh_F G sZ mZ aZ 13 9 3 := qh_F.of hts in_X9 hown hK rfl 3 (by decide) (by decide +kernel)
  have f_16 : qh_F G sZ mZ aZ 16 9 4 := qh_F.of hts in_X9 hown hK rfl 4 (by decide) (by decide +kernel)
  refine lv_aload_n hx hb dX9_cell_0 rfl (lv_at hl 0 rfl) ?_
  refine lv_iconst (v := 0) hx hb dX9_cell_1 (by decide) ?_
  refine qh_put (fs' := [.int 0, .int tr, .ref (z + 64), .ref (z + 65), .ref (z + 66), .int (nI n), .int (nI m2), .ref (z + 67), .ref (z + 68), .ref (z + 69), .ref (z + 70), .ref (z + 71), .int (nI ln), .ref (z + 72), .ref (z + 73), .ref (z + 74), .ref (z + 75), .int pt, .int rm, .int rh, .ref (z + 76), .ref (z + 77), .ref (z + 78), .ref (z + 79), .ref (z + 80), .int sf, .int sl, .ref (z + 81), .int (nI rn), .ref (z + 82), .ref (z + 83)]) hx hb hH w_71 (by omega) b_63 rfl rfl (Nat.le_of_ble_eq_true rfl) rfl dX9_cell_2 (fun E_1 H locs h_63 hfr hH _ => ?_)
  have hF : ∀ x9, x9 ≠ 63 → E_1 x9 = E x9 := fun x9 a0 => hfr x9 a0
  refine lv_iload_n hx hb dX9_cell_5 rfl (lv_at hl 1 rfl) ?_
  refine qh_runS (As := [.int x]) (rest := []) ⟨hx, hb, hml, hown, hts⟩ hK hH (c_X9_isSheet l G z M E_1 x) (va_cwS 1 hts gX9_cell_X9_isSheet rfl rfl rfl (by decide +kernel) (by rw [hRf, hRl]; exact ⟨Nat.le_of_ble_eq_true rfl, Nat.le_of_ble_eq_true rfl⟩)) rfl hl.1 rfl (Nat.le_of_ble_eq_true rfl) dX9_cell_6 ⟨Nat.zero_le _, Nat.zero_le _⟩ (qh_kki fun r_6 E_2 H locs hpost hH => ?_)
  obtain ⟨rfl, rfl⟩ := hpost
  refine lv_if_eq (tgt := 19) hx hb dX9_cell_9 (by decide) (fun c_9 => ?_) (fun c_9 => ?_)
  · have c_9 := bI_eq.mp c_9
    have c_9 := (not_congr sh4).mp c_9
    have hD : celV x y q (hrM so) so (lgM sg) (scM ce) = (LOSTv, 0) := by rw [celV, if_neg (fun u => c_9 u.1)]
    refine lv_ldc2 hx hb hown k_75 dX9_cell_19 ?_
    refine qh_topl (y := LOSTv) (rfl) ?_
    exact hret dX9_cell_22 hH (by rw [hD]; exact ⟨rfl, ⟨_, _, _, _, _, _, _, _, _, _, h_63, ((hF 64 (by decide)).trans b_64), ((hF 65 (by decide)).trans b_65), ((hF 66 (by decide)).trans b_66), ((hF 67 (by decide)).trans b_67), ((hF 68 (by decide)).trans b_68), ((hF 69 (by decide)).trans b_69), ((hF 70 (by decide)).trans b_70), ((hF 71 (by decide)).trans b_71), ((hF 72 (by decide)).trans b_72), ((hF 73 (by decide)).trans b_73), ((hF 74 (by decide)).trans b_74), ((hF 75 (by decide)).trans b_75), ((hF 76 (by decide)).trans b_76), ((hF 77 (by decide)).trans b_77), ((hF 78 (by decide)).trans b_78), ((hF 79 (by decide)).trans b_79), ((hF 80 (by decide)).trans b_80), ((hF 82 (by decide)).trans b_82), ((hF 83 (by decide)).trans b_83)⟩, (fun x9 h9 => hF x9 (by omega))⟩)
  · have c_9 := bI_ne.mp c_9
    have c_9 := sh4.mp c_9
    refine lv_iload_n hx hb dX9_cell_12 rfl (lv_at hl 3 rfl) ?_
    refine qh_runS (As := [.int q]) (rest := []) ⟨hx, hb, hml, hown, hts⟩ hK hH (c_X9_isSort l G z M E_1 q) (va_cwS 1 hts gX9_cell_X9_isSort rfl rfl rfl (by decide +kernel) (by rw [hRf, hRl]; exact ⟨Nat.le_of_ble_eq_true rfl, Nat.le_of_ble_eq_true rfl⟩)) rfl hl.1 rfl (Nat.le_of_ble_eq_true rfl) dX9_cell_13 ⟨Nat.zero_le _, Nat.zero_le _⟩ (qh_kki fun r_13 E_3 H locs hpost hH => ?_)
    obtain ⟨rfl, rfl⟩ := hpost
    refine lv_if_ne (tgt := 23) hx hb dX9_cell_16 (by decide) (fun c_16 => ?_) (fun c_16 => ?_)
    · have c_16 := bI_ne.mp c_16
      have c_16 := le2.mp c_16
      obtain ⟨j, hj, ej⟩ := nI_of_in (k := x) (c := 4) (by decide) c_9
      have Ej : x.toNatClampNeg = j := by rw [ej]; exact nI_clamp (by omega)
      refine lv_aload_n hx hb dX9_cell_23 rfl (lv_at hl 0 rfl) ?_
      refine qh_get hx hb hH f_9 (by omega) h_63 rfl dX9_cell_24 ?_
      refine lv_iload_n hx hb dX9_cell_27 rfl (lv_at hl 1 rfl) ?_
      refine qh_iald hx hb hK hH (by omega) ((hF 64 (by decide)).trans b_64) (j := j) (ej) (hj) (by omega) dX9_cell_28 ?_
      refine lv_bipush (v := (-9)) hx hb dX9_cell_29 (by decide) ?_
      refine lv_icmp_eq (tgt := 50) hx hb dX9_cell_31 (by decide) (fun c_31 => ?_) (fun c_31 => ?_)
      · have h9 : takF (hrM so j) (so j) q = 1 := if_pos (hrM_0 c_31)
        refine lv_aload_n hx hb dX9_cell_50 rfl (lv_at hl 0 rfl) ?_
        refine qh_get hx hb hH f_9 (by omega) h_63 rfl dX9_cell_51 ?_
        refine lv_iload_n hx hb dX9_cell_54 rfl (lv_at hl 1 rfl) ?_
        refine qh_iald hx hb hK hH (by omega) ((hF 64 (by decide)).trans b_64) (j := j) (ej) (hj) (by omega) dX9_cell_55 ?_
        refine lv_bipush (v := (-9)) hx hb dX9_cell_56 (by decide) ?_
        refine lv_icmp_ne (tgt := 67) hx hb dX9_cell_58 (by decide) (fun c_58 => ?_) (fun c_58 => ?_)
        · exact absurd c_31 c_58
        · have hD : celV x y q (hrM so) so (lgM sg) (scM ce) = (LOSTv, 1) := by rw [celV, if_pos ⟨c_9, c_16⟩, Ej, h9, if_neg (by decide)]
          refine lv_aload_n hx hb dX9_cell_61 rfl (lv_at hl 0 rfl) ?_
          refine lv_iconst (v := 1) hx hb dX9_cell_62 (by decide) ?_
          refine qh_runV (As := [.int 1]) (rest := []) (C := RX9) ⟨hx, hb, hml, hown, hts⟩ hK hH (c_X9_lost l G z M E_1 0 tr n m2 ln pt rm rh sf sl rn (hM) h_63 1) (cwV 1 hts gX9_cell_X9_lost rfl rfl rfl (by decide +kernel) (by rw [hRf, hRl]; exact ⟨Nat.le_of_ble_eq_true rfl, Nat.le_of_ble_eq_true rfl⟩)) (by omega) h_63 rfl rfl hl.1 rfl (Nat.le_of_ble_eq_true rfl) dX9_cell_63 ⟨Nat.zero_le _, Nat.zero_le _⟩ (qh_kkl fun r_63 E_4 H locs hpost hH => ?_)
          obtain ⟨rfl, h_63, hfr⟩ := hpost
          have hF : ∀ x9, x9 ≠ 63 → E_4 x9 = E x9 := fun x9 a0 => (hfr x9 a0).trans (hF x9 a0)
          exact hret dX9_cell_66 hH (by rw [hD]; exact ⟨rfl, ⟨_, _, _, _, _, _, _, _, _, _, h_63, ((hF 64 (by decide)).trans b_64), ((hF 65 (by decide)).trans b_65), ((hF 66 (by decide)).trans b_66), ((hF 67 (by decide)).trans b_67), ((hF 68 (by decide)).trans b_68), ((hF 69 (by decide)).trans b_69), ((hF 70 (by decide)).trans b_70), ((hF 71 (by decide)).trans b_71), ((hF 72 (by decide)).trans b_72), ((hF 73 (by decide)).trans b_73), ((hF 74 (by decide)).trans b_74), ((hF 75 (by decide)).trans b_75), ((hF 76 (by decide)).trans b_76), ((hF 77 (by decide)).trans b_77), ((hF 78 (by decide)).trans b_78), ((hF 79 (by decide)).trans b_79), ((hF 80 (by decide)).trans b_80), ((hF 82 (by decide)).trans b_82), ((hF 83 (by decide)).trans b_83)⟩, (fun x9 h9 => hF x9 (by omega))⟩)
      · refine lv_aload_n hx hb dX9_cell_34 rfl (lv_at hl 0 rfl) ?_
        refine qh_get hx hb hH f_9 (by omega) h_63 rfl dX9_cell_35 ?_
        refine lv_iload_n hx hb dX9_cell_38 rfl (lv_at hl 1 rfl) ?_
        refine qh_iald hx hb hK hH (by omega) ((hF 64 (by decide)).trans b_64) (j := j) (ej) (hj) (by omega) dX9_cell_39 ?_
        refine lv_iload_n hx hb dX9_cell_40 rfl (lv_at hl 3 rfl) ?_
        refine lv_icmp_eq (tgt := 50) hx hb dX9_cell_41 (by decide) (fun c_41 => ?_) (fun c_41 => ?_)
        · have h9 : takF (hrM so j) (so j) q = 0 := by rw [takF, if_neg (hrM_1 c_31), if_pos c_41]
          refine lv_aload_n hx hb dX9_cell_50 rfl (lv_at hl 0 rfl) ?_
          refine qh_get hx hb hH f_9 (by omega) h_63 rfl dX9_cell_51 ?_
          refine lv_iload_n hx hb dX9_cell_54 rfl (lv_at hl 1 rfl) ?_
          refine qh_iald hx hb hK hH (by omega) ((hF 64 (by decide)).trans b_64) (j := j) (ej) (hj) (by omega) dX9_cell_55 ?_
          refine lv_bipush (v := (-9)) hx hb dX9_cell_56 (by decide) ?_
          refine lv_icmp_ne (tgt := 67) hx hb dX9_cell_58 (by decide) (fun c_58 => ?_) (fun c_58 => ?_)
          · have hrj : ¬ hrM so j = 0 := hrM_1 c_58
            obtain ⟨v, hv, es⟩ := ((hso j hj).resolve_left c_58).2
            have el : lgM sg j = v := by rw [lgM, es]; exact nI_clamp (by omega)
            refine lv_iload_n hx hb dX9_cell_67 rfl (lv_at hl 2 rfl) ?_
            refine lv_iconst (v := 0) hx hb dX9_cell_68 (by decide) ?_
            refine lv_aload_n hx hb dX9_cell_69 rfl (lv_at hl 0 rfl) ?_
            refine qh_get hx hb hH f_13 (by omega) h_63 rfl dX9_cell_70 ?_
            refine lv_iload_n hx hb dX9_cell_73 rfl (lv_at hl 1 rfl) ?_
            refine qh_iald hx hb hK hH (by omega) ((hF 65 (by decide)).trans b_65) (j := j) (ej) (hj) (by omega) dX9_cell_74 ?_
            refine lv_iconst (v := 1) hx hb dX9_cell_75 (by decide) ?_
            refine lv_isub hx hb dX9_cell_76 ?_
            refine qh_runS (As := [.int y, .int 0, .int ((sg j) - 1)]) (rest := []) ⟨hx, hb, hml, hown, hts⟩ hK hH (c_X9_within l G z M E_1 y 0 ((sg j) - 1)) (va_cwS 3 hts gX9_cell_X9_within rfl rfl rfl (by decide +kernel) (by rw [hRf, hRl]; exact ⟨Nat.le_of_ble_eq_true rfl, Nat.le_of_ble_eq_true rfl⟩)) rfl hl.1 rfl (Nat.le_of_ble_eq_true rfl) dX9_cell_77 ⟨Nat.zero_le _, Nat.zero_le _⟩ (qh_kki fun r_77 E_5 H locs hpost hH => ?_)
            obtain ⟨rfl, rfl⟩ := hpost
            refine lv_if_ne (tgt := 89) hx hb dX9_cell_80 (by decide) (fun c_80 => ?_) (fun c_80 => ?_)
            · have c_80 := bI_ne.mp c_80
              have c_80 := (in_has (v := v) hv es).mp c_80
              obtain ⟨p, hp, ep⟩ := has_1 hv c_80
              have Ep : y.toNatClampNeg = p := by rw [ep]; exact nI_clamp (by omega)
              have hD : celV x y q (hrM so) so (lgM sg) (scM ce) = ((scM ce j p).toInt64, 0) := by rw [celV, if_pos ⟨c_9, c_16⟩, Ej, if_pos h9, el, if_pos c_80, Ep]
              refine lv_aload_n hx hb dX9_cell_89 rfl (lv_at hl 0 rfl) ?_
              refine qh_get hx hb hH f_16 (by omega) h_63 rfl dX9_cell_90 ?_
              refine lv_bipush (v := 60) hx hb dX9_cell_93 (by decide) ?_
              refine lv_iload_n hx hb dX9_cell_95 rfl (lv_at hl 1 rfl) ?_
              refine lv_imul hx hb dX9_cell_96 ?_
              refine qh_topi (y := nI (60 * j)) (by rw [ej]; exact pk_mul 60 j) ?_
              refine lv_iload_n hx hb dX9_cell_97 rfl (lv_at hl 2 rfl) ?_
              refine lv_iadd hx hb dX9_cell_98 ?_
              refine qh_topi (y := nI (60 * j + p)) (by rw [ep]; exact nI_add _ _) ?_
              refine qh_iald hx hb hK hH (by omega) ((hF 66 (by decide)).trans b_66) (j := (60 * j + p)) (rfl) (by omega) (by omega) dX9_cell_99 ?_
              refine lv_i2l (v := (ce (60 * j + p)).toInt64) hx hb dX9_cell_100 rfl ?_
              exact hret dX9_cell_101 hH (by rw [hD]; exact ⟨rfl, ⟨_, _, _, _, _, _, _, _, _, _, h_63, ((hF 64 (by decide)).trans b_64), ((hF 65 (by decide)).trans b_65), ((hF 66 (by decide)).trans b_66), ((hF 67 (by decide)).trans b_67), ((hF 68 (by decide)).trans b_68), ((hF 69 (by decide)).trans b_69), ((hF 70 (by decide)).trans b_70), ((hF 71 (by decide)).trans b_71), ((hF 72 (by decide)).trans b_72), ((hF 73 (by decide)).trans b_73), ((hF 74 (by decide)).trans b_74), ((hF 75 (by decide)).trans b_75), ((hF 76 (by decide)).trans b_76), ((hF 77 (by decide)).trans b_77), ((hF 78 (by decide)).trans b_78), ((hF 79 (by decide)).trans b_79), ((hF 80 (by decide)).trans b_80), ((hF 82 (by decide)).trans b_82), ((hF 83 (by decide)).trans b_83)⟩, (fun x9 h9 => hF x9 (by omega))⟩)
            · have c_80 := bI_eq.mp c_80
              have c_80 := (not_congr (in_has (v := v) hv es)).mp c_80
              have hD : celV x y q (hrM so) so (lgM sg) (scM ce) = (LOSTv, 3) := by rw [celV, if_pos ⟨c_9, c_16⟩, Ej, if_pos h9, el, if_neg c_80]
              refine lv_aload_n hx hb dX9_cell_83 rfl (lv_at hl 0 rfl) ?_
              refine lv_iconst (v := 3) hx hb dX9_cell_84 (by decide) ?_
              refine qh_runV (As := [.int 3]) (rest := []) (C := RX9) ⟨hx, hb, hml, hown, hts⟩ hK hH (c_X9_lost l G z M E_1 0 tr n m2 ln pt rm rh sf sl rn (hM) h_63 3) (cwV 1 hts gX9_cell_X9_lost rfl rfl rfl (by decide +kernel) (by rw [hRf, hRl]; exact ⟨Nat.le_of_ble_eq_true rfl, Nat.le_of_ble_eq_true rfl⟩)) (by omega) h_63 rfl rfl hl.1 rfl (Nat.le_of_ble_eq_true rfl) dX9_cell_85 ⟨Nat.zero_le _, Nat.zero_le _⟩ (qh_kkl fun r_85 E_6 H locs hpost hH => ?_)
              obtain ⟨rfl, h_63, hfr⟩ := hpost
              have hF : ∀ x9, x9 ≠ 63 → E_6 x9 = E x9 := fun x9 a0 => (hfr x9 a0).trans (hF x9 a0)
              exact hret dX9_cell_88 hH (by rw [hD]; exact ⟨rfl, ⟨_, _, _, _, _, _, _, _, _, _, h_63, ((hF 64 (by decide)).trans b_64), ((hF 65 (by decide)).trans b_65), ((hF 66 (by decide)).trans b_66), ((hF 67 (by decide)).trans b_67), ((hF 68 (by decide)).trans b_68), ((hF 69 (by decide)).trans b_69), ((hF 70 (by decide)).trans b_70), ((hF 71 (by decide)).trans b_71), ((hF 72 (by decide)).trans b_72), ((hF 73 (by decide)).trans b_73), ((hF 74 (by decide)).trans b_74), ((hF 75 (by decide)).trans b_75), ((hF 76 (by decide)).trans b_76), ((hF 77 (by decide)).trans b_77), ((hF 78 (by decide)).trans b_78), ((hF 79 (by decide)).trans b_79), ((hF 80 (by decide)).trans b_80), ((hF 82 (by decide)).trans b_82), ((hF 83 (by decide)).trans b_83)⟩, (fun x9 h9 => hF x9 (by omega))⟩)
          · exact absurd c_58 c_31
        · have h9 : takF (hrM so j) (so j) q = 2 := by rw [takF, if_neg (hrM_1 c_31), if_neg c_41]
          have hD : celV x y q (hrM so) so (lgM sg) (scM ce) = (LOSTv, 2) := by rw [celV, if_pos ⟨c_9, c_16⟩, Ej, h9, if_neg (by decide)]
          refine lv_aload_n hx hb dX9_cell_44 rfl (lv_at hl 0 rfl) ?_
          refine lv_iconst (v := 2) hx hb dX9_cell_45 (by decide) ?_
          refine qh_runV (As := [.int 2]) (rest := []) (C := RX9) ⟨hx, hb, hml, hown, hts⟩ hK hH (c_X9_lost l G z M E_1 0 tr n m2 ln pt rm rh sf sl rn (hM) h_63 2) (cwV 1 hts gX9_cell_X9_lost rfl rfl rfl (by decide +kernel) (by rw [hRf, hRl]; exact ⟨Nat.le_of_ble_eq_true rfl, Nat.le_of_ble_eq_true rfl⟩)) (by omega) h_63 rfl rfl hl.1 rfl (Nat.le_of_ble_eq_true rfl) dX9_cell_46 ⟨Nat.zero_le _, Nat.zero_le _⟩ (qh_kkl fun r_46 E_7 H locs hpost hH => ?_)
          obtain ⟨rfl, h_63, hfr⟩ := hpost
          have hF : ∀ x9, x9 ≠ 63 → E_7 x9 = E x9 := fun x9 a0 => (hfr x9 a0).trans (hF x9 a0)
          exact hret dX9_cell_49 hH (by rw [hD]; exact ⟨rfl, ⟨_, _, _, _, _, _, _, _, _, _, h_63, ((hF 64 (by decide)).trans b_64), ((hF 65 (by decide)).trans b_65), ((hF 66 (by decide)).trans b_66), ((hF 67 (by decide)).trans b_67), ((hF 68 (by decide)).trans b_68), ((hF 69 (by decide)).trans b_69), ((hF 70 (by decide)).trans b_70), ((hF 71 (by decide)).trans b_71), ((hF 72 (by decide)).trans b_72), ((hF 73 (by decide)).trans b_73), ((hF 74 (by decide)).trans b_74), ((hF 75 (by decide)).trans b_75), ((hF 76 (by decide)).trans b_76), ((hF 77 (by decide)).trans b_77), ((hF 78 (by decide)).trans b_78), ((hF 79 (by decide)).trans b_79), ((hF 80 (by decide)).trans b_80), ((hF 82 (by decide)).trans b_82), ((hF 83 (by decide)).trans b_83)⟩, (fun x9 h9 => hF x9 (by omega))⟩)
    · have c_16 := bI_eq.mp c_16
      have c_16 := (not_congr le2).mp c_16
      have hD : celV x y q (hrM so) so (lgM sg) (scM ce) = (LOSTv, 0) := by rw [celV, if_neg (fun u => c_16 u.2)]
      refine lv_ldc2 hx hb hown k_75 dX9_cell_19 ?_
      refine qh_topl (y := LOSTv) (rfl) ?_
      exact hret dX9_cell_22 hH (by rw [hD]; exact ⟨rfl, ⟨_, _, _, _, _, _, _, _, _, _, h_63, ((hF 64 (by decide)).trans b_64), ((hF 65 (by decide)).trans b_65), ((hF 66 (by decide)).trans b_66), ((hF 67 (by decide)).trans b_67), ((hF 68 (by decide)).trans b_68), ((hF 69 (by decide)).trans b_69), ((hF 70 (by decide)).trans b_70), ((hF 71 (by decide)).trans b_71), ((hF 72 (by decide)).trans b_72), ((hF 73 (by decide)).trans b_73), ((hF 74 (by decide)).trans b_74), ((hF 75 (by decide)).trans b_75), ((hF 76 (by decide)).trans b_76), ((hF 77 (by decide)).trans b_77), ((hF 78 (by decide)).trans b_78), ((hF 79 (by decide)).trans b_79), ((hF 80 (by decide)).trans b_80), ((hF 82 (by decide)).trans b_82), ((hF 83 (by decide)).trans b_83)⟩, (fun x9 h9 => hF x9 (by omega))⟩)
