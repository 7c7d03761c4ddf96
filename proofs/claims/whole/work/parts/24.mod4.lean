theorem canB_cells {n m2 : Nat} {t a b : Int32} {v : Int64} (h : canB n m2 t a b v) : (¬ a < 0 ∧ a < nI n) ∧ (¬ b < 0 ∧ b < nI n) ∧ ¬ b < a := by
  have h1 := h.1
  unfold rfR at h1
  by_cases w : (¬ a < 0 ∧ a < nI n) ∧ (¬ b < 0 ∧ b < nI n)
  · rw [if_pos w] at h1
    refine ⟨w.1, w.2, fun q => ?_⟩
    rw [if_pos q] at h1
    exact absurd h1 (by decide)
  · rw [if_neg w] at h1
    exact absurd h1 (by decide)
theorem canB_of {n : Nat} {a b : Int32} (h1 : ¬ a < 0 ∧ a < nI n) (h2 : ¬ b < 0 ∧ b < nI n) (h3 : ¬ b < a) : rfR n a b = 0 := by
  rw [rfR, if_pos ⟨h1, h2⟩, if_neg h3]
def dyK (h f : Nat → Int64) (m2 : Nat) (kd pa s : Nat → Int32) (a : Nat) : Nat → Nat → Int64
  | 0 => h
  | t + 1 => hisF (dyK h f m2 kd pa s a t) (dyF f m2 kd pa s a t) (s (a + 4 * t)) (amt (s (a + 4 * t)) m2 kd pa (s (a + 4 * t + 3)).toInt64) (s (a + 4 * t + 1)).toNatClampNeg ((s (a + 4 * t + 2)).toNatClampNeg + 1 - (s (a + 4 * t + 1)).toNatClampNeg)
def tdM (n : Nat) (f g : Nat → Int64) (x : Int32) : Int64 := if x < 10 then (if x = 0 then sumR f 0 n else if x = 2 then maxR f 0 (n - 1) else if x = 3 then minR f 0 (n - 1) else maxR g 0 (n - 1)) else if ¬ x - 10 < 0 ∧ x - 10 < nI n then f (x - 10).toNatClampNeg else LOSTv
set_option maxHeartbeats 1000000 in
set_option maxRecDepth 100000 in
theorem c_X9_goesFour (l : Launch) (G : qh_G) (z M : Nat) (E : Nat → va_E) (fa : Int32) (tm : Int32) (n : Nat) (m2 : Nat) (ln : Nat) (pt : Int32) (rm : Int32) (rh : Int32) (sf : Int32) (sl : Int32) (rn : Nat) (hM : 84 ≤ M) (b_63 : E 63 = .inr (9, [.int fa, .int tm, .ref (z + 64), .ref (z + 65), .ref (z + 66), .int (nI n), .int (nI m2), .ref (z + 67), .ref (z + 68), .ref (z + 69), .ref (z + 70), .ref (z + 71), .int (nI ln), .ref (z + 72), .ref (z + 73), .ref (z + 74), .ref (z + 75), .int pt, .int rm, .int rh, .ref (z + 76), .ref (z + 77), .ref (z + 78), .ref (z + 79), .ref (z + 80), .int sf, .int sl, .ref (z + 81), .int (nI rn), .ref (z + 82), .ref (z + 83)])) (p : Nat) (f : Nat → Int64) (g : Nat → Int64) (kd : Nat → Int32) (pa : Nat → Int32) (ce : Nat → Int32) (hn : n ≤ 16 ∧ m2 ≤ 3) (hp : p + 3 < 240) (ht : okS (ce p)) (hkd : ∀ j, j < m2 → kd j = 0 ∨ kd j = 1 ∨ kd j = 2) (hC : canB n m2 (ce p) (ce (p + 1)) (ce (p + 2)) (ce (p + 3)).toInt64) (b_67 : E 67 = qa_J G 16 f) (b_68 : E 68 = qa_J G 16 g) (b_70 : E 70 = qa_I G 3 kd) (b_71 : E 71 = qa_I G 3 pa) (b_66 : E 66 = qa_I G 240 ce) : Met l yX9_goesFour wsX9_goesFour (qh_R 2) (qh_Pre G z M E [.ref (z + 63), .int (nI p)]) (qh_Q G z M (qh_i (fun r E' => r = 1 ∧ E' 67 = qa_J G 16 (actF f (ce p) (amt (ce p) m2 kd pa (ce (p + 3)).toInt64) (ce (p + 1)).toNatClampNeg ((ce (p + 2)).toNatClampNeg + 1 - (ce (p + 1)).toNatClampNeg)) ∧ E' 68 = qa_J G 16 (hisF g f (ce p) (amt (ce p) m2 kd pa (ce (p + 3)).toInt64) (ce (p + 1)).toNatClampNeg ((ce (p + 2)).toNatClampNeg + 1 - (ce (p + 1)).toNatClampNeg)) ∧ ∀ x9, x9 ≠ 67 → x9 ≠ 68 → E' x9 = E x9))) 0 0 (fun q => z ≤ q) := by
  refine qh_metZ (cc := cX9_goesFour) (maxL := 6) (by decide) rfl (Nat.le_of_ble_eq_true rfl) ?_
  intro pZ eZ sZ mZ aZ bZ tZ cZ RR QQ ls hx hb hml hown hts hRf hRl hH hK hl hret
  have hown : sZ.vm.findClass RX9 = some mZ.cls := hown
  have hl : lv_has ls 6 [(0, .ref (z + 63)), (1, .int (nI p))] := hl
  have in_X9 : ∀ w ∈ wsX90, w ∈ wsX9_goesFour := fun w h => List.mem_cons_of_mem _ (List.mem_append_right _ h)
  have f_16 : qh_F G sZ mZ aZ 16 9 4 := qh_F.of hts in_X9 hown hK rfl 4 (by decide) (by decide +kernel)
  refine lv_aload_n hx hb dX9_goesFour_0 rfl (lv_at hl 0 rfl) ?_
  refine qh_get hx hb hH f_16 (by omega) b_63 rfl dX9_goesFour_1 ?_
  refine lv_iload_n hx hb dX9_goesFour_4 rfl (lv_at hl 1 rfl) ?_
  refine qh_iald hx hb hK hH (by omega) b_66 (j := p) (rfl) (by omega) (by omega) dX9_goesFour_5 ?_
  refine lv_istore_n (lv' := [(2, .int (ce p)), (0, .ref (z + 63)), (1, .int (nI p))]) hx hb dX9_goesFour_6 rfl hl (by decide) rfl (fun ls hl => ?_)
  refine lv_aload_n hx hb dX9_goesFour_7 rfl (lv_at hl 1 rfl) ?_
  refine qh_get hx hb hH f_16 (by omega) b_63 rfl dX9_goesFour_8 ?_
  refine lv_iload_n hx hb dX9_goesFour_11 rfl (lv_at hl 2 rfl) ?_
  refine lv_iconst (v := 1) hx hb dX9_goesFour_12 (by decide) ?_
  refine lv_iadd hx hb dX9_goesFour_13 ?_
  refine qh_topi (y := nI (p + 1)) (nI_1 p) ?_
  refine qh_iald hx hb hK hH (by omega) b_66 (j := p + 1) (rfl) (by omega) (by omega) dX9_goesFour_14 ?_
  refine lv_istore_n (lv' := [(3, .int (ce (p + 1))), (2, .int (ce p)), (0, .ref (z + 63)), (1, .int (nI p))]) hx hb dX9_goesFour_15 rfl hl (by decide) rfl (fun ls hl => ?_)
  refine lv_aload_n hx hb dX9_goesFour_16 rfl (lv_at hl 2 rfl) ?_
  refine qh_get hx hb hH f_16 (by omega) b_63 rfl dX9_goesFour_17 ?_
  refine lv_iload_n hx hb dX9_goesFour_20 rfl (lv_at hl 3 rfl) ?_
  refine lv_iconst (v := 2) hx hb dX9_goesFour_21 (by decide) ?_
  refine lv_iadd hx hb dX9_goesFour_22 ?_
  refine qh_topi (y := nI (p + 2)) (nI_add p 2) ?_
  refine qh_iald hx hb hK hH (by omega) b_66 (j := p + 2) (rfl) (by omega) (by omega) dX9_goesFour_23 ?_
  refine lv_istore (lv' := [(4, .int (ce (p + 2))), (3, .int (ce (p + 1))), (2, .int (ce p)), (0, .ref (z + 63)), (1, .int (nI p))]) hx hb dX9_goesFour_24 hl (by decide) rfl (fun ls hl => ?_)
  refine lv_aload_n hx hb dX9_goesFour_26 rfl (lv_at hl 3 rfl) ?_
  refine qh_get hx hb hH f_16 (by omega) b_63 rfl dX9_goesFour_27 ?_
  refine lv_iload_n hx hb dX9_goesFour_30 rfl (lv_at hl 4 rfl) ?_
  refine lv_iconst (v := 3) hx hb dX9_goesFour_31 (by decide) ?_
  refine lv_iadd hx hb dX9_goesFour_32 ?_
  refine qh_topi (y := nI (p + 3)) (nI_add p 3) ?_
  refine qh_iald hx hb hK hH (by omega) b_66 (j := p + 3) (rfl) (by omega) (by omega) dX9_goesFour_33 ?_
  refine lv_istore (lv' := [(5, .int (ce (p + 3))), (4, .int (ce (p + 2))), (3, .int (ce (p + 1))), (2, .int (ce p)), (0, .ref (z + 63)), (1, .int (nI p))]) hx hb dX9_goesFour_34 hl (by decide) rfl (fun ls hl => ?_)
  refine lv_aload_n hx hb dX9_goesFour_36 rfl (lv_at hl 4 rfl) ?_
  refine lv_iload_n hx hb dX9_goesFour_37 rfl (lv_at hl 2 rfl) ?_
  refine qh_runV (As := [.int (ce (p + 1))]) (rest := []) (C := RX9) ⟨hx, hb, hml, hown, hts⟩ hK hH (c_X9_isCell l G z M E fa tm n m2 ln pt rm rh sf sl rn (hM) b_63 (ce (p + 1))) (cwV 1 hts gX9_goesFour_X9_isCell rfl rfl rfl (by decide +kernel) (by rw [hRf, hRl]; exact ⟨Nat.le_of_ble_eq_true rfl, Nat.le_of_ble_eq_true rfl⟩)) (by omega) b_63 rfl rfl hl.1 rfl (Nat.le_of_ble_eq_true rfl) dX9_goesFour_38 ⟨Nat.zero_le _, Nat.zero_le _⟩ (qh_kki fun r_38 E_1 H locs hpost hH => ?_)
  obtain ⟨rfl, rfl⟩ := hpost
  refine lv_if_eq (tgt := 73) hx hb dX9_goesFour_41 (by decide) (fun c_41 => ?_) (fun c_41 => ?_)
  · have c_41 := bI_eq.mp c_41
    exact absurd (canB_cells hC).1 c_41
  · have c_41 := bI_ne.mp c_41
    refine lv_aload_n hx hb dX9_goesFour_44 rfl (lv_at hl 4 rfl) ?_
    refine lv_iload hx hb dX9_goesFour_45 (lv_at hl 1 rfl) ?_
    refine qh_runV (As := [.int (ce (p + 2))]) (rest := []) (C := RX9) ⟨hx, hb, hml, hown, hts⟩ hK hH (c_X9_isCell l G z M E fa tm n m2 ln pt rm rh sf sl rn (hM) b_63 (ce (p + 2))) (cwV 1 hts gX9_goesFour_X9_isCell rfl rfl rfl (by decide +kernel) (by rw [hRf, hRl]; exact ⟨Nat.le_of_ble_eq_true rfl, Nat.le_of_ble_eq_true rfl⟩)) (by omega) b_63 rfl rfl hl.1 rfl (Nat.le_of_ble_eq_true rfl) dX9_goesFour_47 ⟨Nat.zero_le _, Nat.zero_le _⟩ (qh_kki fun r_47 E_2 H locs hpost hH => ?_)
    obtain ⟨rfl, rfl⟩ := hpost
    refine lv_if_eq (tgt := 73) hx hb dX9_goesFour_50 (by decide) (fun c_50 => ?_) (fun c_50 => ?_)
    · have c_50 := bI_eq.mp c_50
      exact absurd (canB_cells hC).2.1 c_50
    · have c_50 := bI_ne.mp c_50
      refine lv_iload_n hx hb dX9_goesFour_53 rfl (lv_at hl 2 rfl) ?_
      refine lv_iload hx hb dX9_goesFour_54 (lv_at hl 1 rfl) ?_
      refine lv_icmp_gt (tgt := 73) hx hb dX9_goesFour_56 (by decide) (fun c_56 => ?_) (fun c_56 => ?_)
      · exact absurd c_56 (canB_cells hC).2.2
      · obtain ⟨p1, p2, hp12, hp2, e1, e2⟩ := rfR_ok hn.1 hC.1
        have E1 : (ce (p + 1)).toNatClampNeg = p1 := by rw [e1]; exact nI_clamp (by omega)
        have E2 : (ce (p + 2)).toNatClampNeg = p2 := by rw [e2]; exact nI_clamp (by omega)
        have hl : lv_has ls 6 [(5, .int (ce (p + 3))), (4, .int (ce (p + 2))), (3, .int (nI p1)), (2, .int (ce p)), (0, .ref (z + 63)), (1, .int (nI p))] := by rw [← e1]; exact hl
        have hl : lv_has ls 6 [(5, .int (ce (p + 3))), (4, .int (nI p2)), (3, .int (nI p1)), (2, .int (ce p)), (0, .ref (z + 63)), (1, .int (nI p))] := by rw [← e2]; exact hl
        refine lv_iload_n hx hb dX9_goesFour_59 rfl (lv_at hl 3 rfl) ?_
        refine lv_iconst (v := 3) hx hb dX9_goesFour_60 (by decide) ?_
        refine lv_icmp_lt (tgt := 75) hx hb dX9_goesFour_61 (by decide) (fun c_61 => ?_) (fun c_61 => ?_)
        · refine lv_aload_n hx hb dX9_goesFour_75 rfl (lv_at hl 4 rfl) ?_
          refine lv_iload_n hx hb dX9_goesFour_76 rfl (lv_at hl 3 rfl) ?_
          refine lv_iload_n hx hb dX9_goesFour_77 rfl (lv_at hl 2 rfl) ?_
          refine lv_iload hx hb dX9_goesFour_78 (lv_at hl 1 rfl) ?_
          refine lv_iload hx hb dX9_goesFour_80 (lv_at hl 0 rfl) ?_
          refine lv_i2l (v := (ce (p + 3)).toInt64) hx hb dX9_goesFour_82 rfl ?_
          refine qh_runV (As := [.int (ce p), .int (nI p1), .int (nI p2), .long ((ce (p + 3)).toInt64)]) (rest := []) (C := RX9) ⟨hx, hb, hml, hown, hts⟩ hK hH (c_X9_does l G z M E fa tm n m2 ln pt rm rh sf sl rn (hM) b_63 p1 p2 f g kd pa (ce p) ((ce (p + 3)).toInt64) (⟨hn.1, hn.2⟩) (⟨by omega, by omega⟩) (ht) (fun w => lN_of (by omega) (hC.2.resolve_left (fun u => u w))) (hkd) b_67 b_68 b_70 b_71) (cwV 4 hts gX9_goesFour_X9_does rfl rfl rfl (by decide +kernel) (by rw [hRf, hRl]; exact ⟨Nat.le_of_ble_eq_true rfl, Nat.le_of_ble_eq_true rfl⟩)) (by omega) b_63 rfl rfl hl.1 rfl (Nat.le_of_ble_eq_true rfl) dX9_goesFour_83 ⟨Nat.zero_le _, Nat.zero_le _⟩ (qh_kki fun r_83 E_3 H locs hpost hH => ?_)
          obtain ⟨rfl, h_67, h_68, hfr⟩ := hpost
          have hF : ∀ x9, x9 ≠ 67 → x9 ≠ 68 → E_3 x9 = E x9 := fun x9 a0 a1 => hfr x9 a0 a1
          refine lv_pop hx hb dX9_goesFour_86 rfl ?_
          refine lv_iconst (v := 1) hx hb dX9_goesFour_87 (by decide) ?_
          exact hret dX9_goesFour_88 hH (Or.inr rfl) (⟨rfl, by rw [E1, E2]; exact h_67, by rw [E1, E2]; exact h_68, hF⟩)
        · refine lv_aload_n hx hb dX9_goesFour_64 rfl (lv_at hl 4 rfl) ?_
          refine lv_iload hx hb dX9_goesFour_65 (lv_at hl 0 rfl) ?_
          refine qh_runV (As := [.int (ce (p + 3))]) (rest := []) (C := RX9) ⟨hx, hb, hml, hown, hts⟩ hK hH (c_X9_isHelper l G z M E fa tm n m2 ln pt rm rh sf sl rn (hM) b_63 (ce (p + 3))) (cwV 1 hts gX9_goesFour_X9_isHelper rfl rfl rfl (by decide +kernel) (by rw [hRf, hRl]; exact ⟨Nat.le_of_ble_eq_true rfl, Nat.le_of_ble_eq_true rfl⟩)) (by omega) b_63 rfl rfl hl.1 rfl (Nat.le_of_ble_eq_true rfl) dX9_goesFour_67 ⟨Nat.zero_le _, Nat.zero_le _⟩ (qh_kki fun r_67 E_4 H locs hpost hH => ?_)
          obtain ⟨rfl, rfl⟩ := hpost
          refine lv_if_ne (tgt := 75) hx hb dX9_goesFour_70 (by decide) (fun c_70 => ?_) (fun c_70 => ?_)
          · have c_70 := bI_ne.mp c_70
            refine lv_aload_n hx hb dX9_goesFour_75 rfl (lv_at hl 4 rfl) ?_
            refine lv_iload_n hx hb dX9_goesFour_76 rfl (lv_at hl 3 rfl) ?_
            refine lv_iload_n hx hb dX9_goesFour_77 rfl (lv_at hl 2 rfl) ?_
            refine lv_iload hx hb dX9_goesFour_78 (lv_at hl 1 rfl) ?_
            refine lv_iload hx hb dX9_goesFour_80 (lv_at hl 0 rfl) ?_
            refine lv_i2l (v := (ce (p + 3)).toInt64) hx hb dX9_goesFour_82 rfl ?_
            refine qh_runV (As := [.int (ce p), .int (nI p1), .int (nI p2), .long ((ce (p + 3)).toInt64)]) (rest := []) (C := RX9) ⟨hx, hb, hml, hown, hts⟩ hK hH (c_X9_does l G z M E fa tm n m2 ln pt rm rh sf sl rn (hM) b_63 p1 p2 f g kd pa (ce p) ((ce (p + 3)).toInt64) (⟨hn.1, hn.2⟩) (⟨by omega, by omega⟩) (ht) (fun w => lN_of (by omega) (hC.2.resolve_left (fun u => u w))) (hkd) b_67 b_68 b_70 b_71) (cwV 4 hts gX9_goesFour_X9_does rfl rfl rfl (by decide +kernel) (by rw [hRf, hRl]; exact ⟨Nat.le_of_ble_eq_true rfl, Nat.le_of_ble_eq_true rfl⟩)) (by omega) b_63 rfl rfl hl.1 rfl (Nat.le_of_ble_eq_true rfl) dX9_goesFour_83 ⟨Nat.zero_le _, Nat.zero_le _⟩ (qh_kki fun r_83 E_5 H locs hpost hH => ?_)
            obtain ⟨rfl, h_67, h_68, hfr⟩ := hpost
            have hF : ∀ x9, x9 ≠ 67 → x9 ≠ 68 → E_5 x9 = E x9 := fun x9 a0 a1 => hfr x9 a0 a1
            refine lv_pop hx hb dX9_goesFour_86 rfl ?_
            refine lv_iconst (v := 1) hx hb dX9_goesFour_87 (by decide) ?_
            exact hret dX9_goesFour_88 hH (Or.inr rfl) (⟨rfl, by rw [E1, E2]; exact h_67, by rw [E1, E2]; exact h_68, hF⟩)
          · have c_70 := bI_eq.mp c_70
            exact absurd ((hlp_has hn.2).mp (hC.2.resolve_left (fun w => w (okS_ge ht c_61)))) c_70

set_option maxHeartbeats 1000000 in
set_option maxRecDepth 100000 in
theorem c_X9_goesFour_no (l : Launch) (G : qh_G) (z M : Nat) (E : Nat → va_E) (fa : Int32) (tm : Int32) (n : Nat) (m2 : Nat) (ln : Nat) (pt : Int32) (rm : Int32) (rh : Int32) (sf : Int32) (sl : Int32) (rn : Nat) (hM : 84 ≤ M) (b_63 : E 63 = .inr (9, [.int fa, .int tm, .ref (z + 64), .ref (z + 65), .ref (z + 66), .int (nI n), .int (nI m2), .ref (z + 67), .ref (z + 68), .ref (z + 69), .ref (z + 70), .ref (z + 71), .int (nI ln), .ref (z + 72), .ref (z + 73), .ref (z + 74), .ref (z + 75), .int pt, .int rm, .int rh, .ref (z + 76), .ref (z + 77), .ref (z + 78), .ref (z + 79), .ref (z + 80), .int sf, .int sl, .ref (z + 81), .int (nI rn), .ref (z + 82), .ref (z + 83)])) (p : Nat) (f : Nat → Int64) (g : Nat → Int64) (kd : Nat → Int32) (pa : Nat → Int32) (ce : Nat → Int32) (hn : n ≤ 16 ∧ m2 ≤ 3) (hp : p + 3 < 240) (ht : okS (ce p)) (hkd : ∀ j, j < m2 → kd j = 0 ∨ kd j = 1 ∨ kd j = 2) (hC : ¬ canB n m2 (ce p) (ce (p + 1)) (ce (p + 2)) (ce (p + 3)).toInt64) (b_67 : E 67 = qa_J G 16 f) (b_68 : E 68 = qa_J G 16 g) (b_70 : E 70 = qa_I G 3 kd) (b_71 : E 71 = qa_I G 3 pa) (b_66 : E 66 = qa_I G 240 ce) : Met l yX9_goesFour wsX9_goesFour (qh_R 2) (qh_Pre G z M E [.ref (z + 63), .int (nI p)]) (qh_Q G z M (qh_i (fun r E' => E = E' ∧ r = 0))) 0 0 (fun q => z ≤ q) := by
  refine qh_metZ (cc := cX9_goesFour) (maxL := 6) (by decide) rfl (Nat.le_of_ble_eq_true rfl) ?_
  intro pZ eZ sZ mZ aZ bZ tZ cZ RR QQ ls hx hb hml hown hts hRf hRl hH hK hl hret
  have hown : sZ.vm.findClass RX9 = some mZ.cls := hown
  have hl : lv_has ls 6 [(0, .ref (z + 63)), (1, .int (nI p))] := hl
  have in_X9 : ∀ w ∈ wsX90, w ∈ wsX9_goesFour := fun w h => List.mem_cons_of_mem _ (List.mem_append_right _ h)
  have f_16 : qh_F G sZ mZ aZ 16 9 4 := qh_F.of hts in_X9 hown hK rfl 4 (by decide) (by decide +kernel)
  refine lv_aload_n hx hb dX9_goesFour_0 rfl (lv_at hl 0 rfl) ?_
  refine qh_get hx hb hH f_16 (by omega) b_63 rfl dX9_goesFour_1 ?_
  refine lv_iload_n hx hb dX9_goesFour_4 rfl (lv_at hl 1 rfl) ?_
  refine qh_iald hx hb hK hH (by omega) b_66 (j := p) (rfl) (by omega) (by omega) dX9_goesFour_5 ?_
  refine lv_istore_n (lv' := [(2, .int (ce p)), (0, .ref (z + 63)), (1, .int (nI p))]) hx hb dX9_goesFour_6 rfl hl (by decide) rfl (fun ls hl => ?_)
  refine lv_aload_n hx hb dX9_goesFour_7 rfl (lv_at hl 1 rfl) ?_
  refine qh_get hx hb hH f_16 (by omega) b_63 rfl dX9_goesFour_8 ?_
  refine lv_iload_n hx hb dX9_goesFour_11 rfl (lv_at hl 2 rfl) ?_
  refine lv_iconst (v := 1) hx hb dX9_goesFour_12 (by decide) ?_
  refine lv_iadd hx hb dX9_goesFour_13 ?_
  refine qh_topi (y := nI (p + 1)) (nI_1 p) ?_
  refine qh_iald hx hb hK hH (by omega) b_66 (j := p + 1) (rfl) (by omega) (by omega) dX9_goesFour_14 ?_
  refine lv_istore_n (lv' := [(3, .int (ce (p + 1))), (2, .int (ce p)), (0, .ref (z + 63)), (1, .int (nI p))]) hx hb dX9_goesFour_15 rfl hl (by decide) rfl (fun ls hl => ?_)
  refine lv_aload_n hx hb dX9_goesFour_16 rfl (lv_at hl 2 rfl) ?_
  refine qh_get hx hb hH f_16 (by omega) b_63 rfl dX9_goesFour_17 ?_
  refine lv_iload_n hx hb dX9_goesFour_20 rfl (lv_at hl 3 rfl) ?_
  refine lv_iconst (v := 2) hx hb dX9_goesFour_21 (by decide) ?_
  refine lv_iadd hx hb dX9_goesFour_22 ?_
  refine qh_topi (y := nI (p + 2)) (nI_add p 2) ?_
  refine qh_iald hx hb hK hH (by omega) b_66 (j := p + 2) (rfl) (by omega) (by omega) dX9_goesFour_23 ?_
  refine lv_istore (lv' := [(4, .int (ce (p + 2))), (3, .int (ce (p + 1))), (2, .int (ce p)), (0, .ref (z + 63)), (1, .int (nI p))]) hx hb dX9_goesFour_24 hl (by decide) rfl (fun ls hl => ?_)
  refine lv_aload_n hx hb dX9_goesFour_26 rfl (lv_at hl 3 rfl) ?_
  refine qh_get hx hb hH f_16 (by omega) b_63 rfl dX9_goesFour_27 ?_
  refine lv_iload_n hx hb dX9_goesFour_30 rfl (lv_at hl 4 rfl) ?_
  refine lv_iconst (v := 3) hx hb dX9_goesFour_31 (by decide) ?_
  refine lv_iadd hx hb dX9_goesFour_32 ?_
  refine qh_topi (y := nI (p + 3)) (nI_add p 3) ?_
  refine qh_iald hx hb hK hH (by omega) b_66 (j := p + 3) (rfl) (by omega) (by omega) dX9_goesFour_33 ?_
  refine lv_istore (lv' := [(5, .int (ce (p + 3))), (4, .int (ce (p + 2))), (3, .int (ce (p + 1))), (2, .int (ce p)), (0, .ref (z + 63)), (1, .int (nI p))]) hx hb dX9_goesFour_34 hl (by decide) rfl (fun ls hl => ?_)
  refine lv_aload_n hx hb dX9_goesFour_36 rfl (lv_at hl 4 rfl) ?_
  refine lv_iload_n hx hb dX9_goesFour_37 rfl (lv_at hl 2 rfl) ?_
  refine qh_runV (As := [.int (ce (p + 1))]) (rest := []) (C := RX9) ⟨hx, hb, hml, hown, hts⟩ hK hH (c_X9_isCell l G z M E fa tm n m2 ln pt rm rh sf sl rn (hM) b_63 (ce (p + 1))) (cwV 1 hts gX9_goesFour_X9_isCell rfl rfl rfl (by decide +kernel) (by rw [hRf, hRl]; exact ⟨Nat.le_of_ble_eq_true rfl, Nat.le_of_ble_eq_true rfl⟩)) (by omega) b_63 rfl rfl hl.1 rfl (Nat.le_of_ble_eq_true rfl) dX9_goesFour_38 ⟨Nat.zero_le _, Nat.zero_le _⟩ (qh_kki fun r_38 E_1 H locs hpost hH => ?_)
  obtain ⟨rfl, rfl⟩ := hpost
  refine lv_if_eq (tgt := 73) hx hb dX9_goesFour_41 (by decide) (fun c_41 => ?_) (fun c_41 => ?_)
  · have c_41 := bI_eq.mp c_41
    refine lv_iconst (v := 0) hx hb dX9_goesFour_73 (by decide) ?_
    exact hret dX9_goesFour_74 hH (Or.inl rfl) (⟨rfl, rfl⟩)
  · have c_41 := bI_ne.mp c_41
    refine lv_aload_n hx hb dX9_goesFour_44 rfl (lv_at hl 4 rfl) ?_
    refine lv_iload hx hb dX9_goesFour_45 (lv_at hl 1 rfl) ?_
    refine qh_runV (As := [.int (ce (p + 2))]) (rest := []) (C := RX9) ⟨hx, hb, hml, hown, hts⟩ hK hH (c_X9_isCell l G z M E fa tm n m2 ln pt rm rh sf sl rn (hM) b_63 (ce (p + 2))) (cwV 1 hts gX9_goesFour_X9_isCell rfl rfl rfl (by decide +kernel) (by rw [hRf, hRl]; exact ⟨Nat.le_of_ble_eq_true rfl, Nat.le_of_ble_eq_true rfl⟩)) (by omega) b_63 rfl rfl hl.1 rfl (Nat.le_of_ble_eq_true rfl) dX9_goesFour_47 ⟨Nat.zero_le _, Nat.zero_le _⟩ (qh_kki fun r_47 E_2 H locs hpost hH => ?_)
    obtain ⟨rfl, rfl⟩ := hpost
    refine lv_if_eq (tgt := 73) hx hb dX9_goesFour_50 (by decide) (fun c_50 => ?_) (fun c_50 => ?_)
    · have c_50 := bI_eq.mp c_50
      refine lv_iconst (v := 0) hx hb dX9_goesFour_73 (by decide) ?_
      exact hret dX9_goesFour_74 hH (Or.inl rfl) (⟨rfl, rfl⟩)
    · have c_50 := bI_ne.mp c_50
      refine lv_iload_n hx hb dX9_goesFour_53 rfl (lv_at hl 2 rfl) ?_
      refine lv_iload hx hb dX9_goesFour_54 (lv_at hl 1 rfl) ?_
      refine lv_icmp_gt (tgt := 73) hx hb dX9_goesFour_56 (by decide) (fun c_56 => ?_) (fun c_56 => ?_)
      · refine lv_iconst (v := 0) hx hb dX9_goesFour_73 (by decide) ?_
        exact hret dX9_goesFour_74 hH (Or.inl rfl) (⟨rfl, rfl⟩)
      · refine lv_iload_n hx hb dX9_goesFour_59 rfl (lv_at hl 3 rfl) ?_
        refine lv_iconst (v := 3) hx hb dX9_goesFour_60 (by decide) ?_
        refine lv_icmp_lt (tgt := 75) hx hb dX9_goesFour_61 (by decide) (fun c_61 => ?_) (fun c_61 => ?_)
        · exact absurd ⟨canB_of c_41 c_50 c_56, Or.inl (okS_lt c_61)⟩ hC
        · refine lv_aload_n hx hb dX9_goesFour_64 rfl (lv_at hl 4 rfl) ?_
          refine lv_iload hx hb dX9_goesFour_65 (lv_at hl 0 rfl) ?_
          refine qh_runV (As := [.int (ce (p + 3))]) (rest := []) (C := RX9) ⟨hx, hb, hml, hown, hts⟩ hK hH (c_X9_isHelper l G z M E fa tm n m2 ln pt rm rh sf sl rn (hM) b_63 (ce (p + 3))) (cwV 1 hts gX9_goesFour_X9_isHelper rfl rfl rfl (by decide +kernel) (by rw [hRf, hRl]; exact ⟨Nat.le_of_ble_eq_true rfl, Nat.le_of_ble_eq_true rfl⟩)) (by omega) b_63 rfl rfl hl.1 rfl (Nat.le_of_ble_eq_true rfl) dX9_goesFour_67 ⟨Nat.zero_le _, Nat.zero_le _⟩ (qh_kki fun r_67 E_3 H locs hpost hH => ?_)
          obtain ⟨rfl, rfl⟩ := hpost
          refine lv_if_ne (tgt := 75) hx hb dX9_goesFour_70 (by decide) (fun c_70 => ?_) (fun c_70 => ?_)
          · have c_70 := bI_ne.mp c_70
            exact absurd ⟨canB_of c_41 c_50 c_56, Or.inr ((hlp_has hn.2).mpr c_70)⟩ hC
          · have c_70 := bI_eq.mp c_70
            refine lv_iconst (v := 0) hx hb dX9_goesFour_73 (by decide) ?_
            exact hret dX9_goesFour_74 hH (Or.inl rfl) (⟨rfl, rfl⟩)

set_option maxHeartbeats 1000000 in
set_option maxRecDepth 100000 in
theorem c_X9_goDay (l : Launch) (G : qh_G) (z M : Nat) (E : Nat → va_E) (fa : Int32) (tm : Int32) (n : Nat) (m2 : Nat) (ln : Nat) (pt : Int32) (rm : Int32) (rh : Int32) (sf : Int32) (sl : Int32) (rn : Nat) (hM : 84 ≤ M) (b_63 : E 63 = .inr (9, [.int fa, .int tm, .ref (z + 64), .ref (z + 65), .ref (z + 66), .int (nI n), .int (nI m2), .ref (z + 67), .ref (z + 68), .ref (z + 69), .ref (z + 70), .ref (z + 71), .int (nI ln), .ref (z + 72), .ref (z + 73), .ref (z + 74), .ref (z + 75), .int pt, .int rm, .int rh, .ref (z + 76), .ref (z + 77), .ref (z + 78), .ref (z + 79), .ref (z + 80), .int sf, .int sl, .ref (z + 81), .int (nI rn), .ref (z + 82), .ref (z + 83)])) (p : Nat) (m : Nat) (f : Nat → Int64) (g : Nat → Int64) (kd : Nat → Int32) (pa : Nat → Int32) (ce : Nat → Int32) (hn : n ≤ 16 ∧ m2 ≤ 3) (hp : p + 4 * m ≤ 240) (htt : ∀ t, t < m → okS (ce (p + 4 * t))) (hkd : ∀ j, j < m2 → kd j = 0 ∨ kd j = 1 ∨ kd j = 2) (b_67 : E 67 = qa_J G 16 f) (b_68 : E 68 = qa_J G 16 g) (b_70 : E 70 = qa_I G 3 kd) (b_71 : E 71 = qa_I G 3 pa) (b_66 : E 66 = qa_I G 240 ce) : Met l yX9_goDay wsX9_goDay (qh_R 3) (qh_Pre G z M E [.ref (z + 63), .int (nI p), .int (nI m)]) (qh_Q G z M (qh_i (fun r E' => r = dyR n m2 ce p m ∧ E' 67 = qa_J G 16 (dyF f m2 kd pa ce p (dyC n m2 ce p m)) ∧ E' 68 = qa_J G 16 (dyK g f m2 kd pa ce p (dyC n m2 ce p m)) ∧ ∀ x9, x9 ≠ 67 → x9 ≠ 68 → E' x9 = E x9))) 0 0 (fun q => z ≤ q) := by
  refine qh_metI (cc := cX9_goDay) (maxL := 4) (by decide) rfl (Nat.le_of_ble_eq_true rfl) ?_
  intro pZ eZ sZ mZ aZ bZ tZ cZ RR QQ ls hx hb hml hown hts hRf hRl hH hK hl hret
  have hown : sZ.vm.findClass RX9 = some mZ.cls := hown
  have hl : lv_has ls 4 [(0, .ref (z + 63)), (1, .int (nI p)), (2, .int (nI m))] := hl
  refine lv_iconst (v := 0) hx hb dX9_goDay_0 (by decide) ?_
  refine lv_istore_n (lv' := [(3, .int 0), (0, .ref (z + 63)), (1, .int (nI p)), (2, .int (nI m))]) hx hb dX9_goDay_1 rfl hl (by decide) rfl (fun ls hl => ?_)
  have L_2 : ∀ fu_2 : Nat, ∀ t : Nat, (t ≤ m) → (∀ i, i < t → dyOk n m2 ce p i) → (m - t < fu_2) → ∀ Ek : Nat → va_E, Ek 67 = qa_J G 16 (dyF f m2 kd pa ce p t) → Ek 68 = qa_J G 16 (dyK g f m2 kd pa ce p t) → (∀ x9, x9 ≠ 67 → x9 ≠ 68 → Ek x9 = E x9) → ∀ (H : Heap) (locs : List Loc), qh_H G z M Ek sZ.heap H locs → ∀ ls : Array Slot, lv_has ls 4 [(0, .ref (z + 63)), (1, .int (nI p)), (2, .int (nI m)), (3, .int (nI t))] → W pZ l eZ RR sZ mZ aZ bZ tZ cZ H locs 0 0 QQ (F0 mZ 2 ls []) := by
    intro fu_2
    induction fu_2 with
    | zero =>
      intro t ht hall hfuel
      exact absurd hfuel (by omega)
    | succ fu_2 ih_2 =>
      intro t ht hall hfuel Ek h_67 h_68 hF H locs hH ls hl
      refine lv_iload_n hx hb dX9_goDay_2 rfl (lv_at hl 3 rfl) ?_
      refine lv_iload_n hx hb dX9_goDay_3 rfl (lv_at hl 2 rfl) ?_
      refine lv_icmp_ge (tgt := 27) hx hb dX9_goDay_4 (by decide) (fun c_4 => ?_) (fun c_4 => ?_)
      · have hk : m ≤ t := (nI_leI (by omega) (by omega)).mp c_4
        have hex : m = t := by omega
        subst hex
        refine lv_bipush (v := (-9)) hx hb dX9_goDay_27 (by decide) ?_
        have eC : dyC n m2 ce p m = m := pfx_all (fun i w => decide_eq_true (hall i w))
        exact hret dX9_goDay_29 hH (⟨by rw [dyR, eC, if_pos rfl], by rw [eC]; exact h_67, by rw [eC]; exact h_68, hF⟩)
      · have hk : ¬ m ≤ t := fun w => c_4 (nI_le w (by omega))
        refine lv_aload_n hx hb dX9_goDay_7 rfl (lv_at hl 0 rfl) ?_
        refine lv_iload_n hx hb dX9_goDay_8 rfl (lv_at hl 1 rfl) ?_
        refine lv_iconst (v := 4) hx hb dX9_goDay_9 (by decide) ?_
        refine lv_iload_n hx hb dX9_goDay_10 rfl (lv_at hl 3 rfl) ?_
        refine lv_imul hx hb dX9_goDay_11 ?_
        refine qh_topi (y := nI (4 * t)) (pk_mul 4 t) ?_
        refine lv_iadd hx hb dX9_goDay_12 ?_
        refine qh_topi (y := nI (p + 4 * t)) (nI_add _ _) ?_
        by_cases hC : dyOk n m2 ce p t
        · refine qh_runV (As := [.int (nI (p + 4 * t))]) (rest := []) (C := RX9) ⟨hx, hb, hml, hown, hts⟩ hK hH (c_X9_goesFour l G z M Ek fa tm n m2 ln pt rm rh sf sl rn (hM) ((hF 63 (by decide) (by decide)).trans b_63) (p + 4 * t) (dyF f m2 kd pa ce p t) (dyK g f m2 kd pa ce p t) kd pa ce (⟨hn.1, hn.2⟩) (by omega) (htt t (by omega)) (hkd) (hC) h_67 h_68 ((hF 70 (by decide) (by decide)).trans b_70) ((hF 71 (by decide) (by decide)).trans b_71) ((hF 66 (by decide) (by decide)).trans b_66)) (cwV 1 hts gX9_goDay_X9_goesFour rfl rfl rfl (by decide +kernel) (by rw [hRf, hRl]; exact ⟨Nat.le_of_ble_eq_true rfl, Nat.le_of_ble_eq_true rfl⟩)) (by omega) ((hF 63 (by decide) (by decide)).trans b_63) rfl rfl hl.1 rfl (Nat.le_of_ble_eq_true rfl) dX9_goDay_13 ⟨Nat.zero_le _, Nat.zero_le _⟩ (qh_kki fun r_13 E_1 H locs hpost hH => ?_)
          obtain ⟨rfl, h_67, h_68, hfr⟩ := hpost
          have hF : ∀ x9, x9 ≠ 67 → x9 ≠ 68 → E_1 x9 = E x9 := fun x9 a0 a1 => (hfr x9 a0 a1).trans (hF x9 a0 a1)
          refine lv_if_ne (tgt := 21) hx hb dX9_goDay_16 (by decide) (fun c_16 => ?_) (fun c_16 => ?_)
          · refine lv_iinc (v := nI (t + 1)) (lv' := [(3, .int (nI (t + 1))), (0, .ref (z + 63)), (1, .int (nI p)), (2, .int (nI m))]) hx hb dX9_goDay_21 hl (k := 3) rfl (qn_inc t) (by decide) rfl (fun ls hl => ?_)
            refine lv_goto (tgt := 2) hx hb dX9_goDay_24 (by decide) ?_
            exact ih_2 (t + 1) (by omega) (fun i w => (Nat.lt_succ_iff_lt_or_eq.mp w).elim (hall i) (fun w2 => w2 ▸ hC)) (by omega) E_1 h_67 h_68 (fun x9 a0 a1 => hF x9 a0 a1) _ _ hH ls (lv_sub hl [1, 2, 3, 0] rfl)
          · exact absurd c_16 (by decide)
        · refine qh_runV (As := [.int (nI (p + 4 * t))]) (rest := []) (C := RX9) ⟨hx, hb, hml, hown, hts⟩ hK hH (c_X9_goesFour_no l G z M Ek fa tm n m2 ln pt rm rh sf sl rn (hM) ((hF 63 (by decide) (by decide)).trans b_63) (p + 4 * t) (dyF f m2 kd pa ce p t) (dyK g f m2 kd pa ce p t) kd pa ce (⟨hn.1, hn.2⟩) (by omega) (htt t (by omega)) (hkd) (hC) h_67 h_68 ((hF 70 (by decide) (by decide)).trans b_70) ((hF 71 (by decide) (by decide)).trans b_71) ((hF 66 (by decide) (by decide)).trans b_66)) (cwV 1 hts gX9_goDay_X9_goesFour rfl rfl rfl (by decide +kernel) (by rw [hRf, hRl]; exact ⟨Nat.le_of_ble_eq_true rfl, Nat.le_of_ble_eq_true rfl⟩)) (by omega) ((hF 63 (by decide) (by decide)).trans b_63) rfl rfl hl.1 rfl (Nat.le_of_ble_eq_true rfl) dX9_goDay_13 ⟨Nat.zero_le _, Nat.zero_le _⟩ (qh_kki fun r_13 E_2 H locs hpost hH => ?_)
          obtain ⟨rfl, rfl⟩ := hpost
          refine lv_if_ne (tgt := 21) hx hb dX9_goDay_16 (by decide) (fun c_16 => ?_) (fun c_16 => ?_)
          · exact absurd (by decide) c_16
          · refine lv_iload_n hx hb dX9_goDay_19 rfl (lv_at hl 3 rfl) ?_
            have eC : dyC n m2 ce p m = t := pfx_stop (fun i w => decide_eq_true (hall i w)) (fun w => hC (of_decide_eq_true w)) (by omega)
            exact hret dX9_goDay_20 hH (⟨by rw [dyR, eC, if_neg (by omega)], by rw [eC]; exact h_67, by rw [eC]; exact h_68, hF⟩)
  exact L_2 (m + 1) 0 (Nat.zero_le _) (fun _ w => absurd w (Nat.not_lt_zero _)) (by omega) E b_67 b_68 (fun x9 a0 a1 => rfl) _ _ hH ls (lv_sub hl [1, 2, 3, 0] rfl)

set_option maxHeartbeats 1000000 in
set_option maxRecDepth 100000 in
theorem c_X9_tellDay (l : Launch) (G : qh_G) (z M : Nat) (E : Nat → va_E) (fa : Int32) (tm : Int32) (n : Nat) (m2 : Nat) (ln : Nat) (pt : Int32) (rm : Int32) (rh : Int32) (sf : Int32) (sl : Int32) (rn : Nat) (hM : 84 ≤ M) (b_63 : E 63 = .inr (9, [.int fa, .int tm, .ref (z + 64), .ref (z + 65), .ref (z + 66), .int (nI n), .int (nI m2), .ref (z + 67), .ref (z + 68), .ref (z + 69), .ref (z + 70), .ref (z + 71), .int (nI ln), .ref (z + 72), .ref (z + 73), .ref (z + 74), .ref (z + 75), .int pt, .int rm, .int rh, .ref (z + 76), .ref (z + 77), .ref (z + 78), .ref (z + 79), .ref (z + 80), .int sf, .int sl, .ref (z + 81), .int (nI rn), .ref (z + 82), .ref (z + 83)])) (f : Nat → Int64) (g : Nat → Int64) (x : Int32) (hn : 1 ≤ n ∧ n ≤ 16) (b_67 : E 67 = qa_J G 16 f) (b_68 : E 68 = qa_J G 16 g) : Met l yX9_tellDay wsX9_tellDay (qh_R 1) (qh_Pre G z M E [.ref (z + 63), .int x]) (qh_Q G z M (qh_l (fun r E' => E = E' ∧ r = tdM n f g x))) 0 0 (fun q => z ≤ q) := by
  refine qh_metL (cc := cX9_tellDay) (maxL := 3) (by decide) rfl (Nat.le_of_ble_eq_true rfl) ?_
  intro pZ eZ sZ mZ aZ bZ tZ cZ RR QQ ls hx hb hml hown hts hRf hRl hH hK hl hret
  have hown : sZ.vm.findClass RX9 = some mZ.cls := hown
  have hl : lv_has ls 3 [(0, .ref (z + 63)), (1, .int x)] := hl
  have in_X9 : ∀ w ∈ wsX90, w ∈ wsX9_tellDay := fun w h => List.mem_cons_of_mem _ (List.mem_append_right _ h)
  have f_81 : qh_F G sZ mZ aZ 81 9 5 := qh_F.of hts in_X9 hown hK rfl 5 (by decide) (by decide +kernel)
  have k_75 := hts (.constantLong RX9 75 (-9223372036854775808)) (by decide +kernel)
  have f_19 : qh_F G sZ mZ aZ 19 9 7 := qh_F.of hts in_X9 hown hK rfl 7 (by decide) (by decide +kernel)
  refine lv_iload_n hx hb dX9_tellDay_0 rfl (lv_at hl 1 rfl) ?_
  refine lv_bipush (v := 10) hx hb dX9_tellDay_1 (by decide) ?_
  refine lv_icmp_lt (tgt := 33) hx hb dX9_tellDay_3 (by decide) (fun c_3 => ?_) (fun c_3 => ?_)
  · refine lv_aload_n hx hb dX9_tellDay_33 rfl (lv_at hl 0 rfl) ?_
    refine qh_get hx hb hH f_81 (by omega) b_63 rfl dX9_tellDay_34 ?_
    refine lv_iconst (v := 1) hx hb dX9_tellDay_37 (by decide) ?_
    refine lv_isub hx hb dX9_tellDay_38 ?_
    refine qh_topi (y := nI (n - 1)) (pk_sub (b := 1) hn.1) ?_
    refine lv_istore_n (lv' := [(2, .int (nI (n - 1))), (0, .ref (z + 63)), (1, .int x)]) hx hb dX9_tellDay_39 rfl hl (by decide) rfl (fun ls hl => ?_)
    refine lv_iload_n hx hb dX9_tellDay_40 rfl (lv_at hl 2 rfl) ?_
    refine lv_if_ne (tgt := 53) hx hb dX9_tellDay_41 (by decide) (fun c_41 => ?_) (fun c_41 => ?_)
    · refine lv_iload_n hx hb dX9_tellDay_53 rfl (lv_at hl 2 rfl) ?_
      refine lv_iconst (v := 2) hx hb dX9_tellDay_54 (by decide) ?_
      refine lv_icmp_ne (tgt := 67) hx hb dX9_tellDay_55 (by decide) (fun c_55 => ?_) (fun c_55 => ?_)
      · refine lv_iload_n hx hb dX9_tellDay_67 rfl (lv_at hl 2 rfl) ?_
        refine lv_iconst (v := 3) hx hb dX9_tellDay_68 (by decide) ?_
        refine lv_icmp_ne (tgt := 81) hx hb dX9_tellDay_69 (by decide) (fun c_69 => ?_) (fun c_69 => ?_)
        · refine lv_aload_n hx hb dX9_tellDay_81 rfl (lv_at hl 1 rfl) ?_
          refine lv_iconst (v := 0) hx hb dX9_tellDay_82 (by decide) ?_
          refine lv_iload_n hx hb dX9_tellDay_83 rfl (lv_at hl 0 rfl) ?_
          refine qh_runV (As := [.int 0, .int (nI (n - 1))]) (rest := []) (C := RX9) ⟨hx, hb, hml, hown, hts⟩ hK hH (c_X9_greatestEver l G z M E fa tm n m2 ln pt rm rh sf sl rn (hM) b_63 0 (n - 1) g (⟨by omega, by omega⟩) b_68) (cwV 2 hts gX9_tellDay_X9_greatestEver rfl rfl rfl (by decide +kernel) (by rw [hRf, hRl]; exact ⟨Nat.le_of_ble_eq_true rfl, Nat.le_of_ble_eq_true rfl⟩)) (by omega) b_63 rfl rfl hl.1 rfl (Nat.le_of_ble_eq_true rfl) dX9_tellDay_84 ⟨Nat.zero_le _, Nat.zero_le _⟩ (qh_kkl fun r_84 E_1 H locs hpost hH => ?_)
          obtain ⟨rfl, rfl⟩ := hpost
          exact hret dX9_tellDay_87 hH (⟨rfl, by rw [tdM, if_pos c_3, if_neg c_41, if_neg c_55, if_neg c_69]; rfl⟩)
        · refine lv_aload_n hx hb dX9_tellDay_72 rfl (lv_at hl 1 rfl) ?_
          refine lv_iconst (v := 0) hx hb dX9_tellDay_73 (by decide) ?_
          refine lv_iload_n hx hb dX9_tellDay_74 rfl (lv_at hl 0 rfl) ?_
          refine qh_runV (As := [.int 0, .int (nI (n - 1))]) (rest := []) (C := RX9) ⟨hx, hb, hml, hown, hts⟩ hK hH (c_X9_leastOf l G z M E fa tm n m2 ln pt rm rh sf sl rn (hM) b_63 0 (n - 1) f (⟨by omega, by omega⟩) b_67) (cwV 2 hts gX9_tellDay_X9_leastOf rfl rfl rfl (by decide +kernel) (by rw [hRf, hRl]; exact ⟨Nat.le_of_ble_eq_true rfl, Nat.le_of_ble_eq_true rfl⟩)) (by omega) b_63 rfl rfl hl.1 rfl (Nat.le_of_ble_eq_true rfl) dX9_tellDay_75 ⟨Nat.zero_le _, Nat.zero_le _⟩ (qh_kkl fun r_75 E_2 H locs hpost hH => ?_)
          obtain ⟨rfl, rfl⟩ := hpost
          refine lv_goto (tgt := 87) hx hb dX9_tellDay_78 (by decide) ?_
          exact hret dX9_tellDay_87 hH (⟨rfl, by rw [tdM, if_pos c_3, if_neg c_41, if_neg c_55, if_pos c_69]; rfl⟩)
      · refine lv_aload_n hx hb dX9_tellDay_58 rfl (lv_at hl 1 rfl) ?_
        refine lv_iconst (v := 0) hx hb dX9_tellDay_59 (by decide) ?_
        refine lv_iload_n hx hb dX9_tellDay_60 rfl (lv_at hl 0 rfl) ?_
        refine qh_runV (As := [.int 0, .int (nI (n - 1))]) (rest := []) (C := RX9) ⟨hx, hb, hml, hown, hts⟩ hK hH (c_X9_greatestOf l G z M E fa tm n m2 ln pt rm rh sf sl rn (hM) b_63 0 (n - 1) f (⟨by omega, by omega⟩) b_67) (cwV 2 hts gX9_tellDay_X9_greatestOf rfl rfl rfl (by decide +kernel) (by rw [hRf, hRl]; exact ⟨Nat.le_of_ble_eq_true rfl, Nat.le_of_ble_eq_true rfl⟩)) (by omega) b_63 rfl rfl hl.1 rfl (Nat.le_of_ble_eq_true rfl) dX9_tellDay_61 ⟨Nat.zero_le _, Nat.zero_le _⟩ (qh_kkl fun r_61 E_3 H locs hpost hH => ?_)
        obtain ⟨rfl, rfl⟩ := hpost
        refine lv_goto (tgt := 87) hx hb dX9_tellDay_64 (by decide) ?_
        exact hret dX9_tellDay_87 hH (⟨rfl, by rw [tdM, if_pos c_3, if_neg c_41, if_pos c_55]; rfl⟩)
    · refine lv_aload_n hx hb dX9_tellDay_44 rfl (lv_at hl 1 rfl) ?_
      refine lv_iconst (v := 0) hx hb dX9_tellDay_45 (by decide) ?_
      refine lv_iload_n hx hb dX9_tellDay_46 rfl (lv_at hl 0 rfl) ?_
      refine qh_runV (As := [.int 0, .int (nI (n - 1))]) (rest := []) (C := RX9) ⟨hx, hb, hml, hown, hts⟩ hK hH (c_X9_sumOf l G z M E fa tm n m2 ln pt rm rh sf sl rn (hM) b_63 0 (n - 1) f (⟨by omega, by omega⟩) b_67) (cwV 2 hts gX9_tellDay_X9_sumOf rfl rfl rfl (by decide +kernel) (by rw [hRf, hRl]; exact ⟨Nat.le_of_ble_eq_true rfl, Nat.le_of_ble_eq_true rfl⟩)) (by omega) b_63 rfl rfl hl.1 rfl (Nat.le_of_ble_eq_true rfl) dX9_tellDay_47 ⟨Nat.zero_le _, Nat.zero_le _⟩ (qh_kkl fun r_47 E_4 H locs hpost hH => ?_)
      obtain ⟨rfl, rfl⟩ := hpost
      refine lv_goto (tgt := 87) hx hb dX9_tellDay_50 (by decide) ?_
      exact hret dX9_tellDay_87 hH (⟨rfl, by rw [tdM, if_pos c_3, if_pos c_41]; congr 1; omega⟩)
  · refine lv_aload_n hx hb dX9_tellDay_6 rfl (lv_at hl 0 rfl) ?_
    refine lv_iload_n hx hb dX9_tellDay_7 rfl (lv_at hl 1 rfl) ?_
    refine lv_bipush (v := 10) hx hb dX9_tellDay_8 (by decide) ?_
    refine lv_isub hx hb dX9_tellDay_10 ?_
    refine qh_runV (As := [.int (x - 10)]) (rest := []) (C := RX9) ⟨hx, hb, hml, hown, hts⟩ hK hH (c_X9_isCell l G z M E fa tm n m2 ln pt rm rh sf sl rn (hM) b_63 (x - 10)) (cwV 1 hts gX9_tellDay_X9_isCell rfl rfl rfl (by decide +kernel) (by rw [hRf, hRl]; exact ⟨Nat.le_of_ble_eq_true rfl, Nat.le_of_ble_eq_true rfl⟩)) (by omega) b_63 rfl rfl hl.1 rfl (Nat.le_of_ble_eq_true rfl) dX9_tellDay_11 ⟨Nat.zero_le _, Nat.zero_le _⟩ (qh_kki fun r_11 E_5 H locs hpost hH => ?_)
    obtain ⟨rfl, rfl⟩ := hpost
    refine lv_if_eq (tgt := 29) hx hb dX9_tellDay_14 (by decide) (fun c_14 => ?_) (fun c_14 => ?_)
    · have c_14 := bI_eq.mp c_14
      refine lv_ldc2 hx hb hown k_75 dX9_tellDay_29 ?_
      refine qh_topl (y := LOSTv) (rfl) ?_
      exact hret dX9_tellDay_32 hH (⟨rfl, by rw [tdM, if_neg (Int32.not_lt.mpr (Int32.not_lt.mp c_3)), if_neg c_14]⟩)
    · have c_14 := bI_ne.mp c_14
      obtain ⟨t, ht, et⟩ := nI_of_in (by omega) c_14
      refine lv_aload_n hx hb dX9_tellDay_17 rfl (lv_at hl 0 rfl) ?_
      refine qh_get hx hb hH f_19 (by omega) b_63 rfl dX9_tellDay_18 ?_
      refine lv_iload_n hx hb dX9_tellDay_21 rfl (lv_at hl 1 rfl) ?_
      refine lv_bipush (v := 10) hx hb dX9_tellDay_22 (by decide) ?_
      refine lv_isub hx hb dX9_tellDay_24 ?_
      refine qh_lald hx hb hK hH (by omega) b_67 (j := t) (et) (by omega) (by omega) dX9_tellDay_25 ?_
      refine lv_goto (tgt := 32) hx hb dX9_tellDay_26 (by decide) ?_
      exact hret dX9_tellDay_32 hH (⟨rfl, by rw [tdM, if_neg (Int32.not_lt.mpr (Int32.not_lt.mp c_3)), if_pos c_14, et, nI_clamp (by omega)]⟩)

set_option maxHeartbeats 1000000 in
set_option maxRecDepth 100000 in
theorem c_X9_opens (l : Launch) (G : qh_G) (z M : Nat) (E : Nat → va_E) (fa : Int32) (tm : Int32) (n : Nat) (m2 : Nat) (ln : Nat) (pt : Int32) (rm : Int32) (rh : Int32) (rn : Nat) (u : Nat) (w : Nat) (a : Nat) (b : Nat) (f : Nat → Int64) (v : Int64) (hM : 84 ≤ M) (b_63 : E 63 = .inr (9, [.int fa, .int tm, .ref (z + 64), .ref (z + 65), .ref (z + 66), .int (nI n), .int (nI m2), .ref (z + 67), .ref (z + 68), .ref (z + 69), .ref (z + 70), .ref (z + 71), .int (nI ln), .ref (z + 72), .ref (z + 73), .ref (z + 74), .ref (z + 75), .int pt, .int rm, .int rh, .ref (z + 76), .ref (z + 77), .ref (z + 78), .ref (z + 79), .ref (z + 80), .int (nI u), .int (nI w), .ref (z + 81), .int (nI rn), .ref (z + 82), .ref (z + 83)])) (huw : u ≤ w ∧ w < 16) (hab : a < 16 ∧ b < 16) (b_67 : E 67 = qa_J G 16 f) : Met l yX9_opens wsX9_opens (qh_R 2) (qh_Pre G z M E [.ref (z + 63), .int (nI a), .int (nI b), .long v]) (qh_Q G z M (qh_i (fun r E' => E = E' ∧ r = bI (opn f u w a b v)))) 0 0 (fun q => z ≤ q) := by
  refine qh_metZ (cc := cX9_opens) (maxL := 9) (by decide) rfl (Nat.le_of_ble_eq_true rfl) ?_
  intro pZ eZ sZ mZ aZ bZ tZ cZ RR QQ ls hx hb hml hown hts hRf hRl hH hK hl hret
  have hown : sZ.vm.findClass RX9 = some mZ.cls := hown
  have hl : lv_has ls 9 [(0, .ref (z + 63)), (1, .int (nI a)), (2, .int (nI b)), (3, .long v)] := hl
  have in_X9 : ∀ w ∈ wsX90, w ∈ wsX9_opens := fun w h => List.mem_cons_of_mem _ (List.mem_append_right _ h)
  have f_211 : qh_F G sZ mZ aZ 211 9 25 := qh_F.of hts in_X9 hown hK rfl 25 (by decide) (by decide +kernel)
  have f_214 : qh_F G sZ mZ aZ 214 9 26 := qh_F.of hts in_X9 hown hK rfl 26 (by decide) (by decide +kernel)
  have k_75 := hts (.constantLong RX9 75 (-9223372036854775808)) (by decide +kernel)
  refine lv_aload_n hx hb dX9_opens_0 rfl (lv_at hl 0 rfl) ?_
  refine qh_get hx hb hH f_211 (by omega) b_63 rfl dX9_opens_1 ?_
  refine lv_iload_n hx hb dX9_opens_4 rfl (lv_at hl 2 rfl) ?_
  refine lv_icmp_gt (tgt := 20) hx hb dX9_opens_5 (by decide) (fun c_5 => ?_) (fun c_5 => ?_)
  · refine lv_iconst (v := 0) hx hb dX9_opens_20 (by decide) ?_
    refine lv_istore (lv' := [(5, .int 0), (0, .ref (z + 63)), (1, .int (nI a)), (2, .int (nI b)), (3, .long v)]) hx hb dX9_opens_21 hl (by decide) rfl (fun ls hl => ?_)
    refine lv_aload_n hx hb dX9_opens_23 rfl (lv_at hl 1 rfl) ?_
    refine qh_get hx hb hH f_211 (by omega) b_63 rfl dX9_opens_24 ?_
    refine lv_iload_n hx hb dX9_opens_27 rfl (lv_at hl 2 rfl) ?_
    refine lv_icmp_lt (tgt := 43) hx hb dX9_opens_28 (by decide) (fun c_28 => ?_) (fun c_28 => ?_)
    · refine lv_iconst (v := 0) hx hb dX9_opens_43 (by decide) ?_
      refine lv_istore (lv' := [(6, .int 0), (5, .int 0), (0, .ref (z + 63)), (1, .int (nI a)), (2, .int (nI b)), (3, .long v)]) hx hb dX9_opens_44 hl (by decide) rfl (fun ls hl => ?_)
      refine lv_iload hx hb dX9_opens_46 (lv_at hl 1 rfl) ?_
      refine lv_if_eq (tgt := 68) hx hb dX9_opens_48 (by decide) (fun c_48 => ?_) (fun c_48 => ?_)
      · refine lv_iconst (v := 0) hx hb dX9_opens_68 (by decide) ?_
        exact hret dX9_opens_69 hH (Or.inl rfl) (⟨rfl, bI_0 (fun q => q.2.1 ((nI_ltI (by omega) (by omega)).mp c_5))⟩)
      · exact absurd (by decide) c_48
    · refine lv_aload_n hx hb dX9_opens_31 rfl (lv_at hl 1 rfl) ?_
      refine qh_get hx hb hH f_214 (by omega) b_63 rfl dX9_opens_32 ?_
      refine lv_iload_n hx hb dX9_opens_35 rfl (lv_at hl 3 rfl) ?_
      refine lv_icmp_gt (tgt := 43) hx hb dX9_opens_36 (by decide) (fun c_36 => ?_) (fun c_36 => ?_)
      · refine lv_iconst (v := 0) hx hb dX9_opens_43 (by decide) ?_
        refine lv_istore (lv' := [(6, .int 0), (5, .int 0), (0, .ref (z + 63)), (1, .int (nI a)), (2, .int (nI b)), (3, .long v)]) hx hb dX9_opens_44 hl (by decide) rfl (fun ls hl => ?_)
        refine lv_iload hx hb dX9_opens_46 (lv_at hl 1 rfl) ?_
        refine lv_if_eq (tgt := 68) hx hb dX9_opens_48 (by decide) (fun c_48 => ?_) (fun c_48 => ?_)
        · refine lv_iconst (v := 0) hx hb dX9_opens_68 (by decide) ?_
          exact hret dX9_opens_69 hH (Or.inl rfl) (⟨rfl, bI_0 (fun q => q.2.1 ((nI_ltI (by omega) (by omega)).mp c_5))⟩)
        · exact absurd (by decide) c_48
      · refine lv_iconst (v := 1) hx hb dX9_opens_39 (by decide) ?_
        refine lv_goto (tgt := 44) hx hb dX9_opens_40 (by decide) ?_
        refine lv_istore (lv' := [(6, .int 1), (5, .int 0), (0, .ref (z + 63)), (1, .int (nI a)), (2, .int (nI b)), (3, .long v)]) hx hb dX9_opens_44 hl (by decide) rfl (fun ls hl => ?_)
        refine lv_iload hx hb dX9_opens_46 (lv_at hl 1 rfl) ?_
        refine lv_if_eq (tgt := 68) hx hb dX9_opens_48 (by decide) (fun c_48 => ?_) (fun c_48 => ?_)
        · refine lv_iconst (v := 0) hx hb dX9_opens_68 (by decide) ?_
          exact hret dX9_opens_69 hH (Or.inl rfl) (⟨rfl, bI_0 (fun q => q.2.1 ((nI_ltI (by omega) (by omega)).mp c_5))⟩)
        · exact absurd (by decide) c_48
  · refine lv_aload_n hx hb dX9_opens_8 rfl (lv_at hl 0 rfl) ?_
    refine qh_get hx hb hH f_214 (by omega) b_63 rfl dX9_opens_9 ?_
    refine lv_iload_n hx hb dX9_opens_12 rfl (lv_at hl 1 rfl) ?_
    refine lv_icmp_lt (tgt := 20) hx hb dX9_opens_13 (by decide) (fun c_13 => ?_) (fun c_13 => ?_)
    · refine lv_iconst (v := 0) hx hb dX9_opens_20 (by decide) ?_
      refine lv_istore (lv' := [(5, .int 0), (0, .ref (z + 63)), (1, .int (nI a)), (2, .int (nI b)), (3, .long v)]) hx hb dX9_opens_21 hl (by decide) rfl (fun ls hl => ?_)
      refine lv_aload_n hx hb dX9_opens_23 rfl (lv_at hl 1 rfl) ?_
      refine qh_get hx hb hH f_211 (by omega) b_63 rfl dX9_opens_24 ?_
      refine lv_iload_n hx hb dX9_opens_27 rfl (lv_at hl 2 rfl) ?_
      refine lv_icmp_lt (tgt := 43) hx hb dX9_opens_28 (by decide) (fun c_28 => ?_) (fun c_28 => ?_)
      · refine lv_iconst (v := 0) hx hb dX9_opens_43 (by decide) ?_
        refine lv_istore (lv' := [(6, .int 0), (5, .int 0), (0, .ref (z + 63)), (1, .int (nI a)), (2, .int (nI b)), (3, .long v)]) hx hb dX9_opens_44 hl (by decide) rfl (fun ls hl => ?_)
        refine lv_iload hx hb dX9_opens_46 (lv_at hl 1 rfl) ?_
        refine lv_if_eq (tgt := 68) hx hb dX9_opens_48 (by decide) (fun c_48 => ?_) (fun c_48 => ?_)
        · refine lv_iconst (v := 0) hx hb dX9_opens_68 (by decide) ?_
          exact hret dX9_opens_69 hH (Or.inl rfl) (⟨rfl, bI_0 (fun q => q.1 ((nI_ltI (by omega) (by omega)).mp c_13))⟩)
        · exact absurd (by decide) c_48
      · refine lv_aload_n hx hb dX9_opens_31 rfl (lv_at hl 1 rfl) ?_
        refine qh_get hx hb hH f_214 (by omega) b_63 rfl dX9_opens_32 ?_
        refine lv_iload_n hx hb dX9_opens_35 rfl (lv_at hl 3 rfl) ?_
        refine lv_icmp_gt (tgt := 43) hx hb dX9_opens_36 (by decide) (fun c_36 => ?_) (fun c_36 => ?_)
        · refine lv_iconst (v := 0) hx hb dX9_opens_43 (by decide) ?_
          refine lv_istore (lv' := [(6, .int 0), (5, .int 0), (0, .ref (z + 63)), (1, .int (nI a)), (2, .int (nI b)), (3, .long v)]) hx hb dX9_opens_44 hl (by decide) rfl (fun ls hl => ?_)
          refine lv_iload hx hb dX9_opens_46 (lv_at hl 1 rfl) ?_
          refine lv_if_eq (tgt := 68) hx hb dX9_opens_48 (by decide) (fun c_48 => ?_) (fun c_48 => ?_)
          · refine lv_iconst (v := 0) hx hb dX9_opens_68 (by decide) ?_
            exact hret dX9_opens_69 hH (Or.inl rfl) (⟨rfl, bI_0 (fun q => q.1 ((nI_ltI (by omega) (by omega)).mp c_13))⟩)
          · exact absurd (by decide) c_48
        · refine lv_iconst (v := 1) hx hb dX9_opens_39 (by decide) ?_
          refine lv_goto (tgt := 44) hx hb dX9_opens_40 (by decide) ?_
          refine lv_istore (lv' := [(6, .int 1), (5, .int 0), (0, .ref (z + 63)), (1, .int (nI a)), (2, .int (nI b)), (3, .long v)]) hx hb dX9_opens_44 hl (by decide) rfl (fun ls hl => ?_)
          refine lv_iload hx hb dX9_opens_46 (lv_at hl 1 rfl) ?_
          refine lv_if_eq (tgt := 68) hx hb dX9_opens_48 (by decide) (fun c_48 => ?_) (fun c_48 => ?_)
          · refine lv_iconst (v := 0) hx hb dX9_opens_68 (by decide) ?_
            exact hret dX9_opens_69 hH (Or.inl rfl) (⟨rfl, bI_0 (fun q => q.1 ((nI_ltI (by omega) (by omega)).mp c_13))⟩)
          · exact absurd (by decide) c_48
    · refine lv_iconst (v := 1) hx hb dX9_opens_16 (by decide) ?_
      refine lv_goto (tgt := 21) hx hb dX9_opens_17 (by decide) ?_
      refine lv_istore (lv' := [(5, .int 1), (0, .ref (z + 63)), (1, .int (nI a)), (2, .int (nI b)), (3, .long v)]) hx hb dX9_opens_21 hl (by decide) rfl (fun ls hl => ?_)
      refine lv_aload_n hx hb dX9_opens_23 rfl (lv_at hl 1 rfl) ?_
      refine qh_get hx hb hH f_211 (by omega) b_63 rfl dX9_opens_24 ?_
      refine lv_iload_n hx hb dX9_opens_27 rfl (lv_at hl 2 rfl) ?_
      refine lv_icmp_lt (tgt := 43) hx hb dX9_opens_28 (by decide) (fun c_28 => ?_) (fun c_28 => ?_)
      · refine lv_iconst (v := 0) hx hb dX9_opens_43 (by decide) ?_
        refine lv_istore (lv' := [(6, .int 0), (5, .int 1), (0, .ref (z + 63)), (1, .int (nI a)), (2, .int (nI b)), (3, .long v)]) hx hb dX9_opens_44 hl (by decide) rfl (fun ls hl => ?_)
        refine lv_iload hx hb dX9_opens_46 (lv_at hl 1 rfl) ?_
        refine lv_if_eq (tgt := 68) hx hb dX9_opens_48 (by decide) (fun c_48 => ?_) (fun c_48 => ?_)
        · exact absurd c_48 (by decide)
        · refine lv_aload_n hx hb dX9_opens_51 rfl (lv_at hl 2 rfl) ?_
          refine lv_aload_n hx hb dX9_opens_52 rfl (lv_at hl 2 rfl) ?_
          refine qh_get hx hb hH f_211 (by omega) b_63 rfl dX9_opens_53 ?_
          refine lv_aload_n hx hb dX9_opens_56 rfl (lv_at hl 2 rfl) ?_
          refine qh_get hx hb hH f_214 (by omega) b_63 rfl dX9_opens_57 ?_
          refine qh_runV (As := [.int (nI u), .int (nI w)]) (rest := []) (C := RX9) ⟨hx, hb, hml, hown, hts⟩ hK hH (c_X9_greatestOf l G z M E fa tm n m2 ln pt rm rh (nI u) (nI w) rn (hM) b_63 u w f (⟨huw.1, huw.2⟩) b_67) (cwV 2 hts gX9_opens_X9_greatestOf rfl rfl rfl (by decide +kernel) (by rw [hRf, hRl]; exact ⟨Nat.le_of_ble_eq_true rfl, Nat.le_of_ble_eq_true rfl⟩)) (by omega) b_63 rfl rfl hl.1 rfl (Nat.le_of_ble_eq_true rfl) dX9_opens_60 ⟨Nat.zero_le _, Nat.zero_le _⟩ (qh_kkl fun r_60 E_1 H locs hpost hH => ?_)
          obtain ⟨rfl, rfl⟩ := hpost
          refine lv_lload_n hx hb dX9_opens_63 rfl (lv_at hl 5 rfl) ?_
          refine W.lcmp hx hb dX9_opens_64 ?_
          refine lv_if_gt (tgt := 70) hx hb dX9_opens_65 (by decide) (fun c_65 => ?_) (fun c_65 => ?_)
          · have c_65 := (lg_cmp_gt _ _).mp c_65
            refine lv_aload_n hx hb dX9_opens_70 rfl (lv_at hl 2 rfl) ?_
            refine lv_aload_n hx hb dX9_opens_71 rfl (lv_at hl 2 rfl) ?_
            refine qh_get hx hb hH f_211 (by omega) b_63 rfl dX9_opens_72 ?_
            refine lv_aload_n hx hb dX9_opens_75 rfl (lv_at hl 2 rfl) ?_
            refine qh_get hx hb hH f_214 (by omega) b_63 rfl dX9_opens_76 ?_
            refine qh_runV (As := [.int (nI u), .int (nI w)]) (rest := []) (C := RX9) ⟨hx, hb, hml, hown, hts⟩ hK hH (c_X9_secondOf l G z M E fa tm n m2 ln pt rm rh (nI u) (nI w) rn (hM) b_63 u w f (⟨huw.1, huw.2⟩) b_67) (cwV 2 hts gX9_opens_X9_secondOf rfl rfl rfl (by decide +kernel) (by rw [hRf, hRl]; exact ⟨Nat.le_of_ble_eq_true rfl, Nat.le_of_ble_eq_true rfl⟩)) (by omega) b_63 rfl rfl hl.1 rfl (Nat.le_of_ble_eq_true rfl) dX9_opens_79 ⟨Nat.zero_le _, Nat.zero_le _⟩ (qh_kkl fun r_79 E_2 H locs hpost hH => ?_)
            obtain ⟨rfl, rfl⟩ := hpost
            refine lv_lstore (lv' := [(7, .long (secR f (maxR f u (w - u)) u (w + 1 - u))), (6, .int 0), (5, .int 1), (0, .ref (z + 63)), (1, .int (nI a)), (2, .int (nI b)), (3, .long v)]) hx hb dX9_opens_82 hl (by decide) rfl (fun ls hl => ?_)
            refine lv_iload hx hb dX9_opens_84 (lv_at hl 1 rfl) ?_
            refine lv_if_eq (tgt := 105) hx hb dX9_opens_86 (by decide) (fun c_86 => ?_) (fun c_86 => ?_)
            · refine lv_iconst (v := 1) hx hb dX9_opens_105 (by decide) ?_
              refine lv_goto (tgt := 110) hx hb dX9_opens_106 (by decide) ?_
              exact hret dX9_opens_110 hH (Or.inr rfl) (⟨rfl, bI_1 ⟨(fun q => c_13 (nI_lt q (by omega))), (fun q => c_5 (nI_lt q (by omega))), c_65, Or.inl ((nI_ltI (by omega) (by omega)).mp c_28)⟩⟩)
            · exact absurd (by decide) c_86
          · have c_65 := (not_congr (lg_cmp_gt _ _)).mp c_65
            refine lv_iconst (v := 0) hx hb dX9_opens_68 (by decide) ?_
            exact hret dX9_opens_69 hH (Or.inl rfl) (⟨rfl, bI_0 (fun q => c_65 q.2.2.1)⟩)
      · refine lv_aload_n hx hb dX9_opens_31 rfl (lv_at hl 1 rfl) ?_
        refine qh_get hx hb hH f_214 (by omega) b_63 rfl dX9_opens_32 ?_
        refine lv_iload_n hx hb dX9_opens_35 rfl (lv_at hl 3 rfl) ?_
        refine lv_icmp_gt (tgt := 43) hx hb dX9_opens_36 (by decide) (fun c_36 => ?_) (fun c_36 => ?_)
        · refine lv_iconst (v := 0) hx hb dX9_opens_43 (by decide) ?_
          refine lv_istore (lv' := [(6, .int 0), (5, .int 1), (0, .ref (z + 63)), (1, .int (nI a)), (2, .int (nI b)), (3, .long v)]) hx hb dX9_opens_44 hl (by decide) rfl (fun ls hl => ?_)
          refine lv_iload hx hb dX9_opens_46 (lv_at hl 1 rfl) ?_
          refine lv_if_eq (tgt := 68) hx hb dX9_opens_48 (by decide) (fun c_48 => ?_) (fun c_48 => ?_)
          · exact absurd c_48 (by decide)
          · refine lv_aload_n hx hb dX9_opens_51 rfl (lv_at hl 2 rfl) ?_
            refine lv_aload_n hx hb dX9_opens_52 rfl (lv_at hl 2 rfl) ?_
            refine qh_get hx hb hH f_211 (by omega) b_63 rfl dX9_opens_53 ?_
            refine lv_aload_n hx hb dX9_opens_56 rfl (lv_at hl 2 rfl) ?_
            refine qh_get hx hb hH f_214 (by omega) b_63 rfl dX9_opens_57 ?_
            refine qh_runV (As := [.int (nI u), .int (nI w)]) (rest := []) (C := RX9) ⟨hx, hb, hml, hown, hts⟩ hK hH (c_X9_greatestOf l G z M E fa tm n m2 ln pt rm rh (nI u) (nI w) rn (hM) b_63 u w f (⟨huw.1, huw.2⟩) b_67) (cwV 2 hts gX9_opens_X9_greatestOf rfl rfl rfl (by decide +kernel) (by rw [hRf, hRl]; exact ⟨Nat.le_of_ble_eq_true rfl, Nat.le_of_ble_eq_true rfl⟩)) (by omega) b_63 rfl rfl hl.1 rfl (Nat.le_of_ble_eq_true rfl) dX9_opens_60 ⟨Nat.zero_le _, Nat.zero_le _⟩ (qh_kkl fun r_60 E_3 H locs hpost hH => ?_)
            obtain ⟨rfl, rfl⟩ := hpost
            refine lv_lload_n hx hb dX9_opens_63 rfl (lv_at hl 5 rfl) ?_
            refine W.lcmp hx hb dX9_opens_64 ?_
            refine lv_if_gt (tgt := 70) hx hb dX9_opens_65 (by decide) (fun c_65 => ?_) (fun c_65 => ?_)
            · have c_65 := (lg_cmp_gt _ _).mp c_65
              refine lv_aload_n hx hb dX9_opens_70 rfl (lv_at hl 2 rfl) ?_
              refine lv_aload_n hx hb dX9_opens_71 rfl (lv_at hl 2 rfl) ?_
              refine qh_get hx hb hH f_211 (by omega) b_63 rfl dX9_opens_72 ?_
              refine lv_aload_n hx hb dX9_opens_75 rfl (lv_at hl 2 rfl) ?_
              refine qh_get hx hb hH f_214 (by omega) b_63 rfl dX9_opens_76 ?_
              refine qh_runV (As := [.int (nI u), .int (nI w)]) (rest := []) (C := RX9) ⟨hx, hb, hml, hown, hts⟩ hK hH (c_X9_secondOf l G z M E fa tm n m2 ln pt rm rh (nI u) (nI w) rn (hM) b_63 u w f (⟨huw.1, huw.2⟩) b_67) (cwV 2 hts gX9_opens_X9_secondOf rfl rfl rfl (by decide +kernel) (by rw [hRf, hRl]; exact ⟨Nat.le_of_ble_eq_true rfl, Nat.le_of_ble_eq_true rfl⟩)) (by omega) b_63 rfl rfl hl.1 rfl (Nat.le_of_ble_eq_true rfl) dX9_opens_79 ⟨Nat.zero_le _, Nat.zero_le _⟩ (qh_kkl fun r_79 E_4 H locs hpost hH => ?_)
              obtain ⟨rfl, rfl⟩ := hpost
              refine lv_lstore (lv' := [(7, .long (secR f (maxR f u (w - u)) u (w + 1 - u))), (6, .int 0), (5, .int 1), (0, .ref (z + 63)), (1, .int (nI a)), (2, .int (nI b)), (3, .long v)]) hx hb dX9_opens_82 hl (by decide) rfl (fun ls hl => ?_)
              refine lv_iload hx hb dX9_opens_84 (lv_at hl 1 rfl) ?_
              refine lv_if_eq (tgt := 105) hx hb dX9_opens_86 (by decide) (fun c_86 => ?_) (fun c_86 => ?_)
              · refine lv_iconst (v := 1) hx hb dX9_opens_105 (by decide) ?_
                refine lv_goto (tgt := 110) hx hb dX9_opens_106 (by decide) ?_
                exact hret dX9_opens_110 hH (Or.inr rfl) (⟨rfl, bI_1 ⟨(fun q => c_13 (nI_lt q (by omega))), (fun q => c_5 (nI_lt q (by omega))), c_65, Or.inr (Or.inl ((nI_ltI (by omega) (by omega)).mp c_36))⟩⟩)
              · exact absurd (by decide) c_86
            · have c_65 := (not_congr (lg_cmp_gt _ _)).mp c_65
              refine lv_iconst (v := 0) hx hb dX9_opens_68 (by decide) ?_
              exact hret dX9_opens_69 hH (Or.inl rfl) (⟨rfl, bI_0 (fun q => c_65 q.2.2.1)⟩)
        · refine lv_iconst (v := 1) hx hb dX9_opens_39 (by decide) ?_
          refine lv_goto (tgt := 44) hx hb dX9_opens_40 (by decide) ?_
          refine lv_istore (lv' := [(6, .int 1), (5, .int 1), (0, .ref (z + 63)), (1, .int (nI a)), (2, .int (nI b)), (3, .long v)]) hx hb dX9_opens_44 hl (by decide) rfl (fun ls hl => ?_)
          refine lv_iload hx hb dX9_opens_46 (lv_at hl 1 rfl) ?_
          refine lv_if_eq (tgt := 68) hx hb dX9_opens_48 (by decide) (fun c_48 => ?_) (fun c_48 => ?_)
          · exact absurd c_48 (by decide)
          · refine lv_aload_n hx hb dX9_opens_51 rfl (lv_at hl 2 rfl) ?_
            refine lv_aload_n hx hb dX9_opens_52 rfl (lv_at hl 2 rfl) ?_
            refine qh_get hx hb hH f_211 (by omega) b_63 rfl dX9_opens_53 ?_
            refine lv_aload_n hx hb dX9_opens_56 rfl (lv_at hl 2 rfl) ?_
            refine qh_get hx hb hH f_214 (by omega) b_63 rfl dX9_opens_57 ?_
            refine qh_runV (As := [.int (nI u), .int (nI w)]) (rest := []) (C := RX9) ⟨hx, hb, hml, hown, hts⟩ hK hH (c_X9_greatestOf l G z M E fa tm n m2 ln pt rm rh (nI u) (nI w) rn (hM) b_63 u w f (⟨huw.1, huw.2⟩) b_67) (cwV 2 hts gX9_opens_X9_greatestOf rfl rfl rfl (by decide +kernel) (by rw [hRf, hRl]; exact ⟨Nat.le_of_ble_eq_true rfl, Nat.le_of_ble_eq_true rfl⟩)) (by omega) b_63 rfl rfl hl.1 rfl (Nat.le_of_ble_eq_true rfl) dX9_opens_60 ⟨Nat.zero_le _, Nat.zero_le _⟩ (qh_kkl fun r_60 E_5 H locs hpost hH => ?_)
            obtain ⟨rfl, rfl⟩ := hpost
            refine lv_lload_n hx hb dX9_opens_63 rfl (lv_at hl 5 rfl) ?_
            refine W.lcmp hx hb dX9_opens_64 ?_
            refine lv_if_gt (tgt := 70) hx hb dX9_opens_65 (by decide) (fun c_65 => ?_) (fun c_65 => ?_)
            · have c_65 := (lg_cmp_gt _ _).mp c_65
              refine lv_aload_n hx hb dX9_opens_70 rfl (lv_at hl 2 rfl) ?_
              refine lv_aload_n hx hb dX9_opens_71 rfl (lv_at hl 2 rfl) ?_
              refine qh_get hx hb hH f_211 (by omega) b_63 rfl dX9_opens_72 ?_
              refine lv_aload_n hx hb dX9_opens_75 rfl (lv_at hl 2 rfl) ?_
              refine qh_get hx hb hH f_214 (by omega) b_63 rfl dX9_opens_76 ?_
              refine qh_runV (As := [.int (nI u), .int (nI w)]) (rest := []) (C := RX9) ⟨hx, hb, hml, hown, hts⟩ hK hH (c_X9_secondOf l G z M E fa tm n m2 ln pt rm rh (nI u) (nI w) rn (hM) b_63 u w f (⟨huw.1, huw.2⟩) b_67) (cwV 2 hts gX9_opens_X9_secondOf rfl rfl rfl (by decide +kernel) (by rw [hRf, hRl]; exact ⟨Nat.le_of_ble_eq_true rfl, Nat.le_of_ble_eq_true rfl⟩)) (by omega) b_63 rfl rfl hl.1 rfl (Nat.le_of_ble_eq_true rfl) dX9_opens_79 ⟨Nat.zero_le _, Nat.zero_le _⟩ (qh_kkl fun r_79 E_6 H locs hpost hH => ?_)
              obtain ⟨rfl, rfl⟩ := hpost
              refine lv_lstore (lv' := [(7, .long (secR f (maxR f u (w - u)) u (w + 1 - u))), (6, .int 1), (5, .int 1), (0, .ref (z + 63)), (1, .int (nI a)), (2, .int (nI b)), (3, .long v)]) hx hb dX9_opens_82 hl (by decide) rfl (fun ls hl => ?_)
              refine lv_iload hx hb dX9_opens_84 (lv_at hl 1 rfl) ?_
              refine lv_if_eq (tgt := 105) hx hb dX9_opens_86 (by decide) (fun c_86 => ?_) (fun c_86 => ?_)
              · exact absurd c_86 (by decide)
              · refine lv_lload hx hb dX9_opens_89 (lv_at hl 0 rfl) ?_
                refine lv_ldc2 hx hb hown k_75 dX9_opens_91 ?_
                refine qh_topl (y := LOSTv) (rfl) ?_
                refine W.lcmp hx hb dX9_opens_94 ?_
                refine lv_if_eq (tgt := 109) hx hb dX9_opens_95 (by decide) (fun c_95 => ?_) (fun c_95 => ?_)
                · have c_95 := (lg_cmp_eq _ _).mp c_95
                  refine lv_iconst (v := 0) hx hb dX9_opens_109 (by decide) ?_
                  exact hret dX9_opens_110 hH (Or.inl rfl) (⟨rfl, bI_0 (fun q => q.2.2.2.elim (fun q => c_28 (nI_lt q (by omega))) (fun q => q.elim (fun q => c_36 (nI_lt q (by omega))) (fun q => q.1 c_95)))⟩)
                · have c_95 := (lg_cmp_ne _ _).mp c_95
                  refine lv_lload hx hb dX9_opens_98 (lv_at hl 0 rfl) ?_
                  refine lv_lload_n hx hb dX9_opens_100 rfl (lv_at hl 6 rfl) ?_
                  refine W.lcmp hx hb dX9_opens_101 ?_
                  refine lv_if_lt (tgt := 109) hx hb dX9_opens_102 (by decide) (fun c_102 => ?_) (fun c_102 => ?_)
                  · have c_102 := (lg_cmp_lt _ _).mp c_102
                    refine lv_iconst (v := 0) hx hb dX9_opens_109 (by decide) ?_
                    exact hret dX9_opens_110 hH (Or.inl rfl) (⟨rfl, bI_0 (fun q => q.2.2.2.elim (fun q => c_28 (nI_lt q (by omega))) (fun q => q.elim (fun q => c_36 (nI_lt q (by omega))) (fun q => Int64.not_lt.mpr q.2 c_102)))⟩)
                  · have c_102 := (not_congr (lg_cmp_lt _ _)).mp c_102
                    refine lv_iconst (v := 1) hx hb dX9_opens_105 (by decide) ?_
                    refine lv_goto (tgt := 110) hx hb dX9_opens_106 (by decide) ?_
                    exact hret dX9_opens_110 hH (Or.inr rfl) (⟨rfl, bI_1 ⟨(fun q => c_13 (nI_lt q (by omega))), (fun q => c_5 (nI_lt q (by omega))), c_65, Or.inr (Or.inr ⟨c_95, Int64.not_lt.mp c_102⟩)⟩⟩)
            · have c_65 := (not_congr (lg_cmp_gt _ _)).mp c_65
              refine lv_iconst (v := 0) hx hb dX9_opens_68 (by decide) ?_
              exact hret dX9_opens_69 hH (Or.inl rfl) (⟨rfl, bI_0 (fun q => c_65 q.2.2.1)⟩)
