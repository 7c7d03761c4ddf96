theorem rfR_in {n : Nat} {a b : Int32} (h1 : rfR n a b = 0) : (¬ a < 0 ∧ a < nI n) ∧ (¬ b < 0 ∧ b < nI n) ∧ ¬ b < a := by
  unfold rfR at h1
  by_cases w : (¬ a < 0 ∧ a < nI n) ∧ (¬ b < 0 ∧ b < nI n)
  · rw [if_pos w] at h1
    refine ⟨w.1, w.2, fun q => ?_⟩
    rw [if_pos q] at h1
    exact absurd h1 (by decide)
  · rw [if_neg w] at h1
    exact absurd h1 (by decide)
set_option maxHeartbeats 1000000 in
set_option maxRecDepth 100000 in
theorem c_X9_ask (l : Launch) (G : qh_G) (z M : Nat) (E : Nat → va_E) (tr : Int32) (lf : Int32) (n : Nat) (f : Nat → Int64) (g : Nat → Int64) (mb : Nat → Int64) (m2 : Nat) (kd : Nat → Int32) (pa : Nat → Int32) (ln : Nat) (ts : Nat → Int32) (ga : Nat → Nat) (gb : Nat → Nat) (va : Nat → Int64) (rn : Nat) (cn : Nat → Nat) (vs : Nat → Int64) (so : Nat → Int32) (sg : Nat → Int32) (ce : Nat → Int32) (hM : 84 ≤ M) (hX : ME G z E tr lf n f g mb m2 kd pa ln ts ga gb va rn cn vs so sg ce) (hW : MW n m2 ln rn ga gb cn ts va kd so sg) (x : Int32) (y : Int32) (w : Int32) : Met l yX9_ask wsX9_ask (qh_R 3) (qh_Pre G z M E [.ref (z + 63), .int x, .int y, .int w]) (qh_Q G z M (qh_l (fun r E' => E = E' ∧ r = askR n f g x y w))) 0 0 (fun q => z ≤ q) := by
  refine qh_metL (cc := cX9_ask) (maxL := 7) (by decide) rfl (Nat.le_of_ble_eq_true rfl) ?_
  intro pZ eZ sZ mZ aZ bZ tZ cZ RR QQ ls hx hb hml hown hts hRf hRl hH hK hl hret
  have hown : sZ.vm.findClass RX9 = some mZ.cls := hown
  have hl : lv_has ls 7 [(0, .ref (z + 63)), (1, .int x), (2, .int y), (3, .int w)] := hl
  obtain ⟨pt, rm, rh, sf, sl, r1, r2, r3, k1, k2, b_63, b_64, b_65, b_66, b_67, b_68, b_69, b_70, b_71, b_72, b_73, b_74, b_75, b_76, b_77, b_78, b_79, b_80, b_82, b_83⟩ := hX
  obtain ⟨⟨hn16, hm3, hl24, hr8⟩, hval, hcn, hok, hvh, hkd, hso⟩ := hW
  have in_X9 : ∀ w ∈ wsX90, w ∈ wsX9_ask := fun w h => List.mem_cons_of_mem _ (List.mem_append_right _ h)
  have k_75 := hts (.constantLong RX9 75 (-9223372036854775808)) (by decide +kernel)
  have f_23 : qh_F G sZ mZ aZ 23 9 8 := qh_F.of hts in_X9 hown hK rfl 8 (by decide) (by decide +kernel)
  refine lv_aload_n hx hb dX9_ask_0 rfl (lv_at hl 0 rfl) ?_
  refine lv_iload_n hx hb dX9_ask_1 rfl (lv_at hl 1 rfl) ?_
  refine qh_runV (As := [.int x]) (rest := []) (C := RX9) ⟨hx, hb, hml, hown, hts⟩ hK hH (c_X9_isCell l G z M E lf tr n m2 ln pt rm rh sf sl rn (hM) b_63 x) (cwV 1 hts gX9_ask_X9_isCell rfl rfl rfl (by decide +kernel) (by rw [hRf, hRl]; exact ⟨Nat.le_of_ble_eq_true rfl, Nat.le_of_ble_eq_true rfl⟩)) (by omega) b_63 rfl rfl hl.1 rfl (Nat.le_of_ble_eq_true rfl) dX9_ask_2 ⟨Nat.zero_le _, Nat.zero_le _⟩ (qh_kki fun r_2 E_1 H locs hpost hH => ?_)
  obtain ⟨rfl, rfl⟩ := hpost
  refine lv_if_eq (tgt := 21) hx hb dX9_ask_5 (by decide) (fun c_5 => ?_) (fun c_5 => ?_)
  · have c_5 := bI_eq.mp c_5
    refine lv_ldc2 hx hb hown k_75 dX9_ask_21 ?_
    refine qh_topl (y := LOSTv) (rfl) ?_
    exact hret dX9_ask_24 hH (⟨rfl, by rw [askR, if_neg (fun q => c_5 (rfR_in q).1)]⟩)
  · have c_5 := bI_ne.mp c_5
    refine lv_aload_n hx hb dX9_ask_8 rfl (lv_at hl 0 rfl) ?_
    refine lv_iload_n hx hb dX9_ask_9 rfl (lv_at hl 2 rfl) ?_
    refine qh_runV (As := [.int y]) (rest := []) (C := RX9) ⟨hx, hb, hml, hown, hts⟩ hK hH (c_X9_isCell l G z M E lf tr n m2 ln pt rm rh sf sl rn (hM) b_63 y) (cwV 1 hts gX9_ask_X9_isCell rfl rfl rfl (by decide +kernel) (by rw [hRf, hRl]; exact ⟨Nat.le_of_ble_eq_true rfl, Nat.le_of_ble_eq_true rfl⟩)) (by omega) b_63 rfl rfl hl.1 rfl (Nat.le_of_ble_eq_true rfl) dX9_ask_10 ⟨Nat.zero_le _, Nat.zero_le _⟩ (qh_kki fun r_10 E_2 H locs hpost hH => ?_)
    obtain ⟨rfl, rfl⟩ := hpost
    refine lv_if_eq (tgt := 21) hx hb dX9_ask_13 (by decide) (fun c_13 => ?_) (fun c_13 => ?_)
    · have c_13 := bI_eq.mp c_13
      refine lv_ldc2 hx hb hown k_75 dX9_ask_21 ?_
      refine qh_topl (y := LOSTv) (rfl) ?_
      exact hret dX9_ask_24 hH (⟨rfl, by rw [askR, if_neg (fun q => c_13 (rfR_in q).2.1)]⟩)
    · have c_13 := bI_ne.mp c_13
      refine lv_iload_n hx hb dX9_ask_16 rfl (lv_at hl 1 rfl) ?_
      refine lv_iload_n hx hb dX9_ask_17 rfl (lv_at hl 2 rfl) ?_
      refine lv_icmp_le (tgt := 25) hx hb dX9_ask_18 (by decide) (fun c_18 => ?_) (fun c_18 => ?_)
      · have c_6 : rfR n x y = 0 := canB_of c_5 c_13 (Int32.not_lt.mpr c_18)
        obtain ⟨a, b, hab, hbn, ea, eb⟩ := rfR_ok hn16 c_6
        have eA : x.toNatClampNeg = a := by rw [ea]; exact nI_clamp (by omega)
        have eB : y.toNatClampNeg = b := by rw [eb]; exact nI_clamp (by omega)
        have hl : lv_has ls 7 [(0, .ref (z + 63)), (1, .int (nI a)), (2, .int y), (3, .int w)] := by rw [← ea]; exact hl
        have hl : lv_has ls 7 [(0, .ref (z + 63)), (1, .int (nI a)), (2, .int (nI b)), (3, .int w)] := by rw [← eb]; exact hl
        refine lv_iload_n hx hb dX9_ask_25 rfl (lv_at hl 3 rfl) ?_
        by_cases c_26_0 : w = 0
        · refine lv_tableIn (tgt := 72) (off := 46) hx hb dX9_ask_26 (by rw [c_26_0]; decide) (by rw [c_26_0]; decide) (by rw [c_26_0]; decide) (by decide) ?_
          refine lv_aload_n hx hb dX9_ask_72 rfl (lv_at hl 0 rfl) ?_
          refine lv_iload_n hx hb dX9_ask_73 rfl (lv_at hl 1 rfl) ?_
          refine lv_iload_n hx hb dX9_ask_74 rfl (lv_at hl 2 rfl) ?_
          refine qh_runV (As := [.int (nI a), .int (nI b)]) (rest := []) (C := RX9) ⟨hx, hb, hml, hown, hts⟩ hK hH (c_X9_sumOf l G z M E lf tr n m2 ln pt rm rh sf sl rn (hM) b_63 a b f (⟨by omega, by omega⟩) b_67) (cwV 2 hts gX9_ask_X9_sumOf rfl rfl rfl (by decide +kernel) (by rw [hRf, hRl]; exact ⟨Nat.le_of_ble_eq_true rfl, Nat.le_of_ble_eq_true rfl⟩)) (by omega) b_63 rfl rfl hl.1 rfl (Nat.le_of_ble_eq_true rfl) dX9_ask_75 ⟨Nat.zero_le _, Nat.zero_le _⟩ (qh_kkl fun r_75 E_3 H locs hpost hH => ?_)
          obtain ⟨rfl, rfl⟩ := hpost
          exact hret dX9_ask_78 hH (⟨rfl, by rw [askR, if_pos c_6, if_pos c_26_0, eA, eB]⟩)
        by_cases c_26_1 : w = 1
        · refine lv_tableIn (tgt := 79) (off := 53) hx hb dX9_ask_26 (by rw [c_26_1]; decide) (by rw [c_26_1]; decide) (by rw [c_26_1]; decide) (by decide) ?_
          refine lv_aload_n hx hb dX9_ask_79 rfl (lv_at hl 0 rfl) ?_
          refine lv_iload_n hx hb dX9_ask_80 rfl (lv_at hl 1 rfl) ?_
          refine lv_iload_n hx hb dX9_ask_81 rfl (lv_at hl 2 rfl) ?_
          refine qh_runV (As := [.int (nI a), .int (nI b)]) (rest := []) (C := RX9) ⟨hx, hb, hml, hown, hts⟩ hK hH (c_X9_greatestOf l G z M E lf tr n m2 ln pt rm rh sf sl rn (hM) b_63 a b f (⟨by omega, by omega⟩) b_67) (cwV 2 hts gX9_ask_X9_greatestOf rfl rfl rfl (by decide +kernel) (by rw [hRf, hRl]; exact ⟨Nat.le_of_ble_eq_true rfl, Nat.le_of_ble_eq_true rfl⟩)) (by omega) b_63 rfl rfl hl.1 rfl (Nat.le_of_ble_eq_true rfl) dX9_ask_82 ⟨Nat.zero_le _, Nat.zero_le _⟩ (qh_kkl fun r_82 E_4 H locs hpost hH => ?_)
          obtain ⟨rfl, rfl⟩ := hpost
          exact hret dX9_ask_85 hH (⟨rfl, by rw [askR, if_pos c_6, if_neg c_26_0, if_pos c_26_1, eA, eB]⟩)
        by_cases c_26_2 : w = 2
        · refine lv_tableIn (tgt := 86) (off := 60) hx hb dX9_ask_26 (by rw [c_26_2]; decide) (by rw [c_26_2]; decide) (by rw [c_26_2]; decide) (by decide) ?_
          refine lv_aload_n hx hb dX9_ask_86 rfl (lv_at hl 0 rfl) ?_
          refine lv_iload_n hx hb dX9_ask_87 rfl (lv_at hl 1 rfl) ?_
          refine lv_iload_n hx hb dX9_ask_88 rfl (lv_at hl 2 rfl) ?_
          refine qh_runV (As := [.int (nI a), .int (nI b)]) (rest := []) (C := RX9) ⟨hx, hb, hml, hown, hts⟩ hK hH (c_X9_leastOf l G z M E lf tr n m2 ln pt rm rh sf sl rn (hM) b_63 a b f (⟨by omega, by omega⟩) b_67) (cwV 2 hts gX9_ask_X9_leastOf rfl rfl rfl (by decide +kernel) (by rw [hRf, hRl]; exact ⟨Nat.le_of_ble_eq_true rfl, Nat.le_of_ble_eq_true rfl⟩)) (by omega) b_63 rfl rfl hl.1 rfl (Nat.le_of_ble_eq_true rfl) dX9_ask_89 ⟨Nat.zero_le _, Nat.zero_le _⟩ (qh_kkl fun r_89 E_5 H locs hpost hH => ?_)
          obtain ⟨rfl, rfl⟩ := hpost
          exact hret dX9_ask_92 hH (⟨rfl, by rw [askR, if_pos c_6, if_neg c_26_0, if_neg c_26_1, if_pos c_26_2, eA, eB]⟩)
        by_cases c_26_3 : w = 3
        · refine lv_tableIn (tgt := 93) (off := 67) hx hb dX9_ask_26 (by rw [c_26_3]; decide) (by rw [c_26_3]; decide) (by rw [c_26_3]; decide) (by decide) ?_
          refine lv_aload_n hx hb dX9_ask_93 rfl (lv_at hl 0 rfl) ?_
          refine lv_iload_n hx hb dX9_ask_94 rfl (lv_at hl 1 rfl) ?_
          refine lv_iload_n hx hb dX9_ask_95 rfl (lv_at hl 2 rfl) ?_
          refine qh_runV (As := [.int (nI a), .int (nI b)]) (rest := []) (C := RX9) ⟨hx, hb, hml, hown, hts⟩ hK hH (c_X9_manyGreatest l G z M E lf tr n m2 ln pt rm rh sf sl rn (hM) b_63 a b f (⟨by omega, by omega⟩) b_67) (cwV 2 hts gX9_ask_X9_manyGreatest rfl rfl rfl (by decide +kernel) (by rw [hRf, hRl]; exact ⟨Nat.le_of_ble_eq_true rfl, Nat.le_of_ble_eq_true rfl⟩)) (by omega) b_63 rfl rfl hl.1 rfl (Nat.le_of_ble_eq_true rfl) dX9_ask_96 ⟨Nat.zero_le _, Nat.zero_le _⟩ (qh_kki fun r_96 E_6 H locs hpost hH => ?_)
          obtain ⟨rfl, rfl⟩ := hpost
          refine lv_i2l (v := (nI (cntR (fun k => decide (¬ f k < maxR f a (b - a))) a (b + 1 - a))).toInt64) hx hb dX9_ask_99 rfl ?_
          exact hret dX9_ask_100 hH (⟨rfl, by rw [askR, if_pos c_6, if_neg c_26_0, if_neg c_26_1, if_neg c_26_2, if_pos c_26_3, eA, eB]⟩)
        by_cases c_26_4 : w = 4
        · refine lv_tableIn (tgt := 101) (off := 75) hx hb dX9_ask_26 (by rw [c_26_4]; decide) (by rw [c_26_4]; decide) (by rw [c_26_4]; decide) (by decide) ?_
          refine lv_aload_n hx hb dX9_ask_101 rfl (lv_at hl 0 rfl) ?_
          refine lv_iload_n hx hb dX9_ask_102 rfl (lv_at hl 1 rfl) ?_
          refine lv_iload_n hx hb dX9_ask_103 rfl (lv_at hl 2 rfl) ?_
          refine qh_runV (As := [.int (nI a), .int (nI b)]) (rest := []) (C := RX9) ⟨hx, hb, hml, hown, hts⟩ hK hH (c_X9_secondOf l G z M E lf tr n m2 ln pt rm rh sf sl rn (hM) b_63 a b f (⟨by omega, by omega⟩) b_67) (cwV 2 hts gX9_ask_X9_secondOf rfl rfl rfl (by decide +kernel) (by rw [hRf, hRl]; exact ⟨Nat.le_of_ble_eq_true rfl, Nat.le_of_ble_eq_true rfl⟩)) (by omega) b_63 rfl rfl hl.1 rfl (Nat.le_of_ble_eq_true rfl) dX9_ask_104 ⟨Nat.zero_le _, Nat.zero_le _⟩ (qh_kkl fun r_104 E_7 H locs hpost hH => ?_)
          obtain ⟨rfl, rfl⟩ := hpost
          exact hret dX9_ask_107 hH (⟨rfl, by rw [askR, if_pos c_6, if_neg c_26_0, if_neg c_26_1, if_neg c_26_2, if_neg c_26_3, if_pos c_26_4, eA, eB]⟩)
        by_cases c_26_5 : w = 5
        · refine lv_tableIn (tgt := 108) (off := 82) hx hb dX9_ask_26 (by rw [c_26_5]; decide) (by rw [c_26_5]; decide) (by rw [c_26_5]; decide) (by decide) ?_
          refine lv_aload_n hx hb dX9_ask_108 rfl (lv_at hl 0 rfl) ?_
          refine lv_iload_n hx hb dX9_ask_109 rfl (lv_at hl 1 rfl) ?_
          refine lv_iload_n hx hb dX9_ask_110 rfl (lv_at hl 2 rfl) ?_
          refine qh_runV (As := [.int (nI a), .int (nI b)]) (rest := []) (C := RX9) ⟨hx, hb, hml, hown, hts⟩ hK hH (c_X9_unlikeIn l G z M E lf tr n m2 ln pt rm rh sf sl rn (hM) b_63 a b f (⟨by omega, by omega⟩) b_67) (cwV 2 hts gX9_ask_X9_unlikeIn rfl rfl rfl (by decide +kernel) (by rw [hRf, hRl]; exact ⟨Nat.le_of_ble_eq_true rfl, Nat.le_of_ble_eq_true rfl⟩)) (by omega) b_63 rfl rfl hl.1 rfl (Nat.le_of_ble_eq_true rfl) dX9_ask_111 ⟨Nat.zero_le _, Nat.zero_le _⟩ (qh_kki fun r_111 E_8 H locs hpost hH => ?_)
          obtain ⟨rfl, rfl⟩ := hpost
          refine lv_i2l (v := (nI (unlR f a (b + 1 - a))).toInt64) hx hb dX9_ask_114 rfl ?_
          exact hret dX9_ask_115 hH (⟨rfl, by rw [askR, if_pos c_6, if_neg c_26_0, if_neg c_26_1, if_neg c_26_2, if_neg c_26_3, if_neg c_26_4, if_pos c_26_5, eA, eB]⟩)
        by_cases c_26_6 : w = 6
        · refine lv_tableIn (tgt := 116) (off := 90) hx hb dX9_ask_26 (by rw [c_26_6]; decide) (by rw [c_26_6]; decide) (by rw [c_26_6]; decide) (by decide) ?_
          refine lv_aload_n hx hb dX9_ask_116 rfl (lv_at hl 0 rfl) ?_
          refine lv_iload_n hx hb dX9_ask_117 rfl (lv_at hl 1 rfl) ?_
          refine lv_iload_n hx hb dX9_ask_118 rfl (lv_at hl 2 rfl) ?_
          refine qh_runV (As := [.int (nI a), .int (nI b)]) (rest := []) (C := RX9) ⟨hx, hb, hml, hown, hts⟩ hK hH (c_X9_greatestEver l G z M E lf tr n m2 ln pt rm rh sf sl rn (hM) b_63 a b g (⟨by omega, by omega⟩) b_68) (cwV 2 hts gX9_ask_X9_greatestEver rfl rfl rfl (by decide +kernel) (by rw [hRf, hRl]; exact ⟨Nat.le_of_ble_eq_true rfl, Nat.le_of_ble_eq_true rfl⟩)) (by omega) b_63 rfl rfl hl.1 rfl (Nat.le_of_ble_eq_true rfl) dX9_ask_119 ⟨Nat.zero_le _, Nat.zero_le _⟩ (qh_kkl fun r_119 E_9 H locs hpost hH => ?_)
          obtain ⟨rfl, rfl⟩ := hpost
          exact hret dX9_ask_122 hH (⟨rfl, by rw [askR, if_pos c_6, if_neg c_26_0, if_neg c_26_1, if_neg c_26_2, if_neg c_26_3, if_neg c_26_4, if_neg c_26_5, if_pos c_26_6, eA, eB]⟩)
        by_cases c_26_7 : w = 7
        · refine lv_tableIn (tgt := 123) (off := 97) hx hb dX9_ask_26 (by rw [c_26_7]; decide) (by rw [c_26_7]; decide) (by rw [c_26_7]; decide) (by decide) ?_
          refine lv_lconst (v := 0) hx hb dX9_ask_123 (by decide) ?_
          refine lv_lstore (lv' := [(4, .long 0), (0, .ref (z + 63)), (1, .int (nI a)), (2, .int (nI b)), (3, .int w)]) hx hb dX9_ask_124 hl (by decide) rfl (fun ls hl => ?_)
          refine lv_iload_n hx hb dX9_ask_126 rfl (lv_at hl 2 rfl) ?_
          refine lv_istore (lv' := [(6, .int (nI a)), (4, .long 0), (0, .ref (z + 63)), (1, .int (nI a)), (2, .int (nI b)), (3, .int w)]) hx hb dX9_ask_127 hl (by decide) rfl (fun ls hl => ?_)
          have L_129 : ∀ fu_129 : Nat, ∀ q : Nat, (q ≤ b + 1 - a) → (b + 1 - a - q < fu_129) → ∀ (H : Heap) (locs : List Loc), qh_H G z M E sZ.heap H locs → ∀ ls : Array Slot, lv_has ls 7 [(0, .ref (z + 63)), (1, .int (nI a)), (2, .int (nI b)), (4, .long (sumR g a q)), (6, .int (nI (a + q)))] → W pZ l eZ RR sZ mZ aZ bZ tZ cZ H locs 0 0 QQ (F0 mZ 129 ls []) := by
            intro fu_129
            induction fu_129 with
            | zero =>
              intro q hq hfuel
              exact absurd hfuel (by omega)
            | succ fu_129 ih_129 =>
              intro q hq hfuel H locs hH ls hl
              refine lv_iload hx hb dX9_ask_129 (lv_at hl 4 rfl) ?_
              refine lv_iload_n hx hb dX9_ask_131 rfl (lv_at hl 2 rfl) ?_
              refine lv_icmp_gt (tgt := 153) hx hb dX9_ask_132 (by decide) (fun c_132 => ?_) (fun c_132 => ?_)
              · have hk : b < a + q := (nI_ltI (by omega) (by omega)).mp c_132
                have hex : b + 1 - a = q := by omega
                subst hex
                refine lv_lload hx hb dX9_ask_153 (lv_at hl 3 rfl) ?_
                exact hret dX9_ask_155 hH (⟨rfl, by rw [askR, if_pos c_6, if_neg c_26_0, if_neg c_26_1, if_neg c_26_2, if_neg c_26_3, if_neg c_26_4, if_neg c_26_5, if_neg c_26_6, if_pos c_26_7, eA, eB]⟩)
              · have hk : ¬ b < a + q := fun w => c_132 (nI_lt w (by omega))
                refine lv_lload hx hb dX9_ask_135 (lv_at hl 3 rfl) ?_
                refine lv_aload_n hx hb dX9_ask_137 rfl (lv_at hl 0 rfl) ?_
                refine qh_get hx hb hH f_23 (by omega) b_63 rfl dX9_ask_138 ?_
                refine lv_iload hx hb dX9_ask_141 (lv_at hl 4 rfl) ?_
                refine qh_lald hx hb hK hH (by omega) b_68 (j := a + q) (rfl) (by omega) (by omega) dX9_ask_143 ?_
                refine lv_ladd hx hb dX9_ask_144 ?_
                refine lv_lstore (lv' := [(4, .long ((sumR g a q) + (g (a + q)))), (0, .ref (z + 63)), (1, .int (nI a)), (2, .int (nI b)), (6, .int (nI (a + q)))]) hx hb dX9_ask_145 hl (by decide) rfl (fun ls hl => ?_)
                refine lv_iinc (v := nI ((a + q) + 1)) (lv' := [(6, .int (nI ((a + q) + 1))), (4, .long ((sumR g a q) + (g (a + q)))), (0, .ref (z + 63)), (1, .int (nI a)), (2, .int (nI b))]) hx hb dX9_ask_147 hl (k := 4) rfl (qn_inc (a + q)) (by decide) rfl (fun ls hl => ?_)
                refine lv_goto (tgt := 129) hx hb dX9_ask_150 (by decide) ?_
                exact ih_129 (q + 1) (by omega) (by omega) _ _ hH ls (lv_sub hl [2, 3, 4, 1, 0] rfl)
          exact L_129 (b + 1 - a + 1) 0 (Nat.zero_le _) (by omega) _ _ hH ls (lv_sub hl [2, 3, 4, 1, 0] rfl)
        refine lv_tableOut (tgt := 156) hx hb dX9_ask_26 (qs_out8 c_26_0 c_26_1 c_26_2 c_26_3 c_26_4 c_26_5 c_26_6 c_26_7) (by decide) ?_
        refine lv_ldc2 hx hb hown k_75 dX9_ask_156 ?_
        refine qh_topl (y := LOSTv) (rfl) ?_
        exact hret dX9_ask_159 hH (⟨rfl, by rw [askR, if_pos c_6, if_neg c_26_0, if_neg c_26_1, if_neg c_26_2, if_neg c_26_3, if_neg c_26_4, if_neg c_26_5, if_neg c_26_6, if_neg c_26_7]⟩)
      · refine lv_ldc2 hx hb hown k_75 dX9_ask_21 ?_
        refine qh_topl (y := LOSTv) (rfl) ?_
        exact hret dX9_ask_24 hH (⟨rfl, by rw [askR, if_neg (fun q => (rfR_in q).2.2 (Int32.not_le.mp c_18))]⟩)
