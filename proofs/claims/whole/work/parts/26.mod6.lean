theorem dg_cd {f : Nat → Int32} {a m t : Nat} : isDg (cdF f a m t) ↔ t < m ∧ isDg (f (a + t)) := by
  unfold cdF
  by_cases w : t < m
  · rw [if_pos w]
    exact ⟨fun q => ⟨w, q⟩, fun q => q.2⟩
  · rw [if_neg w]
    exact ⟨fun q => absurd q.1 (by decide), fun q => absurd q.1 w⟩
theorem cd_at {f : Nat → Int32} {a m t : Nat} (h : t < m) : cdF f a m t = f (a + t) := if_pos h
theorem cd_ne {f : Nat → Int32} {a m t : Nat} {x : Int32} (h : cdF f a m t = x) (hx : ¬ -9 = x) : t < m ∧ f (a + t) = x := by
  unfold cdF at h
  by_cases w : t < m
  · rw [if_pos w] at h
    exact ⟨w, h⟩
  · rw [if_neg w] at h
    exact absurd h hx
theorem kn_yes {f : Nat → Int32} {a m t : Nat} (h : t < m ∧ ¬ knd (f (a + t)) = -9) : ¬ knd (cdF f a m t) = -9 := by
  rw [cd_at h.1]
  exact h.2
theorem kn_no {f : Nat → Int32} {a m t : Nat} (h : ¬ (t < m ∧ ¬ knd (f (a + t)) = -9)) : knd (cdF f a m t) = -9 := by
  by_cases w : t < m
  · rw [cd_at w]
    by_cases q : knd (f (a + t)) = -9
    · exact q
    · exact absurd ⟨w, q⟩ h
  · rw [cdF, if_neg w]
    decide
set_option maxHeartbeats 1000000 in
set_option maxRecDepth 100000 in
theorem c_X9_readRow (l : Launch) (G : qh_G) (z M : Nat) (E : Nat → va_E) (fa : Int32) (tm : Int32) (n : Nat) (m2 : Nat) (ln : Nat) (rm : Int32) (rh : Int32) (sf : Int32) (sl : Int32) (rn : Nat) (b : Nat) (m : Nat) (ce : Nat → Int32) (r1 : Nat → Int32) (r2 : Nat → Int32) (r3 : Nat → Int32) (hbm : b + m ≤ 240) (hM : 84 ≤ M) (b_63 : E 63 = .inr (9, [.int fa, .int tm, .ref (z + 64), .ref (z + 65), .ref (z + 66), .int (nI n), .int (nI m2), .ref (z + 67), .ref (z + 68), .ref (z + 69), .ref (z + 70), .ref (z + 71), .int (nI ln), .ref (z + 72), .ref (z + 73), .ref (z + 74), .ref (z + 75), .int (nI (b + 0)), .int rm, .int rh, .ref (z + 76), .ref (z + 77), .ref (z + 78), .ref (z + 79), .ref (z + 80), .int sf, .int sl, .ref (z + 81), .int (nI rn), .ref (z + 82), .ref (z + 83)])) (b_66 : E 66 = qa_I G 240 ce) (b_76 : E 76 = qa_I G 16 r1) (b_77 : E 77 = qa_I G 3 r2) (b_78 : E 78 = qa_I G 3 r3) : Met l yX9_readRow wsX9_readRow (qh_R 3) (qh_Pre G z M E [.ref (z + 63), .int (nI (b + m))]) (qh_Q G z M (qh_i (fun r E' => ∃ (P K H : Nat) (r1' r2' r3' : Nat → Int32), E' 63 = .inr (9, [.int fa, .int tm, .ref (z + 64), .ref (z + 65), .ref (z + 66), .int (nI n), .int (nI m2), .ref (z + 67), .ref (z + 68), .ref (z + 69), .ref (z + 70), .ref (z + 71), .int (nI ln), .ref (z + 72), .ref (z + 73), .ref (z + 74), .ref (z + 75), .int (nI (b + P)), .int (nI K), .int (nI H), .ref (z + 76), .ref (z + 77), .ref (z + 78), .ref (z + 79), .ref (z + 80), .int sf, .int sl, .ref (z + 81), .int (nI rn), .ref (z + 82), .ref (z + 83)]) ∧ E' 76 = qa_I G 16 r1' ∧ E' 77 = qa_I G 3 r2' ∧ E' 78 = qa_I G 3 r3' ∧ (match ffR ce b m with | none => r = 1 ∧ K = dgC ce b m ∧ 1 ≤ K ∧ H = hpN (cdF ce b m) m 3 (1 + K) ∧ (∀ t, t < K → r1' t = cdF ce b m (1 + t) - 48) ∧ (∀ t, t < H → r2' t = knd (cdF ce b m (1 + K + 3 * t + 1)) ∧ r3' t = cdF ce b m (1 + K + 3 * t + 2) - 48) | some p => r = 0 ∧ P = p) ∧ ∀ x9, x9 ≠ 63 → x9 ≠ 76 → x9 ≠ 77 → x9 ≠ 78 → E' x9 = E x9))) 0 0 (fun q => z ≤ q) := by
  refine qh_metZ (cc := cX9_readRow) (maxL := 3) (by decide) rfl (Nat.le_of_ble_eq_true rfl) ?_
  intro pZ eZ sZ mZ aZ bZ tZ cZ RR QQ ls hx hb hml hown hts hRf hRl hH hK hl hret
  have hown : sZ.vm.findClass RX9 = some mZ.cls := hown
  have hl : lv_has ls 3 [(0, .ref (z + 63)), (1, .int (nI (b + m)))] := hl
  have in_X9 : ∀ w ∈ wsX90, w ∈ wsX9_readRow := fun w h => List.mem_cons_of_mem _ (List.mem_append_right _ h)
  have w_108 : qh_W G sZ mZ aZ 108 9 18 .int := qh_W.of hts in_X9 tyX9 tyX9_ok nmX9 hown hK rfl 18 (by decide) (by decide +kernel) rfl (by decide +kernel)
  have w_111 : qh_W G sZ mZ aZ 111 9 19 .int := qh_W.of hts in_X9 tyX9 tyX9_ok nmX9 hown hK rfl 19 (by decide) (by decide +kernel) rfl (by decide +kernel)
  have f_108 : qh_F G sZ mZ aZ 108 9 18 := qh_F.of hts in_X9 hown hK rfl 18 (by decide) (by decide +kernel)
  have f_111 : qh_F G sZ mZ aZ 111 9 19 := qh_F.of hts in_X9 hown hK rfl 19 (by decide) (by decide +kernel)
  have f_87 : qh_F G sZ mZ aZ 87 9 17 := qh_F.of hts in_X9 hown hK rfl 17 (by decide) (by decide +kernel)
  have f_47 : qh_F G sZ mZ aZ 47 9 20 := qh_F.of hts in_X9 hown hK rfl 20 (by decide) (by decide +kernel)
  refine lv_aload_n hx hb dX9_readRow_0 rfl (lv_at hl 0 rfl) ?_
  refine lv_iconst (v := 0) hx hb dX9_readRow_1 (by decide) ?_
  refine qh_put (fs' := [.int fa, .int tm, .ref (z + 64), .ref (z + 65), .ref (z + 66), .int (nI n), .int (nI m2), .ref (z + 67), .ref (z + 68), .ref (z + 69), .ref (z + 70), .ref (z + 71), .int (nI ln), .ref (z + 72), .ref (z + 73), .ref (z + 74), .ref (z + 75), .int (nI (b + 0)), .int 0, .int rh, .ref (z + 76), .ref (z + 77), .ref (z + 78), .ref (z + 79), .ref (z + 80), .int sf, .int sl, .ref (z + 81), .int (nI rn), .ref (z + 82), .ref (z + 83)]) hx hb hH w_108 (by omega) b_63 rfl rfl (Nat.le_of_ble_eq_true rfl) rfl dX9_readRow_2 (fun E_1 H locs h_63 hfr hH _ => ?_)
  have hF : ∀ x9, x9 ≠ 63 → E_1 x9 = E x9 := fun x9 a0 => hfr x9 a0
  refine lv_aload_n hx hb dX9_readRow_5 rfl (lv_at hl 0 rfl) ?_
  refine lv_iconst (v := 0) hx hb dX9_readRow_6 (by decide) ?_
  refine qh_put (fs' := [.int fa, .int tm, .ref (z + 64), .ref (z + 65), .ref (z + 66), .int (nI n), .int (nI m2), .ref (z + 67), .ref (z + 68), .ref (z + 69), .ref (z + 70), .ref (z + 71), .int (nI ln), .ref (z + 72), .ref (z + 73), .ref (z + 74), .ref (z + 75), .int (nI (b + 0)), .int 0, .int 0, .ref (z + 76), .ref (z + 77), .ref (z + 78), .ref (z + 79), .ref (z + 80), .int sf, .int sl, .ref (z + 81), .int (nI rn), .ref (z + 82), .ref (z + 83)]) hx hb hH w_111 (by omega) h_63 rfl rfl (Nat.le_of_ble_eq_true rfl) rfl dX9_readRow_7 (fun E_2 H locs h_63 hfr hH _ => ?_)
  have hF : ∀ x9, x9 ≠ 63 → E_2 x9 = E x9 := fun x9 a0 => (hfr x9 a0).trans (hF x9 a0)
  refine lv_aload_n hx hb dX9_readRow_10 rfl (lv_at hl 0 rfl) ?_
  refine lv_iload_n hx hb dX9_readRow_11 rfl (lv_at hl 1 rfl) ?_
  refine lv_bipush (v := 114) hx hb dX9_readRow_12 (by decide) ?_
  by_cases hs : 0 < m ∧ ce (b + 0) = 114
  · refine qh_runV (As := [.int (nI (b + m)), .int 114]) (rest := []) (C := RX9) ⟨hx, hb, hml, hown, hts⟩ hK hH (c_X9_isSign l G z M E_2 fa tm n m2 ln 0 0 sf sl rn b m 0 ce (⟨hbm, by decide⟩) 114 (hs) (hM) h_63 ((hF 66 (by decide)).trans b_66)) (cwV 2 hts gX9_readRow_X9_isSign rfl rfl rfl (by decide +kernel) (by rw [hRf, hRl]; exact ⟨Nat.le_of_ble_eq_true rfl, Nat.le_of_ble_eq_true rfl⟩)) (by omega) h_63 rfl rfl hl.1 rfl (Nat.le_of_ble_eq_true rfl) dX9_readRow_14 ⟨Nat.zero_le _, Nat.zero_le _⟩ (qh_kki fun r_14 E_3 H locs hpost hH => ?_)
    obtain ⟨rfl, h_63, hfr⟩ := hpost
    have hsg : cdF ce b m 0 = 114 := (cd_at hs.1).trans hs.2
    have hF : ∀ x9, x9 ≠ 63 → E_3 x9 = E x9 := fun x9 a0 => (hfr x9 a0).trans (hF x9 a0)
    refine lv_if_ne (tgt := 22) hx hb dX9_readRow_17 (by decide) (fun c_17 => ?_) (fun c_17 => ?_)
    · have L_28 : ∀ fu_28 : Nat, ∀ k : Nat, ∀ d : Int32, ∀ P : Nat, (k ≤ 16) → (∀ t, t < k → isDg (cdF ce b m (1 + t))) → ((d = -9 ∧ P = 1 + k ∧ (k = 16 ∨ ¬ isDg (cdF ce b m (1 + k)))) ∨ (k < 16 ∧ d = cdF ce b m (1 + k) - 48 ∧ P = 1 + (k + 1) ∧ isDg (cdF ce b m (1 + k)))) → (16 - k < fu_28) → ∀ Ek : Nat → va_E, Ek 63 = .inr (9, [.int fa, .int tm, .ref (z + 64), .ref (z + 65), .ref (z + 66), .int (nI n), .int (nI m2), .ref (z + 67), .ref (z + 68), .ref (z + 69), .ref (z + 70), .ref (z + 71), .int (nI ln), .ref (z + 72), .ref (z + 73), .ref (z + 74), .ref (z + 75), .int (nI (b + P)), .int (nI k), .int 0, .ref (z + 76), .ref (z + 77), .ref (z + 78), .ref (z + 79), .ref (z + 80), .int sf, .int sl, .ref (z + 81), .int (nI rn), .ref (z + 82), .ref (z + 83)]) → Ek 76 = qa_I G 16 (dgA ce b m r1 k) → (∀ x9, x9 ≠ 63 → x9 ≠ 76 → Ek x9 = E x9) → ∀ (H : Heap) (locs : List Loc), qh_H G z M Ek sZ.heap H locs → ∀ ls : Array Slot, lv_has ls 3 [(0, .ref (z + 63)), (1, .int (nI (b + m))), (2, .int d)] → W pZ l eZ RR sZ mZ aZ bZ tZ cZ H locs 0 0 QQ (F0 mZ 28 ls []) := by
        intro fu_28
        induction fu_28 with
        | zero =>
          intro k d P hk16 hall hDD hfuel
          exact absurd hfuel (by omega)
        | succ fu_28 ih_28 =>
          intro k d P hk16 hall hDD hfuel Ek h_63 h_76 hF H locs hH ls hl
          refine lv_iload_n hx hb dX9_readRow_28 rfl (lv_at hl 2 rfl) ?_
          refine lv_bipush (v := (-9)) hx hb dX9_readRow_29 (by decide) ?_
          refine lv_icmp_eq (tgt := 77) hx hb dX9_readRow_31 (by decide) (fun c_31 => ?_) (fun c_31 => ?_)
          · have hC : P = 1 + k ∧ dgC ce b m = k := by
              rcases hDD with w | w
              · refine ⟨w.2.1, ?_⟩
                rcases w.2.2 with e | e
                · rw [e]; rw [e] at hall; exact dgC_full hall
                · rcases Nat.lt_or_ge k 16 with q | q
                  · exact dgC_stop q hall e
                  · have e16 : k = 16 := by omega
                    rw [e16]; rw [e16] at hall; exact dgC_full hall
              · exact absurd (w.2.1.symm.trans c_31) (dg_ne w.2.2.2)
            obtain ⟨hP, hkC⟩ := hC
            subst hP
            refine lv_aload_n hx hb dX9_readRow_77 rfl (lv_at hl 0 rfl) ?_
            refine qh_get hx hb hH f_108 (by omega) h_63 rfl dX9_readRow_78 ?_
            refine lv_if_ne (tgt := 86) hx hb dX9_readRow_81 (by decide) (fun c_81 => ?_) (fun c_81 => ?_)
            · have hk0 : ¬ k = 0 := fun w => c_81 (by rw [w]; rfl)
              have hff : ffR ce b m = hpF (cdF ce b m) m 3 (1 + k) := by rw [ffR, if_pos hsg, hkC, if_neg hk0]
              have hkm : 1 + (k - 1) < m := (dg_cd.mp (hall (k - 1) (by omega))).1
              have L_86 : ∀ fu_86 : Nat, ∀ h : Nat, (h ≤ 3) → ((1 + k + 3 * h) ≤ m) → (hpF (cdF ce b m) m 3 (1 + k) = hpF (cdF ce b m) m (3 - h) (1 + k + 3 * h)) → (hpN (cdF ce b m) m 3 (1 + k) = h + hpN (cdF ce b m) m (3 - h) (1 + k + 3 * h)) → (3 - h < fu_86) → ∀ Ek : Nat → va_E, Ek 63 = .inr (9, [.int fa, .int tm, .ref (z + 64), .ref (z + 65), .ref (z + 66), .int (nI n), .int (nI m2), .ref (z + 67), .ref (z + 68), .ref (z + 69), .ref (z + 70), .ref (z + 71), .int (nI ln), .ref (z + 72), .ref (z + 73), .ref (z + 74), .ref (z + 75), .int (nI (b + (1 + k + 3 * h))), .int (nI k), .int (nI h), .ref (z + 76), .ref (z + 77), .ref (z + 78), .ref (z + 79), .ref (z + 80), .int sf, .int sl, .ref (z + 81), .int (nI rn), .ref (z + 82), .ref (z + 83)]) → Ek 76 = qa_I G 16 (dgA ce b m r1 k) → Ek 77 = qa_I G 3 (hkA (cdF ce b m) (1 + k) r2 h) → Ek 78 = qa_I G 3 (hpA (cdF ce b m) (1 + k) r3 h) → (∀ x9, x9 ≠ 63 → x9 ≠ 76 → x9 ≠ 77 → x9 ≠ 78 → Ek x9 = E x9) → ∀ (H : Heap) (locs : List Loc), qh_H G z M Ek sZ.heap H locs → ∀ ls : Array Slot, lv_has ls 3 [(0, .ref (z + 63)), (1, .int (nI (b + m)))] → W pZ l eZ RR sZ mZ aZ bZ tZ cZ H locs 0 0 QQ (F0 mZ 86 ls []) := by
                intro fu_86
                induction fu_86 with
                | zero =>
                  intro h hh3 hpl hq1 hq2 hfuel
                  exact absurd hfuel (by omega)
                | succ fu_86 ih_86 =>
                  intro h hh3 hpl hq1 hq2 hfuel Ek h_63 h_76 h_77 h_78 hF H locs hH ls hl
                  refine lv_aload_n hx hb dX9_readRow_86 rfl (lv_at hl 0 rfl) ?_
                  refine qh_get hx hb hH f_111 (by omega) h_63 rfl dX9_readRow_87 ?_
                  refine lv_iconst (v := 3) hx hb dX9_readRow_90 (by decide) ?_
                  refine lv_icmp_ge (tgt := 122) hx hb dX9_readRow_91 (by decide) (fun c_91 => ?_) (fun c_91 => ?_)
                  · have h3 : h = 3 := by
                      rcases Nat.lt_or_ge h 3 with w | w
                      · exact absurd c_91 (nI_ge w (by decide))
                      · omega
                    refine lv_aload_n hx hb dX9_readRow_122 rfl (lv_at hl 0 rfl) ?_
                    refine qh_get hx hb hH f_87 (by omega) h_63 rfl dX9_readRow_123 ?_
                    refine lv_iload_n hx hb dX9_readRow_126 rfl (lv_at hl 1 rfl) ?_
                    refine lv_icmp_ne (tgt := 134) hx hb dX9_readRow_127 (by decide) (fun c_127 => ?_) (fun c_127 => ?_)
                    · have hpz : ¬ (1 + k + 3 * h) = m := fun w => c_127 (by rw [w])
                      refine lv_iconst (v := 0) hx hb dX9_readRow_134 (by decide) ?_
                      exact hret dX9_readRow_135 hH (Or.inl rfl) (⟨(1 + k + 3 * h), k, h, _, _, _, h_63, h_76, h_77, h_78, (by rw [hff, hq1, h3, Nat.sub_self, hpF, if_pos (by omega)]; exact ⟨rfl, rfl⟩), (fun x9 a0 a1 a2 a3 => hF x9 a0 a1 a2 a3)⟩)
                    · have hpz : (1 + k + 3 * h) = m := by
                        have q := (nI_eq (by omega) (by omega)).mp c_127
                        omega
                      refine lv_iconst (v := 1) hx hb dX9_readRow_130 (by decide) ?_
                      refine lv_goto (tgt := 135) hx hb dX9_readRow_131 (by decide) ?_
                      exact hret dX9_readRow_135 hH (Or.inr rfl) (⟨(1 + k + 3 * h), k, h, _, _, _, h_63, h_76, h_77, h_78, (by rw [hff, hq1, h3, Nat.sub_self, hpF, if_neg (by omega)]; exact ⟨rfl, hkC.symm, by omega, by rw [hq2, h3]; rfl, fun t ht => dgA_at ht, fun t ht => ⟨hkA_at ht, hpA_at ht⟩⟩), (fun x9 a0 a1 a2 a3 => hF x9 a0 a1 a2 a3)⟩)
                  · have h3 : h < 3 := by
                      rcases Nat.lt_or_ge h 3 with w | w
                      · exact w
                      · exact absurd (nI_le w (by omega)) c_91
                    have e3 : 3 - h = (3 - (h + 1)) + 1 := by omega
                    refine lv_aload_n hx hb dX9_readRow_94 rfl (lv_at hl 0 rfl) ?_
                    refine qh_get hx hb hH f_87 (by omega) h_63 rfl dX9_readRow_95 ?_
                    refine lv_iload_n hx hb dX9_readRow_98 rfl (lv_at hl 1 rfl) ?_
                    refine lv_icmp_ge (tgt := 122) hx hb dX9_readRow_99 (by decide) (fun c_99 => ?_) (fun c_99 => ?_)
                    · have hk : b + m ≤ b + (1 + k + 3 * h) := (nI_leI (by omega) (by omega)).mp c_99
                      have hpe : (1 + k + 3 * h) = m := by omega
                      refine lv_aload_n hx hb dX9_readRow_122 rfl (lv_at hl 0 rfl) ?_
                      refine qh_get hx hb hH f_87 (by omega) h_63 rfl dX9_readRow_123 ?_
                      refine lv_iload_n hx hb dX9_readRow_126 rfl (lv_at hl 1 rfl) ?_
                      refine lv_icmp_ne (tgt := 134) hx hb dX9_readRow_127 (by decide) (fun c_127 => ?_) (fun c_127 => ?_)
                      · have hpz : ¬ (1 + k + 3 * h) = m := fun w => c_127 (by rw [w])
                        refine lv_iconst (v := 0) hx hb dX9_readRow_134 (by decide) ?_
                        exact hret dX9_readRow_135 hH (Or.inl rfl) (absurd (congrArg (fun q => nI (b + q)) hpe) c_127)
                      · have hpz : (1 + k + 3 * h) = m := by
                          have q := (nI_eq (by omega) (by omega)).mp c_127
                          omega
                        refine lv_iconst (v := 1) hx hb dX9_readRow_130 (by decide) ?_
                        refine lv_goto (tgt := 135) hx hb dX9_readRow_131 (by decide) ?_
                        exact hret dX9_readRow_135 hH (Or.inr rfl) (⟨(1 + k + 3 * h), k, h, _, _, _, h_63, h_76, h_77, h_78, (by rw [hff, hq1, e3, hpF, if_neg (by omega)]; exact ⟨rfl, hkC.symm, by omega, by rw [hq2, e3, hpN, if_neg (fun w => absurd w.1 (by omega))]; rfl, fun t ht => dgA_at ht, fun t ht => ⟨hkA_at ht, hpA_at ht⟩⟩), (fun x9 a0 a1 a2 a3 => hF x9 a0 a1 a2 a3)⟩)
                    · have hk : ¬ b + m ≤ b + (1 + k + 3 * h) := fun w => c_99 (nI_le w (by omega))
                      have hpm : (1 + k + 3 * h) < m := by omega
                      by_cases hsn : (1 + k + 3 * h) < m ∧ ce (b + (1 + k + 3 * h)) = 59
                      · refine lv_aload_n hx hb dX9_readRow_102 rfl (lv_at hl 0 rfl) ?_
                        refine lv_iload_n hx hb dX9_readRow_103 rfl (lv_at hl 1 rfl) ?_
                        refine lv_bipush (v := 59) hx hb dX9_readRow_104 (by decide) ?_
                        refine qh_runV (As := [.int (nI (b + m)), .int 59]) (rest := []) (C := RX9) ⟨hx, hb, hml, hown, hts⟩ hK hH (c_X9_isSign l G z M Ek fa tm n m2 ln (nI k) (nI h) sf sl rn b m (1 + k + 3 * h) ce (⟨hbm, by omega⟩) 59 (hsn) (hM) h_63 ((hF 66 (by decide) (by decide) (by decide) (by decide)).trans b_66)) (cwV 2 hts gX9_readRow_X9_isSign rfl rfl rfl (by decide +kernel) (by rw [hRf, hRl]; exact ⟨Nat.le_of_ble_eq_true rfl, Nat.le_of_ble_eq_true rfl⟩)) (by omega) h_63 rfl rfl hl.1 rfl (Nat.le_of_ble_eq_true rfl) dX9_readRow_106 ⟨Nat.zero_le _, Nat.zero_le _⟩ (qh_kki fun r_106 E_4 H locs hpost hH => ?_)
                        obtain ⟨rfl, h_63, hfr⟩ := hpost
                        have h_76 := (hfr 76 (by decide)).trans h_76
                        have h_77 := (hfr 77 (by decide)).trans h_77
                        have h_78 := (hfr 78 (by decide)).trans h_78
                        have hF : ∀ x9, x9 ≠ 63 → x9 ≠ 76 → x9 ≠ 77 → x9 ≠ 78 → E_4 x9 = E x9 := fun x9 a0 a1 a2 a3 => (hfr x9 a0).trans (hF x9 a0 a1 a2 a3)
                        refine lv_if_eq (tgt := 120) hx hb dX9_readRow_109 (by decide) (fun c_109 => ?_) (fun c_109 => ?_)
                        · exact absurd c_109 (by decide)
                        · by_cases hkn : ((1 + k + 3 * h) + 1) < m ∧ ¬ knd (ce (b + ((1 + k + 3 * h) + 1))) = -9
                          · refine lv_aload_n hx hb dX9_readRow_112 rfl (lv_at hl 0 rfl) ?_
                            by_cases hpn : ((1 + k + 3 * h) + 1) + 1 < m ∧ isDg (ce (b + (((1 + k + 3 * h) + 1) + 1)))
                            · refine lv_iload_n hx hb dX9_readRow_113 rfl (lv_at hl 1 rfl) ?_
                              refine qh_runV (As := [.int (nI (b + m))]) (rest := []) (C := RX9) ⟨hx, hb, hml, hown, hts⟩ hK hH (c_X9_readHelper l G z M E_4 fa tm n m2 ln (nI k) sf sl rn b m ((1 + k + 3 * h) + 1) ce h (hkA (cdF ce b m) (1 + k) r2 h) (hpA (cdF ce b m) (1 + k) r3 h) (⟨hbm, by omega, by omega⟩) (hkn) (hpn) (hM) h_63 ((hF 66 (by decide) (by decide) (by decide) (by decide)).trans b_66) h_77 h_78) (cwV 1 hts gX9_readRow_X9_readHelper rfl rfl rfl (by decide +kernel) (by rw [hRf, hRl]; exact ⟨Nat.le_of_ble_eq_true rfl, Nat.le_of_ble_eq_true rfl⟩)) (by omega) h_63 rfl rfl hl.1 rfl (Nat.le_of_ble_eq_true rfl) dX9_readRow_114 ⟨Nat.zero_le _, Nat.zero_le _⟩ (qh_kki fun r_114 E_5 H locs hpost hH => ?_)
                              obtain ⟨rfl, h_77, h_63, h_78, hfr⟩ := hpost
                              have h_76 := (hfr 76 (by decide) (by decide) (by decide)).trans h_76
                              have hF : ∀ x9, x9 ≠ 63 → x9 ≠ 76 → x9 ≠ 77 → x9 ≠ 78 → E_5 x9 = E x9 := fun x9 a0 a1 a2 a3 => (hfr x9 a2 a0 a3).trans (hF x9 a0 a1 a2 a3)
                              refine lv_if_ne (tgt := 86) hx hb dX9_readRow_117 (by decide) (fun c_117 => ?_) (fun c_117 => ?_)
                              · have e4 : (1 + k + 3 * h) + 3 = (1 + k + 3 * (h + 1)) := by omega
                                exact ih_86 (h + 1) (by omega) (by omega) (by rw [hq1, e3, hpF, if_pos hpm, if_pos ((cd_at hpm).trans hsn.2), if_neg (kn_yes hkn), if_pos (dg_cd.mpr hpn)]; rfl) (by rw [hq2, e3, hpN, if_pos ⟨hpm, (cd_at hpm).trans hsn.2, kn_yes hkn, dg_cd.mpr hpn⟩, ← e4]; omega) (by omega) E_5 h_63 h_76 (h_77.trans (congrArg (qa_I G 3) (by rw [← hkA_s, cd_at hkn.1]))) (h_78.trans (congrArg (qa_I G 3) (by rw [← hpA_s, cd_at hpn.1]))) (fun x9 a0 a1 a2 a3 => hF x9 a0 a1 a2 a3) _ _ hH ls (lv_sub hl [0, 1] rfl)
                              · exact absurd c_117 (by decide)
                            · refine lv_iload_n hx hb dX9_readRow_113 rfl (lv_at hl 1 rfl) ?_
                              refine qh_runV (As := [.int (nI (b + m))]) (rest := []) (C := RX9) ⟨hx, hb, hml, hown, hts⟩ hK hH (c_X9_readHelper_pace l G z M E_4 fa tm n m2 ln (nI k) sf sl rn b m ((1 + k + 3 * h) + 1) ce h (hkA (cdF ce b m) (1 + k) r2 h) (hpA (cdF ce b m) (1 + k) r3 h) (⟨hbm, by omega, by omega⟩) (hkn) (hpn) (hM) h_63 ((hF 66 (by decide) (by decide) (by decide) (by decide)).trans b_66) h_77 h_78) (cwV 1 hts gX9_readRow_X9_readHelper rfl rfl rfl (by decide +kernel) (by rw [hRf, hRl]; exact ⟨Nat.le_of_ble_eq_true rfl, Nat.le_of_ble_eq_true rfl⟩)) (by omega) h_63 rfl rfl hl.1 rfl (Nat.le_of_ble_eq_true rfl) dX9_readRow_114 ⟨Nat.zero_le _, Nat.zero_le _⟩ (qh_kki fun r_114 E_6 H locs hpost hH => ?_)
                              obtain ⟨rfl, h_77, h_63, h_78, hfr⟩ := hpost
                              have h_76 := (hfr 76 (by decide) (by decide) (by decide)).trans h_76
                              have hF : ∀ x9, x9 ≠ 63 → x9 ≠ 76 → x9 ≠ 77 → x9 ≠ 78 → E_6 x9 = E x9 := fun x9 a0 a1 a2 a3 => (hfr x9 a2 a0 a3).trans (hF x9 a0 a1 a2 a3)
                              refine lv_if_ne (tgt := 86) hx hb dX9_readRow_117 (by decide) (fun c_117 => ?_) (fun c_117 => ?_)
                              · exact absurd (by decide) c_117
                              · refine lv_iconst (v := 0) hx hb dX9_readRow_120 (by decide) ?_
                                exact hret dX9_readRow_121 hH (Or.inl rfl) (⟨((1 + k + 3 * h) + 2), k, (h + 1), _, _, _, h_63, h_76, h_77, h_78, (by rw [hff, hq1, e3, hpF, if_pos hpm, if_pos ((cd_at hpm).trans hsn.2), if_neg (kn_yes hkn), if_neg (fun w => hpn (dg_cd.mp w))]; exact ⟨rfl, rfl⟩), (fun x9 a0 a1 a2 a3 => hF x9 a0 a1 a2 a3)⟩)
                          · refine lv_aload_n hx hb dX9_readRow_112 rfl (lv_at hl 0 rfl) ?_
                            by_cases hpn : ((1 + k + 3 * h) + 1) + 1 < m ∧ isDg (ce (b + (((1 + k + 3 * h) + 1) + 1)))
                            · refine lv_iload_n hx hb dX9_readRow_113 rfl (lv_at hl 1 rfl) ?_
                              refine qh_runV (As := [.int (nI (b + m))]) (rest := []) (C := RX9) ⟨hx, hb, hml, hown, hts⟩ hK hH (c_X9_readHelper_kind l G z M E_4 fa tm n m2 ln (nI k) sf sl rn b m ((1 + k + 3 * h) + 1) ce h (hkA (cdF ce b m) (1 + k) r2 h) (hpA (cdF ce b m) (1 + k) r3 h) (⟨hbm, by omega, by omega⟩) (hkn) (hM) h_63 ((hF 66 (by decide) (by decide) (by decide) (by decide)).trans b_66) h_77 h_78) (cwV 1 hts gX9_readRow_X9_readHelper rfl rfl rfl (by decide +kernel) (by rw [hRf, hRl]; exact ⟨Nat.le_of_ble_eq_true rfl, Nat.le_of_ble_eq_true rfl⟩)) (by omega) h_63 rfl rfl hl.1 rfl (Nat.le_of_ble_eq_true rfl) dX9_readRow_114 ⟨Nat.zero_le _, Nat.zero_le _⟩ (qh_kki fun r_114 E_7 H locs hpost hH => ?_)
                              obtain ⟨rfl, h_77, hfr⟩ := hpost
                              have h_63 := (hfr 63 (by decide)).trans h_63
                              have h_76 := (hfr 76 (by decide)).trans h_76
                              have h_78 := (hfr 78 (by decide)).trans h_78
                              have hF : ∀ x9, x9 ≠ 63 → x9 ≠ 76 → x9 ≠ 77 → x9 ≠ 78 → E_7 x9 = E x9 := fun x9 a0 a1 a2 a3 => (hfr x9 a2).trans (hF x9 a0 a1 a2 a3)
                              refine lv_if_ne (tgt := 86) hx hb dX9_readRow_117 (by decide) (fun c_117 => ?_) (fun c_117 => ?_)
                              · exact absurd (by decide) c_117
                              · refine lv_iconst (v := 0) hx hb dX9_readRow_120 (by decide) ?_
                                exact hret dX9_readRow_121 hH (Or.inl rfl) (⟨((1 + k + 3 * h) + 1), k, h, _, _, _, h_63, h_76, h_77, h_78, (by rw [hff, hq1, e3, hpF, if_pos hpm, if_pos ((cd_at hpm).trans hsn.2), if_pos (kn_no hkn)]; exact ⟨rfl, rfl⟩), (fun x9 a0 a1 a2 a3 => hF x9 a0 a1 a2 a3)⟩)
                            · refine lv_iload_n hx hb dX9_readRow_113 rfl (lv_at hl 1 rfl) ?_
                              refine qh_runV (As := [.int (nI (b + m))]) (rest := []) (C := RX9) ⟨hx, hb, hml, hown, hts⟩ hK hH (c_X9_readHelper_kind l G z M E_4 fa tm n m2 ln (nI k) sf sl rn b m ((1 + k + 3 * h) + 1) ce h (hkA (cdF ce b m) (1 + k) r2 h) (hpA (cdF ce b m) (1 + k) r3 h) (⟨hbm, by omega, by omega⟩) (hkn) (hM) h_63 ((hF 66 (by decide) (by decide) (by decide) (by decide)).trans b_66) h_77 h_78) (cwV 1 hts gX9_readRow_X9_readHelper rfl rfl rfl (by decide +kernel) (by rw [hRf, hRl]; exact ⟨Nat.le_of_ble_eq_true rfl, Nat.le_of_ble_eq_true rfl⟩)) (by omega) h_63 rfl rfl hl.1 rfl (Nat.le_of_ble_eq_true rfl) dX9_readRow_114 ⟨Nat.zero_le _, Nat.zero_le _⟩ (qh_kki fun r_114 E_8 H locs hpost hH => ?_)
                              obtain ⟨rfl, h_77, hfr⟩ := hpost
                              have h_63 := (hfr 63 (by decide)).trans h_63
                              have h_76 := (hfr 76 (by decide)).trans h_76
                              have h_78 := (hfr 78 (by decide)).trans h_78
                              have hF : ∀ x9, x9 ≠ 63 → x9 ≠ 76 → x9 ≠ 77 → x9 ≠ 78 → E_8 x9 = E x9 := fun x9 a0 a1 a2 a3 => (hfr x9 a2).trans (hF x9 a0 a1 a2 a3)
                              refine lv_if_ne (tgt := 86) hx hb dX9_readRow_117 (by decide) (fun c_117 => ?_) (fun c_117 => ?_)
                              · exact absurd (by decide) c_117
                              · refine lv_iconst (v := 0) hx hb dX9_readRow_120 (by decide) ?_
                                exact hret dX9_readRow_121 hH (Or.inl rfl) (⟨((1 + k + 3 * h) + 1), k, h, _, _, _, h_63, h_76, h_77, h_78, (by rw [hff, hq1, e3, hpF, if_pos hpm, if_pos ((cd_at hpm).trans hsn.2), if_pos (kn_no hkn)]; exact ⟨rfl, rfl⟩), (fun x9 a0 a1 a2 a3 => hF x9 a0 a1 a2 a3)⟩)
                      · refine lv_aload_n hx hb dX9_readRow_102 rfl (lv_at hl 0 rfl) ?_
                        refine lv_iload_n hx hb dX9_readRow_103 rfl (lv_at hl 1 rfl) ?_
                        refine lv_bipush (v := 59) hx hb dX9_readRow_104 (by decide) ?_
                        refine qh_runV (As := [.int (nI (b + m)), .int 59]) (rest := []) (C := RX9) ⟨hx, hb, hml, hown, hts⟩ hK hH (c_X9_isSign_no l G z M Ek fa tm n m2 ln (nI k) (nI h) sf sl rn b m (1 + k + 3 * h) ce (⟨hbm, by omega⟩) 59 (hsn) (hM) h_63 ((hF 66 (by decide) (by decide) (by decide) (by decide)).trans b_66)) (cwV 2 hts gX9_readRow_X9_isSign rfl rfl rfl (by decide +kernel) (by rw [hRf, hRl]; exact ⟨Nat.le_of_ble_eq_true rfl, Nat.le_of_ble_eq_true rfl⟩)) (by omega) h_63 rfl rfl hl.1 rfl (Nat.le_of_ble_eq_true rfl) dX9_readRow_106 ⟨Nat.zero_le _, Nat.zero_le _⟩ (qh_kki fun r_106 E_9 H locs hpost hH => ?_)
                        obtain ⟨rfl, rfl⟩ := hpost
                        refine lv_if_eq (tgt := 120) hx hb dX9_readRow_109 (by decide) (fun c_109 => ?_) (fun c_109 => ?_)
                        · refine lv_iconst (v := 0) hx hb dX9_readRow_120 (by decide) ?_
                          exact hret dX9_readRow_121 hH (Or.inl rfl) (⟨(1 + k + 3 * h), k, h, _, _, _, h_63, h_76, h_77, h_78, (by rw [hff, hq1, e3, hpF, if_pos hpm, if_neg (fun w => hsn ⟨hpm, (cd_at hpm).symm.trans w⟩)]; exact ⟨rfl, rfl⟩), (fun x9 a0 a1 a2 a3 => hF x9 a0 a1 a2 a3)⟩)
                        · exact absurd (by decide) c_109
              exact L_86 4 0 (Nat.zero_le _) (by omega) rfl (by rw [Nat.zero_add]; rfl) (by omega) Ek h_63 h_76 (((hF 77 (by decide) (by decide)).trans b_77).trans (congrArg (qa_I G 3) (hkA_0 ..).symm)) (((hF 78 (by decide) (by decide)).trans b_78).trans (congrArg (qa_I G 3) (hpA_0 ..).symm)) (fun x9 a0 a1 a2 a3 => hF x9 a0 a1) _ _ hH ls (lv_sub hl [0, 1] rfl)
            · have hk0 : k = 0 := (nI_eq (b := 0) (by omega) (by decide)).mp c_81
              have hff : ffR ce b m = some 1 := by rw [ffR, if_pos hsg, hkC, if_pos hk0]
              refine lv_iconst (v := 0) hx hb dX9_readRow_84 (by decide) ?_
              exact hret dX9_readRow_85 hH (Or.inl rfl) (⟨(1 + k), k, 0, _, _, _, h_63, h_76, ((hF 77 (by decide) (by decide)).trans b_77), ((hF 78 (by decide) (by decide)).trans b_78), (by rw [hff]; exact ⟨rfl, by rw [hk0]⟩), (fun x9 a0 a1 a2 a3 => hF x9 a0 a1)⟩)
          · obtain ⟨hk15, hdd, hP, hdg⟩ := hDD.resolve_left (fun w => c_31 w.1)
            subst hP
            refine lv_aload_n hx hb dX9_readRow_34 rfl (lv_at hl 0 rfl) ?_
            refine qh_get hx hb hH f_47 (by omega) h_63 rfl dX9_readRow_35 ?_
            refine lv_aload_n hx hb dX9_readRow_38 rfl (lv_at hl 0 rfl) ?_
            refine qh_get hx hb hH f_108 (by omega) h_63 rfl dX9_readRow_39 ?_
            refine lv_iload_n hx hb dX9_readRow_42 rfl (lv_at hl 2 rfl) ?_
            refine qh_iast hx hb hK hH (by omega) h_76 (j := k) (rfl) (by omega) (by omega) dX9_readRow_43 (fun E_10 H locs h_76 hfr hH _ => ?_)
            have h_76 : E_10 76 = qa_I G 16 (dgA ce b m r1 (k + 1)) := h_76.trans (congrArg (qa_I G 16) (by rw [hdd]; exact dgA_s ..))
            have h_63 := (hfr 63 (by decide)).trans h_63
            have hF : ∀ x9, x9 ≠ 63 → x9 ≠ 76 → E_10 x9 = E x9 := fun x9 a0 a1 => (hfr x9 a1).trans (hF x9 a0 a1)
            refine lv_aload_n hx hb dX9_readRow_44 rfl (lv_at hl 0 rfl) ?_
            refine lv_dup hx hb dX9_readRow_45 rfl ?_
            refine qh_get hx hb hH f_108 (by omega) h_63 rfl dX9_readRow_46 ?_
            refine lv_iconst (v := 1) hx hb dX9_readRow_49 (by decide) ?_
            refine lv_iadd hx hb dX9_readRow_50 ?_
            refine qh_topi (y := nI (k + 1)) (nI_1 k) ?_
            refine qh_put (fs' := [.int fa, .int tm, .ref (z + 64), .ref (z + 65), .ref (z + 66), .int (nI n), .int (nI m2), .ref (z + 67), .ref (z + 68), .ref (z + 69), .ref (z + 70), .ref (z + 71), .int (nI ln), .ref (z + 72), .ref (z + 73), .ref (z + 74), .ref (z + 75), .int (nI (b + (1 + (k + 1)))), .int (nI (k + 1)), .int 0, .ref (z + 76), .ref (z + 77), .ref (z + 78), .ref (z + 79), .ref (z + 80), .int sf, .int sl, .ref (z + 81), .int (nI rn), .ref (z + 82), .ref (z + 83)]) hx hb hH w_108 (by omega) h_63 rfl rfl (Nat.le_of_ble_eq_true rfl) rfl dX9_readRow_51 (fun E_11 H locs h_63 hfr hH _ => ?_)
            have h_76 := (hfr 76 (by decide)).trans h_76
            have hF : ∀ x9, x9 ≠ 63 → x9 ≠ 76 → E_11 x9 = E x9 := fun x9 a0 a1 => (hfr x9 a0).trans (hF x9 a0 a1)
            refine lv_aload_n hx hb dX9_readRow_54 rfl (lv_at hl 0 rfl) ?_
            refine qh_get hx hb hH f_108 (by omega) h_63 rfl dX9_readRow_55 ?_
            refine lv_bipush (v := 16) hx hb dX9_readRow_58 (by decide) ?_
            refine lv_icmp_ge (tgt := 71) hx hb dX9_readRow_60 (by decide) (fun c_60 => ?_) (fun c_60 => ?_)
            · have hk15 : k = 15 := by
                rcases Nat.lt_or_ge (k + 1) 16 with w | w
                · exact absurd c_60 (nI_ge w (by decide))
                · omega
              refine lv_bipush (v := (-9)) hx hb dX9_readRow_71 (by decide) ?_
              refine lv_istore_n (lv' := [(2, .int (-9)), (0, .ref (z + 63)), (1, .int (nI (b + m)))]) hx hb dX9_readRow_73 rfl hl (by decide) rfl (fun ls hl => ?_)
              refine lv_goto (tgt := 28) hx hb dX9_readRow_74 (by decide) ?_
              exact ih_28 (k + 1) (-9) (1 + (k + 1)) (by omega) (fun i w => (Nat.lt_succ_iff_lt_or_eq.mp w).elim (hall i) (fun w2 => w2 ▸ hdg)) (Or.inl ⟨rfl, rfl, Or.inl (by omega)⟩) (by omega) E_11 h_63 h_76 (fun x9 a0 a1 => hF x9 a0 a1) _ _ hH ls (lv_sub hl [1, 2, 0] rfl)
            · have hk15 : k + 1 < 16 := by
                rcases Nat.lt_or_ge (k + 1) 16 with w | w
                · exact w
                · exact absurd (nI_le w (by omega)) c_60
              refine lv_aload_n hx hb dX9_readRow_63 rfl (lv_at hl 0 rfl) ?_
              refine lv_iload_n hx hb dX9_readRow_64 rfl (lv_at hl 1 rfl) ?_
              by_cases hdy : (1 + (k + 1)) < m ∧ isDg (ce (b + (1 + (k + 1))))
              · refine qh_runV (As := [.int (nI (b + m))]) (rest := []) (C := RX9) ⟨hx, hb, hml, hown, hts⟩ hK hH (c_X9_digit l G z M E_11 fa tm n m2 ln (nI (k + 1)) 0 sf sl rn b m (1 + (k + 1)) ce (⟨hbm, by omega⟩) (hdy) (hM) h_63 ((hF 66 (by decide) (by decide)).trans b_66)) (cwV 1 hts gX9_readRow_X9_digit rfl rfl rfl (by decide +kernel) (by rw [hRf, hRl]; exact ⟨Nat.le_of_ble_eq_true rfl, Nat.le_of_ble_eq_true rfl⟩)) (by omega) h_63 rfl rfl hl.1 rfl (Nat.le_of_ble_eq_true rfl) dX9_readRow_65 ⟨Nat.zero_le _, Nat.zero_le _⟩ (qh_kki fun r_65 E_12 H locs hpost hH => ?_)
                obtain ⟨rfl, h_63, hfr⟩ := hpost
                have h_76 := (hfr 76 (by decide)).trans h_76
                have hF : ∀ x9, x9 ≠ 63 → x9 ≠ 76 → E_12 x9 = E x9 := fun x9 a0 a1 => (hfr x9 a0).trans (hF x9 a0 a1)
                refine lv_goto (tgt := 73) hx hb dX9_readRow_68 (by decide) ?_
                refine lv_istore_n (lv' := [(2, .int (ce (b + (1 + (k + 1))) - 48)), (0, .ref (z + 63)), (1, .int (nI (b + m)))]) hx hb dX9_readRow_73 rfl hl (by decide) rfl (fun ls hl => ?_)
                refine lv_goto (tgt := 28) hx hb dX9_readRow_74 (by decide) ?_
                exact ih_28 (k + 1) (ce (b + (1 + (k + 1))) - 48) ((1 + (k + 1)) + 1) (by omega) (fun i w => (Nat.lt_succ_iff_lt_or_eq.mp w).elim (hall i) (fun w2 => w2 ▸ hdg)) (Or.inr ⟨by omega, (by rw [cdF, if_pos hdy.1]), rfl, dg_cd.mpr hdy⟩) (by omega) E_12 h_63 h_76 (fun x9 a0 a1 => hF x9 a0 a1) _ _ hH ls (lv_sub hl [1, 2, 0] rfl)
              · refine qh_runV (As := [.int (nI (b + m))]) (rest := []) (C := RX9) ⟨hx, hb, hml, hown, hts⟩ hK hH (c_X9_digit_no l G z M E_11 fa tm n m2 ln (nI (k + 1)) 0 sf sl rn b m (1 + (k + 1)) ce (⟨hbm, by omega⟩) (hdy) (hM) h_63 ((hF 66 (by decide) (by decide)).trans b_66)) (cwV 1 hts gX9_readRow_X9_digit rfl rfl rfl (by decide +kernel) (by rw [hRf, hRl]; exact ⟨Nat.le_of_ble_eq_true rfl, Nat.le_of_ble_eq_true rfl⟩)) (by omega) h_63 rfl rfl hl.1 rfl (Nat.le_of_ble_eq_true rfl) dX9_readRow_65 ⟨Nat.zero_le _, Nat.zero_le _⟩ (qh_kki fun r_65 E_13 H locs hpost hH => ?_)
                obtain ⟨rfl, rfl⟩ := hpost
                refine lv_goto (tgt := 73) hx hb dX9_readRow_68 (by decide) ?_
                refine lv_istore_n (lv' := [(2, .int (-9)), (0, .ref (z + 63)), (1, .int (nI (b + m)))]) hx hb dX9_readRow_73 rfl hl (by decide) rfl (fun ls hl => ?_)
                refine lv_goto (tgt := 28) hx hb dX9_readRow_74 (by decide) ?_
                exact ih_28 (k + 1) (-9) (1 + (k + 1)) (by omega) (fun i w => (Nat.lt_succ_iff_lt_or_eq.mp w).elim (hall i) (fun w2 => w2 ▸ hdg)) (Or.inl ⟨rfl, rfl, Or.inr (fun w => hdy (dg_cd.mp w))⟩) (by omega) E_11 h_63 h_76 (fun x9 a0 a1 => hF x9 a0 a1) _ _ hH ls (lv_sub hl [1, 2, 0] rfl)
      refine lv_aload_n hx hb dX9_readRow_22 rfl (lv_at hl 0 rfl) ?_
      refine lv_iload_n hx hb dX9_readRow_23 rfl (lv_at hl 1 rfl) ?_
      by_cases hd1 : (0 + 1) < m ∧ isDg (ce (b + (0 + 1)))
      · refine qh_runV (As := [.int (nI (b + m))]) (rest := []) (C := RX9) ⟨hx, hb, hml, hown, hts⟩ hK hH (c_X9_digit l G z M E_3 fa tm n m2 ln 0 0 sf sl rn b m (0 + 1) ce (⟨hbm, by omega⟩) (hd1) (hM) h_63 ((hF 66 (by decide)).trans b_66)) (cwV 1 hts gX9_readRow_X9_digit rfl rfl rfl (by decide +kernel) (by rw [hRf, hRl]; exact ⟨Nat.le_of_ble_eq_true rfl, Nat.le_of_ble_eq_true rfl⟩)) (by omega) h_63 rfl rfl hl.1 rfl (Nat.le_of_ble_eq_true rfl) dX9_readRow_24 ⟨Nat.zero_le _, Nat.zero_le _⟩ (qh_kki fun r_24 E_14 H locs hpost hH => ?_)
        obtain ⟨rfl, h_63, hfr⟩ := hpost
        have hF : ∀ x9, x9 ≠ 63 → E_14 x9 = E x9 := fun x9 a0 => (hfr x9 a0).trans (hF x9 a0)
        refine lv_istore_n (lv' := [(2, .int (ce (b + (0 + 1)) - 48)), (0, .ref (z + 63)), (1, .int (nI (b + m)))]) hx hb dX9_readRow_27 rfl hl (by decide) rfl (fun ls hl => ?_)
        exact L_28 17 0 (ce (b + (0 + 1)) - 48) ((0 + 1) + 1) (Nat.zero_le _) (fun _ w => absurd w (Nat.not_lt_zero _)) (Or.inr ⟨by decide, (by rw [cdF, if_pos hd1.1]), rfl, dg_cd.mpr hd1⟩) (by omega) E_14 h_63 (((hF 76 (by decide)).trans b_76).trans (congrArg (qa_I G 16) (dgA_0 ..).symm)) (fun x9 a0 a1 => hF x9 a0) _ _ hH ls (lv_sub hl [1, 2, 0] rfl)
      · refine qh_runV (As := [.int (nI (b + m))]) (rest := []) (C := RX9) ⟨hx, hb, hml, hown, hts⟩ hK hH (c_X9_digit_no l G z M E_3 fa tm n m2 ln 0 0 sf sl rn b m (0 + 1) ce (⟨hbm, by omega⟩) (hd1) (hM) h_63 ((hF 66 (by decide)).trans b_66)) (cwV 1 hts gX9_readRow_X9_digit rfl rfl rfl (by decide +kernel) (by rw [hRf, hRl]; exact ⟨Nat.le_of_ble_eq_true rfl, Nat.le_of_ble_eq_true rfl⟩)) (by omega) h_63 rfl rfl hl.1 rfl (Nat.le_of_ble_eq_true rfl) dX9_readRow_24 ⟨Nat.zero_le _, Nat.zero_le _⟩ (qh_kki fun r_24 E_15 H locs hpost hH => ?_)
        obtain ⟨rfl, rfl⟩ := hpost
        refine lv_istore_n (lv' := [(2, .int (-9)), (0, .ref (z + 63)), (1, .int (nI (b + m)))]) hx hb dX9_readRow_27 rfl hl (by decide) rfl (fun ls hl => ?_)
        exact L_28 17 0 (-9) (0 + 1) (Nat.zero_le _) (fun _ w => absurd w (Nat.not_lt_zero _)) (Or.inl ⟨rfl, rfl, Or.inr (fun w => hd1 (dg_cd.mp w))⟩) (by omega) E_3 h_63 (((hF 76 (by decide)).trans b_76).trans (congrArg (qa_I G 16) (dgA_0 ..).symm)) (fun x9 a0 a1 => hF x9 a0) _ _ hH ls (lv_sub hl [1, 2, 0] rfl)
    · exact absurd c_17 (by decide)
  · refine qh_runV (As := [.int (nI (b + m)), .int 114]) (rest := []) (C := RX9) ⟨hx, hb, hml, hown, hts⟩ hK hH (c_X9_isSign_no l G z M E_2 fa tm n m2 ln 0 0 sf sl rn b m 0 ce (⟨hbm, by decide⟩) 114 (hs) (hM) h_63 ((hF 66 (by decide)).trans b_66)) (cwV 2 hts gX9_readRow_X9_isSign rfl rfl rfl (by decide +kernel) (by rw [hRf, hRl]; exact ⟨Nat.le_of_ble_eq_true rfl, Nat.le_of_ble_eq_true rfl⟩)) (by omega) h_63 rfl rfl hl.1 rfl (Nat.le_of_ble_eq_true rfl) dX9_readRow_14 ⟨Nat.zero_le _, Nat.zero_le _⟩ (qh_kki fun r_14 E_16 H locs hpost hH => ?_)
    obtain ⟨rfl, rfl⟩ := hpost
    have hff : ffR ce b m = some 0 := if_neg (fun w => hs (cd_ne w (by decide)))
    refine lv_if_ne (tgt := 22) hx hb dX9_readRow_17 (by decide) (fun c_17 => ?_) (fun c_17 => ?_)
    · exact absurd (by decide) c_17
    · refine lv_iconst (v := 0) hx hb dX9_readRow_20 (by decide) ?_
      exact hret dX9_readRow_21 hH (Or.inl rfl) (⟨0, 0, 0, _, _, _, h_63, ((hF 76 (by decide)).trans b_76), ((hF 77 (by decide)).trans b_77), ((hF 78 (by decide)).trans b_78), (by rw [hff]; exact ⟨rfl, rfl⟩), (fun x9 a0 a1 a2 a3 => hF x9 a0)⟩)
