def spM (n : Nat) (x : Int32) : Option (Nat × Nat) := if x < 1 then none else spN n x.toNatClampNeg
theorem spG_fu {c : Nat} : ∀ {fu s : Nat}, s < 2 ^ fu → spG c (fu + 1) s = spG c fu s
  | 0, s, h => by
    have e : s = 0 := by omega
    subst e; rfl
  | fu + 1, s, h => by
    have h2 : s / 2 < 2 ^ fu := by
      rw [Nat.pow_succ] at h
      omega
    rw [spG, spG_fu h2]
    rfl
theorem sp_rec {c s : Nat} (h2 : 2 ≤ s) (h : s < 2 ^ 31) : spN c s = spSt s (spN c (s / 2)) := by
  have e : spG c 32 (s / 2) = spG c 31 (s / 2) := spG_fu (by omega)
  unfold spN
  rw [e, spG, if_neg (by omega), if_neg (by omega)]
  rfl
theorem spG_0 : ∀ (fu s : Nat), spG 0 fu s = none
  | 0, _ => rfl
  | fu + 1, s => by
    rw [spG, spG_0 fu (s / 2)]
    split
    · rfl
    · split <;> rfl
theorem sp_z (s : Nat) : spN 0 s = none := spG_0 32 s
theorem spG_bd {c : Nat} : ∀ {fu s u w : Nat}, spG c fu s = some (u, w) → u ≤ w ∧ w < c
  | 0, s, u, w, h => by cases h
  | fu + 1, s, u, w, h => by
    rw [spG] at h
    by_cases a : s = 0
    · rw [if_pos a] at h; cases h
    · rw [if_neg a] at h
      by_cases b : s = 1
      · rw [if_pos b] at h
        by_cases d : c = 0
        · rw [if_pos d] at h; cases h
        · rw [if_neg d] at h
          cases h
          omega
      · rw [if_neg b] at h
        cases e : spG c fu (s / 2) with
        | none => rw [e] at h; cases h
        | some q =>
          obtain ⟨q1, q2⟩ := q
          have hq := spG_bd e
          rw [e] at h
          dsimp only at h
          by_cases d : q2 ≤ q1
          · rw [if_pos d] at h; cases h
          · rw [if_neg d] at h
            by_cases f : s % 2 = 0
            · rw [if_pos f] at h; cases h; omega
            · rw [if_neg f] at h; cases h; omega
theorem sp_bd {c s u w : Nat} (hc : c ≤ 16) (h : spN c s = some (u, w)) : u ≤ w ∧ w < 16 := by
  have := spG_bd h
  omega
theorem sp_half (s j : Nat) (hj : 1 ≤ j) : s / 2 ^ j = s / 2 ^ (j - 1) / 2 := by
  rw [Nat.div_div_eq_div_mul, ← Nat.pow_succ]
  congr 2
  omega
theorem sp_pos {c s j u w : Nat} (hj : 1 ≤ j) (h : spN c (s / 2 ^ j) = some (u, w)) : 2 ≤ s / 2 ^ (j - 1) := by
  rcases Nat.lt_or_ge (s / 2 ^ (j - 1)) 2 with q | q
  · have e : s / 2 ^ j = 0 := by
      rw [sp_half s j hj]
      exact Nat.div_eq_of_lt q
    rw [e] at h
    cases h
  · exact q
theorem sp_step {c s j u w : Nat} (hs : s < 2 ^ 31) (hj : 1 ≤ j) (h : spN c (s / 2 ^ j) = some (u, w)) : spN c (s / 2 ^ (j - 1)) = spSt (s / 2 ^ (j - 1)) (some (u, w)) := by
  rw [sp_rec (sp_pos hj h) (Nat.lt_of_le_of_lt (Nat.div_le_self ..) hs), ← sp_half s j hj, h]
theorem sp_dn {c s : Nat} (hs : s < 2 ^ 31) : ∀ {i : Nat}, 2 ≤ s / 2 ^ i → spN c (s / 2 ^ i) = none → spN c s = none
  | 0, _, h => by
    rw [Nat.pow_zero, Nat.div_one] at h
    exact h
  | i + 1, h2, h => by
    have e : s / 2 ^ (i + 1) = s / 2 ^ i / 2 := sp_half s (i + 1) (by omega)
    have h3 : 2 ≤ s / 2 ^ i := by omega
    refine sp_dn hs h3 ?_
    rw [sp_rec h3 (Nat.lt_of_le_of_lt (Nat.div_le_self ..) hs), ← e, h]
    rfl
theorem sh_k {j : Nat} (h : j < 31) : ((nI j &&& 31).toBitVec.smod 32).toNat = j := by
  have hd : ∀ j, j < 31 → ((nI j &&& 31).toBitVec.smod 32).toNat = j := by decide +kernel
  exact hd j h
theorem sh_1 {s k : Nat} (h : s < 2 ^ 31) : nI (s / 2 ^ k) >>> ((1 : Int32) &&& 31) = nI (s / 2 ^ (k + 1)) := by
  rw [pk_shrN (Nat.lt_of_le_of_lt (Nat.div_le_self ..) h) _ 1 (by decide), Nat.div_div_eq_div_mul, ← Nat.pow_add]
theorem sh_lt {s k : Nat} (h : s < 2 ^ 31) (hk : 1 ≤ s / 2 ^ (k + 1)) : k + 1 < 31 := by
  rcases Nat.lt_or_ge (k + 1) 31 with w | w
  · exact w
  · have h1 : 2 ^ 31 ≤ 2 ^ (k + 1) := Nat.pow_le_pow_right (by decide) w
    rw [Nat.div_eq_of_lt (Nat.lt_of_lt_of_le h h1)] at hk
    omega
theorem dec_1 (x : Int32) : x + Int32.ofInt (-1) = x - 1 := by
  rw [Int32.sub_eq_add_neg]; rfl
theorem nI_nn {a : Nat} (h : a < 2 ^ 31) : ¬ nI a < 0 := fun w => absurd ((nI_ltI (b := 0) h (by decide)).mp w) (Nat.not_lt_zero _)
set_option maxHeartbeats 1000000 in
set_option maxRecDepth 100000 in
theorem c_X9_findSpan (l : Launch) (G : qh_G) (z M : Nat) (E : Nat → va_E) (fa : Int32) (tm : Int32) (n : Nat) (m2 : Nat) (ln : Nat) (pt : Int32) (rm : Int32) (rh : Int32) (sf : Int32) (sl : Int32) (rn : Nat) (hM : 84 ≤ M) (b_63 : E 63 = .inr (9, [.int fa, .int tm, .ref (z + 64), .ref (z + 65), .ref (z + 66), .int (nI n), .int (nI m2), .ref (z + 67), .ref (z + 68), .ref (z + 69), .ref (z + 70), .ref (z + 71), .int (nI ln), .ref (z + 72), .ref (z + 73), .ref (z + 74), .ref (z + 75), .int pt, .int rm, .int rh, .ref (z + 76), .ref (z + 77), .ref (z + 78), .ref (z + 79), .ref (z + 80), .int sf, .int sl, .ref (z + 81), .int (nI rn), .ref (z + 82), .ref (z + 83)])) (x : Int32) (hn16 : n ≤ 16) : Met l yX9_findSpan wsX9_findSpan (qh_R 0) (qh_Pre G z M E [.ref (z + 63), .int x]) (qh_Q G z M (qh_i (fun r E' => ∃ (sf' sl' : Int32), E' 63 = .inr (9, [.int fa, .int tm, .ref (z + 64), .ref (z + 65), .ref (z + 66), .int (nI n), .int (nI m2), .ref (z + 67), .ref (z + 68), .ref (z + 69), .ref (z + 70), .ref (z + 71), .int (nI ln), .ref (z + 72), .ref (z + 73), .ref (z + 74), .ref (z + 75), .int pt, .int rm, .int rh, .ref (z + 76), .ref (z + 77), .ref (z + 78), .ref (z + 79), .ref (z + 80), .int sf', .int sl', .ref (z + 81), .int (nI rn), .ref (z + 82), .ref (z + 83)]) ∧ (match spM n x with | some q => r = 1 ∧ sf' = nI q.1 ∧ sl' = nI q.2 | none => r = 0) ∧ ∀ x9, x9 ≠ 63 → E' x9 = E x9))) 0 0 (fun q => z ≤ q) := by
  refine qh_metZ (cc := cX9_findSpan) (maxL := 5) (by decide) rfl (Nat.le_of_ble_eq_true rfl) ?_
  intro pZ eZ sZ mZ aZ bZ tZ cZ RR QQ ls hx hb hml hown hts hRf hRl hH hK hl hret
  have hown : sZ.vm.findClass RX9 = some mZ.cls := hown
  have hl : lv_has ls 5 [(0, .ref (z + 63)), (1, .int x)] := hl
  have in_X9 : ∀ w ∈ wsX90, w ∈ wsX9_findSpan := fun w h => List.mem_cons_of_mem _ (List.mem_append_right _ h)
  have f_81 : qh_F G sZ mZ aZ 81 9 5 := qh_F.of hts in_X9 hown hK rfl 5 (by decide) (by decide +kernel)
  have w_211 : qh_W G sZ mZ aZ 211 9 25 .int := qh_W.of hts in_X9 tyX9 tyX9_ok nmX9 hown hK rfl 25 (by decide) (by decide +kernel) rfl (by decide +kernel)
  have w_214 : qh_W G sZ mZ aZ 214 9 26 .int := qh_W.of hts in_X9 tyX9 tyX9_ok nmX9 hown hK rfl 26 (by decide) (by decide +kernel) rfl (by decide +kernel)
  have f_211 : qh_F G sZ mZ aZ 211 9 25 := qh_F.of hts in_X9 hown hK rfl 25 (by decide) (by decide +kernel)
  have f_214 : qh_F G sZ mZ aZ 214 9 26 := qh_F.of hts in_X9 hown hK rfl 26 (by decide) (by decide +kernel)
  refine lv_iload_n hx hb dX9_findSpan_0 rfl (lv_at hl 1 rfl) ?_
  refine lv_iconst (v := 1) hx hb dX9_findSpan_1 (by decide) ?_
  refine lv_icmp_lt (tgt := 12) hx hb dX9_findSpan_2 (by decide) (fun c_2 => ?_) (fun c_2 => ?_)
  · have hm : spM n x = none := if_pos c_2
    refine lv_iconst (v := 0) hx hb dX9_findSpan_12 (by decide) ?_
    exact hret dX9_findSpan_13 hH (Or.inl rfl) (⟨_, _, b_63, (by rw [hm]), (fun x9 a0 => rfl)⟩)
  · refine lv_aload_n hx hb dX9_findSpan_5 rfl (lv_at hl 0 rfl) ?_
    refine qh_get hx hb hH f_81 (by omega) b_63 rfl dX9_findSpan_6 ?_
    refine lv_if_ne (tgt := 14) hx hb dX9_findSpan_9 (by decide) (fun c_9 => ?_) (fun c_9 => ?_)
    · have hn0 : ¬ n = 0 := fun w => c_9 (by rw [w]; rfl)
      obtain ⟨s, hs31, es⟩ := nI_of (Int32.not_lt.mpr (Int32.le_trans (by decide) (Int32.not_lt.mp c_2)))
      have hs1 : 1 ≤ s := by
        rcases Nat.eq_zero_or_pos s with w | w
        · rw [es, w] at c_2; exact absurd (by decide) c_2
        · exact w
      have hm : spM n x = spN n s := by rw [spM, if_neg c_2, es, nI_clamp hs31]
      have hl : lv_has ls 5 [(0, .ref (z + 63)), (1, .int (nI s))] := by rw [← es]; exact hl
      refine lv_iconst (v := 0) hx hb dX9_findSpan_14 (by decide) ?_
      refine lv_istore_n (lv' := [(2, .int 0), (0, .ref (z + 63)), (1, .int (nI s))]) hx hb dX9_findSpan_15 rfl hl (by decide) rfl (fun ls hl => ?_)
      refine lv_iload_n hx hb dX9_findSpan_16 rfl (lv_at hl 2 rfl) ?_
      refine lv_istore_n (lv' := [(3, .int (nI s)), (2, .int 0), (0, .ref (z + 63)), (1, .int (nI s))]) hx hb dX9_findSpan_17 rfl hl (by decide) rfl (fun ls hl => ?_)
      have hl : lv_has ls 5 [(3, .int (nI (s / 2 ^ 0))), (2, .int 0), (0, .ref (z + 63)), (1, .int (nI s))] := by rw [Nat.pow_zero, Nat.div_one]; exact hl
      have L_18 : ∀ fu_18 : Nat, ∀ k : Nat, (1 ≤ s / 2 ^ k) → (k < 31) → (31 - k < fu_18) → ∀ (H : Heap) (locs : List Loc), qh_H G z M E sZ.heap H locs → ∀ ls : Array Slot, lv_has ls 5 [(0, .ref (z + 63)), (1, .int (nI s)), (2, .int (nI k)), (3, .int (nI (s / 2 ^ k)))] → W pZ l eZ RR sZ mZ aZ bZ tZ cZ H locs 0 0 QQ (F0 mZ 18 ls []) := by
        intro fu_18
        induction fu_18 with
        | zero =>
          intro k hk1 hk31 hfuel
          exact absurd hfuel (by omega)
        | succ fu_18 ih_18 =>
          intro k hk1 hk31 hfuel H locs hH ls hl
          refine lv_iload_n hx hb dX9_findSpan_18 rfl (lv_at hl 3 rfl) ?_
          refine lv_iconst (v := 1) hx hb dX9_findSpan_19 (by decide) ?_
          refine lv_icmp_le (tgt := 33) hx hb dX9_findSpan_20 (by decide) (fun c_20 => ?_) (fun c_20 => ?_)
          · have hk1e : s / 2 ^ k = 1 := by
              have := (nI_leI (b := 1) (by exact Nat.lt_of_le_of_lt (Nat.div_le_self ..) hs31) (by decide)).mp c_20
              omega
            refine lv_aload_n hx hb dX9_findSpan_33 rfl (lv_at hl 0 rfl) ?_
            refine lv_iconst (v := 0) hx hb dX9_findSpan_34 (by decide) ?_
            refine qh_put (fs' := [.int fa, .int tm, .ref (z + 64), .ref (z + 65), .ref (z + 66), .int (nI n), .int (nI m2), .ref (z + 67), .ref (z + 68), .ref (z + 69), .ref (z + 70), .ref (z + 71), .int (nI ln), .ref (z + 72), .ref (z + 73), .ref (z + 74), .ref (z + 75), .int pt, .int rm, .int rh, .ref (z + 76), .ref (z + 77), .ref (z + 78), .ref (z + 79), .ref (z + 80), .int 0, .int sl, .ref (z + 81), .int (nI rn), .ref (z + 82), .ref (z + 83)]) hx hb hH w_211 (by omega) b_63 rfl rfl (Nat.le_of_ble_eq_true rfl) rfl dX9_findSpan_35 (fun E_1 H locs h_63 hfr hH _ => ?_)
            have hF : ∀ x9, x9 ≠ 63 → E_1 x9 = E x9 := fun x9 a0 => hfr x9 a0
            refine lv_aload_n hx hb dX9_findSpan_38 rfl (lv_at hl 0 rfl) ?_
            refine lv_aload_n hx hb dX9_findSpan_39 rfl (lv_at hl 0 rfl) ?_
            refine qh_get hx hb hH f_81 (by omega) h_63 rfl dX9_findSpan_40 ?_
            refine lv_iconst (v := 1) hx hb dX9_findSpan_43 (by decide) ?_
            refine lv_isub hx hb dX9_findSpan_44 ?_
            refine qh_topi (y := nI (n - 1)) (pk_sub (b := 1) (by omega)) ?_
            refine qh_put (fs' := [.int fa, .int tm, .ref (z + 64), .ref (z + 65), .ref (z + 66), .int (nI n), .int (nI m2), .ref (z + 67), .ref (z + 68), .ref (z + 69), .ref (z + 70), .ref (z + 71), .int (nI ln), .ref (z + 72), .ref (z + 73), .ref (z + 74), .ref (z + 75), .int pt, .int rm, .int rh, .ref (z + 76), .ref (z + 77), .ref (z + 78), .ref (z + 79), .ref (z + 80), .int 0, .int (nI (n - 1)), .ref (z + 81), .int (nI rn), .ref (z + 82), .ref (z + 83)]) hx hb hH w_214 (by omega) h_63 rfl rfl (Nat.le_of_ble_eq_true rfl) rfl dX9_findSpan_45 (fun E_2 H locs h_63 hfr hH _ => ?_)
            have hF : ∀ x9, x9 ≠ 63 → E_2 x9 = E x9 := fun x9 a0 => (hfr x9 a0).trans (hF x9 a0)
            refine lv_iload_n hx hb dX9_findSpan_48 rfl (lv_at hl 2 rfl) ?_
            refine lv_iconst (v := 1) hx hb dX9_findSpan_49 (by decide) ?_
            refine lv_isub hx hb dX9_findSpan_50 ?_
            refine lv_istore_n (lv' := [(3, .int ((nI k) - 1)), (0, .ref (z + 63)), (1, .int (nI s)), (2, .int (nI k))]) hx hb dX9_findSpan_51 rfl hl (by decide) rfl (fun ls hl => ?_)
            have L_52 : ∀ fu_52 : Nat, ∀ j : Nat, ∀ u : Nat, ∀ w : Nat, (j < 31) → (spN n (s / 2 ^ j) = some (u, w)) → (j < fu_52) → ∀ Ek : Nat → va_E, Ek 63 = .inr (9, [.int fa, .int tm, .ref (z + 64), .ref (z + 65), .ref (z + 66), .int (nI n), .int (nI m2), .ref (z + 67), .ref (z + 68), .ref (z + 69), .ref (z + 70), .ref (z + 71), .int (nI ln), .ref (z + 72), .ref (z + 73), .ref (z + 74), .ref (z + 75), .int pt, .int rm, .int rh, .ref (z + 76), .ref (z + 77), .ref (z + 78), .ref (z + 79), .ref (z + 80), .int (nI u), .int (nI w), .ref (z + 81), .int (nI rn), .ref (z + 82), .ref (z + 83)]) → (∀ x9, x9 ≠ 63 → Ek x9 = E x9) → ∀ (H : Heap) (locs : List Loc), qh_H G z M Ek sZ.heap H locs → ∀ ls : Array Slot, lv_has ls 5 [(0, .ref (z + 63)), (1, .int (nI s)), (3, .int (nI j - 1))] → W pZ l eZ RR sZ mZ aZ bZ tZ cZ H locs 0 0 QQ (F0 mZ 52 ls []) := by
              intro fu_52
              induction fu_52 with
              | zero =>
                intro j u w hj hsp hfuel
                exact absurd hfuel (by omega)
              | succ fu_52 ih_52 =>
                intro j u w hj hsp hfuel Ek h_63 hF H locs hH ls hl
                refine lv_iload_n hx hb dX9_findSpan_52 rfl (lv_at hl 2 rfl) ?_
                refine lv_if_lt (tgt := 113) hx hb dX9_findSpan_53 (by decide) (fun c_53 => ?_) (fun c_53 => ?_)
                · have hj0 : j = 0 := by
                    rcases Nat.eq_zero_or_pos j with w | w
                    · exact w
                    · rw [show nI j - 1 = nI (j - 1) from pk_sub (b := 1) w] at c_53; exact absurd c_53 (nI_nn (by omega))
                  rw [hj0, Nat.pow_zero, Nat.div_one] at hsp
                  refine lv_iconst (v := 1) hx hb dX9_findSpan_113 (by decide) ?_
                  exact hret dX9_findSpan_114 hH (Or.inr rfl) (⟨_, _, h_63, (by rw [hm, hsp]; exact ⟨rfl, rfl, rfl⟩), (fun x9 a0 => hF x9 a0)⟩)
                · have hj1 : 1 ≤ j := by
                    rcases Nat.eq_zero_or_pos j with w | w
                    · rw [w] at c_53; exact absurd (by decide) c_53
                    · exact w
                  have ej : nI j - 1 = nI (j - 1) := pk_sub (b := 1) hj1
                  have hl : lv_has ls 5 [(0, .ref (z + 63)), (1, .int (nI s)), (3, .int (nI (j - 1)))] := by rw [← ej]; exact hl
                  have hr := sp_step hs31 hj1 hsp
                  have hp1 := sp_pos hj1 hsp
                  have huw := sp_bd hn16 hsp
                  have hsj : s / 2 ^ (j - 1) < 2 ^ 31 := Nat.lt_of_le_of_lt (Nat.div_le_self ..) hs31
                  refine lv_aload_n hx hb dX9_findSpan_56 rfl (lv_at hl 0 rfl) ?_
                  refine qh_get hx hb hH f_211 (by omega) h_63 rfl dX9_findSpan_57 ?_
                  refine lv_aload_n hx hb dX9_findSpan_60 rfl (lv_at hl 0 rfl) ?_
                  refine qh_get hx hb hH f_214 (by omega) h_63 rfl dX9_findSpan_61 ?_
                  refine lv_icmp_ne (tgt := 69) hx hb dX9_findSpan_64 (by decide) (fun c_64 => ?_) (fun c_64 => ?_)
                  · have huw2 : ¬ u = w := fun q => c_64 (by rw [q])
                    refine lv_aload_n hx hb dX9_findSpan_69 rfl (lv_at hl 0 rfl) ?_
                    refine qh_get hx hb hH f_211 (by omega) h_63 rfl dX9_findSpan_70 ?_
                    refine lv_aload_n hx hb dX9_findSpan_73 rfl (lv_at hl 0 rfl) ?_
                    refine qh_get hx hb hH f_214 (by omega) h_63 rfl dX9_findSpan_74 ?_
                    refine lv_iadd hx hb dX9_findSpan_77 ?_
                    refine qh_topi (y := nI (u + w)) (nI_add u w) ?_
                    refine lv_iconst (v := 2) hx hb dX9_findSpan_78 (by decide) ?_
                    refine lv_idiv hx hb dX9_findSpan_79 (by decide) ?_
                    refine qh_topi (y := nI ((u + w) / 2)) (pk_div (d := 2) (by omega) (by decide) (by decide)) ?_
                    refine lv_istore (lv' := [(4, .int (nI ((u + w) / 2))), (0, .ref (z + 63)), (1, .int (nI s)), (3, .int (nI (j - 1)))]) hx hb dX9_findSpan_80 hl (by decide) rfl (fun ls hl => ?_)
                    refine lv_iload_n hx hb dX9_findSpan_82 rfl (lv_at hl 2 rfl) ?_
                    refine lv_iload_n hx hb dX9_findSpan_83 rfl (lv_at hl 3 rfl) ?_
                    refine lv_ishr hx hb dX9_findSpan_84 ?_
                    refine qh_topi (y := nI (s / 2 ^ (j - 1))) (pk_shrN hs31 _ (j - 1) (sh_k (by omega))) ?_
                    refine lv_iconst (v := 1) hx hb dX9_findSpan_85 (by decide) ?_
                    refine lv_iand hx hb dX9_findSpan_86 ?_
                    refine qh_topi (y := nI (s / 2 ^ (j - 1) % 2)) (pk_andN (by omega) 1 (by decide)) ?_
                    refine lv_if_ne (tgt := 99) hx hb dX9_findSpan_87 (by decide) (fun c_87 => ?_) (fun c_87 => ?_)
                    · have hb2 : ¬ s / 2 ^ (j - 1) % 2 = 0 := fun q => c_87 (by rw [q]; rfl)
                      have hod : spN n (s / 2 ^ (j - 1)) = some ((u + w) / 2 + 1, w) := by rw [hr, spSt, if_neg (by omega), if_neg hb2]
                      refine lv_aload_n hx hb dX9_findSpan_99 rfl (lv_at hl 1 rfl) ?_
                      refine lv_iload hx hb dX9_findSpan_100 (lv_at hl 0 rfl) ?_
                      refine lv_iconst (v := 1) hx hb dX9_findSpan_102 (by decide) ?_
                      refine lv_iadd hx hb dX9_findSpan_103 ?_
                      refine qh_topi (y := nI ((u + w) / 2 + 1)) (nI_1 _) ?_
                      refine qh_put (fs' := [.int fa, .int tm, .ref (z + 64), .ref (z + 65), .ref (z + 66), .int (nI n), .int (nI m2), .ref (z + 67), .ref (z + 68), .ref (z + 69), .ref (z + 70), .ref (z + 71), .int (nI ln), .ref (z + 72), .ref (z + 73), .ref (z + 74), .ref (z + 75), .int pt, .int rm, .int rh, .ref (z + 76), .ref (z + 77), .ref (z + 78), .ref (z + 79), .ref (z + 80), .int (nI ((u + w) / 2 + 1)), .int (nI w), .ref (z + 81), .int (nI rn), .ref (z + 82), .ref (z + 83)]) hx hb hH w_211 (by omega) h_63 rfl rfl (Nat.le_of_ble_eq_true rfl) rfl dX9_findSpan_104 (fun E_3 H locs h_63 hfr hH _ => ?_)
                      have hF : ∀ x9, x9 ≠ 63 → E_3 x9 = E x9 := fun x9 a0 => (hfr x9 a0).trans (hF x9 a0)
                      refine lv_iinc (v := nI (j - 1) - 1) (lv' := [(3, .int (nI (j - 1) - 1)), (4, .int (nI ((u + w) / 2))), (0, .ref (z + 63)), (1, .int (nI s))]) hx hb dX9_findSpan_107 hl (k := 3) rfl (dec_1 _) (by decide) rfl (fun ls hl => ?_)
                      refine lv_goto (tgt := 52) hx hb dX9_findSpan_110 (by decide) ?_
                      exact ih_52 (j - 1) (((u + w) / 2) + 1) w (by omega) hod (by omega) E_3 h_63 (fun x9 a0 => hF x9 a0) _ _ hH ls (lv_sub hl [2, 3, 0] rfl)
                    · have hb2 : s / 2 ^ (j - 1) % 2 = 0 := (nI_eq (b := 0) (by omega) (by decide)).mp c_87
                      have hev : spN n (s / 2 ^ (j - 1)) = some (u, (u + w) / 2) := by rw [hr, spSt, if_neg (by omega), if_pos hb2]
                      refine lv_aload_n hx hb dX9_findSpan_90 rfl (lv_at hl 1 rfl) ?_
                      refine lv_iload hx hb dX9_findSpan_91 (lv_at hl 0 rfl) ?_
                      refine qh_put (fs' := [.int fa, .int tm, .ref (z + 64), .ref (z + 65), .ref (z + 66), .int (nI n), .int (nI m2), .ref (z + 67), .ref (z + 68), .ref (z + 69), .ref (z + 70), .ref (z + 71), .int (nI ln), .ref (z + 72), .ref (z + 73), .ref (z + 74), .ref (z + 75), .int pt, .int rm, .int rh, .ref (z + 76), .ref (z + 77), .ref (z + 78), .ref (z + 79), .ref (z + 80), .int (nI u), .int (nI ((u + w) / 2)), .ref (z + 81), .int (nI rn), .ref (z + 82), .ref (z + 83)]) hx hb hH w_214 (by omega) h_63 rfl rfl (Nat.le_of_ble_eq_true rfl) rfl dX9_findSpan_93 (fun E_4 H locs h_63 hfr hH _ => ?_)
                      have hF : ∀ x9, x9 ≠ 63 → E_4 x9 = E x9 := fun x9 a0 => (hfr x9 a0).trans (hF x9 a0)
                      refine lv_goto (tgt := 107) hx hb dX9_findSpan_96 (by decide) ?_
                      refine lv_iinc (v := nI (j - 1) - 1) (lv' := [(3, .int (nI (j - 1) - 1)), (4, .int (nI ((u + w) / 2))), (0, .ref (z + 63)), (1, .int (nI s))]) hx hb dX9_findSpan_107 hl (k := 3) rfl (dec_1 _) (by decide) rfl (fun ls hl => ?_)
                      refine lv_goto (tgt := 52) hx hb dX9_findSpan_110 (by decide) ?_
                      exact ih_52 (j - 1) u ((u + w) / 2) (by omega) hev (by omega) E_4 h_63 (fun x9 a0 => hF x9 a0) _ _ hH ls (lv_sub hl [2, 3, 0] rfl)
                  · have huw2 : u = w := (nI_eq (by omega) (by omega)).mp c_64
                    have hno : spN n s = none := sp_dn hs31 hp1 (by rw [hr, spSt, if_pos (by omega)])
                    refine lv_iconst (v := 0) hx hb dX9_findSpan_67 (by decide) ?_
                    exact hret dX9_findSpan_68 hH (Or.inl rfl) (⟨_, _, h_63, (by rw [hm, hno]), (fun x9 a0 => hF x9 a0)⟩)
            exact L_52 32 k 0 (n - 1) hk31 (by rw [hk1e]; exact sp_1 (by omega)) (by omega) E_2 h_63 (fun x9 a0 => hF x9 a0) _ _ hH ls (lv_sub hl [1, 2, 0] rfl)
          · have hk2 : 1 ≤ s / 2 ^ (k + 1) := by
              have h9 : ¬ s / 2 ^ k ≤ 1 := fun w => c_20 (nI_le w (by decide))
              rw [Nat.pow_succ, ← Nat.div_div_eq_div_mul]
              omega
            have hk3 : k + 1 < 31 := sh_lt hs31 hk2
            refine lv_iinc (v := nI (k + 1)) (lv' := [(2, .int (nI (k + 1))), (0, .ref (z + 63)), (1, .int (nI s)), (3, .int (nI (s / 2 ^ k)))]) hx hb dX9_findSpan_23 hl (k := 2) rfl (qn_inc k) (by decide) rfl (fun ls hl => ?_)
            refine lv_iload_n hx hb dX9_findSpan_26 rfl (lv_at hl 3 rfl) ?_
            refine lv_iconst (v := 1) hx hb dX9_findSpan_27 (by decide) ?_
            refine lv_ishr hx hb dX9_findSpan_28 ?_
            refine qh_topi (y := nI (s / 2 ^ (k + 1))) (sh_1 hs31) ?_
            refine lv_istore_n (lv' := [(3, .int (nI (s / 2 ^ (k + 1)))), (2, .int (nI (k + 1))), (0, .ref (z + 63)), (1, .int (nI s))]) hx hb dX9_findSpan_29 rfl hl (by decide) rfl (fun ls hl => ?_)
            refine lv_goto (tgt := 18) hx hb dX9_findSpan_30 (by decide) ?_
            exact ih_18 (k + 1) hk2 hk3 (by omega) _ _ hH ls (lv_sub hl [2, 3, 1, 0] rfl)
      exact L_18 32 0 (by rw [Nat.pow_zero, Nat.div_one]; exact hs1) (by decide) (by omega) _ _ hH ls (lv_sub hl [2, 3, 1, 0] rfl)
    · have hn0 : n = 0 := (nI_eq (b := 0) (by omega) (by decide)).mp c_9
      have hm : spM n x = none := by rw [spM, if_neg c_2, hn0]; exact sp_z ..
      refine lv_iconst (v := 0) hx hb dX9_findSpan_12 (by decide) ?_
      exact hret dX9_findSpan_13 hH (Or.inl rfl) (⟨_, _, b_63, (by rw [hm]), (fun x9 a0 => rfl)⟩)
