theorem any_more {f : Nat → Int64} {x : Int64} {a u q : Nat} (h : u ≤ q) (hu : anyR f x a u = true) : anyR f x a q = true := by
  induction q with
  | zero =>
    rw [show u = 0 by omega] at hu
    exact hu
  | succ q ih =>
    rcases Nat.lt_or_ge u (q + 1) with w | w
    · rw [anyR, ih (by omega)]
      rfl
    · rw [show q + 1 = u by omega]
      exact hu
theorem okS_lt {t : Int32} (h : t < 3) : ¬ (t = 3 ∨ t = 4) := by
  rw [i32_lt] at h
  rintro (rfl | rfl)
  · exact absurd h (by decide)
  · exact absurd h (by decide)
theorem okS_ge {t : Int32} (h : okS t) (h3 : ¬ t < 3) : t = 3 ∨ t = 4 := by
  have h4 := h.2
  rw [i32_lt] at h3 h4
  rw [i32_eq, i32_eq]
  have e3 : (3 : Int32).toInt = 3 := rfl
  have e4 : (4 : Int32).toInt = 4 := rfl
  omega
theorem okS_012 {t : Int32} (h : okS t) (h3 : t < 3) : t = 0 ∨ t = 1 ∨ t = 2 := by
  have h0 := h.1
  rw [i32_lt] at h3 h0
  rw [i32_eq, i32_eq, i32_eq]
  have e0 : (0 : Int32).toInt = 0 := rfl
  have e1 : (1 : Int32).toInt = 1 := rfl
  have e2 : (2 : Int32).toInt = 2 := rfl
  have e3 : (3 : Int32).toInt = 3 := rfl
  omega
theorem chM_lo {t : Int32} {m2 : Nat} {kd pa : Nat → Int32} {v : Int64} (h : okS t) (h3 : t < 3) (x : Int64) : chgM x t v = chg x t (amt t m2 kd pa v) := by
  have e : amt t m2 kd pa v = v := by
    rw [amt, if_neg (fun w => okS_lt h3 (Or.inl w)), if_neg (fun w => okS_lt h3 (Or.inr w))]
  rw [e]
  rcases okS_012 h h3 with rfl | rfl | rfl <;> rfl
theorem stM_stv {k p : Int32} (h : k = 0 ∨ k = 1 ∨ k = 2) : stM k p = stv k p := by
  rcases h with rfl | rfl | rfl <;> rfl
theorem strg_lN {m2 j : Nat} {kd pa : Nat → Int32} (hj : j < m2) (hm : m2 ≤ 3) : strg m2 kd pa (lN j) = stv (kd j) (pa j) := by
  rw [strg, if_pos (lN_has hj (by omega)), lN_i, nI_clamp (by omega)]
theorem chM_3 {t : Int32} {m2 j : Nat} {kd pa : Nat → Int32} {v : Int64} (h : t = 3) (ej : v = lN j) (hj : j < m2) (hm : m2 ≤ 3) (hk : kd j = 0 ∨ kd j = 1 ∨ kd j = 2) (x : Int64) : chgM x 0 (stM (kd j) (pa j)).toInt64 = chg x t (amt t m2 kd pa v) := by
  subst h
  rw [ej, stM_stv hk, ← strg_lN hj hm]
  rfl
theorem chM_4 {t : Int32} {m2 j : Nat} {kd pa : Nat → Int32} {v : Int64} (h : t = 4) (ej : v = lN j) (hj : j < m2) (hm : m2 ≤ 3) (hk : kd j = 0 ∨ kd j = 1 ∨ kd j = 2) (x : Int64) : chgM x 0 (-stM (kd j) (pa j)).toInt64 = chg x t (amt t m2 kd pa v) := by
  subst h
  rw [ej, stM_stv hk, ← strg_lN hj hm]
  rfl
def refV (n ln : Nat) (x y : Int32) (v : Int64) : Int32 := match actD n ln x y v with
  | none => 0
  | some q => q
theorem refV_1 {n ln : Nat} {x y : Int32} {v : Int64} (h : ¬ ((¬ x < 0 ∧ x < nI n) ∧ (¬ y < 0 ∧ y < nI n))) : refV n ln x y v = -1 := by
  have e : rfR n x y = -1 := if_neg h
  have e2 : rmR n x y v = -1 := by rw [rmR, e, if_neg (by decide)]
  rw [refV, actD, e2, if_neg (by decide)]
theorem refV_2a {n ln : Nat} {x y : Int32} {v : Int64} (h1 : ¬ x < 0 ∧ x < nI n) (h2 : ¬ y < 0 ∧ y < nI n) (h : y < x) : refV n ln x y v = -2 := by
  have e : rfR n x y = -2 := by rw [rfR, if_pos ⟨h1, h2⟩, if_pos h]
  have e2 : rmR n x y v = -2 := by rw [rmR, e, if_neg (by decide)]
  rw [refV, actD, e2, if_neg (by decide)]
theorem refV_2b {n ln : Nat} {x y : Int32} {v : Int64} (h1 : ¬ x < 0 ∧ x < nI n) (h2 : ¬ y < 0 ∧ y < nI n) (h : ¬ y < x) (hv : ¬ (¬ v < -1000000000000 ∧ ¬ 1000000000000 < v)) : refV n ln x y v = -2 := by
  have e : rfR n x y = 0 := by rw [rfR, if_pos ⟨h1, h2⟩, if_neg h]
  have e2 : rmR n x y v = -2 := by
    rw [rmR, if_pos e, if_pos]
    by_cases w : v < -1000000000000
    · exact Or.inl w
    · by_cases w2 : 1000000000000 < v
      · exact Or.inr w2
      · exact absurd ⟨w, w2⟩ hv
  rw [refV, actD, e2, if_neg (by decide)]
theorem refV_z {n : Nat} {x y : Int32} {v : Int64} (h1 : ¬ x < 0 ∧ x < nI n) (h2 : ¬ y < 0 ∧ y < nI n) (h : ¬ y < x) (hv : ¬ v < -1000000000000 ∧ ¬ 1000000000000 < v) : rmR n x y v = 0 := by
  have e : rfR n x y = 0 := by rw [rfR, if_pos ⟨h1, h2⟩, if_neg h]
  rw [rmR, if_pos e, if_neg (fun w => w.elim hv.1 hv.2)]
theorem refV_4 {n ln : Nat} {x y : Int32} {v : Int64} (h1 : ¬ x < 0 ∧ x < nI n) (h2 : ¬ y < 0 ∧ y < nI n) (h : ¬ y < x) (hv : ¬ v < -1000000000000 ∧ ¬ 1000000000000 < v) (hl : ln = 24) : refV n ln x y v = -4 := by
  rw [refV, actD, if_pos (refV_z h1 h2 h hv), if_neg (by omega)]
theorem refV_0 {n ln : Nat} {x y : Int32} {v : Int64} (h1 : ¬ x < 0 ∧ x < nI n) (h2 : ¬ y < 0 ∧ y < nI n) (h : ¬ y < x) (hv : ¬ v < -1000000000000 ∧ ¬ 1000000000000 < v) (hl : ¬ ln = 24) (hl2 : ln ≤ 24) : refV n ln x y v = 0 := by
  rw [refV, actD, if_pos (refV_z h1 h2 h hv), if_pos (by omega)]
set_option maxHeartbeats 1000000 in
set_option maxRecDepth 100000 in
theorem c_X9_unlikeIn (l : Launch) (G : qh_G) (z M : Nat) (E : Nat → va_E) (fa : Int32) (tm : Int32) (n : Nat) (m2 : Nat) (ln : Nat) (pt : Int32) (rm : Int32) (rh : Int32) (sf : Int32) (sl : Int32) (rn : Nat) (hM : 84 ≤ M) (b_63 : E 63 = .inr (9, [.int fa, .int tm, .ref (z + 64), .ref (z + 65), .ref (z + 66), .int (nI n), .int (nI m2), .ref (z + 67), .ref (z + 68), .ref (z + 69), .ref (z + 70), .ref (z + 71), .int (nI ln), .ref (z + 72), .ref (z + 73), .ref (z + 74), .ref (z + 75), .int pt, .int rm, .int rh, .ref (z + 76), .ref (z + 77), .ref (z + 78), .ref (z + 79), .ref (z + 80), .int sf, .int sl, .ref (z + 81), .int (nI rn), .ref (z + 82), .ref (z + 83)])) (a : Nat) (b : Nat) (f : Nat → Int64) (hab : a ≤ b ∧ b < 16) (b_67 : E 67 = qa_J G 16 f) : Met l yX9_unlikeIn wsX9_unlikeIn (qh_R 0) (qh_Pre G z M E [.ref (z + 63), .int (nI a), .int (nI b)]) (qh_Q G z M (qh_i (fun r E' => E = E' ∧ r = nI (unlR f a (b + 1 - a))))) 0 0 (fun q => z ≤ q) := by
  refine qh_metI (cc := cX9_unlikeIn) (maxL := 7) (by decide) rfl (Nat.le_of_ble_eq_true rfl) ?_
  intro pZ eZ sZ mZ aZ bZ tZ cZ RR QQ ls hx hb hml hown hts hRf hRl hH hK hl hret
  have hown : sZ.vm.findClass RX9 = some mZ.cls := hown
  have hl : lv_has ls 7 [(0, .ref (z + 63)), (1, .int (nI a)), (2, .int (nI b))] := hl
  have in_X9 : ∀ w ∈ wsX90, w ∈ wsX9_unlikeIn := fun w h => List.mem_cons_of_mem _ (List.mem_append_right _ h)
  have f_19 : qh_F G sZ mZ aZ 19 9 7 := qh_F.of hts in_X9 hown hK rfl 7 (by decide) (by decide +kernel)
  refine lv_iconst (v := 0) hx hb dX9_unlikeIn_0 (by decide) ?_
  refine lv_istore_n (lv' := [(3, .int 0), (0, .ref (z + 63)), (1, .int (nI a)), (2, .int (nI b))]) hx hb dX9_unlikeIn_1 rfl hl (by decide) rfl (fun ls hl => ?_)
  refine lv_iload_n hx hb dX9_unlikeIn_2 rfl (lv_at hl 2 rfl) ?_
  refine lv_istore (lv' := [(4, .int (nI a)), (3, .int 0), (0, .ref (z + 63)), (1, .int (nI a)), (2, .int (nI b))]) hx hb dX9_unlikeIn_3 hl (by decide) rfl (fun ls hl => ?_)
  have L_5 : ∀ fu_5 : Nat, ∀ q : Nat, (q ≤ b + 1 - a) → (b + 1 - a - q < fu_5) → ∀ (H : Heap) (locs : List Loc), qh_H G z M E sZ.heap H locs → ∀ ls : Array Slot, lv_has ls 7 [(0, .ref (z + 63)), (1, .int (nI a)), (2, .int (nI b)), (3, .int (nI (cntR (fun k => !anyR f (f k) a (k - a)) a q))), (4, .int (nI (a + q)))] → W pZ l eZ RR sZ mZ aZ bZ tZ cZ H locs 0 0 QQ (F0 mZ 5 ls []) := by
    intro fu_5
    induction fu_5 with
    | zero =>
      intro q hq hfuel
      exact absurd hfuel (by omega)
    | succ fu_5 ih_5 =>
      intro q hq hfuel H locs hH ls hl
      refine lv_iload hx hb dX9_unlikeIn_5 (lv_at hl 4 rfl) ?_
      refine lv_iload_n hx hb dX9_unlikeIn_7 rfl (lv_at hl 2 rfl) ?_
      refine lv_icmp_gt (tgt := 79) hx hb dX9_unlikeIn_8 (by decide) (fun c_8 => ?_) (fun c_8 => ?_)
      · have hk : b < a + q := (nI_ltI (by omega) (by omega)).mp c_8
        have hex : b + 1 - a = q := by omega
        subst hex
        refine lv_iload_n hx hb dX9_unlikeIn_79 rfl (lv_at hl 3 rfl) ?_
        exact hret dX9_unlikeIn_80 hH (⟨rfl, rfl⟩)
      · have hk : ¬ b < a + q := fun w => c_8 (nI_lt w (by omega))
        refine lv_iconst (v := 1) hx hb dX9_unlikeIn_11 (by decide) ?_
        refine lv_istore (lv' := [(5, .int 1), (0, .ref (z + 63)), (1, .int (nI a)), (2, .int (nI b)), (3, .int (nI (cntR (fun k => !anyR f (f k) a (k - a)) a q))), (4, .int (nI (a + q)))]) hx hb dX9_unlikeIn_12 hl (by decide) rfl (fun ls hl => ?_)
        refine lv_iload_n hx hb dX9_unlikeIn_14 rfl (lv_at hl 2 rfl) ?_
        refine lv_istore (lv' := [(6, .int (nI a)), (5, .int 1), (0, .ref (z + 63)), (1, .int (nI a)), (2, .int (nI b)), (3, .int (nI (cntR (fun k => !anyR f (f k) a (k - a)) a q))), (4, .int (nI (a + q)))]) hx hb dX9_unlikeIn_15 hl (by decide) rfl (fun ls hl => ?_)
        have L_17 : ∀ fu_17 : Nat, ∀ u : Nat, (u ≤ q) → (q - u < fu_17) → ∀ (H : Heap) (locs : List Loc), qh_H G z M E sZ.heap H locs → ∀ ls : Array Slot, lv_has ls 7 [(0, .ref (z + 63)), (1, .int (nI a)), (2, .int (nI b)), (3, .int (nI (cntR (fun k => !anyR f (f k) a (k - a)) a q))), (4, .int (nI (a + q))), (5, .int (bI (¬ anyR f (f (a + q)) a u = true))), (6, .int (nI (a + u)))] → W pZ l eZ RR sZ mZ aZ bZ tZ cZ H locs 0 0 QQ (F0 mZ 17 ls []) := by
          intro fu_17
          induction fu_17 with
          | zero =>
            intro u hu hfuel
            exact absurd hfuel (by omega)
          | succ fu_17 ih_17 =>
            intro u hu hfuel H locs hH ls hl
            refine lv_iload hx hb dX9_unlikeIn_17 (lv_at hl 6 rfl) ?_
            refine lv_iload hx hb dX9_unlikeIn_19 (lv_at hl 4 rfl) ?_
            refine lv_icmp_ge (tgt := 60) hx hb dX9_unlikeIn_21 (by decide) (fun c_21 => ?_) (fun c_21 => ?_)
            · have hk2 : q ≤ u := by
                have h21 : a + q ≤ a + u := (nI_leI (by omega) (by omega)).mp c_21
                omega
              have hany : anyR f (f (a + q)) a u = anyR f (f (a + q)) a q := by rw [show u = q by omega]
              refine lv_iload_n hx hb dX9_unlikeIn_60 rfl (lv_at hl 3 rfl) ?_
              refine lv_iload hx hb dX9_unlikeIn_61 (lv_at hl 5 rfl) ?_
              refine lv_if_eq (tgt := 70) hx hb dX9_unlikeIn_63 (by decide) (fun c_63 => ?_) (fun c_63 => ?_)
              · have c_63 := bI_eq.mp c_63
                refine lv_iconst (v := 0) hx hb dX9_unlikeIn_70 (by decide) ?_
                refine lv_iadd hx hb dX9_unlikeIn_71 ?_
                refine qh_topi (y := nI (cntR (fun k => !anyR f (f k) a (k - a)) a q)) (Int32.add_zero _) ?_
                refine lv_istore_n (lv' := [(3, .int (nI (cntR (fun k => !anyR f (f k) a (k - a)) a q))), (0, .ref (z + 63)), (1, .int (nI a)), (2, .int (nI b)), (4, .int (nI (a + q))), (5, .int (bI (¬ anyR f (f (a + q)) a u = true))), (6, .int (nI (a + u)))]) hx hb dX9_unlikeIn_72 rfl hl (by decide) rfl (fun ls hl => ?_)
                refine lv_iinc (v := nI ((a + q) + 1)) (lv' := [(4, .int (nI ((a + q) + 1))), (3, .int (nI (cntR (fun k => !anyR f (f k) a (k - a)) a q))), (0, .ref (z + 63)), (1, .int (nI a)), (2, .int (nI b)), (5, .int (bI (¬ anyR f (f (a + q)) a u = true))), (6, .int (nI (a + u)))]) hx hb dX9_unlikeIn_73 hl (k := 4) rfl (qn_inc (a + q)) (by decide) rfl (fun ls hl => ?_)
                refine lv_goto (tgt := 5) hx hb dX9_unlikeIn_76 (by decide) ?_
                rw [← cnt_n (q := (fun k => !anyR f (f k) a (k - a))) (by rw [Nat.add_sub_cancel_left, ← hany]; simp [Decidable.not_not.mp c_63])] at hl
                exact ih_5 (q + 1) (by omega) (by omega) _ _ hH ls (lv_sub hl [2, 3, 4, 1, 0] rfl)
              · have c_63 := bI_ne.mp c_63
                refine lv_iconst (v := 1) hx hb dX9_unlikeIn_66 (by decide) ?_
                refine lv_goto (tgt := 71) hx hb dX9_unlikeIn_67 (by decide) ?_
                refine lv_iadd hx hb dX9_unlikeIn_71 ?_
                refine qh_topi (y := nI (cntR (fun k => !anyR f (f k) a (k - a)) a q + 1)) (nI_1 _) ?_
                refine lv_istore_n (lv' := [(3, .int (nI (cntR (fun k => !anyR f (f k) a (k - a)) a q + 1))), (0, .ref (z + 63)), (1, .int (nI a)), (2, .int (nI b)), (4, .int (nI (a + q))), (5, .int (bI (¬ anyR f (f (a + q)) a u = true))), (6, .int (nI (a + u)))]) hx hb dX9_unlikeIn_72 rfl hl (by decide) rfl (fun ls hl => ?_)
                refine lv_iinc (v := nI ((a + q) + 1)) (lv' := [(4, .int (nI ((a + q) + 1))), (3, .int (nI (cntR (fun k => !anyR f (f k) a (k - a)) a q + 1))), (0, .ref (z + 63)), (1, .int (nI a)), (2, .int (nI b)), (5, .int (bI (¬ anyR f (f (a + q)) a u = true))), (6, .int (nI (a + u)))]) hx hb dX9_unlikeIn_73 hl (k := 4) rfl (qn_inc (a + q)) (by decide) rfl (fun ls hl => ?_)
                refine lv_goto (tgt := 5) hx hb dX9_unlikeIn_76 (by decide) ?_
                rw [← cnt_y (q := (fun k => !anyR f (f k) a (k - a))) (by rw [Nat.add_sub_cancel_left, ← hany]; simp [c_63])] at hl
                exact ih_5 (q + 1) (by omega) (by omega) _ _ hH ls (lv_sub hl [2, 3, 4, 1, 0] rfl)
            · have hk2 : ¬ a + q ≤ a + u := fun w => c_21 (nI_le w (by omega))
              refine lv_iload hx hb dX9_unlikeIn_24 (lv_at hl 5 rfl) ?_
              refine lv_if_eq (tgt := 60) hx hb dX9_unlikeIn_26 (by decide) (fun c_26 => ?_) (fun c_26 => ?_)
              · have c_26 := bI_eq.mp c_26
                have hany : anyR f (f (a + q)) a u = anyR f (f (a + q)) a q := by rw [Decidable.not_not.mp c_26, any_more hu (Decidable.not_not.mp c_26)]
                refine lv_iload_n hx hb dX9_unlikeIn_60 rfl (lv_at hl 3 rfl) ?_
                refine lv_iload hx hb dX9_unlikeIn_61 (lv_at hl 5 rfl) ?_
                refine lv_if_eq (tgt := 70) hx hb dX9_unlikeIn_63 (by decide) (fun c_63 => ?_) (fun c_63 => ?_)
                · have c_63 := bI_eq.mp c_63
                  refine lv_iconst (v := 0) hx hb dX9_unlikeIn_70 (by decide) ?_
                  refine lv_iadd hx hb dX9_unlikeIn_71 ?_
                  refine qh_topi (y := nI (cntR (fun k => !anyR f (f k) a (k - a)) a q)) (Int32.add_zero _) ?_
                  refine lv_istore_n (lv' := [(3, .int (nI (cntR (fun k => !anyR f (f k) a (k - a)) a q))), (0, .ref (z + 63)), (1, .int (nI a)), (2, .int (nI b)), (4, .int (nI (a + q))), (5, .int (bI (¬ anyR f (f (a + q)) a u = true))), (6, .int (nI (a + u)))]) hx hb dX9_unlikeIn_72 rfl hl (by decide) rfl (fun ls hl => ?_)
                  refine lv_iinc (v := nI ((a + q) + 1)) (lv' := [(4, .int (nI ((a + q) + 1))), (3, .int (nI (cntR (fun k => !anyR f (f k) a (k - a)) a q))), (0, .ref (z + 63)), (1, .int (nI a)), (2, .int (nI b)), (5, .int (bI (¬ anyR f (f (a + q)) a u = true))), (6, .int (nI (a + u)))]) hx hb dX9_unlikeIn_73 hl (k := 4) rfl (qn_inc (a + q)) (by decide) rfl (fun ls hl => ?_)
                  refine lv_goto (tgt := 5) hx hb dX9_unlikeIn_76 (by decide) ?_
                  rw [← cnt_n (q := (fun k => !anyR f (f k) a (k - a))) (by rw [Nat.add_sub_cancel_left, ← hany]; simp [Decidable.not_not.mp c_63])] at hl
                  exact ih_5 (q + 1) (by omega) (by omega) _ _ hH ls (lv_sub hl [2, 3, 4, 1, 0] rfl)
                · have c_63 := bI_ne.mp c_63
                  refine lv_iconst (v := 1) hx hb dX9_unlikeIn_66 (by decide) ?_
                  refine lv_goto (tgt := 71) hx hb dX9_unlikeIn_67 (by decide) ?_
                  refine lv_iadd hx hb dX9_unlikeIn_71 ?_
                  refine qh_topi (y := nI (cntR (fun k => !anyR f (f k) a (k - a)) a q + 1)) (nI_1 _) ?_
                  refine lv_istore_n (lv' := [(3, .int (nI (cntR (fun k => !anyR f (f k) a (k - a)) a q + 1))), (0, .ref (z + 63)), (1, .int (nI a)), (2, .int (nI b)), (4, .int (nI (a + q))), (5, .int (bI (¬ anyR f (f (a + q)) a u = true))), (6, .int (nI (a + u)))]) hx hb dX9_unlikeIn_72 rfl hl (by decide) rfl (fun ls hl => ?_)
                  refine lv_iinc (v := nI ((a + q) + 1)) (lv' := [(4, .int (nI ((a + q) + 1))), (3, .int (nI (cntR (fun k => !anyR f (f k) a (k - a)) a q + 1))), (0, .ref (z + 63)), (1, .int (nI a)), (2, .int (nI b)), (5, .int (bI (¬ anyR f (f (a + q)) a u = true))), (6, .int (nI (a + u)))]) hx hb dX9_unlikeIn_73 hl (k := 4) rfl (qn_inc (a + q)) (by decide) rfl (fun ls hl => ?_)
                  refine lv_goto (tgt := 5) hx hb dX9_unlikeIn_76 (by decide) ?_
                  rw [← cnt_y (q := (fun k => !anyR f (f k) a (k - a))) (by rw [Nat.add_sub_cancel_left, ← hany]; simp [c_63])] at hl
                  exact ih_5 (q + 1) (by omega) (by omega) _ _ hH ls (lv_sub hl [2, 3, 4, 1, 0] rfl)
              · have c_26 := bI_ne.mp c_26
                refine lv_aload_n hx hb dX9_unlikeIn_29 rfl (lv_at hl 0 rfl) ?_
                refine qh_get hx hb hH f_19 (by omega) b_63 rfl dX9_unlikeIn_30 ?_
                refine lv_iload hx hb dX9_unlikeIn_33 (lv_at hl 6 rfl) ?_
                refine qh_lald hx hb hK hH (by omega) b_67 (j := a + u) (rfl) (by omega) (by omega) dX9_unlikeIn_35 ?_
                refine lv_aload_n hx hb dX9_unlikeIn_36 rfl (lv_at hl 0 rfl) ?_
                refine qh_get hx hb hH f_19 (by omega) b_63 rfl dX9_unlikeIn_37 ?_
                refine lv_iload hx hb dX9_unlikeIn_40 (lv_at hl 4 rfl) ?_
                refine qh_lald hx hb hK hH (by omega) b_67 (j := a + q) (rfl) (by omega) (by omega) dX9_unlikeIn_42 ?_
                refine W.lcmp hx hb dX9_unlikeIn_43 ?_
                refine lv_if_eq (tgt := 51) hx hb dX9_unlikeIn_44 (by decide) (fun c_44 => ?_) (fun c_44 => ?_)
                · have c_44 := (lg_cmp_eq _ _).mp c_44
                  refine lv_iconst (v := 0) hx hb dX9_unlikeIn_51 (by decide) ?_
                  refine lv_istore (lv' := [(5, .int 0), (0, .ref (z + 63)), (1, .int (nI a)), (2, .int (nI b)), (3, .int (nI (cntR (fun k => !anyR f (f k) a (k - a)) a q))), (4, .int (nI (a + q))), (6, .int (nI (a + u)))]) hx hb dX9_unlikeIn_52 hl (by decide) rfl (fun ls hl => ?_)
                  refine lv_iinc (v := nI ((a + u) + 1)) (lv' := [(6, .int (nI ((a + u) + 1))), (5, .int 0), (0, .ref (z + 63)), (1, .int (nI a)), (2, .int (nI b)), (3, .int (nI (cntR (fun k => !anyR f (f k) a (k - a)) a q))), (4, .int (nI (a + q)))]) hx hb dX9_unlikeIn_54 hl (k := 6) rfl (qn_inc (a + u)) (by decide) rfl (fun ls hl => ?_)
                  refine lv_goto (tgt := 17) hx hb dX9_unlikeIn_57 (by decide) ?_
                  rw [show (0 : Int32) = bI (¬ anyR f (f (a + q)) a (u + 1) = true) from bI_0 (fun w => w (by rw [anyR]; simp [c_44]))] at hl
                  exact ih_17 (u + 1) (by omega) (by omega) _ _ hH ls (lv_sub hl [2, 3, 4, 5, 6, 1, 0] rfl)
                · have c_44 := (lg_cmp_ne _ _).mp c_44
                  refine lv_iconst (v := 1) hx hb dX9_unlikeIn_47 (by decide) ?_
                  refine lv_goto (tgt := 52) hx hb dX9_unlikeIn_48 (by decide) ?_
                  refine lv_istore (lv' := [(5, .int 1), (0, .ref (z + 63)), (1, .int (nI a)), (2, .int (nI b)), (3, .int (nI (cntR (fun k => !anyR f (f k) a (k - a)) a q))), (4, .int (nI (a + q))), (6, .int (nI (a + u)))]) hx hb dX9_unlikeIn_52 hl (by decide) rfl (fun ls hl => ?_)
                  refine lv_iinc (v := nI ((a + u) + 1)) (lv' := [(6, .int (nI ((a + u) + 1))), (5, .int 1), (0, .ref (z + 63)), (1, .int (nI a)), (2, .int (nI b)), (3, .int (nI (cntR (fun k => !anyR f (f k) a (k - a)) a q))), (4, .int (nI (a + q)))]) hx hb dX9_unlikeIn_54 hl (k := 6) rfl (qn_inc (a + u)) (by decide) rfl (fun ls hl => ?_)
                  refine lv_goto (tgt := 17) hx hb dX9_unlikeIn_57 (by decide) ?_
                  rw [show (1 : Int32) = bI (¬ anyR f (f (a + q)) a (u + 1) = true) from bI_1 (by rw [anyR]; simp [c_44, c_26])] at hl
                  exact ih_17 (u + 1) (by omega) (by omega) _ _ hH ls (lv_sub hl [2, 3, 4, 5, 6, 1, 0] rfl)
        exact L_17 (q + 1) 0 (Nat.zero_le _) (by omega) _ _ hH ls (lv_sub hl [2, 3, 4, 5, 6, 1, 0] rfl)
  exact L_5 (b + 1 - a + 1) 0 (Nat.zero_le _) (by omega) _ _ hH ls (lv_sub hl [2, 3, 4, 1, 0] rfl)

set_option maxHeartbeats 1000000 in
set_option maxRecDepth 100000 in
theorem c_X9_actsOf (l : Launch) (G : qh_G) (z M : Nat) (E : Nat → va_E) (fa : Int32) (tm : Int32) (n : Nat) (m2 : Nat) (ln : Nat) (pt : Int32) (rm : Int32) (rh : Int32) (sf : Int32) (sl : Int32) (rn : Nat) (hM : 84 ≤ M) (b_63 : E 63 = .inr (9, [.int fa, .int tm, .ref (z + 64), .ref (z + 65), .ref (z + 66), .int (nI n), .int (nI m2), .ref (z + 67), .ref (z + 68), .ref (z + 69), .ref (z + 70), .ref (z + 71), .int (nI ln), .ref (z + 72), .ref (z + 73), .ref (z + 74), .ref (z + 75), .int pt, .int rm, .int rh, .ref (z + 76), .ref (z + 77), .ref (z + 78), .ref (z + 79), .ref (z + 80), .int sf, .int sl, .ref (z + 81), .int (nI rn), .ref (z + 82), .ref (z + 83)])) (ts : Nat → Int32) (ga : Nat → Nat) (gb : Nat → Nat) (va : Nat → Int64) (x : Int32) (hl2 : ln ≤ 24) (htt : ∀ t, t < ln → okS (ts t)) (b_72 : E 72 = qa_I G 24 ts) (b_75 : E 75 = qa_J G 24 va) : Met l yX9_actsOf wsX9_actsOf (qh_R 0) (qh_Pre G z M E [.ref (z + 63), .int x]) (qh_Q G z M (qh_i (fun r E' => E = E' ∧ r = nI (cntR (fun t => decide ((ts t = 3 ∨ ts t = 4) ∧ va t = x.toInt64)) 0 ln)))) 0 0 (fun q => z ≤ q) := by
  refine qh_metI (cc := cX9_actsOf) (maxL := 4) (by decide) rfl (Nat.le_of_ble_eq_true rfl) ?_
  intro pZ eZ sZ mZ aZ bZ tZ cZ RR QQ ls hx hb hml hown hts hRf hRl hH hK hl hret
  have hown : sZ.vm.findClass RX9 = some mZ.cls := hown
  have hl : lv_has ls 4 [(0, .ref (z + 63)), (1, .int x)] := hl
  have in_X9 : ∀ w ∈ wsX90, w ∈ wsX9_actsOf := fun w h => List.mem_cons_of_mem _ (List.mem_append_right _ h)
  have f_120 : qh_F G sZ mZ aZ 120 9 12 := qh_F.of hts in_X9 hown hK rfl 12 (by decide) (by decide +kernel)
  have f_35 : qh_F G sZ mZ aZ 35 9 13 := qh_F.of hts in_X9 hown hK rfl 13 (by decide) (by decide +kernel)
  have f_44 : qh_F G sZ mZ aZ 44 9 16 := qh_F.of hts in_X9 hown hK rfl 16 (by decide) (by decide +kernel)
  refine lv_iconst (v := 0) hx hb dX9_actsOf_0 (by decide) ?_
  refine lv_istore_n (lv' := [(2, .int 0), (0, .ref (z + 63)), (1, .int x)]) hx hb dX9_actsOf_1 rfl hl (by decide) rfl (fun ls hl => ?_)
  refine lv_iconst (v := 0) hx hb dX9_actsOf_2 (by decide) ?_
  refine lv_istore_n (lv' := [(3, .int 0), (2, .int 0), (0, .ref (z + 63)), (1, .int x)]) hx hb dX9_actsOf_3 rfl hl (by decide) rfl (fun ls hl => ?_)
  have L_4 : ∀ fu_4 : Nat, ∀ q : Nat, (q ≤ ln) → (ln - q < fu_4) → ∀ (H : Heap) (locs : List Loc), qh_H G z M E sZ.heap H locs → ∀ ls : Array Slot, lv_has ls 4 [(0, .ref (z + 63)), (1, .int x), (2, .int (nI (cntR (fun t => decide ((ts t = 3 ∨ ts t = 4) ∧ va t = x.toInt64)) 0 q))), (3, .int (nI q))] → W pZ l eZ RR sZ mZ aZ bZ tZ cZ H locs 0 0 QQ (F0 mZ 4 ls []) := by
    intro fu_4
    induction fu_4 with
    | zero =>
      intro q hq hfuel
      exact absurd hfuel (by omega)
    | succ fu_4 ih_4 =>
      intro q hq hfuel H locs hH ls hl
      refine lv_iload_n hx hb dX9_actsOf_4 rfl (lv_at hl 3 rfl) ?_
      refine lv_aload_n hx hb dX9_actsOf_5 rfl (lv_at hl 0 rfl) ?_
      refine qh_get hx hb hH f_120 (by omega) b_63 rfl dX9_actsOf_6 ?_
      refine lv_icmp_ge (tgt := 48) hx hb dX9_actsOf_9 (by decide) (fun c_9 => ?_) (fun c_9 => ?_)
      · have hk : ln ≤ q := (nI_leI (by omega) (by omega)).mp c_9
        have hex : ln = q := by omega
        subst hex
        refine lv_iload_n hx hb dX9_actsOf_48 rfl (lv_at hl 2 rfl) ?_
        exact hret dX9_actsOf_49 hH (⟨rfl, rfl⟩)
      · have hk : ¬ ln ≤ q := fun w => c_9 (nI_le w (by omega))
        refine lv_iload_n hx hb dX9_actsOf_12 rfl (lv_at hl 2 rfl) ?_
        refine lv_aload_n hx hb dX9_actsOf_13 rfl (lv_at hl 0 rfl) ?_
        refine qh_get hx hb hH f_35 (by omega) b_63 rfl dX9_actsOf_14 ?_
        refine lv_iload_n hx hb dX9_actsOf_17 rfl (lv_at hl 3 rfl) ?_
        refine qh_iald hx hb hK hH (by omega) b_72 (j := q) (rfl) (by omega) (by omega) dX9_actsOf_18 ?_
        refine lv_iconst (v := 3) hx hb dX9_actsOf_19 (by decide) ?_
        refine lv_icmp_lt (tgt := 39) hx hb dX9_actsOf_20 (by decide) (fun c_20 => ?_) (fun c_20 => ?_)
        · have h34 : ¬ (ts q = 3 ∨ ts q = 4) := okS_lt c_20
          refine lv_iconst (v := 0) hx hb dX9_actsOf_39 (by decide) ?_
          refine lv_iadd hx hb dX9_actsOf_40 ?_
          refine qh_topi (y := nI (cntR (fun t => decide ((ts t = 3 ∨ ts t = 4) ∧ va t = x.toInt64)) 0 q)) (Int32.add_zero _) ?_
          refine lv_istore_n (lv' := [(2, .int (nI (cntR (fun t => decide ((ts t = 3 ∨ ts t = 4) ∧ va t = x.toInt64)) 0 q))), (0, .ref (z + 63)), (1, .int x), (3, .int (nI q))]) hx hb dX9_actsOf_41 rfl hl (by decide) rfl (fun ls hl => ?_)
          refine lv_iinc (v := nI (q + 1)) (lv' := [(3, .int (nI (q + 1))), (2, .int (nI (cntR (fun t => decide ((ts t = 3 ∨ ts t = 4) ∧ va t = x.toInt64)) 0 q))), (0, .ref (z + 63)), (1, .int x)]) hx hb dX9_actsOf_42 hl (k := 3) rfl (qn_inc q) (by decide) rfl (fun ls hl => ?_)
          refine lv_goto (tgt := 4) hx hb dX9_actsOf_45 (by decide) ?_
          rw [← cnt0_n (q := (fun t => decide ((ts t = 3 ∨ ts t = 4) ∧ va t = x.toInt64))) (by simp [h34])] at hl
          exact ih_4 (q + 1) (by omega) (by omega) _ _ hH ls (lv_sub hl [2, 3, 1, 0] rfl)
        · have h34 : ts q = 3 ∨ ts q = 4 := okS_ge (htt q (by omega)) c_20
          refine lv_aload_n hx hb dX9_actsOf_23 rfl (lv_at hl 0 rfl) ?_
          refine qh_get hx hb hH f_44 (by omega) b_63 rfl dX9_actsOf_24 ?_
          refine lv_iload_n hx hb dX9_actsOf_27 rfl (lv_at hl 3 rfl) ?_
          refine qh_lald hx hb hK hH (by omega) b_75 (j := q) (rfl) (by omega) (by omega) dX9_actsOf_28 ?_
          refine lv_iload_n hx hb dX9_actsOf_29 rfl (lv_at hl 1 rfl) ?_
          refine lv_i2l (v := x.toInt64) hx hb dX9_actsOf_30 rfl ?_
          refine W.lcmp hx hb dX9_actsOf_31 ?_
          refine lv_if_ne (tgt := 39) hx hb dX9_actsOf_32 (by decide) (fun c_32 => ?_) (fun c_32 => ?_)
          · have c_32 := (lg_cmp_ne _ _).mp c_32
            refine lv_iconst (v := 0) hx hb dX9_actsOf_39 (by decide) ?_
            refine lv_iadd hx hb dX9_actsOf_40 ?_
            refine qh_topi (y := nI (cntR (fun t => decide ((ts t = 3 ∨ ts t = 4) ∧ va t = x.toInt64)) 0 q)) (Int32.add_zero _) ?_
            refine lv_istore_n (lv' := [(2, .int (nI (cntR (fun t => decide ((ts t = 3 ∨ ts t = 4) ∧ va t = x.toInt64)) 0 q))), (0, .ref (z + 63)), (1, .int x), (3, .int (nI q))]) hx hb dX9_actsOf_41 rfl hl (by decide) rfl (fun ls hl => ?_)
            refine lv_iinc (v := nI (q + 1)) (lv' := [(3, .int (nI (q + 1))), (2, .int (nI (cntR (fun t => decide ((ts t = 3 ∨ ts t = 4) ∧ va t = x.toInt64)) 0 q))), (0, .ref (z + 63)), (1, .int x)]) hx hb dX9_actsOf_42 hl (k := 3) rfl (qn_inc q) (by decide) rfl (fun ls hl => ?_)
            refine lv_goto (tgt := 4) hx hb dX9_actsOf_45 (by decide) ?_
            rw [← cnt0_n (q := (fun t => decide ((ts t = 3 ∨ ts t = 4) ∧ va t = x.toInt64))) (by simp [c_32])] at hl
            exact ih_4 (q + 1) (by omega) (by omega) _ _ hH ls (lv_sub hl [2, 3, 1, 0] rfl)
          · have c_32 := (lg_cmp_eq _ _).mp c_32
            refine lv_iconst (v := 1) hx hb dX9_actsOf_35 (by decide) ?_
            refine lv_goto (tgt := 40) hx hb dX9_actsOf_36 (by decide) ?_
            refine lv_iadd hx hb dX9_actsOf_40 ?_
            refine qh_topi (y := nI (cntR (fun t => decide ((ts t = 3 ∨ ts t = 4) ∧ va t = x.toInt64)) 0 q + 1)) (nI_1 _) ?_
            refine lv_istore_n (lv' := [(2, .int (nI (cntR (fun t => decide ((ts t = 3 ∨ ts t = 4) ∧ va t = x.toInt64)) 0 q + 1))), (0, .ref (z + 63)), (1, .int x), (3, .int (nI q))]) hx hb dX9_actsOf_41 rfl hl (by decide) rfl (fun ls hl => ?_)
            refine lv_iinc (v := nI (q + 1)) (lv' := [(3, .int (nI (q + 1))), (2, .int (nI (cntR (fun t => decide ((ts t = 3 ∨ ts t = 4) ∧ va t = x.toInt64)) 0 q + 1))), (0, .ref (z + 63)), (1, .int x)]) hx hb dX9_actsOf_42 hl (k := 3) rfl (qn_inc q) (by decide) rfl (fun ls hl => ?_)
            refine lv_goto (tgt := 4) hx hb dX9_actsOf_45 (by decide) ?_
            rw [← cnt0_y (q := (fun t => decide ((ts t = 3 ∨ ts t = 4) ∧ va t = x.toInt64))) (by simp [h34, c_32])] at hl
            exact ih_4 (q + 1) (by omega) (by omega) _ _ hH ls (lv_sub hl [2, 3, 1, 0] rfl)
  exact L_4 (ln + 1) 0 (Nat.zero_le _) (by omega) _ _ hH ls (lv_sub hl [2, 3, 1, 0] rfl)

set_option maxHeartbeats 1000000 in
set_option maxRecDepth 100000 in
theorem c_X9_does (l : Launch) (G : qh_G) (z M : Nat) (E : Nat → va_E) (fa : Int32) (tm : Int32) (n : Nat) (m2 : Nat) (ln : Nat) (pt : Int32) (rm : Int32) (rh : Int32) (sf : Int32) (sl : Int32) (rn : Nat) (hM : 84 ≤ M) (b_63 : E 63 = .inr (9, [.int fa, .int tm, .ref (z + 64), .ref (z + 65), .ref (z + 66), .int (nI n), .int (nI m2), .ref (z + 67), .ref (z + 68), .ref (z + 69), .ref (z + 70), .ref (z + 71), .int (nI ln), .ref (z + 72), .ref (z + 73), .ref (z + 74), .ref (z + 75), .int pt, .int rm, .int rh, .ref (z + 76), .ref (z + 77), .ref (z + 78), .ref (z + 79), .ref (z + 80), .int sf, .int sl, .ref (z + 81), .int (nI rn), .ref (z + 82), .ref (z + 83)])) (a : Nat) (b : Nat) (f : Nat → Int64) (g : Nat → Int64) (kd : Nat → Int32) (pa : Nat → Int32) (t : Int32) (v : Int64) (hn : n ≤ 16 ∧ m2 ≤ 3) (hab : a ≤ b ∧ b < n) (ht : okS t) (hv : (t = 3 ∨ t = 4) → ∃ j, j < m2 ∧ v = lN j) (hkd : ∀ j, j < m2 → kd j = 0 ∨ kd j = 1 ∨ kd j = 2) (b_67 : E 67 = qa_J G 16 f) (b_68 : E 68 = qa_J G 16 g) (b_70 : E 70 = qa_I G 3 kd) (b_71 : E 71 = qa_I G 3 pa) : Met l yX9_does wsX9_does (qh_R 1) (qh_Pre G z M E [.ref (z + 63), .int t, .int (nI a), .int (nI b), .long v]) (qh_Q G z M (qh_i (fun r E' => r = nI (othN f t (amt t m2 kd pa v) a (b + 1 - a)) ∧ E' 67 = qa_J G 16 (actF f t (amt t m2 kd pa v) a (b + 1 - a)) ∧ E' 68 = qa_J G 16 (hisF g f t (amt t m2 kd pa v) a (b + 1 - a)) ∧ ∀ x9, x9 ≠ 67 → x9 ≠ 68 → E' x9 = E x9))) 0 0 (fun q => z ≤ q) := by
  refine qh_metI (cc := cX9_does) (maxL := 13) (by decide) rfl (Nat.le_of_ble_eq_true rfl) ?_
  intro pZ eZ sZ mZ aZ bZ tZ cZ RR QQ ls hx hb hml hown hts hRf hRl hH hK hl hret
  have hown : sZ.vm.findClass RX9 = some mZ.cls := hown
  have hl : lv_has ls 13 [(0, .ref (z + 63)), (1, .int t), (2, .int (nI a)), (3, .int (nI b)), (4, .long v)] := hl
  have in_X9 : ∀ w ∈ wsX90, w ∈ wsX9_does := fun w h => List.mem_cons_of_mem _ (List.mem_append_right _ h)
  have f_19 : qh_F G sZ mZ aZ 19 9 7 := qh_F.of hts in_X9 hown hK rfl 7 (by decide) (by decide +kernel)
  have f_23 : qh_F G sZ mZ aZ 23 9 8 := qh_F.of hts in_X9 hown hK rfl 8 (by decide) (by decide +kernel)
  have L_55 : ∀ fu_55 : Nat, ∀ q : Nat, ∀ hw : Int32, ∀ bw : Int64, (q ≤ b + 1 - a) → (∀ x, chgM x hw bw = chg x t (amt t m2 kd pa v)) → (b + 1 - a - q < fu_55) → ∀ Ek : Nat → va_E, Ek 67 = qa_J G 16 (actF f t (amt t m2 kd pa v) a q) → Ek 68 = qa_J G 16 (hisF g f t (amt t m2 kd pa v) a q) → (∀ x9, x9 ≠ 67 → x9 ≠ 68 → Ek x9 = E x9) → ∀ (H : Heap) (locs : List Loc), qh_H G z M Ek sZ.heap H locs → ∀ ls : Array Slot, lv_has ls 13 [(0, .ref (z + 63)), (3, .int (nI b)), (6, .int hw), (7, .long bw), (9, .int (nI (othN f t (amt t m2 kd pa v) a q))), (10, .int (nI (a + q)))] → W pZ l eZ RR sZ mZ aZ bZ tZ cZ H locs 0 0 QQ (F0 mZ 55 ls []) := by
    intro fu_55
    induction fu_55 with
    | zero =>
      intro q hw bw hq hch hfuel
      exact absurd hfuel (by omega)
    | succ fu_55 ih_55 =>
      intro q hw bw hq hch hfuel Ek h_67 h_68 hF H locs hH ls hl
      refine lv_iload hx hb dX9_does_55 (lv_at hl 5 rfl) ?_
      refine lv_iload_n hx hb dX9_does_57 rfl (lv_at hl 1 rfl) ?_
      refine lv_icmp_gt (tgt := 148) hx hb dX9_does_58 (by decide) (fun c_58 => ?_) (fun c_58 => ?_)
      · have hk : b < a + q := (nI_ltI (by omega) (by omega)).mp c_58
        have hex : b + 1 - a = q := by omega
        subst hex
        refine lv_iload hx hb dX9_does_148 (lv_at hl 4 rfl) ?_
        exact hret dX9_does_150 hH (⟨rfl, h_67, h_68, hF⟩)
      · have hk : ¬ b < a + q := fun w => c_58 (nI_lt w (by omega))
        refine lv_aload_n hx hb dX9_does_61 rfl (lv_at hl 0 rfl) ?_
        refine lv_aload_n hx hb dX9_does_62 rfl (lv_at hl 0 rfl) ?_
        refine qh_get hx hb hH f_19 (by omega) ((hF 63 (by decide) (by decide)).trans b_63) rfl dX9_does_63 ?_
        refine lv_iload hx hb dX9_does_66 (lv_at hl 5 rfl) ?_
        refine qh_lald hx hb hK hH (by omega) h_67 (j := a + q) (rfl) (by omega) (by omega) dX9_does_68 ?_
        refine qh_topl (y := f (a + q)) (actF_at ..) ?_
        refine lv_iload hx hb dX9_does_69 (lv_at hl 2 rfl) ?_
        refine lv_lload hx hb dX9_does_71 (lv_at hl 3 rfl) ?_
        refine qh_runV (As := [.long (f (a + q)), .int hw, .long bw]) (rest := []) (C := RX9) ⟨hx, hb, hml, hown, hts⟩ hK hH (c_X9_changed l G z M Ek 63 (f (a + q)) bw hw) (cwV 3 hts gX9_does_X9_changed rfl rfl rfl (by decide +kernel) (by rw [hRf, hRl]; exact ⟨Nat.le_of_ble_eq_true rfl, Nat.le_of_ble_eq_true rfl⟩)) (by omega) ((hF 63 (by decide) (by decide)).trans b_63) rfl rfl hl.1 rfl (Nat.le_of_ble_eq_true rfl) dX9_does_73 ⟨Nat.zero_le _, Nat.zero_le _⟩ (qh_kkl fun r_73 E_1 H locs hpost hH => ?_)
        obtain ⟨rfl, rfl⟩ := hpost
        refine qh_topl (y := (chg (f (a + q)) t (amt t m2 kd pa v))) (hch _) ?_
        refine lv_lstore (lv' := [(11, .long (chg (f (a + q)) t (amt t m2 kd pa v))), (0, .ref (z + 63)), (3, .int (nI b)), (6, .int hw), (7, .long bw), (9, .int (nI (othN f t (amt t m2 kd pa v) a q))), (10, .int (nI (a + q)))]) hx hb dX9_does_76 hl (by decide) rfl (fun ls hl => ?_)
        refine lv_iload hx hb dX9_does_78 (lv_at hl 5 rfl) ?_
        refine lv_lload hx hb dX9_does_80 (lv_at hl 0 rfl) ?_
        refine lv_aload_n hx hb dX9_does_82 rfl (lv_at hl 1 rfl) ?_
        refine qh_get hx hb hH f_19 (by omega) ((hF 63 (by decide) (by decide)).trans b_63) rfl dX9_does_83 ?_
        refine lv_iload hx hb dX9_does_86 (lv_at hl 6 rfl) ?_
        refine qh_lald hx hb hK hH (by omega) h_67 (j := a + q) (rfl) (by omega) (by omega) dX9_does_88 ?_
        refine qh_topl (y := f (a + q)) (actF_at ..) ?_
        refine W.lcmp hx hb dX9_does_89 ?_
        refine lv_if_ne (tgt := 97) hx hb dX9_does_90 (by decide) (fun c_90 => ?_) (fun c_90 => ?_)
        · have c_90 := (lg_cmp_ne _ _).mp c_90
          refine lv_iconst (v := 1) hx hb dX9_does_97 (by decide) ?_
          refine lv_iadd hx hb dX9_does_98 ?_
          refine qh_topi (y := nI (othN f t (amt t m2 kd pa v) a q + 1)) (nI_1 _) ?_
          refine lv_istore (lv' := [(9, .int (nI (othN f t (amt t m2 kd pa v) a q + 1))), (11, .long (chg (f (a + q)) t (amt t m2 kd pa v))), (0, .ref (z + 63)), (3, .int (nI b)), (6, .int hw), (7, .long bw), (10, .int (nI (a + q)))]) hx hb dX9_does_99 hl (by decide) rfl (fun ls hl => ?_)
          refine lv_aload_n hx hb dX9_does_101 rfl (lv_at hl 2 rfl) ?_
          refine qh_get hx hb hH f_19 (by omega) ((hF 63 (by decide) (by decide)).trans b_63) rfl dX9_does_102 ?_
          refine lv_iload hx hb dX9_does_105 (lv_at hl 6 rfl) ?_
          refine lv_lload hx hb dX9_does_107 (lv_at hl 1 rfl) ?_
          refine qh_last hx hb hK hH (by omega) h_67 (j := a + q) (rfl) (by omega) (by omega) dX9_does_109 (fun E_2 H locs h_67 hfr hH _ => ?_)
          have h_67 : E_2 67 = qa_J G 16 (actF f t (amt t m2 kd pa v) a (q + 1)) := h_67.trans (congrArg (qa_J G 16) (actF_s ..))
          have h_68 := (hfr 68 (by decide)).trans h_68
          have hF : ∀ x9, x9 ≠ 67 → x9 ≠ 68 → E_2 x9 = E x9 := fun x9 a0 a1 => (hfr x9 a0).trans (hF x9 a0 a1)
          refine lv_aload_n hx hb dX9_does_110 rfl (lv_at hl 2 rfl) ?_
          refine qh_get hx hb hH f_23 (by omega) ((hF 63 (by decide) (by decide)).trans b_63) rfl dX9_does_111 ?_
          refine lv_iload hx hb dX9_does_114 (lv_at hl 6 rfl) ?_
          refine lv_lload hx hb dX9_does_116 (lv_at hl 1 rfl) ?_
          refine lv_aload_n hx hb dX9_does_118 rfl (lv_at hl 2 rfl) ?_
          refine qh_get hx hb hH f_23 (by omega) ((hF 63 (by decide) (by decide)).trans b_63) rfl dX9_does_119 ?_
          refine lv_iload hx hb dX9_does_122 (lv_at hl 6 rfl) ?_
          refine qh_lald hx hb hK hH (by omega) h_68 (j := a + q) (rfl) (by omega) (by omega) dX9_does_124 ?_
          refine qh_topl (y := g (a + q)) (hisF_at ..) ?_
          refine W.lcmp hx hb dX9_does_125 ?_
          refine lv_if_le (tgt := 134) hx hb dX9_does_126 (by decide) (fun c_126 => ?_) (fun c_126 => ?_)
          · have c_126 := (lg_cmp_le _ _).mp c_126
            refine lv_aload_n hx hb dX9_does_134 rfl (lv_at hl 2 rfl) ?_
            refine qh_get hx hb hH f_23 (by omega) ((hF 63 (by decide) (by decide)).trans b_63) rfl dX9_does_135 ?_
            refine lv_iload hx hb dX9_does_138 (lv_at hl 6 rfl) ?_
            refine qh_lald hx hb hK hH (by omega) h_68 (j := a + q) (rfl) (by omega) (by omega) dX9_does_140 ?_
            refine qh_topl (y := g (a + q)) (hisF_at ..) ?_
            refine qh_last hx hb hK hH (by omega) h_68 (j := a + q) (rfl) (by omega) (by omega) dX9_does_141 (fun E_3 H locs h_68 hfr hH _ => ?_)
            have h_68 : E_3 68 = qa_J G 16 (hisF g f t (amt t m2 kd pa v) a (q + 1)) := h_68.trans (congrArg (qa_J G 16) (by rw [← hisF_s, mx, if_neg (Int64.not_lt.mpr c_126)]))
            have h_67 := (hfr 67 (by decide)).trans h_67
            have hF : ∀ x9, x9 ≠ 67 → x9 ≠ 68 → E_3 x9 = E x9 := fun x9 a0 a1 => (hfr x9 a1).trans (hF x9 a0 a1)
            refine lv_iinc (v := nI ((a + q) + 1)) (lv' := [(10, .int (nI ((a + q) + 1))), (9, .int (nI (othN f t (amt t m2 kd pa v) a q + 1))), (11, .long (chg (f (a + q)) t (amt t m2 kd pa v))), (0, .ref (z + 63)), (3, .int (nI b)), (6, .int hw), (7, .long bw)]) hx hb dX9_does_142 hl (k := 6) rfl (qn_inc (a + q)) (by decide) rfl (fun ls hl => ?_)
            refine lv_goto (tgt := 55) hx hb dX9_does_145 (by decide) ?_
            rw [← othN_y c_90] at hl
            exact ih_55 (q + 1) _ _ (by omega) hch (by omega) E_3 h_67 h_68 (fun x9 a0 a1 => hF x9 a0 a1) _ _ hH ls (lv_sub hl [3, 4, 5, 6, 1, 0] rfl)
          · have c_126 := (not_congr (lg_cmp_le _ _)).mp c_126
            refine lv_lload hx hb dX9_does_129 (lv_at hl 1 rfl) ?_
            refine lv_goto (tgt := 141) hx hb dX9_does_131 (by decide) ?_
            refine qh_last hx hb hK hH (by omega) h_68 (j := a + q) (rfl) (by omega) (by omega) dX9_does_141 (fun E_4 H locs h_68 hfr hH _ => ?_)
            have h_68 : E_4 68 = qa_J G 16 (hisF g f t (amt t m2 kd pa v) a (q + 1)) := h_68.trans (congrArg (qa_J G 16) (by rw [← hisF_s, mx, if_pos (Int64.not_le.mp c_126)]))
            have h_67 := (hfr 67 (by decide)).trans h_67
            have hF : ∀ x9, x9 ≠ 67 → x9 ≠ 68 → E_4 x9 = E x9 := fun x9 a0 a1 => (hfr x9 a1).trans (hF x9 a0 a1)
            refine lv_iinc (v := nI ((a + q) + 1)) (lv' := [(10, .int (nI ((a + q) + 1))), (9, .int (nI (othN f t (amt t m2 kd pa v) a q + 1))), (11, .long (chg (f (a + q)) t (amt t m2 kd pa v))), (0, .ref (z + 63)), (3, .int (nI b)), (6, .int hw), (7, .long bw)]) hx hb dX9_does_142 hl (k := 6) rfl (qn_inc (a + q)) (by decide) rfl (fun ls hl => ?_)
            refine lv_goto (tgt := 55) hx hb dX9_does_145 (by decide) ?_
            rw [← othN_y c_90] at hl
            exact ih_55 (q + 1) _ _ (by omega) hch (by omega) E_4 h_67 h_68 (fun x9 a0 a1 => hF x9 a0 a1) _ _ hH ls (lv_sub hl [3, 4, 5, 6, 1, 0] rfl)
        · have c_90 := (lg_cmp_eq _ _).mp c_90
          refine lv_iconst (v := 0) hx hb dX9_does_93 (by decide) ?_
          refine lv_goto (tgt := 98) hx hb dX9_does_94 (by decide) ?_
          refine lv_iadd hx hb dX9_does_98 ?_
          refine qh_topi (y := nI (othN f t (amt t m2 kd pa v) a q)) (Int32.add_zero _) ?_
          refine lv_istore (lv' := [(9, .int (nI (othN f t (amt t m2 kd pa v) a q))), (11, .long (chg (f (a + q)) t (amt t m2 kd pa v))), (0, .ref (z + 63)), (3, .int (nI b)), (6, .int hw), (7, .long bw), (10, .int (nI (a + q)))]) hx hb dX9_does_99 hl (by decide) rfl (fun ls hl => ?_)
          refine lv_aload_n hx hb dX9_does_101 rfl (lv_at hl 2 rfl) ?_
          refine qh_get hx hb hH f_19 (by omega) ((hF 63 (by decide) (by decide)).trans b_63) rfl dX9_does_102 ?_
          refine lv_iload hx hb dX9_does_105 (lv_at hl 6 rfl) ?_
          refine lv_lload hx hb dX9_does_107 (lv_at hl 1 rfl) ?_
          refine qh_last hx hb hK hH (by omega) h_67 (j := a + q) (rfl) (by omega) (by omega) dX9_does_109 (fun E_5 H locs h_67 hfr hH _ => ?_)
          have h_67 : E_5 67 = qa_J G 16 (actF f t (amt t m2 kd pa v) a (q + 1)) := h_67.trans (congrArg (qa_J G 16) (actF_s ..))
          have h_68 := (hfr 68 (by decide)).trans h_68
          have hF : ∀ x9, x9 ≠ 67 → x9 ≠ 68 → E_5 x9 = E x9 := fun x9 a0 a1 => (hfr x9 a0).trans (hF x9 a0 a1)
          refine lv_aload_n hx hb dX9_does_110 rfl (lv_at hl 2 rfl) ?_
          refine qh_get hx hb hH f_23 (by omega) ((hF 63 (by decide) (by decide)).trans b_63) rfl dX9_does_111 ?_
          refine lv_iload hx hb dX9_does_114 (lv_at hl 6 rfl) ?_
          refine lv_lload hx hb dX9_does_116 (lv_at hl 1 rfl) ?_
          refine lv_aload_n hx hb dX9_does_118 rfl (lv_at hl 2 rfl) ?_
          refine qh_get hx hb hH f_23 (by omega) ((hF 63 (by decide) (by decide)).trans b_63) rfl dX9_does_119 ?_
          refine lv_iload hx hb dX9_does_122 (lv_at hl 6 rfl) ?_
          refine qh_lald hx hb hK hH (by omega) h_68 (j := a + q) (rfl) (by omega) (by omega) dX9_does_124 ?_
          refine qh_topl (y := g (a + q)) (hisF_at ..) ?_
          refine W.lcmp hx hb dX9_does_125 ?_
          refine lv_if_le (tgt := 134) hx hb dX9_does_126 (by decide) (fun c_126 => ?_) (fun c_126 => ?_)
          · have c_126 := (lg_cmp_le _ _).mp c_126
            refine lv_aload_n hx hb dX9_does_134 rfl (lv_at hl 2 rfl) ?_
            refine qh_get hx hb hH f_23 (by omega) ((hF 63 (by decide) (by decide)).trans b_63) rfl dX9_does_135 ?_
            refine lv_iload hx hb dX9_does_138 (lv_at hl 6 rfl) ?_
            refine qh_lald hx hb hK hH (by omega) h_68 (j := a + q) (rfl) (by omega) (by omega) dX9_does_140 ?_
            refine qh_topl (y := g (a + q)) (hisF_at ..) ?_
            refine qh_last hx hb hK hH (by omega) h_68 (j := a + q) (rfl) (by omega) (by omega) dX9_does_141 (fun E_6 H locs h_68 hfr hH _ => ?_)
            have h_68 : E_6 68 = qa_J G 16 (hisF g f t (amt t m2 kd pa v) a (q + 1)) := h_68.trans (congrArg (qa_J G 16) (by rw [← hisF_s, mx, if_neg (Int64.not_lt.mpr c_126)]))
            have h_67 := (hfr 67 (by decide)).trans h_67
            have hF : ∀ x9, x9 ≠ 67 → x9 ≠ 68 → E_6 x9 = E x9 := fun x9 a0 a1 => (hfr x9 a1).trans (hF x9 a0 a1)
            refine lv_iinc (v := nI ((a + q) + 1)) (lv' := [(10, .int (nI ((a + q) + 1))), (9, .int (nI (othN f t (amt t m2 kd pa v) a q))), (11, .long (chg (f (a + q)) t (amt t m2 kd pa v))), (0, .ref (z + 63)), (3, .int (nI b)), (6, .int hw), (7, .long bw)]) hx hb dX9_does_142 hl (k := 6) rfl (qn_inc (a + q)) (by decide) rfl (fun ls hl => ?_)
            refine lv_goto (tgt := 55) hx hb dX9_does_145 (by decide) ?_
            rw [← othN_n c_90] at hl
            exact ih_55 (q + 1) _ _ (by omega) hch (by omega) E_6 h_67 h_68 (fun x9 a0 a1 => hF x9 a0 a1) _ _ hH ls (lv_sub hl [3, 4, 5, 6, 1, 0] rfl)
          · have c_126 := (not_congr (lg_cmp_le _ _)).mp c_126
            refine lv_lload hx hb dX9_does_129 (lv_at hl 1 rfl) ?_
            refine lv_goto (tgt := 141) hx hb dX9_does_131 (by decide) ?_
            refine qh_last hx hb hK hH (by omega) h_68 (j := a + q) (rfl) (by omega) (by omega) dX9_does_141 (fun E_7 H locs h_68 hfr hH _ => ?_)
            have h_68 : E_7 68 = qa_J G 16 (hisF g f t (amt t m2 kd pa v) a (q + 1)) := h_68.trans (congrArg (qa_J G 16) (by rw [← hisF_s, mx, if_pos (Int64.not_le.mp c_126)]))
            have h_67 := (hfr 67 (by decide)).trans h_67
            have hF : ∀ x9, x9 ≠ 67 → x9 ≠ 68 → E_7 x9 = E x9 := fun x9 a0 a1 => (hfr x9 a1).trans (hF x9 a0 a1)
            refine lv_iinc (v := nI ((a + q) + 1)) (lv' := [(10, .int (nI ((a + q) + 1))), (9, .int (nI (othN f t (amt t m2 kd pa v) a q))), (11, .long (chg (f (a + q)) t (amt t m2 kd pa v))), (0, .ref (z + 63)), (3, .int (nI b)), (6, .int hw), (7, .long bw)]) hx hb dX9_does_142 hl (k := 6) rfl (qn_inc (a + q)) (by decide) rfl (fun ls hl => ?_)
            refine lv_goto (tgt := 55) hx hb dX9_does_145 (by decide) ?_
            rw [← othN_n c_90] at hl
            exact ih_55 (q + 1) _ _ (by omega) hch (by omega) E_7 h_67 h_68 (fun x9 a0 a1 => hF x9 a0 a1) _ _ hH ls (lv_sub hl [3, 4, 5, 6, 1, 0] rfl)
  refine lv_iload_n hx hb dX9_does_0 rfl (lv_at hl 1 rfl) ?_
  refine lv_iconst (v := 3) hx hb dX9_does_1 (by decide) ?_
  refine lv_icmp_lt (tgt := 9) hx hb dX9_does_2 (by decide) (fun c_2 => ?_) (fun c_2 => ?_)
  · refine lv_iload_n hx hb dX9_does_9 rfl (lv_at hl 1 rfl) ?_
    refine lv_istore (lv' := [(6, .int t), (0, .ref (z + 63)), (1, .int t), (2, .int (nI a)), (3, .int (nI b)), (4, .long v)]) hx hb dX9_does_10 hl (by decide) rfl (fun ls hl => ?_)
    refine lv_iload_n hx hb dX9_does_12 rfl (lv_at hl 2 rfl) ?_
    refine lv_iconst (v := 3) hx hb dX9_does_13 (by decide) ?_
    refine lv_icmp_ne (tgt := 28) hx hb dX9_does_14 (by decide) (fun c_14 => ?_) (fun c_14 => ?_)
    · refine lv_iload_n hx hb dX9_does_28 rfl (lv_at hl 2 rfl) ?_
      refine lv_iconst (v := 4) hx hb dX9_does_29 (by decide) ?_
      refine lv_icmp_ne (tgt := 45) hx hb dX9_does_30 (by decide) (fun c_30 => ?_) (fun c_30 => ?_)
      · have hch : ∀ x, chgM x t v = chg x t (amt t m2 kd pa v) := chM_lo ht c_2
        refine lv_lload hx hb dX9_does_45 (lv_at hl 5 rfl) ?_
        refine lv_lstore (lv' := [(7, .long v), (6, .int t), (0, .ref (z + 63)), (1, .int t), (2, .int (nI a)), (3, .int (nI b)), (4, .long v)]) hx hb dX9_does_47 hl (by decide) rfl (fun ls hl => ?_)
        refine lv_iconst (v := 0) hx hb dX9_does_49 (by decide) ?_
        refine lv_istore (lv' := [(9, .int 0), (7, .long v), (6, .int t), (0, .ref (z + 63)), (1, .int t), (2, .int (nI a)), (3, .int (nI b)), (4, .long v)]) hx hb dX9_does_50 hl (by decide) rfl (fun ls hl => ?_)
        refine lv_iload_n hx hb dX9_does_52 rfl (lv_at hl 5 rfl) ?_
        refine lv_istore (lv' := [(10, .int (nI a)), (9, .int 0), (7, .long v), (6, .int t), (0, .ref (z + 63)), (1, .int t), (2, .int (nI a)), (3, .int (nI b)), (4, .long v)]) hx hb dX9_does_53 hl (by decide) rfl (fun ls hl => ?_)
        exact L_55 (b + 1 - a + 1) 0 _ _ (Nat.zero_le _) hch (by omega) E (b_67.trans (congrArg (qa_J G 16) (actF_0 ..).symm)) (b_68.trans (congrArg (qa_J G 16) (hisF_0 ..).symm)) (fun x9 a0 a1 => rfl) _ _ hH ls (lv_sub hl [4, 7, 3, 2, 1, 0] rfl)
      · exact absurd (Or.inr c_30) (okS_lt c_2)
    · exact absurd (Or.inl c_14) (okS_lt c_2)
  · refine lv_iconst (v := 0) hx hb dX9_does_5 (by decide) ?_
    refine lv_goto (tgt := 10) hx hb dX9_does_6 (by decide) ?_
    refine lv_istore (lv' := [(6, .int 0), (0, .ref (z + 63)), (1, .int t), (2, .int (nI a)), (3, .int (nI b)), (4, .long v)]) hx hb dX9_does_10 hl (by decide) rfl (fun ls hl => ?_)
    refine lv_iload_n hx hb dX9_does_12 rfl (lv_at hl 2 rfl) ?_
    refine lv_iconst (v := 3) hx hb dX9_does_13 (by decide) ?_
    refine lv_icmp_ne (tgt := 28) hx hb dX9_does_14 (by decide) (fun c_14 => ?_) (fun c_14 => ?_)
    · refine lv_iload_n hx hb dX9_does_28 rfl (lv_at hl 2 rfl) ?_
      refine lv_iconst (v := 4) hx hb dX9_does_29 (by decide) ?_
      refine lv_icmp_ne (tgt := 45) hx hb dX9_does_30 (by decide) (fun c_30 => ?_) (fun c_30 => ?_)
      · exact absurd (okS_ge ht c_2) (fun w => w.elim c_14 c_30)
      · obtain ⟨j, hj, ej⟩ := hv (Or.inr c_30)
        have hch : ∀ x, chgM x 0 (-stM (kd j) (pa j)).toInt64 = chg x t (amt t m2 kd pa v) := chM_4 c_30 ej hj hn.2 (hkd j hj)
        refine lv_aload_n hx hb dX9_does_33 rfl (lv_at hl 1 rfl) ?_
        refine lv_lload hx hb dX9_does_34 (lv_at hl 5 rfl) ?_
        refine lv_l2i (v := nI j) hx hb dX9_does_36 (by rw [ej]; exact lN_i j) ?_
        refine qh_runV (As := [.int (nI j)]) (rest := []) (C := RX9) ⟨hx, hb, hml, hown, hts⟩ hK hH (c_X9_strengthOf l G z M E fa tm n m2 ln pt rm rh sf sl rn (hM) b_63 j kd pa (by omega) b_70 b_71) (cwV 1 hts gX9_does_X9_strengthOf rfl rfl rfl (by decide +kernel) (by rw [hRf, hRl]; exact ⟨Nat.le_of_ble_eq_true rfl, Nat.le_of_ble_eq_true rfl⟩)) (by omega) b_63 rfl rfl hl.1 rfl (Nat.le_of_ble_eq_true rfl) dX9_does_37 ⟨Nat.zero_le _, Nat.zero_le _⟩ (qh_kki fun r_37 E_8 H locs hpost hH => ?_)
        obtain ⟨rfl, rfl⟩ := hpost
        refine lv_ineg hx hb dX9_does_40 ?_
        refine lv_i2l (v := (-(stM (kd j) (pa j))).toInt64) hx hb dX9_does_41 rfl ?_
        refine lv_goto (tgt := 47) hx hb dX9_does_42 (by decide) ?_
        refine lv_lstore (lv' := [(7, .long ((-(stM (kd j) (pa j))).toInt64)), (6, .int 0), (0, .ref (z + 63)), (1, .int t), (2, .int (nI a)), (3, .int (nI b)), (4, .long v)]) hx hb dX9_does_47 hl (by decide) rfl (fun ls hl => ?_)
        refine lv_iconst (v := 0) hx hb dX9_does_49 (by decide) ?_
        refine lv_istore (lv' := [(9, .int 0), (7, .long ((-(stM (kd j) (pa j))).toInt64)), (6, .int 0), (0, .ref (z + 63)), (1, .int t), (2, .int (nI a)), (3, .int (nI b)), (4, .long v)]) hx hb dX9_does_50 hl (by decide) rfl (fun ls hl => ?_)
        refine lv_iload_n hx hb dX9_does_52 rfl (lv_at hl 5 rfl) ?_
        refine lv_istore (lv' := [(10, .int (nI a)), (9, .int 0), (7, .long ((-(stM (kd j) (pa j))).toInt64)), (6, .int 0), (0, .ref (z + 63)), (1, .int t), (2, .int (nI a)), (3, .int (nI b)), (4, .long v)]) hx hb dX9_does_53 hl (by decide) rfl (fun ls hl => ?_)
        exact L_55 (b + 1 - a + 1) 0 _ _ (Nat.zero_le _) hch (by omega) E (b_67.trans (congrArg (qa_J G 16) (actF_0 ..).symm)) (b_68.trans (congrArg (qa_J G 16) (hisF_0 ..).symm)) (fun x9 a0 a1 => rfl) _ _ hH ls (lv_sub hl [4, 7, 3, 2, 1, 0] rfl)
    · obtain ⟨j, hj, ej⟩ := hv (Or.inl c_14)
      have hch : ∀ x, chgM x 0 (stM (kd j) (pa j)).toInt64 = chg x t (amt t m2 kd pa v) := chM_3 c_14 ej hj hn.2 (hkd j hj)
      refine lv_aload_n hx hb dX9_does_17 rfl (lv_at hl 1 rfl) ?_
      refine lv_lload hx hb dX9_does_18 (lv_at hl 5 rfl) ?_
      refine lv_l2i (v := nI j) hx hb dX9_does_20 (by rw [ej]; exact lN_i j) ?_
      refine qh_runV (As := [.int (nI j)]) (rest := []) (C := RX9) ⟨hx, hb, hml, hown, hts⟩ hK hH (c_X9_strengthOf l G z M E fa tm n m2 ln pt rm rh sf sl rn (hM) b_63 j kd pa (by omega) b_70 b_71) (cwV 1 hts gX9_does_X9_strengthOf rfl rfl rfl (by decide +kernel) (by rw [hRf, hRl]; exact ⟨Nat.le_of_ble_eq_true rfl, Nat.le_of_ble_eq_true rfl⟩)) (by omega) b_63 rfl rfl hl.1 rfl (Nat.le_of_ble_eq_true rfl) dX9_does_21 ⟨Nat.zero_le _, Nat.zero_le _⟩ (qh_kki fun r_21 E_9 H locs hpost hH => ?_)
      obtain ⟨rfl, rfl⟩ := hpost
      refine lv_i2l (v := (stM (kd j) (pa j)).toInt64) hx hb dX9_does_24 rfl ?_
      refine lv_goto (tgt := 47) hx hb dX9_does_25 (by decide) ?_
      refine lv_lstore (lv' := [(7, .long ((stM (kd j) (pa j)).toInt64)), (6, .int 0), (0, .ref (z + 63)), (1, .int t), (2, .int (nI a)), (3, .int (nI b)), (4, .long v)]) hx hb dX9_does_47 hl (by decide) rfl (fun ls hl => ?_)
      refine lv_iconst (v := 0) hx hb dX9_does_49 (by decide) ?_
      refine lv_istore (lv' := [(9, .int 0), (7, .long ((stM (kd j) (pa j)).toInt64)), (6, .int 0), (0, .ref (z + 63)), (1, .int t), (2, .int (nI a)), (3, .int (nI b)), (4, .long v)]) hx hb dX9_does_50 hl (by decide) rfl (fun ls hl => ?_)
      refine lv_iload_n hx hb dX9_does_52 rfl (lv_at hl 5 rfl) ?_
      refine lv_istore (lv' := [(10, .int (nI a)), (9, .int 0), (7, .long ((stM (kd j) (pa j)).toInt64)), (6, .int 0), (0, .ref (z + 63)), (1, .int t), (2, .int (nI a)), (3, .int (nI b)), (4, .long v)]) hx hb dX9_does_53 hl (by decide) rfl (fun ls hl => ?_)
      exact L_55 (b + 1 - a + 1) 0 _ _ (Nat.zero_le _) hch (by omega) E (b_67.trans (congrArg (qa_J G 16) (actF_0 ..).symm)) (b_68.trans (congrArg (qa_J G 16) (hisF_0 ..).symm)) (fun x9 a0 a1 => rfl) _ _ hH ls (lv_sub hl [4, 7, 3, 2, 1, 0] rfl)

set_option maxHeartbeats 1000000 in
set_option maxRecDepth 100000 in
theorem c_X9_writes (l : Launch) (G : qh_G) (z M : Nat) (E : Nat → va_E) (fa : Int32) (tm : Int32) (n : Nat) (m2 : Nat) (ln : Nat) (pt : Int32) (rm : Int32) (rh : Int32) (sf : Int32) (sl : Int32) (rn : Nat) (hM : 84 ≤ M) (b_63 : E 63 = .inr (9, [.int fa, .int tm, .ref (z + 64), .ref (z + 65), .ref (z + 66), .int (nI n), .int (nI m2), .ref (z + 67), .ref (z + 68), .ref (z + 69), .ref (z + 70), .ref (z + 71), .int (nI ln), .ref (z + 72), .ref (z + 73), .ref (z + 74), .ref (z + 75), .int pt, .int rm, .int rh, .ref (z + 76), .ref (z + 77), .ref (z + 78), .ref (z + 79), .ref (z + 80), .int sf, .int sl, .ref (z + 81), .int (nI rn), .ref (z + 82), .ref (z + 83)])) (a : Nat) (b : Nat) (ts : Nat → Int32) (ga : Nat → Nat) (gb : Nat → Nat) (va : Nat → Int64) (t : Int32) (v : Int64) (hl2 : ln < 24) (b_72 : E 72 = qa_I G 24 ts) (b_73 : E 73 = qa_I G 24 (rdC ga)) (b_74 : E 74 = qa_I G 24 (rdC gb)) (b_75 : E 75 = qa_J G 24 va) : Met l yX9_writes wsX9_writes (qh_R 0) (qh_Pre G z M E [.ref (z + 63), .int t, .int (nI a), .int (nI b), .long v]) (qh_Q G z M (qh_v (fun E' => E' 72 = qa_I G 24 (upd ts ln t) ∧ E' 73 = qa_I G 24 (rdC (upN ga ln a)) ∧ E' 74 = qa_I G 24 (rdC (upN gb ln b)) ∧ E' 75 = qa_J G 24 (vp_updL va ln v) ∧ E' 63 = .inr (9, [.int fa, .int tm, .ref (z + 64), .ref (z + 65), .ref (z + 66), .int (nI n), .int (nI m2), .ref (z + 67), .ref (z + 68), .ref (z + 69), .ref (z + 70), .ref (z + 71), .int (nI (ln + 1)), .ref (z + 72), .ref (z + 73), .ref (z + 74), .ref (z + 75), .int pt, .int rm, .int rh, .ref (z + 76), .ref (z + 77), .ref (z + 78), .ref (z + 79), .ref (z + 80), .int sf, .int sl, .ref (z + 81), .int (nI rn), .ref (z + 82), .ref (z + 83)]) ∧ ∀ x9, x9 ≠ 72 → x9 ≠ 73 → x9 ≠ 74 → x9 ≠ 75 → x9 ≠ 63 → E' x9 = E x9))) 0 0 (fun q => z ≤ q) := by
  refine qh_metV (cc := cX9_writes) (maxL := 6) (by decide) rfl (Nat.le_of_ble_eq_true rfl) ?_
  intro pZ eZ sZ mZ aZ bZ tZ cZ RR QQ ls hx hb hml hown hts hRf hRl hH hK hl hret
  have hown : sZ.vm.findClass RX9 = some mZ.cls := hown
  have hl : lv_has ls 6 [(0, .ref (z + 63)), (1, .int t), (2, .int (nI a)), (3, .int (nI b)), (4, .long v)] := hl
  have in_X9 : ∀ w ∈ wsX90, w ∈ wsX9_writes := fun w h => List.mem_cons_of_mem _ (List.mem_append_right _ h)
  have f_35 : qh_F G sZ mZ aZ 35 9 13 := qh_F.of hts in_X9 hown hK rfl 13 (by decide) (by decide +kernel)
  have f_120 : qh_F G sZ mZ aZ 120 9 12 := qh_F.of hts in_X9 hown hK rfl 12 (by decide) (by decide +kernel)
  have f_38 : qh_F G sZ mZ aZ 38 9 14 := qh_F.of hts in_X9 hown hK rfl 14 (by decide) (by decide +kernel)
  have f_41 : qh_F G sZ mZ aZ 41 9 15 := qh_F.of hts in_X9 hown hK rfl 15 (by decide) (by decide +kernel)
  have f_44 : qh_F G sZ mZ aZ 44 9 16 := qh_F.of hts in_X9 hown hK rfl 16 (by decide) (by decide +kernel)
  have w_120 : qh_W G sZ mZ aZ 120 9 12 .int := qh_W.of hts in_X9 tyX9 tyX9_ok nmX9 hown hK rfl 12 (by decide) (by decide +kernel) rfl (by decide +kernel)
  refine lv_aload_n hx hb dX9_writes_0 rfl (lv_at hl 0 rfl) ?_
  refine qh_get hx hb hH f_35 (by omega) b_63 rfl dX9_writes_1 ?_
  refine lv_aload_n hx hb dX9_writes_4 rfl (lv_at hl 0 rfl) ?_
  refine qh_get hx hb hH f_120 (by omega) b_63 rfl dX9_writes_5 ?_
  refine lv_iload_n hx hb dX9_writes_8 rfl (lv_at hl 1 rfl) ?_
  refine qh_iast hx hb hK hH (by omega) b_72 (j := ln) (rfl) (by omega) (by omega) dX9_writes_9 (fun E_1 H locs h_72 hfr hH _ => ?_)
  have hF : ∀ x9, x9 ≠ 72 → E_1 x9 = E x9 := fun x9 a0 => hfr x9 a0
  refine lv_aload_n hx hb dX9_writes_10 rfl (lv_at hl 0 rfl) ?_
  refine qh_get hx hb hH f_38 (by omega) ((hF 63 (by decide)).trans b_63) rfl dX9_writes_11 ?_
  refine lv_aload_n hx hb dX9_writes_14 rfl (lv_at hl 0 rfl) ?_
  refine qh_get hx hb hH f_120 (by omega) ((hF 63 (by decide)).trans b_63) rfl dX9_writes_15 ?_
  refine lv_iload_n hx hb dX9_writes_18 rfl (lv_at hl 2 rfl) ?_
  refine qh_iast hx hb hK hH (by omega) ((hF 73 (by decide)).trans b_73) (j := ln) (rfl) (by omega) (by omega) dX9_writes_19 (fun E_2 H locs h_73 hfr hH _ => ?_)
  have h_73 : E_2 73 = qa_I G 24 (rdC (upN ga ln a)) := h_73.trans (congrArg (qa_I G 24) (rdC_up ..))
  have h_72 := (hfr 72 (by decide)).trans h_72
  have hF : ∀ x9, x9 ≠ 72 → x9 ≠ 73 → E_2 x9 = E x9 := fun x9 a0 a1 => (hfr x9 a1).trans (hF x9 a0)
  refine lv_aload_n hx hb dX9_writes_20 rfl (lv_at hl 0 rfl) ?_
  refine qh_get hx hb hH f_41 (by omega) ((hF 63 (by decide) (by decide)).trans b_63) rfl dX9_writes_21 ?_
  refine lv_aload_n hx hb dX9_writes_24 rfl (lv_at hl 0 rfl) ?_
  refine qh_get hx hb hH f_120 (by omega) ((hF 63 (by decide) (by decide)).trans b_63) rfl dX9_writes_25 ?_
  refine lv_iload_n hx hb dX9_writes_28 rfl (lv_at hl 3 rfl) ?_
  refine qh_iast hx hb hK hH (by omega) ((hF 74 (by decide) (by decide)).trans b_74) (j := ln) (rfl) (by omega) (by omega) dX9_writes_29 (fun E_3 H locs h_74 hfr hH _ => ?_)
  have h_74 : E_3 74 = qa_I G 24 (rdC (upN gb ln b)) := h_74.trans (congrArg (qa_I G 24) (rdC_up ..))
  have h_72 := (hfr 72 (by decide)).trans h_72
  have h_73 := (hfr 73 (by decide)).trans h_73
  have hF : ∀ x9, x9 ≠ 72 → x9 ≠ 73 → x9 ≠ 74 → E_3 x9 = E x9 := fun x9 a0 a1 a2 => (hfr x9 a2).trans (hF x9 a0 a1)
  refine lv_aload_n hx hb dX9_writes_30 rfl (lv_at hl 0 rfl) ?_
  refine qh_get hx hb hH f_44 (by omega) ((hF 63 (by decide) (by decide) (by decide)).trans b_63) rfl dX9_writes_31 ?_
  refine lv_aload_n hx hb dX9_writes_34 rfl (lv_at hl 0 rfl) ?_
  refine qh_get hx hb hH f_120 (by omega) ((hF 63 (by decide) (by decide) (by decide)).trans b_63) rfl dX9_writes_35 ?_
  refine lv_lload hx hb dX9_writes_38 (lv_at hl 4 rfl) ?_
  refine qh_last hx hb hK hH (by omega) ((hF 75 (by decide) (by decide) (by decide)).trans b_75) (j := ln) (rfl) (by omega) (by omega) dX9_writes_40 (fun E_4 H locs h_75 hfr hH _ => ?_)
  have h_72 := (hfr 72 (by decide)).trans h_72
  have h_73 := (hfr 73 (by decide)).trans h_73
  have h_74 := (hfr 74 (by decide)).trans h_74
  have hF : ∀ x9, x9 ≠ 72 → x9 ≠ 73 → x9 ≠ 74 → x9 ≠ 75 → E_4 x9 = E x9 := fun x9 a0 a1 a2 a3 => (hfr x9 a3).trans (hF x9 a0 a1 a2)
  refine lv_aload_n hx hb dX9_writes_41 rfl (lv_at hl 0 rfl) ?_
  refine lv_dup hx hb dX9_writes_42 rfl ?_
  refine qh_get hx hb hH f_120 (by omega) ((hF 63 (by decide) (by decide) (by decide) (by decide)).trans b_63) rfl dX9_writes_43 ?_
  refine lv_iconst (v := 1) hx hb dX9_writes_46 (by decide) ?_
  refine lv_iadd hx hb dX9_writes_47 ?_
  refine qh_topi (y := nI (ln + 1)) (nI_1 ln) ?_
  refine qh_put (fs' := [.int fa, .int tm, .ref (z + 64), .ref (z + 65), .ref (z + 66), .int (nI n), .int (nI m2), .ref (z + 67), .ref (z + 68), .ref (z + 69), .ref (z + 70), .ref (z + 71), .int (nI (ln + 1)), .ref (z + 72), .ref (z + 73), .ref (z + 74), .ref (z + 75), .int pt, .int rm, .int rh, .ref (z + 76), .ref (z + 77), .ref (z + 78), .ref (z + 79), .ref (z + 80), .int sf, .int sl, .ref (z + 81), .int (nI rn), .ref (z + 82), .ref (z + 83)]) hx hb hH w_120 (by omega) ((hF 63 (by decide) (by decide) (by decide) (by decide)).trans b_63) rfl rfl (Nat.le_of_ble_eq_true rfl) rfl dX9_writes_48 (fun E_5 H locs h_63 hfr hH _ => ?_)
  have h_72 := (hfr 72 (by decide)).trans h_72
  have h_73 := (hfr 73 (by decide)).trans h_73
  have h_74 := (hfr 74 (by decide)).trans h_74
  have h_75 := (hfr 75 (by decide)).trans h_75
  have hF : ∀ x9, x9 ≠ 72 → x9 ≠ 73 → x9 ≠ 74 → x9 ≠ 75 → x9 ≠ 63 → E_5 x9 = E x9 := fun x9 a0 a1 a2 a3 a4 => (hfr x9 a4).trans (hF x9 a0 a1 a2 a3)
  exact hret dX9_writes_51 hH (⟨h_72, h_73, h_74, h_75, h_63, hF⟩)

set_option maxHeartbeats 1000000 in
set_option maxRecDepth 100000 in
theorem c_X9_refused (l : Launch) (G : qh_G) (z M : Nat) (E : Nat → va_E) (fa : Int32) (tm : Int32) (n : Nat) (m2 : Nat) (ln : Nat) (pt : Int32) (rm : Int32) (rh : Int32) (sf : Int32) (sl : Int32) (rn : Nat) (hM : 84 ≤ M) (b_63 : E 63 = .inr (9, [.int fa, .int tm, .ref (z + 64), .ref (z + 65), .ref (z + 66), .int (nI n), .int (nI m2), .ref (z + 67), .ref (z + 68), .ref (z + 69), .ref (z + 70), .ref (z + 71), .int (nI ln), .ref (z + 72), .ref (z + 73), .ref (z + 74), .ref (z + 75), .int pt, .int rm, .int rh, .ref (z + 76), .ref (z + 77), .ref (z + 78), .ref (z + 79), .ref (z + 80), .int sf, .int sl, .ref (z + 81), .int (nI rn), .ref (z + 82), .ref (z + 83)])) (x : Int32) (y : Int32) (v : Int64) (hl2 : ln ≤ 24) : Met l yX9_refused wsX9_refused (qh_R 1) (qh_Pre G z M E [.ref (z + 63), .int x, .int y, .long v]) (qh_Q G z M (qh_i (fun r E' => E = E' ∧ r = refV n ln x y v))) 0 0 (fun q => z ≤ q) := by
  refine qh_metI (cc := cX9_refused) (maxL := 5) (by decide) rfl (Nat.le_of_ble_eq_true rfl) ?_
  intro pZ eZ sZ mZ aZ bZ tZ cZ RR QQ ls hx hb hml hown hts hRf hRl hH hK hl hret
  have hown : sZ.vm.findClass RX9 = some mZ.cls := hown
  have hl : lv_has ls 5 [(0, .ref (z + 63)), (1, .int x), (2, .int y), (3, .long v)] := hl
  have in_X9 : ∀ w ∈ wsX90, w ∈ wsX9_refused := fun w h => List.mem_cons_of_mem _ (List.mem_append_right _ h)
  have k_149 := hts (.constantLong RX9 149 (-1000000000000)) (by decide +kernel)
  have k_151 := hts (.constantLong RX9 151 (1000000000000)) (by decide +kernel)
  have f_120 : qh_F G sZ mZ aZ 120 9 12 := qh_F.of hts in_X9 hown hK rfl 12 (by decide) (by decide +kernel)
  refine lv_aload_n hx hb dX9_refused_0 rfl (lv_at hl 0 rfl) ?_
  refine lv_iload_n hx hb dX9_refused_1 rfl (lv_at hl 1 rfl) ?_
  refine qh_runV (As := [.int x]) (rest := []) (C := RX9) ⟨hx, hb, hml, hown, hts⟩ hK hH (c_X9_isCell l G z M E fa tm n m2 ln pt rm rh sf sl rn (hM) b_63 x) (cwV 1 hts gX9_refused_X9_isCell rfl rfl rfl (by decide +kernel) (by rw [hRf, hRl]; exact ⟨Nat.le_of_ble_eq_true rfl, Nat.le_of_ble_eq_true rfl⟩)) (by omega) b_63 rfl rfl hl.1 rfl (Nat.le_of_ble_eq_true rfl) dX9_refused_2 ⟨Nat.zero_le _, Nat.zero_le _⟩ (qh_kki fun r_2 E_1 H locs hpost hH => ?_)
  obtain ⟨rfl, rfl⟩ := hpost
  refine lv_if_eq (tgt := 16) hx hb dX9_refused_5 (by decide) (fun c_5 => ?_) (fun c_5 => ?_)
  · have c_5 := bI_eq.mp c_5
    refine lv_iconst (v := (-1)) hx hb dX9_refused_16 (by decide) ?_
    exact hret dX9_refused_17 hH (⟨rfl, (refV_1 (fun w => c_5 w.1)).symm⟩)
  · have c_5 := bI_ne.mp c_5
    refine lv_aload_n hx hb dX9_refused_8 rfl (lv_at hl 0 rfl) ?_
    refine lv_iload_n hx hb dX9_refused_9 rfl (lv_at hl 2 rfl) ?_
    refine qh_runV (As := [.int y]) (rest := []) (C := RX9) ⟨hx, hb, hml, hown, hts⟩ hK hH (c_X9_isCell l G z M E fa tm n m2 ln pt rm rh sf sl rn (hM) b_63 y) (cwV 1 hts gX9_refused_X9_isCell rfl rfl rfl (by decide +kernel) (by rw [hRf, hRl]; exact ⟨Nat.le_of_ble_eq_true rfl, Nat.le_of_ble_eq_true rfl⟩)) (by omega) b_63 rfl rfl hl.1 rfl (Nat.le_of_ble_eq_true rfl) dX9_refused_10 ⟨Nat.zero_le _, Nat.zero_le _⟩ (qh_kki fun r_10 E_2 H locs hpost hH => ?_)
    obtain ⟨rfl, rfl⟩ := hpost
    refine lv_if_ne (tgt := 18) hx hb dX9_refused_13 (by decide) (fun c_13 => ?_) (fun c_13 => ?_)
    · have c_13 := bI_ne.mp c_13
      refine lv_iload_n hx hb dX9_refused_18 rfl (lv_at hl 1 rfl) ?_
      refine lv_iload_n hx hb dX9_refused_19 rfl (lv_at hl 2 rfl) ?_
      refine lv_icmp_gt (tgt := 36) hx hb dX9_refused_20 (by decide) (fun c_20 => ?_) (fun c_20 => ?_)
      · refine lv_bipush (v := (-2)) hx hb dX9_refused_36 (by decide) ?_
        refine lv_goto (tgt := 56) hx hb dX9_refused_38 (by decide) ?_
        exact hret dX9_refused_56 hH (⟨rfl, (refV_2a c_5 c_13 c_20).symm⟩)
      · refine lv_lload_n hx hb dX9_refused_23 rfl (lv_at hl 3 rfl) ?_
        refine lv_ldc2 hx hb hown k_149 dX9_refused_24 ?_
        refine lv_ldc2 hx hb hown k_151 dX9_refused_27 ?_
        refine qh_runS (As := [.long v, .long (-1000000000000), .long 1000000000000]) (rest := []) ⟨hx, hb, hml, hown, hts⟩ hK hH (c_X9_isBetween l G z M E v (-1000000000000) 1000000000000) (va_cwS 3 hts gX9_refused_X9_isBetween rfl rfl rfl (by decide +kernel) (by rw [hRf, hRl]; exact ⟨Nat.le_of_ble_eq_true rfl, Nat.le_of_ble_eq_true rfl⟩)) rfl hl.1 rfl (Nat.le_of_ble_eq_true rfl) dX9_refused_30 ⟨Nat.zero_le _, Nat.zero_le _⟩ (qh_kki fun r_30 E_3 H locs hpost hH => ?_)
        obtain ⟨rfl, rfl⟩ := hpost
        refine lv_if_ne (tgt := 41) hx hb dX9_refused_33 (by decide) (fun c_33 => ?_) (fun c_33 => ?_)
        · have c_33 := bI_ne.mp c_33
          refine lv_aload_n hx hb dX9_refused_41 rfl (lv_at hl 0 rfl) ?_
          refine qh_get hx hb hH f_120 (by omega) b_63 rfl dX9_refused_42 ?_
          refine lv_bipush (v := 24) hx hb dX9_refused_45 (by decide) ?_
          refine lv_icmp_ne (tgt := 55) hx hb dX9_refused_47 (by decide) (fun c_47 => ?_) (fun c_47 => ?_)
          · refine lv_iconst (v := 0) hx hb dX9_refused_55 (by decide) ?_
            exact hret dX9_refused_56 hH (⟨rfl, (refV_0 c_5 c_13 c_20 c_33 (fun w => c_47 (by rw [w]; rfl)) hl2).symm⟩)
          · refine lv_bipush (v := (-4)) hx hb dX9_refused_50 (by decide) ?_
            refine lv_goto (tgt := 56) hx hb dX9_refused_52 (by decide) ?_
            exact hret dX9_refused_56 hH (⟨rfl, (refV_4 c_5 c_13 c_20 c_33 ((nI_eq (b := 24) (by omega) (by decide)).mp c_47)).symm⟩)
        · have c_33 := bI_eq.mp c_33
          refine lv_bipush (v := (-2)) hx hb dX9_refused_36 (by decide) ?_
          refine lv_goto (tgt := 56) hx hb dX9_refused_38 (by decide) ?_
          exact hret dX9_refused_56 hH (⟨rfl, (refV_2b c_5 c_13 c_20 c_33).symm⟩)
    · have c_13 := bI_eq.mp c_13
      refine lv_iconst (v := (-1)) hx hb dX9_refused_16 (by decide) ?_
      exact hret dX9_refused_17 hH (⟨rfl, (refV_1 (fun w => c_13 w.2)).symm⟩)
