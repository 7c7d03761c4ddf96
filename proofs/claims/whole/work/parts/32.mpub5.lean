/-- some cells of a row are copied: those from lo to hi of the run -/
def cpW (f : Nat → Int32) (sp dp lo hi : Nat) : Nat → Int32 := fun p => if dp + lo ≤ p ∧ p < dp + hi then f (sp + (p - dp)) else f p
theorem cpW_0 (f : Nat → Int32) (sp dp q : Nat) : cpW f sp dp q q = f := by
  funext p
  exact if_neg (by omega)
theorem cpW_at {f : Nat → Int32} {sp dp lo hi p : Nat} (h : p < dp + lo ∨ dp + hi ≤ p) : cpW f sp dp lo hi p = f p := if_neg (by omega)
theorem cpW_s (f : Nat → Int32) (sp dp k : Nat) : upd (cpW f sp dp 0 k) (dp + k) (f (sp + k)) = cpW f sp dp 0 (k + 1) := by
  funext p
  simp only [upd, cpW]
  by_cases h : p = dp + k
  · subst h
    rw [if_pos rfl, if_pos (by omega)]
    congr 1
    omega
  · rw [if_neg h]
    by_cases h2 : dp + 0 ≤ p ∧ p < dp + k
    · rw [if_pos h2, if_pos (by omega)]
    · rw [if_neg h2, if_neg (by omega)]
theorem cpW_b {f : Nat → Int32} {sp dp k v : Nat} (hk : k < v) : upd (cpW f sp dp (v - k) v) (dp + (v - 1 - k)) (f (sp + (v - 1 - k))) = cpW f sp dp (v - (k + 1)) v := by
  funext p
  simp only [upd, cpW]
  by_cases h : p = dp + (v - 1 - k)
  · subst h
    rw [if_pos rfl, if_pos (by omega)]
    congr 1
    omega
  · rw [if_neg h]
    by_cases h2 : dp + (v - k) ≤ p ∧ p < dp + v
    · rw [if_pos h2, if_pos (by omega)]
    · rw [if_neg h2, if_neg (by omega)]
theorem cpW_all (f : Nat → Int32) (sp dp v : Nat) : cpW f sp dp 0 v = va_cpy f f sp dp v := rfl
theorem cdF_sc {ce : Nat → Int32} {j a m : Nat} : cdF (scM ce j) a m = cdF ce (60 * j + a) m := by
  funext t
  simp only [cdF, scM, Nat.add_assoc]
theorem dgC_sc {ce : Nat → Int32} {j a m : Nat} : dgC (scM ce j) a m = dgC ce (60 * j + a) m := by
  rw [dgC, dgC, cdF_sc]
theorem ffR_sc {ce : Nat → Int32} {j a m : Nat} : ffR (scM ce j) a m = ffR ce (60 * j + a) m := by
  rw [ffR, ffR, cdF_sc, dgC_sc]
def mixI (a b : Nat → Int32) (q : Nat) : Nat → Int32 := fun k => if k < q then a k else b k
theorem mixI_0 (a b : Nat → Int32) : mixI a b 0 = b := by
  funext k
  exact if_neg (Nat.not_lt_zero k)
theorem mixI_s (a b : Nat → Int32) (q : Nat) : upd (mixI a b q) q (a q) = mixI a b (q + 1) := by
  funext k
  simp only [upd, mixI]
  by_cases h : k = q
  · subst h
    rw [if_pos rfl, if_pos (by omega)]
  · rw [if_neg h]
    by_cases h2 : k < q
    · rw [if_pos h2, if_pos (by omega)]
    · rw [if_neg h2, if_neg (by omega)]
theorem mixI_lt {a b : Nat → Int32} {q k : Nat} (h : k < q) : mixI a b q k = a k := if_pos h
abbrev liveM (so sg : Nat → Int32) (k : Nat) : Prop := so k = -9 ∨ ((so k = 0 ∨ so k = 1 ∨ so k = 2) ∧ ∃ q : Nat, q ≤ 60 ∧ sg k = nI q)
theorem ag_M {so sg : Nat → Int32} {k : Nat} {y q u : Int32} (h : liveM so sg k) : agR (so k) (sg k) y q u = if takF (hrM so k) (so k) y = 0 then (if 0 ≤ u then (if hasP (lgM sg k) q u then 0 else 3) else 4) else takF (hrM so k) (so k) y := by
  by_cases h9 : so k = -9
  · rw [agR, if_pos h9, takF, if_pos (hrM_0 h9), if_neg (by decide)]
  · obtain ⟨v, hv, es⟩ := (h.resolve_left h9).2
    have el : lgM sg k = v := by rw [lgM, es]; exact nI_clamp (by omega)
    rw [agR, if_neg h9, takF, if_neg (hrM_1 h9), el, es]
    by_cases hy : so k = y
    · rw [if_pos hy, if_pos hy, if_pos rfl]
      by_cases h0 : 0 ≤ u
      · rw [if_pos h0, if_pos h0]
        by_cases hp : hasP v q u
        · rw [if_pos hp, if_neg (fun w => w.elim hp.1 (fun w => w.elim hp.2.1 (fun w => hp.2.2.2 (Int32.not_le.mp w))))]
        · rw [if_neg hp, if_pos]
          by_cases w1 : q < 0
          · exact Or.inl w1
          · by_cases w2 : nI v < q
            · exact Or.inr (Or.inl w2)
            · exact Or.inr (Or.inr (fun w3 => hp ⟨w1, w2, Int32.not_lt.mpr h0, Int32.not_lt.mpr w3⟩))
      · rw [if_neg h0, if_neg h0]
    · rw [if_neg hy, if_neg hy, if_neg (by decide)]
theorem ag_0 {so sg : Nat → Int32} {k : Nat} {y q u : Int32} (h : liveM so sg k) (e : agR (so k) (sg k) y q u = 0) : takF (hrM so k) (so k) y = 0 ∧ 0 ≤ u ∧ hasP (lgM sg k) q u := by
  rw [ag_M h] at e
  by_cases h1 : takF (hrM so k) (so k) y = 0
  · rw [if_pos h1] at e
    by_cases h2 : 0 ≤ u
    · rw [if_pos h2] at e
      by_cases h3 : hasP (lgM sg k) q u
      · exact ⟨h1, h2, h3⟩
      · rw [if_neg h3] at e
        exact absurd e (by decide)
    · rw [if_neg h2] at e
      exact absurd e (by decide)
  · rw [if_neg h1] at e
    exact absurd e h1
theorem ag_l {so sg : Nat → Int32} {k : Nat} {y : Int32} (h : liveM so sg k) (hT : takF (hrM so k) (so k) y = 0) : ∃ v, v ≤ 60 ∧ lgM sg k = v := by
  by_cases h9 : so k = -9
  · rw [takF, if_pos (hrM_0 h9)] at hT
    exact absurd hT (by decide)
  · obtain ⟨v, hv, es⟩ := (h.resolve_left h9).2
    exact ⟨v, hv, by rw [lgM, es]; exact nI_clamp (by omega)⟩
theorem ag_row {so sg : Nat → Int32} {k : Nat} {y q u : Int32} {A : Option (Int32 × Int32)} (h : liveM so sg k) (e : ¬ agR (so k) (sg k) y q u = 0) : (if takF (hrM so k) (so k) y = 0 then (if 0 ≤ u then (if hasP (lgM sg k) q u then A else some (-10 - 3, 3)) else some (-10 - 4, 4)) else some (-10 - takF (hrM so k) (so k) y, takF (hrM so k) (so k) y)) = some (-10 - agR (so k) (sg k) y q u, agR (so k) (sg k) y q u) := by
  rw [ag_M h] at e ⊢
  by_cases h1 : takF (hrM so k) (so k) y = 0
  · rw [if_pos h1] at e
    rw [if_pos h1, if_pos h1]
    by_cases h2 : 0 ≤ u
    · rw [if_pos h2] at e
      rw [if_pos h2, if_pos h2]
      by_cases h3 : hasP (lgM sg k) q u
      · rw [if_pos h3] at e
        exact absurd rfl e
      · rw [if_neg h3, if_neg h3]
    · rw [if_neg h2, if_neg h2]
  · rw [if_neg h1, if_neg h1]
theorem ag_day {so sg : Nat → Int32} {k : Nat} {y q u : Int32} {A : Int64 × Int32} (h : liveM so sg k) (h0 : 0 ≤ u) (e : ¬ agR (so k) (sg k) y q u = 0) : (if takF (hrM so k) (so k) y = 0 then (if hasP (lgM sg k) q u then A else (LOSTv, 3)) else (LOSTv, takF (hrM so k) (so k) y)) = (LOSTv, agR (so k) (sg k) y q u) := by
  rw [ag_M h] at e ⊢
  by_cases h1 : takF (hrM so k) (so k) y = 0
  · rw [if_pos h1, if_pos h0] at e
    rw [if_pos h1, if_pos h1, if_pos h0]
    by_cases h3 : hasP (lgM sg k) q u
    · rw [if_pos h3] at e
      exact absurd rfl e
    · rw [if_neg h3, if_neg h3]
  · rw [if_neg h1, if_neg h1]
theorem od_1 {w : Int32} (h : ¬ w < 0 ∧ ¬ 4 < w) : ofDay w := Or.inl ⟨h.1, Int32.not_lt.mp h.2⟩
theorem od_2 {w : Int32} (h : ¬ w < 10 ∧ ¬ 25 < w) : ofDay w := by
  refine Or.inr ⟨h.1, fun q => h.2 ?_⟩
  rw [i32_le] at q
  rw [i32_lt]
  have e5 : (25 : Int32).toInt = 25 := rfl
  have e6 : (26 : Int32).toInt = 26 := rfl
  omega
theorem od_no {w : Int32} (h1 : ¬ (¬ w < 0 ∧ ¬ 4 < w)) (h2 : ¬ (¬ w < 10 ∧ ¬ 25 < w)) : ¬ ofDay w := by
  rintro (q | q)
  · exact h1 ⟨q.1, Int32.not_lt.mpr q.2⟩
  · refine h2 ⟨q.1, fun v => q.2 ?_⟩
    rw [i32_lt] at v
    rw [i32_le]
    have e5 : (25 : Int32).toInt = 25 := rfl
    have e6 : (26 : Int32).toInt = 26 := rfl
    omega
theorem sk_sc {ce : Nat → Int32} {j a : Nat} : (fun t => decide (okS (scM ce j (a + 4 * t)))) = (fun t => decide (okS (ce (60 * j + a + 4 * t)))) := by
  funext t
  have e : 60 * j + (a + 4 * t) = 60 * j + a + 4 * t := (Nat.add_assoc ..).symm
  show decide (okS (ce (60 * j + (a + 4 * t)))) = _
  rw [e]
theorem dyF_sc {f : Nat → Int64} {m2 : Nat} {kd pa ce : Nat → Int32} {j a : Nat} : ∀ t, dyF f m2 kd pa (scM ce j) a t = dyF f m2 kd pa ce (60 * j + a) t
  | 0 => rfl
  | t + 1 => by
    simp only [dyF, dyF_sc t, scM, Nat.add_assoc]
theorem dyH_sc {f : Nat → Int64} {m2 : Nat} {kd pa ce : Nat → Int32} {j a : Nat} : ∀ t, dyH f m2 kd pa (scM ce j) a t = dyH f m2 kd pa ce (60 * j + a) t
  | 0 => rfl
  | t + 1 => by
    simp only [dyH, dyH_sc t, dyF_sc t, scM, Nat.add_assoc]
theorem dyC_sc {n m2 : Nat} {ce : Nat → Int32} {j a m : Nat} : dyC n m2 (scM ce j) a m = dyC n m2 ce (60 * j + a) m := by
  unfold dyC
  congr 1
  funext t
  simp only [dyOk, scM, Nat.add_assoc]
theorem dyR_sc {n m2 : Nat} {ce : Nat → Int32} {j a m : Nat} : dyR n m2 (scM ce j) a m = dyR n m2 ce (60 * j + a) m := by
  rw [dyR, dyR, dyC_sc]
theorem dayT_sc {n m2 : Nat} {f : Nat → Int64} {kd pa ce : Nat → Int32} {j a m : Nat} {w : Int32} : dayT n f m2 kd pa (scM ce j) a m w = dayT n f m2 kd pa ce (60 * j + a) m w := by
  rw [dayT, dayT, dyR_sc, dyC_sc, dyF_sc, dyH_sc]
theorem pfx_mem {d : Nat → Bool} {t : Nat} : ∀ {n : Nat}, t < pfx d n → d t = true
  | 0, h => absurd h (Nat.not_lt_zero t)
  | n + 1, h => by
    rw [pfx] at h
    by_cases q : pfx d n = n ∧ d n = true
    · rw [if_pos q] at h
      by_cases e : t = n
      · rw [e]; exact q.2
      · exact pfx_mem (n := n) (by omega)
    · rw [if_neg q] at h
      exact pfx_mem h
theorem dyF_out {f : Nat → Int64} {n m2 k : Nat} {kd pa s : Nat → Int32} {a : Nat} (hn : n ≤ 16) (hk : ¬ k < n) : ∀ {T : Nat}, (∀ i, i < T → dyOk n m2 s a i) → dyF f m2 kd pa s a T k = f k
  | 0, _ => rfl
  | T + 1, h => by
    obtain ⟨p1, p2, h12, h2, e1, e2⟩ := rfR_ok hn (h T (by omega)).1
    have E1 := congrArg Int32.toNatClampNeg e1
    have E2 := congrArg Int32.toNatClampNeg e2
    rw [nI_clamp (by omega)] at E1 E2
    rw [dyF, actF, E1, E2, if_neg (by omega)]
    exact dyF_out hn hk (fun i hi => h i (by omega))
theorem dyK_out {g f : Nat → Int64} {n m2 k : Nat} {kd pa s : Nat → Int32} {a : Nat} (hn : n ≤ 16) (hk : ¬ k < n) : ∀ {T : Nat}, (∀ i, i < T → dyOk n m2 s a i) → dyK g f m2 kd pa s a T k = g k
  | 0, _ => rfl
  | T + 1, h => by
    obtain ⟨p1, p2, h12, h2, e1, e2⟩ := rfR_ok hn (h T (by omega)).1
    have E1 := congrArg Int32.toNatClampNeg e1
    have E2 := congrArg Int32.toNatClampNeg e2
    rw [nI_clamp (by omega)] at E1 E2
    rw [dyK, hisF, E1, E2, if_neg (by omega)]
    exact dyK_out hn hk (fun i hi => h i (by omega))
theorem day_f {f k1 : Nat → Int64} {n m2 k : Nat} {kd pa s : Nat → Int32} {a T : Nat} (hn : n ≤ 16) (h : ∀ i, i < T → dyOk n m2 s a i) : mixL (mixL f k1 n) (dyF f m2 kd pa s a T) n k = f k := by
  by_cases hk : k < n
  · rw [mixL_lt hk, mixL_lt hk]
  · rw [mixL_ge hk, dyF_out hn hk h]
theorem day_g {f g k2 : Nat → Int64} {n m2 k : Nat} {kd pa s : Nat → Int32} {a T : Nat} (hn : n ≤ 16) (h : ∀ i, i < T → dyOk n m2 s a i) : mixL (mixL g k2 n) (dyK (mixL f g n) f m2 kd pa s a T) n k = g k := by
  by_cases hk : k < n
  · rw [mixL_lt hk, mixL_lt hk]
  · rw [mixL_ge hk, dyK_out hn hk h, mixL_ge hk]
theorem dyK_H {f g : Nat → Int64} {n m2 k : Nat} {kd pa s : Nat → Int32} {a : Nat} (hk : k < n) : ∀ T, dyK (mixL f g n) f m2 kd pa s a T k = dyH f m2 kd pa s a T k
  | 0 => mixL_lt hk
  | T + 1 => by
    rw [dyK, dyH, hisF, hisF, dyK_H hk T]
theorem td_M {f g : Nat → Int64} {n m2 : Nat} {kd pa s : Nat → Int32} {a T : Nat} {w : Int32} (hn : 1 ≤ n) (h : ofDay w) (h1 : ¬ w = 1) : tdR n (dyF f m2 kd pa s a T) (dyH f m2 kd pa s a T) w = tdM n (dyF f m2 kd pa s a T) (dyK (mixL f g n) f m2 kd pa s a T) w := by
  have e0 : (0 : Int32).toInt = 0 := rfl
  have e1 : (1 : Int32).toInt = 1 := rfl
  have e2 : (2 : Int32).toInt = 2 := rfl
  have e3 : (3 : Int32).toInt = 3 := rfl
  have e4 : (4 : Int32).toInt = 4 := rfl
  have e10 : (10 : Int32).toInt = 10 := rfl
  have eM : maxR (dyH f m2 kd pa s a T) 0 (n - 1) = maxR (dyK (mixL f g n) f m2 kd pa s a T) 0 (n - 1) := maxR_cong (fun k _ hk => (dyK_H (by omega) T).symm)
  rw [tdR, tdM]
  by_cases h10 : w < 10
  · rw [if_pos h10]
    by_cases q0 : w = 0
    · rw [if_pos q0, if_pos q0]
    · rw [if_neg q0, if_neg q0]
      by_cases q2 : w = 2
      · rw [if_pos q2, if_pos q2]
      · rw [if_neg q2, if_neg q2]
        by_cases q3 : w = 3
        · rw [if_pos q3, if_pos q3]
        · rw [if_neg q3, if_neg q3]
          have q4 : w = 4 := by
            rcases h with u | u
            · have u1 := u.1
              have u2 := u.2
              rw [i32_eq] at q0 q2 q3 h1 ⊢
              rw [i32_lt] at u1
              rw [i32_le] at u2
              omega
            · exact absurd h10 u.1
          rw [if_pos q4, eM]
  · rw [if_neg h10, if_neg (fun q => h10 (by rw [q]; decide)), if_neg (fun q => h10 (by rw [q]; decide)), if_neg (fun q => h10 (by rw [q]; decide)), if_neg (fun q => h10 (by rw [q]; decide))]
set_option maxHeartbeats 1000000 in
set_option maxRecDepth 100000 in
theorem c_X9_copy (l : Launch) (G : qh_G) (z M : Nat) (E : Nat → va_E) (tr : Int32) (lf : Int32) (n : Nat) (f : Nat → Int64) (g : Nat → Int64) (mb : Nat → Int64) (m2 : Nat) (kd : Nat → Int32) (pa : Nat → Int32) (ln : Nat) (ts : Nat → Int32) (ga : Nat → Nat) (gb : Nat → Nat) (va : Nat → Int64) (rn : Nat) (cn : Nat → Nat) (vs : Nat → Int64) (so : Nat → Int32) (sg : Nat → Int32) (ce : Nat → Int32) (hM : 84 ≤ M) (hX : ME G z E tr lf n f g mb m2 kd pa ln ts ga gb va rn cn vs so sg ce) (hW : MW n m2 ln rn ga gb cn ts va kd so sg) (x : Int32) (y : Int32) (q : Int32) (u : Int32) (v : Int32) : Met l yX9_copy wsX9_copy (qh_R 2) (qh_Pre G z M E [.ref (z + 63), .int x, .int y, .int q, .int u, .int v]) (qh_Q G z M (qh_i (fun r E' => match cpyD x y q u v (hrM so) so (lgM sg) with | some d => r = d.1 ∧ ME G z E' tr d.2 n f g mb m2 kd pa ln ts ga gb va rn cn vs so sg ce ∧ ∀ x9, (x9 < 63 ∨ x9 = 81) → E' x9 = E x9 | none => r = v ∧ ME G z E' tr 0 n f g mb m2 kd pa ln ts ga gb va rn cn vs so sg (va_cpy ce ce (60 * x.toNatClampNeg + y.toNatClampNeg) (60 * q.toNatClampNeg + u.toNatClampNeg) v.toNatClampNeg) ∧ ∀ x9, (x9 < 63 ∨ x9 = 81) → E' x9 = E x9))) 0 0 (fun q => z ≤ q) := by
  refine qh_metI (cc := cX9_copy) (maxL := 10) (by decide) rfl (Nat.le_of_ble_eq_true rfl) ?_
  intro pZ eZ sZ mZ aZ bZ tZ cZ RR QQ ls hx hb hml hown hts hRf hRl hH hK hl hret
  have hown : sZ.vm.findClass RX9 = some mZ.cls := hown
  have hl : lv_has ls 10 [(0, .ref (z + 63)), (1, .int x), (2, .int y), (3, .int q), (4, .int u), (5, .int v)] := hl
  obtain ⟨pt, rm, rh, sf, sl, r1, r2, r3, k1, k2, b_63, b_64, b_65, b_66, b_67, b_68, b_69, b_70, b_71, b_72, b_73, b_74, b_75, b_76, b_77, b_78, b_79, b_80, b_82, b_83⟩ := hX
  obtain ⟨⟨hn16, hm3, hl24, hr8⟩, hval, hcn, hok, hvh, hkd, hso⟩ := hW
  have in_X9 : ∀ w ∈ wsX90, w ∈ wsX9_copy := fun w h => List.mem_cons_of_mem _ (List.mem_append_right _ h)
  have w_71 : qh_W G sZ mZ aZ 71 9 0 .int := qh_W.of hts in_X9 tyX9 tyX9_ok nmX9 hown hK rfl 0 (by decide) (by decide +kernel) rfl (by decide +kernel)
  have f_9 : qh_F G sZ mZ aZ 9 9 2 := qh_F.of hts in_X9 hown hK rfl 2 (by decide) (by decide +kernel)
  have f_13 : qh_F G sZ mZ aZ 13 9 3 := qh_F.of hts in_X9 hown hK rfl 3 (by decide) (by decide +kernel)
  have f_16 : qh_F G sZ mZ aZ 16 9 4 := qh_F.of hts in_X9 hown hK rfl 4 (by decide) (by decide +kernel)
  refine lv_aload_n hx hb dX9_copy_0 rfl (lv_at hl 0 rfl) ?_
  refine lv_iconst (v := 0) hx hb dX9_copy_1 (by decide) ?_
  refine qh_put (fs' := [.int 0, .int tr, .ref (z + 64), .ref (z + 65), .ref (z + 66), .int (nI n), .int (nI m2), .ref (z + 67), .ref (z + 68), .ref (z + 69), .ref (z + 70), .ref (z + 71), .int (nI ln), .ref (z + 72), .ref (z + 73), .ref (z + 74), .ref (z + 75), .int pt, .int rm, .int rh, .ref (z + 76), .ref (z + 77), .ref (z + 78), .ref (z + 79), .ref (z + 80), .int sf, .int sl, .ref (z + 81), .int (nI rn), .ref (z + 82), .ref (z + 83)]) hx hb hH w_71 (by omega) b_63 rfl rfl (Nat.le_of_ble_eq_true rfl) rfl dX9_copy_2 (fun E_1 H locs h_63 hfr hH _ => ?_)
  have hF : ∀ x9, x9 ≠ 63 → E_1 x9 = E x9 := fun x9 a0 => hfr x9 a0
  refine lv_iload_n hx hb dX9_copy_5 rfl (lv_at hl 1 rfl) ?_
  refine qh_runS (As := [.int x]) (rest := []) ⟨hx, hb, hml, hown, hts⟩ hK hH (c_X9_isSheet l G z M E_1 x) (va_cwS 1 hts gX9_copy_X9_isSheet rfl rfl rfl (by decide +kernel) (by rw [hRf, hRl]; exact ⟨Nat.le_of_ble_eq_true rfl, Nat.le_of_ble_eq_true rfl⟩)) rfl hl.1 rfl (Nat.le_of_ble_eq_true rfl) dX9_copy_6 ⟨Nat.zero_le _, Nat.zero_le _⟩ (qh_kki fun r_6 E_2 H locs hpost hH => ?_)
  obtain ⟨rfl, rfl⟩ := hpost
  refine lv_if_eq (tgt := 19) hx hb dX9_copy_9 (by decide) (fun c_9 => ?_) (fun c_9 => ?_)
  · have c_9 := bI_eq.mp c_9
    have c_9 := (not_congr sh4).mp c_9
    have hD : cpyD x y q u v (hrM so) so (lgM sg) = some (-1, 0) := by rw [cpyD, if_neg (fun w => c_9 w.1)]
    refine lv_iconst (v := (-1)) hx hb dX9_copy_19 (by decide) ?_
    exact hret dX9_copy_20 hH (by rw [hD]; exact ⟨rfl, ⟨_, _, _, _, _, _, _, _, _, _, h_63, ((hF 64 (by decide)).trans b_64), ((hF 65 (by decide)).trans b_65), ((hF 66 (by decide)).trans b_66), ((hF 67 (by decide)).trans b_67), ((hF 68 (by decide)).trans b_68), ((hF 69 (by decide)).trans b_69), ((hF 70 (by decide)).trans b_70), ((hF 71 (by decide)).trans b_71), ((hF 72 (by decide)).trans b_72), ((hF 73 (by decide)).trans b_73), ((hF 74 (by decide)).trans b_74), ((hF 75 (by decide)).trans b_75), ((hF 76 (by decide)).trans b_76), ((hF 77 (by decide)).trans b_77), ((hF 78 (by decide)).trans b_78), ((hF 79 (by decide)).trans b_79), ((hF 80 (by decide)).trans b_80), ((hF 82 (by decide)).trans b_82), ((hF 83 (by decide)).trans b_83)⟩, (fun x9 h9 => hF x9 (by omega))⟩)
  · have c_9 := bI_ne.mp c_9
    have c_9 := sh4.mp c_9
    refine lv_iload_n hx hb dX9_copy_12 rfl (lv_at hl 3 rfl) ?_
    refine qh_runS (As := [.int q]) (rest := []) ⟨hx, hb, hml, hown, hts⟩ hK hH (c_X9_isSheet l G z M E_1 q) (va_cwS 1 hts gX9_copy_X9_isSheet rfl rfl rfl (by decide +kernel) (by rw [hRf, hRl]; exact ⟨Nat.le_of_ble_eq_true rfl, Nat.le_of_ble_eq_true rfl⟩)) rfl hl.1 rfl (Nat.le_of_ble_eq_true rfl) dX9_copy_13 ⟨Nat.zero_le _, Nat.zero_le _⟩ (qh_kki fun r_13 E_3 H locs hpost hH => ?_)
    obtain ⟨rfl, rfl⟩ := hpost
    refine lv_if_ne (tgt := 21) hx hb dX9_copy_16 (by decide) (fun c_16 => ?_) (fun c_16 => ?_)
    · have c_16 := bI_ne.mp c_16
      have c_16 := sh4.mp c_16
      obtain ⟨j, hj, ej⟩ := nI_of_in (k := x) (c := 4) (by decide) c_9
      have Ej : x.toNatClampNeg = j := by rw [ej]; exact nI_clamp (by omega)
      obtain ⟨j2, hj2, ej2⟩ := nI_of_in (k := q) (c := 4) (by decide) c_16
      have Ej2 : q.toNatClampNeg = j2 := by rw [ej2]; exact nI_clamp (by omega)
      refine lv_aload_n hx hb dX9_copy_21 rfl (lv_at hl 0 rfl) ?_
      refine qh_get hx hb hH f_9 (by omega) h_63 rfl dX9_copy_22 ?_
      refine lv_iload_n hx hb dX9_copy_25 rfl (lv_at hl 1 rfl) ?_
      refine qh_iald hx hb hK hH (by omega) ((hF 64 (by decide)).trans b_64) (j := j) (ej) (hj) (by omega) dX9_copy_26 ?_
      refine lv_bipush (v := (-9)) hx hb dX9_copy_27 (by decide) ?_
      refine lv_icmp_eq (tgt := 43) hx hb dX9_copy_29 (by decide) (fun c_29 => ?_) (fun c_29 => ?_)
      · have hD : cpyD x y q u v (hrM so) so (lgM sg) = some (-10 - 1, 1) := by rw [cpyD, if_pos ⟨c_9, c_16⟩, Ej, Ej2, if_pos (Or.inl (hrM_0 c_29))]
        refine lv_aload_n hx hb dX9_copy_43 rfl (lv_at hl 0 rfl) ?_
        refine lv_iconst (v := 1) hx hb dX9_copy_44 (by decide) ?_
        refine qh_runV (As := [.int 1]) (rest := []) (C := RX9) ⟨hx, hb, hml, hown, hts⟩ hK hH (c_X9_fails l G z M E_1 0 tr n m2 ln pt rm rh sf sl rn (hM) h_63 1) (cwV 1 hts gX9_copy_X9_fails rfl rfl rfl (by decide +kernel) (by rw [hRf, hRl]; exact ⟨Nat.le_of_ble_eq_true rfl, Nat.le_of_ble_eq_true rfl⟩)) (by omega) h_63 rfl rfl hl.1 rfl (Nat.le_of_ble_eq_true rfl) dX9_copy_45 ⟨Nat.zero_le _, Nat.zero_le _⟩ (qh_kki fun r_45 E_4 H locs hpost hH => ?_)
        obtain ⟨rfl, h_63, hfr⟩ := hpost
        have hF : ∀ x9, x9 ≠ 63 → E_4 x9 = E x9 := fun x9 a0 => (hfr x9 a0).trans (hF x9 a0)
        exact hret dX9_copy_48 hH (by rw [hD]; exact ⟨rfl, ⟨_, _, _, _, _, _, _, _, _, _, h_63, ((hF 64 (by decide)).trans b_64), ((hF 65 (by decide)).trans b_65), ((hF 66 (by decide)).trans b_66), ((hF 67 (by decide)).trans b_67), ((hF 68 (by decide)).trans b_68), ((hF 69 (by decide)).trans b_69), ((hF 70 (by decide)).trans b_70), ((hF 71 (by decide)).trans b_71), ((hF 72 (by decide)).trans b_72), ((hF 73 (by decide)).trans b_73), ((hF 74 (by decide)).trans b_74), ((hF 75 (by decide)).trans b_75), ((hF 76 (by decide)).trans b_76), ((hF 77 (by decide)).trans b_77), ((hF 78 (by decide)).trans b_78), ((hF 79 (by decide)).trans b_79), ((hF 80 (by decide)).trans b_80), ((hF 82 (by decide)).trans b_82), ((hF 83 (by decide)).trans b_83)⟩, (fun x9 h9 => hF x9 (by omega))⟩)
      · refine lv_aload_n hx hb dX9_copy_32 rfl (lv_at hl 0 rfl) ?_
        refine qh_get hx hb hH f_9 (by omega) h_63 rfl dX9_copy_33 ?_
        refine lv_iload_n hx hb dX9_copy_36 rfl (lv_at hl 3 rfl) ?_
        refine qh_iald hx hb hK hH (by omega) ((hF 64 (by decide)).trans b_64) (j := j2) (ej2) (hj2) (by omega) dX9_copy_37 ?_
        refine lv_bipush (v := (-9)) hx hb dX9_copy_38 (by decide) ?_
        refine lv_icmp_ne (tgt := 49) hx hb dX9_copy_40 (by decide) (fun c_40 => ?_) (fun c_40 => ?_)
        · refine lv_aload_n hx hb dX9_copy_49 rfl (lv_at hl 0 rfl) ?_
          refine qh_get hx hb hH f_9 (by omega) h_63 rfl dX9_copy_50 ?_
          refine lv_iload_n hx hb dX9_copy_53 rfl (lv_at hl 1 rfl) ?_
          refine qh_iald hx hb hK hH (by omega) ((hF 64 (by decide)).trans b_64) (j := j) (ej) (hj) (by omega) dX9_copy_54 ?_
          refine lv_aload_n hx hb dX9_copy_55 rfl (lv_at hl 0 rfl) ?_
          refine qh_get hx hb hH f_9 (by omega) h_63 rfl dX9_copy_56 ?_
          refine lv_iload_n hx hb dX9_copy_59 rfl (lv_at hl 3 rfl) ?_
          refine qh_iald hx hb hK hH (by omega) ((hF 64 (by decide)).trans b_64) (j := j2) (ej2) (hj2) (by omega) dX9_copy_60 ?_
          refine lv_icmp_eq (tgt := 70) hx hb dX9_copy_61 (by decide) (fun c_61 => ?_) (fun c_61 => ?_)
          · obtain ⟨l1, hl1, es1⟩ := ((hso j hj).resolve_left c_29).2
            have el1 : lgM sg j = l1 := by rw [lgM, es1]; exact nI_clamp (by omega)
            obtain ⟨l2, hl2, es2⟩ := ((hso j2 hj2).resolve_left c_40).2
            have el2 : lgM sg j2 = l2 := by rw [lgM, es2]; exact nI_clamp (by omega)
            refine lv_iload_n hx hb dX9_copy_70 rfl (lv_at hl 2 rfl) ?_
            refine lv_if_lt (tgt := 109) hx hb dX9_copy_71 (by decide) (fun c_71 => ?_) (fun c_71 => ?_)
            · have hD : cpyD x y q u v (hrM so) so (lgM sg) = some (-10 - 3, 3) := by rw [cpyD, if_pos ⟨c_9, c_16⟩, Ej, Ej2, if_neg (fun w => w.elim (hrM_1 c_29) (hrM_1 c_40)), if_pos c_61, el1, el2, if_neg (fun w => w.1.1 c_71)]
              refine lv_iconst (v := 0) hx hb dX9_copy_109 (by decide) ?_
              refine lv_istore (lv' := [(6, .int 0), (0, .ref (z + 63)), (1, .int x), (2, .int y), (3, .int q), (4, .int u), (5, .int v)]) hx hb dX9_copy_110 hl (by decide) rfl (fun ls hl => ?_)
              refine lv_iload hx hb dX9_copy_112 (lv_at hl 0 rfl) ?_
              refine lv_if_eq (tgt := 144) hx hb dX9_copy_114 (by decide) (fun c_114 => ?_) (fun c_114 => ?_)
              · refine lv_aload_n hx hb dX9_copy_144 rfl (lv_at hl 1 rfl) ?_
                refine lv_iconst (v := 3) hx hb dX9_copy_145 (by decide) ?_
                refine qh_runV (As := [.int 3]) (rest := []) (C := RX9) ⟨hx, hb, hml, hown, hts⟩ hK hH (c_X9_fails l G z M E_1 0 tr n m2 ln pt rm rh sf sl rn (hM) h_63 3) (cwV 1 hts gX9_copy_X9_fails rfl rfl rfl (by decide +kernel) (by rw [hRf, hRl]; exact ⟨Nat.le_of_ble_eq_true rfl, Nat.le_of_ble_eq_true rfl⟩)) (by omega) h_63 rfl rfl hl.1 rfl (Nat.le_of_ble_eq_true rfl) dX9_copy_146 ⟨Nat.zero_le _, Nat.zero_le _⟩ (qh_kki fun r_146 E_5 H locs hpost hH => ?_)
                obtain ⟨rfl, h_63, hfr⟩ := hpost
                have hF : ∀ x9, x9 ≠ 63 → E_5 x9 = E x9 := fun x9 a0 => (hfr x9 a0).trans (hF x9 a0)
                exact hret dX9_copy_149 hH (by rw [hD]; exact ⟨rfl, ⟨_, _, _, _, _, _, _, _, _, _, h_63, ((hF 64 (by decide)).trans b_64), ((hF 65 (by decide)).trans b_65), ((hF 66 (by decide)).trans b_66), ((hF 67 (by decide)).trans b_67), ((hF 68 (by decide)).trans b_68), ((hF 69 (by decide)).trans b_69), ((hF 70 (by decide)).trans b_70), ((hF 71 (by decide)).trans b_71), ((hF 72 (by decide)).trans b_72), ((hF 73 (by decide)).trans b_73), ((hF 74 (by decide)).trans b_74), ((hF 75 (by decide)).trans b_75), ((hF 76 (by decide)).trans b_76), ((hF 77 (by decide)).trans b_77), ((hF 78 (by decide)).trans b_78), ((hF 79 (by decide)).trans b_79), ((hF 80 (by decide)).trans b_80), ((hF 82 (by decide)).trans b_82), ((hF 83 (by decide)).trans b_83)⟩, (fun x9 h9 => hF x9 (by omega))⟩)
              · exact absurd (by decide) c_114
            · refine lv_iload hx hb dX9_copy_74 (lv_at hl 4 rfl) ?_
              refine lv_if_lt (tgt := 109) hx hb dX9_copy_76 (by decide) (fun c_76 => ?_) (fun c_76 => ?_)
              · have hD : cpyD x y q u v (hrM so) so (lgM sg) = some (-10 - 3, 3) := by rw [cpyD, if_pos ⟨c_9, c_16⟩, Ej, Ej2, if_neg (fun w => w.elim (hrM_1 c_29) (hrM_1 c_40)), if_pos c_61, el1, el2, if_neg (fun w => w.2.1 c_76)]
                refine lv_iconst (v := 0) hx hb dX9_copy_109 (by decide) ?_
                refine lv_istore (lv' := [(6, .int 0), (0, .ref (z + 63)), (1, .int x), (2, .int y), (3, .int q), (4, .int u), (5, .int v)]) hx hb dX9_copy_110 hl (by decide) rfl (fun ls hl => ?_)
                refine lv_iload hx hb dX9_copy_112 (lv_at hl 0 rfl) ?_
                refine lv_if_eq (tgt := 144) hx hb dX9_copy_114 (by decide) (fun c_114 => ?_) (fun c_114 => ?_)
                · refine lv_aload_n hx hb dX9_copy_144 rfl (lv_at hl 1 rfl) ?_
                  refine lv_iconst (v := 3) hx hb dX9_copy_145 (by decide) ?_
                  refine qh_runV (As := [.int 3]) (rest := []) (C := RX9) ⟨hx, hb, hml, hown, hts⟩ hK hH (c_X9_fails l G z M E_1 0 tr n m2 ln pt rm rh sf sl rn (hM) h_63 3) (cwV 1 hts gX9_copy_X9_fails rfl rfl rfl (by decide +kernel) (by rw [hRf, hRl]; exact ⟨Nat.le_of_ble_eq_true rfl, Nat.le_of_ble_eq_true rfl⟩)) (by omega) h_63 rfl rfl hl.1 rfl (Nat.le_of_ble_eq_true rfl) dX9_copy_146 ⟨Nat.zero_le _, Nat.zero_le _⟩ (qh_kki fun r_146 E_6 H locs hpost hH => ?_)
                  obtain ⟨rfl, h_63, hfr⟩ := hpost
                  have hF : ∀ x9, x9 ≠ 63 → E_6 x9 = E x9 := fun x9 a0 => (hfr x9 a0).trans (hF x9 a0)
                  exact hret dX9_copy_149 hH (by rw [hD]; exact ⟨rfl, ⟨_, _, _, _, _, _, _, _, _, _, h_63, ((hF 64 (by decide)).trans b_64), ((hF 65 (by decide)).trans b_65), ((hF 66 (by decide)).trans b_66), ((hF 67 (by decide)).trans b_67), ((hF 68 (by decide)).trans b_68), ((hF 69 (by decide)).trans b_69), ((hF 70 (by decide)).trans b_70), ((hF 71 (by decide)).trans b_71), ((hF 72 (by decide)).trans b_72), ((hF 73 (by decide)).trans b_73), ((hF 74 (by decide)).trans b_74), ((hF 75 (by decide)).trans b_75), ((hF 76 (by decide)).trans b_76), ((hF 77 (by decide)).trans b_77), ((hF 78 (by decide)).trans b_78), ((hF 79 (by decide)).trans b_79), ((hF 80 (by decide)).trans b_80), ((hF 82 (by decide)).trans b_82), ((hF 83 (by decide)).trans b_83)⟩, (fun x9 h9 => hF x9 (by omega))⟩)
                · exact absurd (by decide) c_114
              · refine lv_iload hx hb dX9_copy_79 (lv_at hl 5 rfl) ?_
                refine lv_if_lt (tgt := 109) hx hb dX9_copy_81 (by decide) (fun c_81 => ?_) (fun c_81 => ?_)
                · have hD : cpyD x y q u v (hrM so) so (lgM sg) = some (-10 - 3, 3) := by rw [cpyD, if_pos ⟨c_9, c_16⟩, Ej, Ej2, if_neg (fun w => w.elim (hrM_1 c_29) (hrM_1 c_40)), if_pos c_61, el1, el2, if_neg (fun w => w.1.2.2.1 c_81)]
                  refine lv_iconst (v := 0) hx hb dX9_copy_109 (by decide) ?_
                  refine lv_istore (lv' := [(6, .int 0), (0, .ref (z + 63)), (1, .int x), (2, .int y), (3, .int q), (4, .int u), (5, .int v)]) hx hb dX9_copy_110 hl (by decide) rfl (fun ls hl => ?_)
                  refine lv_iload hx hb dX9_copy_112 (lv_at hl 0 rfl) ?_
                  refine lv_if_eq (tgt := 144) hx hb dX9_copy_114 (by decide) (fun c_114 => ?_) (fun c_114 => ?_)
                  · refine lv_aload_n hx hb dX9_copy_144 rfl (lv_at hl 1 rfl) ?_
                    refine lv_iconst (v := 3) hx hb dX9_copy_145 (by decide) ?_
                    refine qh_runV (As := [.int 3]) (rest := []) (C := RX9) ⟨hx, hb, hml, hown, hts⟩ hK hH (c_X9_fails l G z M E_1 0 tr n m2 ln pt rm rh sf sl rn (hM) h_63 3) (cwV 1 hts gX9_copy_X9_fails rfl rfl rfl (by decide +kernel) (by rw [hRf, hRl]; exact ⟨Nat.le_of_ble_eq_true rfl, Nat.le_of_ble_eq_true rfl⟩)) (by omega) h_63 rfl rfl hl.1 rfl (Nat.le_of_ble_eq_true rfl) dX9_copy_146 ⟨Nat.zero_le _, Nat.zero_le _⟩ (qh_kki fun r_146 E_7 H locs hpost hH => ?_)
                    obtain ⟨rfl, h_63, hfr⟩ := hpost
                    have hF : ∀ x9, x9 ≠ 63 → E_7 x9 = E x9 := fun x9 a0 => (hfr x9 a0).trans (hF x9 a0)
                    exact hret dX9_copy_149 hH (by rw [hD]; exact ⟨rfl, ⟨_, _, _, _, _, _, _, _, _, _, h_63, ((hF 64 (by decide)).trans b_64), ((hF 65 (by decide)).trans b_65), ((hF 66 (by decide)).trans b_66), ((hF 67 (by decide)).trans b_67), ((hF 68 (by decide)).trans b_68), ((hF 69 (by decide)).trans b_69), ((hF 70 (by decide)).trans b_70), ((hF 71 (by decide)).trans b_71), ((hF 72 (by decide)).trans b_72), ((hF 73 (by decide)).trans b_73), ((hF 74 (by decide)).trans b_74), ((hF 75 (by decide)).trans b_75), ((hF 76 (by decide)).trans b_76), ((hF 77 (by decide)).trans b_77), ((hF 78 (by decide)).trans b_78), ((hF 79 (by decide)).trans b_79), ((hF 80 (by decide)).trans b_80), ((hF 82 (by decide)).trans b_82), ((hF 83 (by decide)).trans b_83)⟩, (fun x9 h9 => hF x9 (by omega))⟩)
                  · exact absurd (by decide) c_114
                · refine lv_iload_n hx hb dX9_copy_84 rfl (lv_at hl 2 rfl) ?_
                  refine lv_aload_n hx hb dX9_copy_85 rfl (lv_at hl 0 rfl) ?_
                  refine qh_get hx hb hH f_13 (by omega) h_63 rfl dX9_copy_86 ?_
                  refine lv_iload_n hx hb dX9_copy_89 rfl (lv_at hl 1 rfl) ?_
                  refine qh_iald hx hb hK hH (by omega) ((hF 65 (by decide)).trans b_65) (j := j) (ej) (hj) (by omega) dX9_copy_90 ?_
                  refine lv_icmp_gt (tgt := 109) hx hb dX9_copy_91 (by decide) (fun c_91 => ?_) (fun c_91 => ?_)
                  · have hD : cpyD x y q u v (hrM so) so (lgM sg) = some (-10 - 3, 3) := by rw [cpyD, if_pos ⟨c_9, c_16⟩, Ej, Ej2, if_neg (fun w => w.elim (hrM_1 c_29) (hrM_1 c_40)), if_pos c_61, el1, el2, if_neg (fun w => w.1.2.1 (by rw [← es1]; exact c_91))]
                    refine lv_iconst (v := 0) hx hb dX9_copy_109 (by decide) ?_
                    refine lv_istore (lv' := [(6, .int 0), (0, .ref (z + 63)), (1, .int x), (2, .int y), (3, .int q), (4, .int u), (5, .int v)]) hx hb dX9_copy_110 hl (by decide) rfl (fun ls hl => ?_)
                    refine lv_iload hx hb dX9_copy_112 (lv_at hl 0 rfl) ?_
                    refine lv_if_eq (tgt := 144) hx hb dX9_copy_114 (by decide) (fun c_114 => ?_) (fun c_114 => ?_)
                    · refine lv_aload_n hx hb dX9_copy_144 rfl (lv_at hl 1 rfl) ?_
                      refine lv_iconst (v := 3) hx hb dX9_copy_145 (by decide) ?_
                      refine qh_runV (As := [.int 3]) (rest := []) (C := RX9) ⟨hx, hb, hml, hown, hts⟩ hK hH (c_X9_fails l G z M E_1 0 tr n m2 ln pt rm rh sf sl rn (hM) h_63 3) (cwV 1 hts gX9_copy_X9_fails rfl rfl rfl (by decide +kernel) (by rw [hRf, hRl]; exact ⟨Nat.le_of_ble_eq_true rfl, Nat.le_of_ble_eq_true rfl⟩)) (by omega) h_63 rfl rfl hl.1 rfl (Nat.le_of_ble_eq_true rfl) dX9_copy_146 ⟨Nat.zero_le _, Nat.zero_le _⟩ (qh_kki fun r_146 E_8 H locs hpost hH => ?_)
                      obtain ⟨rfl, h_63, hfr⟩ := hpost
                      have hF : ∀ x9, x9 ≠ 63 → E_8 x9 = E x9 := fun x9 a0 => (hfr x9 a0).trans (hF x9 a0)
                      exact hret dX9_copy_149 hH (by rw [hD]; exact ⟨rfl, ⟨_, _, _, _, _, _, _, _, _, _, h_63, ((hF 64 (by decide)).trans b_64), ((hF 65 (by decide)).trans b_65), ((hF 66 (by decide)).trans b_66), ((hF 67 (by decide)).trans b_67), ((hF 68 (by decide)).trans b_68), ((hF 69 (by decide)).trans b_69), ((hF 70 (by decide)).trans b_70), ((hF 71 (by decide)).trans b_71), ((hF 72 (by decide)).trans b_72), ((hF 73 (by decide)).trans b_73), ((hF 74 (by decide)).trans b_74), ((hF 75 (by decide)).trans b_75), ((hF 76 (by decide)).trans b_76), ((hF 77 (by decide)).trans b_77), ((hF 78 (by decide)).trans b_78), ((hF 79 (by decide)).trans b_79), ((hF 80 (by decide)).trans b_80), ((hF 82 (by decide)).trans b_82), ((hF 83 (by decide)).trans b_83)⟩, (fun x9 h9 => hF x9 (by omega))⟩)
                    · exact absurd (by decide) c_114
                  · refine lv_iload hx hb dX9_copy_94 (lv_at hl 4 rfl) ?_
                    refine lv_aload_n hx hb dX9_copy_96 rfl (lv_at hl 0 rfl) ?_
                    refine qh_get hx hb hH f_13 (by omega) h_63 rfl dX9_copy_97 ?_
                    refine lv_iload_n hx hb dX9_copy_100 rfl (lv_at hl 3 rfl) ?_
                    refine qh_iald hx hb hK hH (by omega) ((hF 65 (by decide)).trans b_65) (j := j2) (ej2) (hj2) (by omega) dX9_copy_101 ?_
                    refine lv_icmp_gt (tgt := 109) hx hb dX9_copy_102 (by decide) (fun c_102 => ?_) (fun c_102 => ?_)
                    · have hD : cpyD x y q u v (hrM so) so (lgM sg) = some (-10 - 3, 3) := by rw [cpyD, if_pos ⟨c_9, c_16⟩, Ej, Ej2, if_neg (fun w => w.elim (hrM_1 c_29) (hrM_1 c_40)), if_pos c_61, el1, el2, if_neg (fun w => w.2.2.1 (by rw [← es2]; exact c_102))]
                      refine lv_iconst (v := 0) hx hb dX9_copy_109 (by decide) ?_
                      refine lv_istore (lv' := [(6, .int 0), (0, .ref (z + 63)), (1, .int x), (2, .int y), (3, .int q), (4, .int u), (5, .int v)]) hx hb dX9_copy_110 hl (by decide) rfl (fun ls hl => ?_)
                      refine lv_iload hx hb dX9_copy_112 (lv_at hl 0 rfl) ?_
                      refine lv_if_eq (tgt := 144) hx hb dX9_copy_114 (by decide) (fun c_114 => ?_) (fun c_114 => ?_)
                      · refine lv_aload_n hx hb dX9_copy_144 rfl (lv_at hl 1 rfl) ?_
                        refine lv_iconst (v := 3) hx hb dX9_copy_145 (by decide) ?_
                        refine qh_runV (As := [.int 3]) (rest := []) (C := RX9) ⟨hx, hb, hml, hown, hts⟩ hK hH (c_X9_fails l G z M E_1 0 tr n m2 ln pt rm rh sf sl rn (hM) h_63 3) (cwV 1 hts gX9_copy_X9_fails rfl rfl rfl (by decide +kernel) (by rw [hRf, hRl]; exact ⟨Nat.le_of_ble_eq_true rfl, Nat.le_of_ble_eq_true rfl⟩)) (by omega) h_63 rfl rfl hl.1 rfl (Nat.le_of_ble_eq_true rfl) dX9_copy_146 ⟨Nat.zero_le _, Nat.zero_le _⟩ (qh_kki fun r_146 E_9 H locs hpost hH => ?_)
                        obtain ⟨rfl, h_63, hfr⟩ := hpost
                        have hF : ∀ x9, x9 ≠ 63 → E_9 x9 = E x9 := fun x9 a0 => (hfr x9 a0).trans (hF x9 a0)
                        exact hret dX9_copy_149 hH (by rw [hD]; exact ⟨rfl, ⟨_, _, _, _, _, _, _, _, _, _, h_63, ((hF 64 (by decide)).trans b_64), ((hF 65 (by decide)).trans b_65), ((hF 66 (by decide)).trans b_66), ((hF 67 (by decide)).trans b_67), ((hF 68 (by decide)).trans b_68), ((hF 69 (by decide)).trans b_69), ((hF 70 (by decide)).trans b_70), ((hF 71 (by decide)).trans b_71), ((hF 72 (by decide)).trans b_72), ((hF 73 (by decide)).trans b_73), ((hF 74 (by decide)).trans b_74), ((hF 75 (by decide)).trans b_75), ((hF 76 (by decide)).trans b_76), ((hF 77 (by decide)).trans b_77), ((hF 78 (by decide)).trans b_78), ((hF 79 (by decide)).trans b_79), ((hF 80 (by decide)).trans b_80), ((hF 82 (by decide)).trans b_82), ((hF 83 (by decide)).trans b_83)⟩, (fun x9 h9 => hF x9 (by omega))⟩)
                      · exact absurd (by decide) c_114
                    · refine lv_iconst (v := 1) hx hb dX9_copy_105 (by decide) ?_
                      refine lv_goto (tgt := 110) hx hb dX9_copy_106 (by decide) ?_
                      refine lv_istore (lv' := [(6, .int 1), (0, .ref (z + 63)), (1, .int x), (2, .int y), (3, .int q), (4, .int u), (5, .int v)]) hx hb dX9_copy_110 hl (by decide) rfl (fun ls hl => ?_)
                      refine lv_iload hx hb dX9_copy_112 (lv_at hl 0 rfl) ?_
                      refine lv_if_eq (tgt := 144) hx hb dX9_copy_114 (by decide) (fun c_114 => ?_) (fun c_114 => ?_)
                      · exact absurd c_114 (by decide)
                      · refine lv_iload hx hb dX9_copy_117 (lv_at hl 6 rfl) ?_
                        refine lv_aload_n hx hb dX9_copy_119 rfl (lv_at hl 1 rfl) ?_
                        refine qh_get hx hb hH f_13 (by omega) h_63 rfl dX9_copy_120 ?_
                        refine lv_iload_n hx hb dX9_copy_123 rfl (lv_at hl 2 rfl) ?_
                        refine qh_iald hx hb hK hH (by omega) ((hF 65 (by decide)).trans b_65) (j := j) (ej) (hj) (by omega) dX9_copy_124 ?_
                        refine lv_iload_n hx hb dX9_copy_125 rfl (lv_at hl 3 rfl) ?_
                        refine lv_isub hx hb dX9_copy_126 ?_
                        refine lv_icmp_gt (tgt := 144) hx hb dX9_copy_127 (by decide) (fun c_127 => ?_) (fun c_127 => ?_)
                        · have hD : cpyD x y q u v (hrM so) so (lgM sg) = some (-10 - 3, 3) := by rw [cpyD, if_pos ⟨c_9, c_16⟩, Ej, Ej2, if_neg (fun w => w.elim (hrM_1 c_29) (hrM_1 c_40)), if_pos c_61, el1, el2, if_neg (fun w => w.1.2.2.2 (by rw [← es1]; exact c_127))]
                          refine lv_aload_n hx hb dX9_copy_144 rfl (lv_at hl 1 rfl) ?_
                          refine lv_iconst (v := 3) hx hb dX9_copy_145 (by decide) ?_
                          refine qh_runV (As := [.int 3]) (rest := []) (C := RX9) ⟨hx, hb, hml, hown, hts⟩ hK hH (c_X9_fails l G z M E_1 0 tr n m2 ln pt rm rh sf sl rn (hM) h_63 3) (cwV 1 hts gX9_copy_X9_fails rfl rfl rfl (by decide +kernel) (by rw [hRf, hRl]; exact ⟨Nat.le_of_ble_eq_true rfl, Nat.le_of_ble_eq_true rfl⟩)) (by omega) h_63 rfl rfl hl.1 rfl (Nat.le_of_ble_eq_true rfl) dX9_copy_146 ⟨Nat.zero_le _, Nat.zero_le _⟩ (qh_kki fun r_146 E_10 H locs hpost hH => ?_)
                          obtain ⟨rfl, h_63, hfr⟩ := hpost
                          have hF : ∀ x9, x9 ≠ 63 → E_10 x9 = E x9 := fun x9 a0 => (hfr x9 a0).trans (hF x9 a0)
                          exact hret dX9_copy_149 hH (by rw [hD]; exact ⟨rfl, ⟨_, _, _, _, _, _, _, _, _, _, h_63, ((hF 64 (by decide)).trans b_64), ((hF 65 (by decide)).trans b_65), ((hF 66 (by decide)).trans b_66), ((hF 67 (by decide)).trans b_67), ((hF 68 (by decide)).trans b_68), ((hF 69 (by decide)).trans b_69), ((hF 70 (by decide)).trans b_70), ((hF 71 (by decide)).trans b_71), ((hF 72 (by decide)).trans b_72), ((hF 73 (by decide)).trans b_73), ((hF 74 (by decide)).trans b_74), ((hF 75 (by decide)).trans b_75), ((hF 76 (by decide)).trans b_76), ((hF 77 (by decide)).trans b_77), ((hF 78 (by decide)).trans b_78), ((hF 79 (by decide)).trans b_79), ((hF 80 (by decide)).trans b_80), ((hF 82 (by decide)).trans b_82), ((hF 83 (by decide)).trans b_83)⟩, (fun x9 h9 => hF x9 (by omega))⟩)
                        · refine lv_iload hx hb dX9_copy_130 (lv_at hl 6 rfl) ?_
                          refine lv_aload_n hx hb dX9_copy_132 rfl (lv_at hl 1 rfl) ?_
                          refine qh_get hx hb hH f_13 (by omega) h_63 rfl dX9_copy_133 ?_
                          refine lv_iload_n hx hb dX9_copy_136 rfl (lv_at hl 4 rfl) ?_
                          refine qh_iald hx hb hK hH (by omega) ((hF 65 (by decide)).trans b_65) (j := j2) (ej2) (hj2) (by omega) dX9_copy_137 ?_
                          refine lv_iload hx hb dX9_copy_138 (lv_at hl 5 rfl) ?_
                          refine lv_isub hx hb dX9_copy_140 ?_
                          refine lv_icmp_le (tgt := 150) hx hb dX9_copy_141 (by decide) (fun c_141 => ?_) (fun c_141 => ?_)
                          · have hp1 : hasP l1 y v := ⟨c_71, by rw [← es1]; exact c_91, c_81, by rw [← es1]; exact c_127⟩
                            have hp2 : hasP l2 u v := ⟨c_76, by rw [← es2]; exact c_102, c_81, by rw [← es2]; exact Int32.not_lt.mpr c_141⟩
                            have hD : cpyD x y q u v (hrM so) so (lgM sg) = none := by rw [cpyD, if_pos ⟨c_9, c_16⟩, Ej, Ej2, if_neg (fun w => w.elim (hrM_1 c_29) (hrM_1 c_40)), if_pos c_61, el1, el2, if_pos ⟨hp1, hp2⟩]
                            obtain ⟨y1, v1, ey, ev, hyv⟩ := has_n hl1 hp1
                            obtain ⟨u1, v2, eu, ev2, huv⟩ := has_n hl2 hp2
                            have evv : v1 = v2 := (nI_eq (by omega) (by omega)).mp (ev.symm.trans ev2)
                            subst evv
                            have Ey : y.toNatClampNeg = y1 := by rw [ey]; exact nI_clamp (by omega)
                            have Eu : u.toNatClampNeg = u1 := by rw [eu]; exact nI_clamp (by omega)
                            have Ev : v.toNatClampNeg = v1 := by rw [ev]; exact nI_clamp (by omega)
                            have hl : lv_has ls 10 [(6, .int 1), (0, .ref (z + 63)), (1, .int (nI j)), (2, .int y), (3, .int q), (4, .int u), (5, .int v)] := by rw [← ej]; exact hl
                            have hl : lv_has ls 10 [(6, .int 1), (0, .ref (z + 63)), (1, .int (nI j)), (2, .int (nI y1)), (3, .int q), (4, .int u), (5, .int v)] := by rw [← ey]; exact hl
                            have hl : lv_has ls 10 [(6, .int 1), (0, .ref (z + 63)), (1, .int (nI j)), (2, .int (nI y1)), (3, .int (nI j2)), (4, .int u), (5, .int v)] := by rw [← ej2]; exact hl
                            have hl : lv_has ls 10 [(6, .int 1), (0, .ref (z + 63)), (1, .int (nI j)), (2, .int (nI y1)), (3, .int (nI j2)), (4, .int (nI u1)), (5, .int v)] := by rw [← eu]; exact hl
                            have hl : lv_has ls 10 [(6, .int 1), (0, .ref (z + 63)), (1, .int (nI j)), (2, .int (nI y1)), (3, .int (nI j2)), (4, .int (nI u1)), (5, .int (nI v1))] := by rw [← ev]; exact hl
                            have L_166 : ∀ fu_166 : Nat, ∀ k : Nat, ∀ ah : Int32, ∀ lo : Nat, ∀ hi : Nat, (k ≤ v1) → ((ah = 0 ∧ lo = 0 ∧ hi = k ∧ (j = j2 → u1 ≤ y1)) ∨ (ah = 1 ∧ lo = v1 - k ∧ hi = v1 ∧ (j = j2 → y1 < u1))) → (v1 - k < fu_166) → ∀ Ek : Nat → va_E, Ek 63 = .inr (9, [.int 0, .int tr, .ref (z + 64), .ref (z + 65), .ref (z + 66), .int (nI n), .int (nI m2), .ref (z + 67), .ref (z + 68), .ref (z + 69), .ref (z + 70), .ref (z + 71), .int (nI ln), .ref (z + 72), .ref (z + 73), .ref (z + 74), .ref (z + 75), .int pt, .int rm, .int rh, .ref (z + 76), .ref (z + 77), .ref (z + 78), .ref (z + 79), .ref (z + 80), .int sf, .int sl, .ref (z + 81), .int (nI rn), .ref (z + 82), .ref (z + 83)]) → Ek 66 = qa_I G 240 (cpW ce (60 * j + y1) (60 * j2 + u1) lo hi) → (∀ x9, x9 ≠ 63 → x9 ≠ 66 → Ek x9 = E x9) → ∀ (H : Heap) (locs : List Loc), qh_H G z M Ek sZ.heap H locs → ∀ ls : Array Slot, lv_has ls 10 [(0, .ref (z + 63)), (1, .int (nI j)), (2, .int (nI y1)), (3, .int (nI j2)), (4, .int (nI u1)), (5, .int (nI v1)), (7, .int ah), (8, .int (nI k))] → W pZ l eZ RR sZ mZ aZ bZ tZ cZ H locs 0 0 QQ (F0 mZ 166 ls []) := by
                              intro fu_166
                              induction fu_166 with
                              | zero =>
                                intro k ah lo hi hk hca hfuel
                                exact absurd hfuel (by omega)
                              | succ fu_166 ih_166 =>
                                intro k ah lo hi hk hca hfuel Ek h_63 h_66 hF H locs hH ls hl
                                refine lv_iload hx hb dX9_copy_166 (lv_at hl 7 rfl) ?_
                                refine lv_iload hx hb dX9_copy_168 (lv_at hl 5 rfl) ?_
                                refine lv_icmp_ge (tgt := 227) hx hb dX9_copy_170 (by decide) (fun c_170 => ?_) (fun c_170 => ?_)
                                · have hk : v1 ≤ k := (nI_leI (by omega) (by omega)).mp c_170
                                  have hex : v1 = k := by omega
                                  subst hex
                                  refine lv_iload hx hb dX9_copy_227 (lv_at hl 5 rfl) ?_
                                  have ecp : cpW ce (60 * j + y1) (60 * j2 + u1) lo hi = va_cpy ce ce (60 * j + y1) (60 * j2 + u1) v1 := by
                                    rcases hca with q | q
                                    · rw [q.2.1, q.2.2.1]; exact cpW_all ..
                                    · rw [q.2.1, q.2.2.1, Nat.sub_self]; exact cpW_all ..
                                  rw [ecp] at h_66
                                  exact hret dX9_copy_229 hH (by rw [hD, Ej, Ej2, Ey, Eu, Ev, ev]; exact ⟨rfl, ⟨_, _, _, _, _, _, _, _, _, _, h_63, ((hF 64 (by decide) (by decide)).trans b_64), ((hF 65 (by decide) (by decide)).trans b_65), h_66, ((hF 67 (by decide) (by decide)).trans b_67), ((hF 68 (by decide) (by decide)).trans b_68), ((hF 69 (by decide) (by decide)).trans b_69), ((hF 70 (by decide) (by decide)).trans b_70), ((hF 71 (by decide) (by decide)).trans b_71), ((hF 72 (by decide) (by decide)).trans b_72), ((hF 73 (by decide) (by decide)).trans b_73), ((hF 74 (by decide) (by decide)).trans b_74), ((hF 75 (by decide) (by decide)).trans b_75), ((hF 76 (by decide) (by decide)).trans b_76), ((hF 77 (by decide) (by decide)).trans b_77), ((hF 78 (by decide) (by decide)).trans b_78), ((hF 79 (by decide) (by decide)).trans b_79), ((hF 80 (by decide) (by decide)).trans b_80), ((hF 82 (by decide) (by decide)).trans b_82), ((hF 83 (by decide) (by decide)).trans b_83)⟩, (fun x9 h9 => hF x9 (by omega) (by omega))⟩)
                                · have hk : ¬ v1 ≤ k := fun w => c_170 (nI_le w (by omega))
                                  refine lv_iload hx hb dX9_copy_173 (lv_at hl 6 rfl) ?_
                                  refine lv_if_eq (tgt := 188) hx hb dX9_copy_175 (by decide) (fun c_175 => ?_) (fun c_175 => ?_)
                                  · obtain ⟨hlo, hhi, hsf⟩ : 0 = lo ∧ k = hi ∧ (j = j2 → u1 ≤ y1) := hca.elim (fun w => ⟨w.2.1.symm, w.2.2.1.symm, w.2.2.2⟩) (fun w => absurd (w.1.symm.trans c_175) (by decide))
                                    subst hlo
                                    subst hhi
                                    refine lv_iload hx hb dX9_copy_188 (lv_at hl 7 rfl) ?_
                                    refine lv_istore (lv' := [(9, .int (nI k)), (0, .ref (z + 63)), (1, .int (nI j)), (2, .int (nI y1)), (3, .int (nI j2)), (4, .int (nI u1)), (5, .int (nI v1)), (7, .int ah), (8, .int (nI k))]) hx hb dX9_copy_190 hl (by decide) rfl (fun ls hl => ?_)
                                    refine lv_aload_n hx hb dX9_copy_192 rfl (lv_at hl 1 rfl) ?_
                                    refine qh_get hx hb hH f_16 (by omega) h_63 rfl dX9_copy_193 ?_
                                    refine lv_bipush (v := 60) hx hb dX9_copy_196 (by decide) ?_
                                    refine lv_iload_n hx hb dX9_copy_198 rfl (lv_at hl 4 rfl) ?_
                                    refine lv_imul hx hb dX9_copy_199 ?_
                                    refine qh_topi (y := nI (60 * j2)) (pk_mul 60 j2) ?_
                                    refine lv_iload hx hb dX9_copy_200 (lv_at hl 5 rfl) ?_
                                    refine lv_iadd hx hb dX9_copy_202 ?_
                                    refine qh_topi (y := nI (60 * j2 + u1)) (nI_add _ _) ?_
                                    refine lv_iload hx hb dX9_copy_203 (lv_at hl 0 rfl) ?_
                                    refine lv_iadd hx hb dX9_copy_205 ?_
                                    refine qh_topi (y := nI (60 * j2 + u1 + k)) (nI_add _ _) ?_
                                    refine lv_aload_n hx hb dX9_copy_206 rfl (lv_at hl 1 rfl) ?_
                                    refine qh_get hx hb hH f_16 (by omega) h_63 rfl dX9_copy_207 ?_
                                    refine lv_bipush (v := 60) hx hb dX9_copy_210 (by decide) ?_
                                    refine lv_iload_n hx hb dX9_copy_212 rfl (lv_at hl 2 rfl) ?_
                                    refine lv_imul hx hb dX9_copy_213 ?_
                                    refine qh_topi (y := nI (60 * j)) (pk_mul 60 j) ?_
                                    refine lv_iload_n hx hb dX9_copy_214 rfl (lv_at hl 3 rfl) ?_
                                    refine lv_iadd hx hb dX9_copy_215 ?_
                                    refine qh_topi (y := nI (60 * j + y1)) (nI_add _ _) ?_
                                    refine lv_iload hx hb dX9_copy_216 (lv_at hl 0 rfl) ?_
                                    refine lv_iadd hx hb dX9_copy_218 ?_
                                    refine qh_topi (y := nI (60 * j + y1 + k)) (nI_add _ _) ?_
                                    refine qh_iald hx hb hK hH (by omega) h_66 (j := 60 * j + y1 + k) (rfl) (by omega) (by omega) dX9_copy_219 ?_
                                    refine qh_topi (y := ce (60 * j + y1 + k)) (cpW_at (by omega)) ?_
                                    refine qh_iast hx hb hK hH (by omega) h_66 (j := 60 * j2 + u1 + k) (rfl) (by omega) (by omega) dX9_copy_220 (fun E_11 H locs h_66 hfr hH _ => ?_)
                                    have h_66 : E_11 66 = qa_I G 240 (cpW ce (60 * j + y1) (60 * j2 + u1) 0 (k + 1)) := h_66.trans (congrArg (qa_I G 240) (cpW_s ..))
                                    have h_63 := (hfr 63 (by decide)).trans h_63
                                    have hF : ∀ x9, x9 ≠ 63 → x9 ≠ 66 → E_11 x9 = E x9 := fun x9 a0 a1 => (hfr x9 a1).trans (hF x9 a0 a1)
                                    refine lv_iinc (v := nI (k + 1)) (lv' := [(8, .int (nI (k + 1))), (9, .int (nI k)), (0, .ref (z + 63)), (1, .int (nI j)), (2, .int (nI y1)), (3, .int (nI j2)), (4, .int (nI u1)), (5, .int (nI v1)), (7, .int ah)]) hx hb dX9_copy_221 hl (k := 8) rfl (qn_inc k) (by decide) rfl (fun ls hl => ?_)
                                    refine lv_goto (tgt := 166) hx hb dX9_copy_224 (by decide) ?_
                                    exact ih_166 (k + 1) ah 0 (k + 1) (by omega) (Or.inl ⟨c_175, rfl, rfl, hsf⟩) (by omega) E_11 h_63 h_66 (fun x9 a0 a1 => hF x9 a0 a1) _ _ hH ls (lv_sub hl [2, 3, 4, 5, 6, 7, 8, 0] rfl)
                                  · obtain ⟨hlo, hhi, hsf⟩ : v1 - k = lo ∧ v1 = hi ∧ (j = j2 → y1 < u1) := hca.elim (fun w => absurd w.1 c_175) (fun w => ⟨w.2.1.symm, w.2.2.1.symm, w.2.2.2⟩)
                                    subst hlo
                                    subst hhi
                                    refine lv_iload hx hb dX9_copy_178 (lv_at hl 5 rfl) ?_
                                    refine lv_iconst (v := 1) hx hb dX9_copy_180 (by decide) ?_
                                    refine lv_isub hx hb dX9_copy_181 ?_
                                    refine qh_topi (y := nI (v1 - 1)) (pk_sub (b := 1) (by omega)) ?_
                                    refine lv_iload hx hb dX9_copy_182 (lv_at hl 7 rfl) ?_
                                    refine lv_isub hx hb dX9_copy_184 ?_
                                    refine qh_topi (y := nI (v1 - 1 - k)) (pk_sub (by omega)) ?_
                                    refine lv_goto (tgt := 190) hx hb dX9_copy_185 (by decide) ?_
                                    refine lv_istore (lv' := [(9, .int (nI (v1 - 1 - k))), (0, .ref (z + 63)), (1, .int (nI j)), (2, .int (nI y1)), (3, .int (nI j2)), (4, .int (nI u1)), (5, .int (nI v1)), (7, .int ah), (8, .int (nI k))]) hx hb dX9_copy_190 hl (by decide) rfl (fun ls hl => ?_)
                                    refine lv_aload_n hx hb dX9_copy_192 rfl (lv_at hl 1 rfl) ?_
                                    refine qh_get hx hb hH f_16 (by omega) h_63 rfl dX9_copy_193 ?_
                                    refine lv_bipush (v := 60) hx hb dX9_copy_196 (by decide) ?_
                                    refine lv_iload_n hx hb dX9_copy_198 rfl (lv_at hl 4 rfl) ?_
                                    refine lv_imul hx hb dX9_copy_199 ?_
                                    refine qh_topi (y := nI (60 * j2)) (pk_mul 60 j2) ?_
                                    refine lv_iload hx hb dX9_copy_200 (lv_at hl 5 rfl) ?_
                                    refine lv_iadd hx hb dX9_copy_202 ?_
                                    refine qh_topi (y := nI (60 * j2 + u1)) (nI_add _ _) ?_
                                    refine lv_iload hx hb dX9_copy_203 (lv_at hl 0 rfl) ?_
                                    refine lv_iadd hx hb dX9_copy_205 ?_
                                    refine qh_topi (y := nI (60 * j2 + u1 + (v1 - 1 - k))) (nI_add _ _) ?_
                                    refine lv_aload_n hx hb dX9_copy_206 rfl (lv_at hl 1 rfl) ?_
                                    refine qh_get hx hb hH f_16 (by omega) h_63 rfl dX9_copy_207 ?_
                                    refine lv_bipush (v := 60) hx hb dX9_copy_210 (by decide) ?_
                                    refine lv_iload_n hx hb dX9_copy_212 rfl (lv_at hl 2 rfl) ?_
                                    refine lv_imul hx hb dX9_copy_213 ?_
                                    refine qh_topi (y := nI (60 * j)) (pk_mul 60 j) ?_
                                    refine lv_iload_n hx hb dX9_copy_214 rfl (lv_at hl 3 rfl) ?_
                                    refine lv_iadd hx hb dX9_copy_215 ?_
                                    refine qh_topi (y := nI (60 * j + y1)) (nI_add _ _) ?_
                                    refine lv_iload hx hb dX9_copy_216 (lv_at hl 0 rfl) ?_
                                    refine lv_iadd hx hb dX9_copy_218 ?_
                                    refine qh_topi (y := nI (60 * j + y1 + (v1 - 1 - k))) (nI_add _ _) ?_
                                    refine qh_iald hx hb hK hH (by omega) h_66 (j := 60 * j + y1 + (v1 - 1 - k)) (rfl) (by omega) (by omega) dX9_copy_219 ?_
                                    refine qh_topi (y := ce (60 * j + y1 + (v1 - 1 - k))) (cpW_at (by omega)) ?_
                                    refine qh_iast hx hb hK hH (by omega) h_66 (j := 60 * j2 + u1 + (v1 - 1 - k)) (rfl) (by omega) (by omega) dX9_copy_220 (fun E_12 H locs h_66 hfr hH _ => ?_)
                                    have h_66 : E_12 66 = qa_I G 240 (cpW ce (60 * j + y1) (60 * j2 + u1) (v1 - (k + 1)) v1) := h_66.trans (congrArg (qa_I G 240) (cpW_b (by omega)))
                                    have h_63 := (hfr 63 (by decide)).trans h_63
                                    have hF : ∀ x9, x9 ≠ 63 → x9 ≠ 66 → E_12 x9 = E x9 := fun x9 a0 a1 => (hfr x9 a1).trans (hF x9 a0 a1)
                                    refine lv_iinc (v := nI (k + 1)) (lv' := [(8, .int (nI (k + 1))), (9, .int (nI (v1 - 1 - k))), (0, .ref (z + 63)), (1, .int (nI j)), (2, .int (nI y1)), (3, .int (nI j2)), (4, .int (nI u1)), (5, .int (nI v1)), (7, .int ah)]) hx hb dX9_copy_221 hl (k := 8) rfl (qn_inc k) (by decide) rfl (fun ls hl => ?_)
                                    refine lv_goto (tgt := 166) hx hb dX9_copy_224 (by decide) ?_
                                    exact ih_166 (k + 1) ah (v1 - (k + 1)) v1 (by omega) (Or.inr ⟨hca.elim (fun w => absurd w.1 c_175) (fun w => w.1), rfl, rfl, hsf⟩) (by omega) E_12 h_63 h_66 (fun x9 a0 a1 => hF x9 a0 a1) _ _ hH ls (lv_sub hl [2, 3, 4, 5, 6, 7, 8, 0] rfl)
                            refine lv_iload_n hx hb dX9_copy_150 rfl (lv_at hl 3 rfl) ?_
                            refine lv_iload hx hb dX9_copy_151 (lv_at hl 5 rfl) ?_
                            refine lv_icmp_ge (tgt := 160) hx hb dX9_copy_153 (by decide) (fun c_153 => ?_) (fun c_153 => ?_)
                            · have hyu : u1 ≤ y1 := (nI_leI (by omega) (by omega)).mp c_153
                              refine lv_iconst (v := 0) hx hb dX9_copy_160 (by decide) ?_
                              refine lv_istore (lv' := [(7, .int 0), (6, .int 1), (0, .ref (z + 63)), (1, .int (nI j)), (2, .int (nI y1)), (3, .int (nI j2)), (4, .int (nI u1)), (5, .int (nI v1))]) hx hb dX9_copy_161 hl (by decide) rfl (fun ls hl => ?_)
                              refine lv_iconst (v := 0) hx hb dX9_copy_163 (by decide) ?_
                              refine lv_istore (lv' := [(8, .int 0), (7, .int 0), (6, .int 1), (0, .ref (z + 63)), (1, .int (nI j)), (2, .int (nI y1)), (3, .int (nI j2)), (4, .int (nI u1)), (5, .int (nI v1))]) hx hb dX9_copy_164 hl (by decide) rfl (fun ls hl => ?_)
                              exact L_166 (v1 + 1) 0 0 0 0 (Nat.zero_le _) (Or.inl ⟨rfl, rfl, rfl, fun _ => hyu⟩) (by omega) E_1 h_63 (((hF 66 (by decide)).trans b_66).trans (congrArg (qa_I G 240) (cpW_0 ..).symm)) (fun x9 a0 a1 => hF x9 a0) _ _ hH ls (lv_sub hl [3, 4, 5, 6, 7, 8, 1, 0] rfl)
                            · have hyu : y1 < u1 := by
                                rcases Nat.lt_or_ge y1 u1 with w | w
                                · exact w
                                · exact absurd (nI_le w (by omega)) c_153
                              refine lv_iconst (v := 1) hx hb dX9_copy_156 (by decide) ?_
                              refine lv_goto (tgt := 161) hx hb dX9_copy_157 (by decide) ?_
                              refine lv_istore (lv' := [(7, .int 1), (6, .int 1), (0, .ref (z + 63)), (1, .int (nI j)), (2, .int (nI y1)), (3, .int (nI j2)), (4, .int (nI u1)), (5, .int (nI v1))]) hx hb dX9_copy_161 hl (by decide) rfl (fun ls hl => ?_)
                              refine lv_iconst (v := 0) hx hb dX9_copy_163 (by decide) ?_
                              refine lv_istore (lv' := [(8, .int 0), (7, .int 1), (6, .int 1), (0, .ref (z + 63)), (1, .int (nI j)), (2, .int (nI y1)), (3, .int (nI j2)), (4, .int (nI u1)), (5, .int (nI v1))]) hx hb dX9_copy_164 hl (by decide) rfl (fun ls hl => ?_)
                              exact L_166 (v1 + 1) 0 1 v1 v1 (Nat.zero_le _) (Or.inr ⟨rfl, rfl, rfl, fun _ => hyu⟩) (by omega) E_1 h_63 (((hF 66 (by decide)).trans b_66).trans (congrArg (qa_I G 240) (cpW_0 ..).symm)) (fun x9 a0 a1 => hF x9 a0) _ _ hH ls (lv_sub hl [3, 4, 5, 6, 7, 8, 1, 0] rfl)
                          · have hD : cpyD x y q u v (hrM so) so (lgM sg) = some (-10 - 3, 3) := by rw [cpyD, if_pos ⟨c_9, c_16⟩, Ej, Ej2, if_neg (fun w => w.elim (hrM_1 c_29) (hrM_1 c_40)), if_pos c_61, el1, el2, if_neg (fun w => w.2.2.2.2 (by rw [← es2]; exact Int32.not_le.mp c_141))]
                            refine lv_aload_n hx hb dX9_copy_144 rfl (lv_at hl 1 rfl) ?_
                            refine lv_iconst (v := 3) hx hb dX9_copy_145 (by decide) ?_
                            refine qh_runV (As := [.int 3]) (rest := []) (C := RX9) ⟨hx, hb, hml, hown, hts⟩ hK hH (c_X9_fails l G z M E_1 0 tr n m2 ln pt rm rh sf sl rn (hM) h_63 3) (cwV 1 hts gX9_copy_X9_fails rfl rfl rfl (by decide +kernel) (by rw [hRf, hRl]; exact ⟨Nat.le_of_ble_eq_true rfl, Nat.le_of_ble_eq_true rfl⟩)) (by omega) h_63 rfl rfl hl.1 rfl (Nat.le_of_ble_eq_true rfl) dX9_copy_146 ⟨Nat.zero_le _, Nat.zero_le _⟩ (qh_kki fun r_146 E_13 H locs hpost hH => ?_)
                            obtain ⟨rfl, h_63, hfr⟩ := hpost
                            have hF : ∀ x9, x9 ≠ 63 → E_13 x9 = E x9 := fun x9 a0 => (hfr x9 a0).trans (hF x9 a0)
                            exact hret dX9_copy_149 hH (by rw [hD]; exact ⟨rfl, ⟨_, _, _, _, _, _, _, _, _, _, h_63, ((hF 64 (by decide)).trans b_64), ((hF 65 (by decide)).trans b_65), ((hF 66 (by decide)).trans b_66), ((hF 67 (by decide)).trans b_67), ((hF 68 (by decide)).trans b_68), ((hF 69 (by decide)).trans b_69), ((hF 70 (by decide)).trans b_70), ((hF 71 (by decide)).trans b_71), ((hF 72 (by decide)).trans b_72), ((hF 73 (by decide)).trans b_73), ((hF 74 (by decide)).trans b_74), ((hF 75 (by decide)).trans b_75), ((hF 76 (by decide)).trans b_76), ((hF 77 (by decide)).trans b_77), ((hF 78 (by decide)).trans b_78), ((hF 79 (by decide)).trans b_79), ((hF 80 (by decide)).trans b_80), ((hF 82 (by decide)).trans b_82), ((hF 83 (by decide)).trans b_83)⟩, (fun x9 h9 => hF x9 (by omega))⟩)
          · have hD : cpyD x y q u v (hrM so) so (lgM sg) = some (-10 - 2, 2) := by rw [cpyD, if_pos ⟨c_9, c_16⟩, Ej, Ej2, if_neg (fun w => w.elim (hrM_1 c_29) (hrM_1 c_40)), if_neg c_61]
            refine lv_aload_n hx hb dX9_copy_64 rfl (lv_at hl 0 rfl) ?_
            refine lv_iconst (v := 2) hx hb dX9_copy_65 (by decide) ?_
            refine qh_runV (As := [.int 2]) (rest := []) (C := RX9) ⟨hx, hb, hml, hown, hts⟩ hK hH (c_X9_fails l G z M E_1 0 tr n m2 ln pt rm rh sf sl rn (hM) h_63 2) (cwV 1 hts gX9_copy_X9_fails rfl rfl rfl (by decide +kernel) (by rw [hRf, hRl]; exact ⟨Nat.le_of_ble_eq_true rfl, Nat.le_of_ble_eq_true rfl⟩)) (by omega) h_63 rfl rfl hl.1 rfl (Nat.le_of_ble_eq_true rfl) dX9_copy_66 ⟨Nat.zero_le _, Nat.zero_le _⟩ (qh_kki fun r_66 E_14 H locs hpost hH => ?_)
            obtain ⟨rfl, h_63, hfr⟩ := hpost
            have hF : ∀ x9, x9 ≠ 63 → E_14 x9 = E x9 := fun x9 a0 => (hfr x9 a0).trans (hF x9 a0)
            exact hret dX9_copy_69 hH (by rw [hD]; exact ⟨rfl, ⟨_, _, _, _, _, _, _, _, _, _, h_63, ((hF 64 (by decide)).trans b_64), ((hF 65 (by decide)).trans b_65), ((hF 66 (by decide)).trans b_66), ((hF 67 (by decide)).trans b_67), ((hF 68 (by decide)).trans b_68), ((hF 69 (by decide)).trans b_69), ((hF 70 (by decide)).trans b_70), ((hF 71 (by decide)).trans b_71), ((hF 72 (by decide)).trans b_72), ((hF 73 (by decide)).trans b_73), ((hF 74 (by decide)).trans b_74), ((hF 75 (by decide)).trans b_75), ((hF 76 (by decide)).trans b_76), ((hF 77 (by decide)).trans b_77), ((hF 78 (by decide)).trans b_78), ((hF 79 (by decide)).trans b_79), ((hF 80 (by decide)).trans b_80), ((hF 82 (by decide)).trans b_82), ((hF 83 (by decide)).trans b_83)⟩, (fun x9 h9 => hF x9 (by omega))⟩)
        · have hD : cpyD x y q u v (hrM so) so (lgM sg) = some (-10 - 1, 1) := by rw [cpyD, if_pos ⟨c_9, c_16⟩, Ej, Ej2, if_pos (Or.inr (hrM_0 c_40))]
          refine lv_aload_n hx hb dX9_copy_43 rfl (lv_at hl 0 rfl) ?_
          refine lv_iconst (v := 1) hx hb dX9_copy_44 (by decide) ?_
          refine qh_runV (As := [.int 1]) (rest := []) (C := RX9) ⟨hx, hb, hml, hown, hts⟩ hK hH (c_X9_fails l G z M E_1 0 tr n m2 ln pt rm rh sf sl rn (hM) h_63 1) (cwV 1 hts gX9_copy_X9_fails rfl rfl rfl (by decide +kernel) (by rw [hRf, hRl]; exact ⟨Nat.le_of_ble_eq_true rfl, Nat.le_of_ble_eq_true rfl⟩)) (by omega) h_63 rfl rfl hl.1 rfl (Nat.le_of_ble_eq_true rfl) dX9_copy_45 ⟨Nat.zero_le _, Nat.zero_le _⟩ (qh_kki fun r_45 E_15 H locs hpost hH => ?_)
          obtain ⟨rfl, h_63, hfr⟩ := hpost
          have hF : ∀ x9, x9 ≠ 63 → E_15 x9 = E x9 := fun x9 a0 => (hfr x9 a0).trans (hF x9 a0)
          exact hret dX9_copy_48 hH (by rw [hD]; exact ⟨rfl, ⟨_, _, _, _, _, _, _, _, _, _, h_63, ((hF 64 (by decide)).trans b_64), ((hF 65 (by decide)).trans b_65), ((hF 66 (by decide)).trans b_66), ((hF 67 (by decide)).trans b_67), ((hF 68 (by decide)).trans b_68), ((hF 69 (by decide)).trans b_69), ((hF 70 (by decide)).trans b_70), ((hF 71 (by decide)).trans b_71), ((hF 72 (by decide)).trans b_72), ((hF 73 (by decide)).trans b_73), ((hF 74 (by decide)).trans b_74), ((hF 75 (by decide)).trans b_75), ((hF 76 (by decide)).trans b_76), ((hF 77 (by decide)).trans b_77), ((hF 78 (by decide)).trans b_78), ((hF 79 (by decide)).trans b_79), ((hF 80 (by decide)).trans b_80), ((hF 82 (by decide)).trans b_82), ((hF 83 (by decide)).trans b_83)⟩, (fun x9 h9 => hF x9 (by omega))⟩)
    · have c_16 := bI_eq.mp c_16
      have c_16 := (not_congr sh4).mp c_16
      have hD : cpyD x y q u v (hrM so) so (lgM sg) = some (-1, 0) := by rw [cpyD, if_neg (fun w => c_16 w.2)]
      refine lv_iconst (v := (-1)) hx hb dX9_copy_19 (by decide) ?_
      exact hret dX9_copy_20 hH (by rw [hD]; exact ⟨rfl, ⟨_, _, _, _, _, _, _, _, _, _, h_63, ((hF 64 (by decide)).trans b_64), ((hF 65 (by decide)).trans b_65), ((hF 66 (by decide)).trans b_66), ((hF 67 (by decide)).trans b_67), ((hF 68 (by decide)).trans b_68), ((hF 69 (by decide)).trans b_69), ((hF 70 (by decide)).trans b_70), ((hF 71 (by decide)).trans b_71), ((hF 72 (by decide)).trans b_72), ((hF 73 (by decide)).trans b_73), ((hF 74 (by decide)).trans b_74), ((hF 75 (by decide)).trans b_75), ((hF 76 (by decide)).trans b_76), ((hF 77 (by decide)).trans b_77), ((hF 78 (by decide)).trans b_78), ((hF 79 (by decide)).trans b_79), ((hF 80 (by decide)).trans b_80), ((hF 82 (by decide)).trans b_82), ((hF 83 (by decide)).trans b_83)⟩, (fun x9 h9 => hF x9 (by omega))⟩)

set_option maxHeartbeats 2000000 in
set_option maxRecDepth 100000 in
theorem c_X9_row (l : Launch) (G : qh_G) (z M : Nat) (E : Nat → va_E) (tr : Int32) (lf : Int32) (n : Nat) (f : Nat → Int64) (g : Nat → Int64) (mb : Nat → Int64) (m2 : Nat) (kd : Nat → Int32) (pa : Nat → Int32) (ln : Nat) (ts : Nat → Int32) (ga : Nat → Nat) (gb : Nat → Nat) (va : Nat → Int64) (rn : Nat) (cn : Nat → Nat) (vs : Nat → Int64) (so : Nat → Int32) (sg : Nat → Int32) (ce : Nat → Int32) (hM : 84 ≤ M) (hX : ME G z E tr lf n f g mb m2 kd pa ln ts ga gb va rn cn vs so sg ce) (hW : MW n m2 ln rn ga gb cn ts va kd so sg) (x : Int32) (y : Int32) (q : Int32) (u : Int32) : Met l yX9_row wsX9_row (qh_R 4) (qh_Pre G z M E [.ref (z + 63), .int x, .int y, .int q, .int u]) (qh_Q G z M (qh_i (fun r E' => match rowD x y q u (hrM so) so (lgM sg) (scM ce) with | some d => r = d.1 ∧ ME G z E' tr d.2 n f g mb m2 kd pa ln ts ga gb va rn cn vs so sg ce ∧ ∀ x9, (x9 < 63 ∨ x9 = 81) → E' x9 = E x9 | none => ∃ (f' g' mb' : Nat → Int64) (kd' pa' : Nat → Int32), r = nI (dgC (scM ce x.toNatClampNeg) q.toNatClampNeg u.toNatClampNeg) ∧ ME G z E' tr 0 (dgC (scM ce x.toNatClampNeg) q.toNatClampNeg u.toNatClampNeg) f' g' mb' (hpN (cdF (scM ce x.toNatClampNeg) q.toNatClampNeg u.toNatClampNeg) u.toNatClampNeg 3 (1 + dgC (scM ce x.toNatClampNeg) q.toNatClampNeg u.toNatClampNeg)) kd' pa' 0 ts ga gb va 0 cn vs so sg ce ∧ (1 ≤ dgC (scM ce x.toNatClampNeg) q.toNatClampNeg u.toNatClampNeg) ∧ (∀ t, t < dgC (scM ce x.toNatClampNeg) q.toNatClampNeg u.toNatClampNeg → f' t = (cdF (scM ce x.toNatClampNeg) q.toNatClampNeg u.toNatClampNeg (1 + t) - 48).toInt64 ∧ g' t = f' t ∧ mb' t = f' t) ∧ (∀ t, t < hpN (cdF (scM ce x.toNatClampNeg) q.toNatClampNeg u.toNatClampNeg) u.toNatClampNeg 3 (1 + dgC (scM ce x.toNatClampNeg) q.toNatClampNeg u.toNatClampNeg) → kd' t = knd (cdF (scM ce x.toNatClampNeg) q.toNatClampNeg u.toNatClampNeg (1 + dgC (scM ce x.toNatClampNeg) q.toNatClampNeg u.toNatClampNeg + 3 * t + 1)) ∧ pa' t = cdF (scM ce x.toNatClampNeg) q.toNatClampNeg u.toNatClampNeg (1 + dgC (scM ce x.toNatClampNeg) q.toNatClampNeg u.toNatClampNeg + 3 * t + 2) - 48) ∧ ∀ x9, (x9 < 63 ∨ x9 = 81) → E' x9 = E x9))) 0 0 (fun q => z ≤ q) := by
  refine qh_metI (cc := cX9_row) (maxL := 8) (by decide) rfl (Nat.le_of_ble_eq_true rfl) ?_
  intro pZ eZ sZ mZ aZ bZ tZ cZ RR QQ ls hx hb hml hown hts hRf hRl hH hK hl hret
  have hown : sZ.vm.findClass RX9 = some mZ.cls := hown
  have hl : lv_has ls 8 [(0, .ref (z + 63)), (1, .int x), (2, .int y), (3, .int q), (4, .int u)] := hl
  obtain ⟨pt, rm, rh, sf, sl, r1, r2, r3, k1, k2, b_63, b_64, b_65, b_66, b_67, b_68, b_69, b_70, b_71, b_72, b_73, b_74, b_75, b_76, b_77, b_78, b_79, b_80, b_82, b_83⟩ := hX
  obtain ⟨⟨hn16, hm3, hl24, hr8⟩, hval, hcn, hok, hvh, hkd, hso⟩ := hW
  have in_X9 : ∀ w ∈ wsX90, w ∈ wsX9_row := fun w h => List.mem_cons_of_mem _ (List.mem_append_right _ h)
  have w_71 : qh_W G sZ mZ aZ 71 9 0 .int := qh_W.of hts in_X9 tyX9 tyX9_ok nmX9 hown hK rfl 0 (by decide) (by decide +kernel) rfl (by decide +kernel)
  have w_87 : qh_W G sZ mZ aZ 87 9 17 .int := qh_W.of hts in_X9 tyX9 tyX9_ok nmX9 hown hK rfl 17 (by decide) (by decide +kernel) rfl (by decide +kernel)
  have f_108 : qh_F G sZ mZ aZ 108 9 18 := qh_F.of hts in_X9 hown hK rfl 18 (by decide) (by decide +kernel)
  have w_81 : qh_W G sZ mZ aZ 81 9 5 .int := qh_W.of hts in_X9 tyX9 tyX9_ok nmX9 hown hK rfl 5 (by decide) (by decide +kernel) rfl (by decide +kernel)
  have f_111 : qh_F G sZ mZ aZ 111 9 19 := qh_F.of hts in_X9 hown hK rfl 19 (by decide) (by decide +kernel)
  have w_84 : qh_W G sZ mZ aZ 84 9 6 .int := qh_W.of hts in_X9 tyX9 tyX9_ok nmX9 hown hK rfl 6 (by decide) (by decide +kernel) rfl (by decide +kernel)
  have f_81 : qh_F G sZ mZ aZ 81 9 5 := qh_F.of hts in_X9 hown hK rfl 5 (by decide) (by decide +kernel)
  have f_84 : qh_F G sZ mZ aZ 84 9 6 := qh_F.of hts in_X9 hown hK rfl 6 (by decide) (by decide +kernel)
  have w_117 : qh_W G sZ mZ aZ 117 9 28 .int := qh_W.of hts in_X9 tyX9 tyX9_ok nmX9 hown hK rfl 28 (by decide) (by decide +kernel) rfl (by decide +kernel)
  have f_29 : qh_F G sZ mZ aZ 29 9 10 := qh_F.of hts in_X9 hown hK rfl 10 (by decide) (by decide +kernel)
  have f_50 : qh_F G sZ mZ aZ 50 9 21 := qh_F.of hts in_X9 hown hK rfl 21 (by decide) (by decide +kernel)
  have f_32 : qh_F G sZ mZ aZ 32 9 11 := qh_F.of hts in_X9 hown hK rfl 11 (by decide) (by decide +kernel)
  have f_53 : qh_F G sZ mZ aZ 53 9 22 := qh_F.of hts in_X9 hown hK rfl 22 (by decide) (by decide +kernel)
  have f_19 : qh_F G sZ mZ aZ 19 9 7 := qh_F.of hts in_X9 hown hK rfl 7 (by decide) (by decide +kernel)
  have f_47 : qh_F G sZ mZ aZ 47 9 20 := qh_F.of hts in_X9 hown hK rfl 20 (by decide) (by decide +kernel)
  have f_87 : qh_F G sZ mZ aZ 87 9 17 := qh_F.of hts in_X9 hown hK rfl 17 (by decide) (by decide +kernel)
  refine lv_aload_n hx hb dX9_row_0 rfl (lv_at hl 0 rfl) ?_
  refine lv_iconst (v := 0) hx hb dX9_row_1 (by decide) ?_
  refine qh_put (fs' := [.int 0, .int tr, .ref (z + 64), .ref (z + 65), .ref (z + 66), .int (nI n), .int (nI m2), .ref (z + 67), .ref (z + 68), .ref (z + 69), .ref (z + 70), .ref (z + 71), .int (nI ln), .ref (z + 72), .ref (z + 73), .ref (z + 74), .ref (z + 75), .int pt, .int rm, .int rh, .ref (z + 76), .ref (z + 77), .ref (z + 78), .ref (z + 79), .ref (z + 80), .int sf, .int sl, .ref (z + 81), .int (nI rn), .ref (z + 82), .ref (z + 83)]) hx hb hH w_71 (by omega) b_63 rfl rfl (Nat.le_of_ble_eq_true rfl) rfl dX9_row_2 (fun E_1 H locs h_63 hfr hH _ => ?_)
  have hF : ∀ x9, x9 ≠ 63 → E_1 x9 = E x9 := fun x9 a0 => hfr x9 a0
  refine lv_iload_n hx hb dX9_row_5 rfl (lv_at hl 1 rfl) ?_
  refine qh_runS (As := [.int x]) (rest := []) ⟨hx, hb, hml, hown, hts⟩ hK hH (c_X9_isSheet l G z M E_1 x) (va_cwS 1 hts gX9_row_X9_isSheet rfl rfl rfl (by decide +kernel) (by rw [hRf, hRl]; exact ⟨Nat.le_of_ble_eq_true rfl, Nat.le_of_ble_eq_true rfl⟩)) rfl hl.1 rfl (Nat.le_of_ble_eq_true rfl) dX9_row_6 ⟨Nat.zero_le _, Nat.zero_le _⟩ (qh_kki fun r_6 E_2 H locs hpost hH => ?_)
  obtain ⟨rfl, rfl⟩ := hpost
  refine lv_if_ne (tgt := 14) hx hb dX9_row_9 (by decide) (fun c_9 => ?_) (fun c_9 => ?_)
  · have c_9 := bI_ne.mp c_9
    have c_9 := sh4.mp c_9
    obtain ⟨j, hj, ej⟩ := nI_of_in (k := x) (c := 4) (by decide) c_9
    have Ej : x.toNatClampNeg = j := by rw [ej]; exact nI_clamp (by omega)
    have hl : lv_has ls 8 [(0, .ref (z + 63)), (1, .int (nI j)), (2, .int y), (3, .int q), (4, .int u)] := by rw [← ej]; exact hl
    refine lv_iload_n hx hb dX9_row_14 rfl (lv_at hl 2 rfl) ?_
    refine qh_runS (As := [.int y]) (rest := []) ⟨hx, hb, hml, hown, hts⟩ hK hH (c_X9_isSort l G z M E_1 y) (va_cwS 1 hts gX9_row_X9_isSort rfl rfl rfl (by decide +kernel) (by rw [hRf, hRl]; exact ⟨Nat.le_of_ble_eq_true rfl, Nat.le_of_ble_eq_true rfl⟩)) rfl hl.1 rfl (Nat.le_of_ble_eq_true rfl) dX9_row_15 ⟨Nat.zero_le _, Nat.zero_le _⟩ (qh_kki fun r_15 E_3 H locs hpost hH => ?_)
    obtain ⟨rfl, rfl⟩ := hpost
    refine lv_if_ne (tgt := 24) hx hb dX9_row_18 (by decide) (fun c_18 => ?_) (fun c_18 => ?_)
    · have c_18 := bI_ne.mp c_18
      have c_18 := le2.mp c_18
      refine lv_aload_n hx hb dX9_row_24 rfl (lv_at hl 0 rfl) ?_
      refine lv_iload_n hx hb dX9_row_25 rfl (lv_at hl 1 rfl) ?_
      refine lv_iload_n hx hb dX9_row_26 rfl (lv_at hl 2 rfl) ?_
      refine lv_iload_n hx hb dX9_row_27 rfl (lv_at hl 3 rfl) ?_
      refine lv_iload hx hb dX9_row_28 (lv_at hl 4 rfl) ?_
      refine qh_runV (As := [.int (nI j), .int y, .int q, .int u]) (rest := []) (C := RX9) ⟨hx, hb, hml, hown, hts⟩ hK hH (c_X9_against l G z M E_1 0 tr n m2 ln pt rm rh sf sl rn (hM) h_63 j so sg y q u (by omega) ((hF 64 (by decide)).trans b_64) ((hF 65 (by decide)).trans b_65)) (cwV 4 hts gX9_row_X9_against rfl rfl rfl (by decide +kernel) (by rw [hRf, hRl]; exact ⟨Nat.le_of_ble_eq_true rfl, Nat.le_of_ble_eq_true rfl⟩)) (by omega) h_63 rfl rfl hl.1 rfl (Nat.le_of_ble_eq_true rfl) dX9_row_30 ⟨Nat.zero_le _, Nat.zero_le _⟩ (qh_kki fun r_30 E_4 H locs hpost hH => ?_)
      obtain ⟨rfl, rfl⟩ := hpost
      refine lv_istore (lv' := [(5, .int (agR (so j) (sg j) y q u)), (0, .ref (z + 63)), (1, .int (nI j)), (2, .int y), (3, .int q), (4, .int u)]) hx hb dX9_row_33 hl (by decide) rfl (fun ls hl => ?_)
      refine lv_iload hx hb dX9_row_35 (lv_at hl 0 rfl) ?_
      refine lv_if_eq (tgt := 47) hx hb dX9_row_37 (by decide) (fun c_37 => ?_) (fun c_37 => ?_)
      · obtain ⟨hT, h0, hP⟩ := ag_0 (hso j hj) c_37
        obtain ⟨l1, hl1, el1⟩ := ag_l (hso j hj) hT
        rw [el1] at hP
        obtain ⟨a, m1, ea, em, ham⟩ := has_n hl1 hP
        have Ea : q.toNatClampNeg = a := by rw [ea]; exact nI_clamp (by omega)
        have Em : u.toNatClampNeg = m1 := by rw [em]; exact nI_clamp (by omega)
        have hl : lv_has ls 8 [(5, .int (agR (so j) (sg j) y q u)), (0, .ref (z + 63)), (1, .int (nI j)), (2, .int y), (3, .int (nI a)), (4, .int u)] := by rw [← ea]; exact hl
        have hl : lv_has ls 8 [(5, .int (agR (so j) (sg j) y q u)), (0, .ref (z + 63)), (1, .int (nI j)), (2, .int y), (3, .int (nI a)), (4, .int (nI m1))] := by rw [← em]; exact hl
        refine lv_bipush (v := 60) hx hb dX9_row_47 (by decide) ?_
        refine lv_iload_n hx hb dX9_row_49 rfl (lv_at hl 2 rfl) ?_
        refine lv_imul hx hb dX9_row_50 ?_
        refine qh_topi (y := nI (60 * j)) (pk_mul 60 j) ?_
        refine lv_iload_n hx hb dX9_row_51 rfl (lv_at hl 4 rfl) ?_
        refine lv_iadd hx hb dX9_row_52 ?_
        refine qh_topi (y := nI (60 * j + a)) (nI_add _ _) ?_
        refine lv_istore (lv' := [(6, .int (nI (60 * j + a))), (5, .int (agR (so j) (sg j) y q u)), (0, .ref (z + 63)), (1, .int (nI j)), (2, .int y), (3, .int (nI a)), (4, .int (nI m1))]) hx hb dX9_row_53 hl (by decide) rfl (fun ls hl => ?_)
        refine lv_aload_n hx hb dX9_row_55 rfl (lv_at hl 2 rfl) ?_
        refine lv_iload hx hb dX9_row_56 (lv_at hl 0 rfl) ?_
        refine qh_put (fs' := [.int 0, .int tr, .ref (z + 64), .ref (z + 65), .ref (z + 66), .int (nI n), .int (nI m2), .ref (z + 67), .ref (z + 68), .ref (z + 69), .ref (z + 70), .ref (z + 71), .int (nI ln), .ref (z + 72), .ref (z + 73), .ref (z + 74), .ref (z + 75), .int (nI (60 * j + a)), .int rm, .int rh, .ref (z + 76), .ref (z + 77), .ref (z + 78), .ref (z + 79), .ref (z + 80), .int sf, .int sl, .ref (z + 81), .int (nI rn), .ref (z + 82), .ref (z + 83)]) hx hb hH w_87 (by omega) h_63 rfl rfl (Nat.le_of_ble_eq_true rfl) rfl dX9_row_58 (fun E_5 H locs h_63 hfr hH _ => ?_)
        have hF : ∀ x9, x9 ≠ 63 → E_5 x9 = E x9 := fun x9 a0 => (hfr x9 a0).trans (hF x9 a0)
        refine lv_aload_n hx hb dX9_row_61 rfl (lv_at hl 2 rfl) ?_
        refine lv_iload hx hb dX9_row_62 (lv_at hl 0 rfl) ?_
        refine lv_iload hx hb dX9_row_64 (lv_at hl 6 rfl) ?_
        refine lv_iadd hx hb dX9_row_66 ?_
        refine qh_topi (y := nI (60 * j + a + m1)) (nI_add _ _) ?_
        by_cases hS : ffR ce (60 * j + a) m1 = none
        · refine qh_runV (As := [.int (nI (60 * j + a + m1))]) (rest := []) (C := RX9) ⟨hx, hb, hml, hown, hts⟩ hK hH (c_X9_readRow l G z M E_5 0 tr n m2 ln rm rh sf sl rn (60 * j + a) m1 ce r1 r2 r3 (by omega) (hM) h_63 ((hF 66 (by decide)).trans b_66) ((hF 76 (by decide)).trans b_76) ((hF 77 (by decide)).trans b_77) ((hF 78 (by decide)).trans b_78)) (cwV 1 hts gX9_row_X9_readRow rfl rfl rfl (by decide +kernel) (by rw [hRf, hRl]; exact ⟨Nat.le_of_ble_eq_true rfl, Nat.le_of_ble_eq_true rfl⟩)) (by omega) h_63 rfl rfl hl.1 rfl (Nat.le_of_ble_eq_true rfl) dX9_row_67 ⟨Nat.zero_le _, Nat.zero_le _⟩ (qh_kki fun r_67 E_6 H locs hpost hH => ?_)
          obtain ⟨P, K, Hq, r1a, r2a, r3a, h_63, h_76, h_77, h_78, hmt, hfr⟩ := hpost
          rw [hS] at hmt
          obtain ⟨rfl, eK, hK1, eH, hd1, hh1⟩ := hmt
          have hK16 : K ≤ 16 := by rw [eK]; exact dgC_le _ _ _
          have hH3 : Hq ≤ 3 := by rw [eH]; exact hpN_le _ _ _ _
          have hD : rowD x y q u (hrM so) so (lgM sg) (scM ce) = none := by rw [rowD, if_pos c_9, if_pos c_18, Ej, if_pos hT, if_pos h0, el1, if_pos hP, Ea, Em, ffR_sc, hS]
          have hF : ∀ x9, x9 ≠ 63 → x9 ≠ 76 → x9 ≠ 77 → x9 ≠ 78 → E_6 x9 = E x9 := fun x9 a0 a1 a2 a3 => (hfr x9 a0 a1 a2 a3).trans (hF x9 a0)
          refine lv_if_ne (tgt := 84) hx hb dX9_row_70 (by decide) (fun c_70 => ?_) (fun c_70 => ?_)
          · refine lv_aload_n hx hb dX9_row_84 rfl (lv_at hl 2 rfl) ?_
            refine lv_aload_n hx hb dX9_row_85 rfl (lv_at hl 2 rfl) ?_
            refine qh_get hx hb hH f_108 (by omega) h_63 rfl dX9_row_86 ?_
            refine qh_put (fs' := [.int 0, .int tr, .ref (z + 64), .ref (z + 65), .ref (z + 66), .int (nI K), .int (nI m2), .ref (z + 67), .ref (z + 68), .ref (z + 69), .ref (z + 70), .ref (z + 71), .int (nI ln), .ref (z + 72), .ref (z + 73), .ref (z + 74), .ref (z + 75), .int (nI (60 * j + a + P)), .int (nI K), .int (nI Hq), .ref (z + 76), .ref (z + 77), .ref (z + 78), .ref (z + 79), .ref (z + 80), .int sf, .int sl, .ref (z + 81), .int (nI rn), .ref (z + 82), .ref (z + 83)]) hx hb hH w_81 (by omega) h_63 rfl rfl (Nat.le_of_ble_eq_true rfl) rfl dX9_row_89 (fun E_7 H locs h_63 hfr hH _ => ?_)
            have h_76 := (hfr 76 (by decide)).trans h_76
            have h_77 := (hfr 77 (by decide)).trans h_77
            have h_78 := (hfr 78 (by decide)).trans h_78
            have hF : ∀ x9, x9 ≠ 63 → x9 ≠ 76 → x9 ≠ 77 → x9 ≠ 78 → E_7 x9 = E x9 := fun x9 a0 a1 a2 a3 => (hfr x9 a0).trans (hF x9 a0 a1 a2 a3)
            refine lv_aload_n hx hb dX9_row_92 rfl (lv_at hl 2 rfl) ?_
            refine lv_aload_n hx hb dX9_row_93 rfl (lv_at hl 2 rfl) ?_
            refine qh_get hx hb hH f_111 (by omega) h_63 rfl dX9_row_94 ?_
            refine qh_put (fs' := [.int 0, .int tr, .ref (z + 64), .ref (z + 65), .ref (z + 66), .int (nI K), .int (nI Hq), .ref (z + 67), .ref (z + 68), .ref (z + 69), .ref (z + 70), .ref (z + 71), .int (nI ln), .ref (z + 72), .ref (z + 73), .ref (z + 74), .ref (z + 75), .int (nI (60 * j + a + P)), .int (nI K), .int (nI Hq), .ref (z + 76), .ref (z + 77), .ref (z + 78), .ref (z + 79), .ref (z + 80), .int sf, .int sl, .ref (z + 81), .int (nI rn), .ref (z + 82), .ref (z + 83)]) hx hb hH w_84 (by omega) h_63 rfl rfl (Nat.le_of_ble_eq_true rfl) rfl dX9_row_97 (fun E_8 H locs h_63 hfr hH _ => ?_)
            have h_76 := (hfr 76 (by decide)).trans h_76
            have h_77 := (hfr 77 (by decide)).trans h_77
            have h_78 := (hfr 78 (by decide)).trans h_78
            have hF : ∀ x9, x9 ≠ 63 → x9 ≠ 76 → x9 ≠ 77 → x9 ≠ 78 → E_8 x9 = E x9 := fun x9 a0 a1 a2 a3 => (hfr x9 a0).trans (hF x9 a0 a1 a2 a3)
            refine lv_iconst (v := 0) hx hb dX9_row_100 (by decide) ?_
            refine lv_istore (lv' := [(7, .int 0), (6, .int (nI (60 * j + a))), (5, .int (agR (so j) (sg j) y q u)), (0, .ref (z + 63)), (1, .int (nI j)), (2, .int y), (3, .int (nI a)), (4, .int (nI m1))]) hx hb dX9_row_101 hl (by decide) rfl (fun ls hl => ?_)
            have L_103 : ∀ fu_103 : Nat, ∀ k : Nat, (k ≤ K) → (K - k < fu_103) → ∀ Ek : Nat → va_E, Ek 63 = .inr (9, [.int 0, .int tr, .ref (z + 64), .ref (z + 65), .ref (z + 66), .int (nI K), .int (nI Hq), .ref (z + 67), .ref (z + 68), .ref (z + 69), .ref (z + 70), .ref (z + 71), .int (nI ln), .ref (z + 72), .ref (z + 73), .ref (z + 74), .ref (z + 75), .int (nI (60 * j + a + P)), .int (nI K), .int (nI Hq), .ref (z + 76), .ref (z + 77), .ref (z + 78), .ref (z + 79), .ref (z + 80), .int sf, .int sl, .ref (z + 81), .int (nI rn), .ref (z + 82), .ref (z + 83)]) → Ek 76 = qa_I G 16 r1a → Ek 77 = qa_I G 3 r2a → Ek 78 = qa_I G 3 r3a → Ek 67 = qa_J G 16 (nmT r1a f k) → (∀ x9, x9 ≠ 63 → x9 ≠ 76 → x9 ≠ 77 → x9 ≠ 78 → x9 ≠ 67 → Ek x9 = E x9) → ∀ (H : Heap) (locs : List Loc), qh_H G z M Ek sZ.heap H locs → ∀ ls : Array Slot, lv_has ls 8 [(0, .ref (z + 63)), (7, .int (nI k))] → W pZ l eZ RR sZ mZ aZ bZ tZ cZ H locs 0 0 QQ (F0 mZ 103 ls []) := by
              intro fu_103
              induction fu_103 with
              | zero =>
                intro k hk hfuel
                exact absurd hfuel (by omega)
              | succ fu_103 ih_103 =>
                intro k hk hfuel Ek h_63 h_76 h_77 h_78 h_67 hF H locs hH ls hl
                refine lv_iload hx hb dX9_row_103 (lv_at hl 1 rfl) ?_
                refine lv_aload_n hx hb dX9_row_105 rfl (lv_at hl 0 rfl) ?_
                refine qh_get hx hb hH f_81 (by omega) h_63 rfl dX9_row_106 ?_
                refine lv_icmp_ge (tgt := 133) hx hb dX9_row_109 (by decide) (fun c_109 => ?_) (fun c_109 => ?_)
                · have hk : K ≤ k := (nI_leI (by omega) (by omega)).mp c_109
                  have hex : K = k := by omega
                  subst hex
                  refine lv_iconst (v := 0) hx hb dX9_row_133 (by decide) ?_
                  refine lv_istore (lv' := [(7, .int 0), (0, .ref (z + 63))]) hx hb dX9_row_134 hl (by decide) rfl (fun ls hl => ?_)
                  have L_136 : ∀ fu_136 : Nat, ∀ k : Nat, (k ≤ Hq) → (Hq - k < fu_136) → ∀ Ek : Nat → va_E, Ek 63 = .inr (9, [.int 0, .int tr, .ref (z + 64), .ref (z + 65), .ref (z + 66), .int (nI K), .int (nI Hq), .ref (z + 67), .ref (z + 68), .ref (z + 69), .ref (z + 70), .ref (z + 71), .int (nI ln), .ref (z + 72), .ref (z + 73), .ref (z + 74), .ref (z + 75), .int (nI (60 * j + a + P)), .int (nI K), .int (nI Hq), .ref (z + 76), .ref (z + 77), .ref (z + 78), .ref (z + 79), .ref (z + 80), .int sf, .int sl, .ref (z + 81), .int (nI rn), .ref (z + 82), .ref (z + 83)]) → Ek 76 = qa_I G 16 r1a → Ek 77 = qa_I G 3 r2a → Ek 78 = qa_I G 3 r3a → Ek 67 = qa_J G 16 (nmT r1a f K) → Ek 70 = qa_I G 3 (mixI r2a kd k) → Ek 71 = qa_I G 3 (mixI r3a pa k) → (∀ x9, x9 ≠ 63 → x9 ≠ 76 → x9 ≠ 77 → x9 ≠ 78 → x9 ≠ 67 → x9 ≠ 70 → x9 ≠ 71 → Ek x9 = E x9) → ∀ (H : Heap) (locs : List Loc), qh_H G z M Ek sZ.heap H locs → ∀ ls : Array Slot, lv_has ls 8 [(0, .ref (z + 63)), (7, .int (nI k))] → W pZ l eZ RR sZ mZ aZ bZ tZ cZ H locs 0 0 QQ (F0 mZ 136 ls []) := by
                    intro fu_136
                    induction fu_136 with
                    | zero =>
                      intro k hk hfuel
                      exact absurd hfuel (by omega)
                    | succ fu_136 ih_136 =>
                      intro k hk hfuel Ek h_63 h_76 h_77 h_78 h_67 h_70 h_71 hF H locs hH ls hl
                      refine lv_iload hx hb dX9_row_136 (lv_at hl 1 rfl) ?_
                      refine lv_aload_n hx hb dX9_row_138 rfl (lv_at hl 0 rfl) ?_
                      refine qh_get hx hb hH f_84 (by omega) h_63 rfl dX9_row_139 ?_
                      refine lv_icmp_ge (tgt := 179) hx hb dX9_row_142 (by decide) (fun c_142 => ?_) (fun c_142 => ?_)
                      · have hk : Hq ≤ k := (nI_leI (by omega) (by omega)).mp c_142
                        have hex : Hq = k := by omega
                        subst hex
                        refine lv_aload_n hx hb dX9_row_179 rfl (lv_at hl 0 rfl) ?_
                        refine qh_runV (As := []) (rest := []) (C := RX9) ⟨hx, hb, hml, hown, hts⟩ hK hH (c_X9_begins l G z M Ek 0 tr K Hq ln (nI (60 * j + a + P)) (nI K) (nI Hq) sf sl rn (hM) h_63 (nmT r1a f K) g mb (hK16) h_67 ((hF 68 (by decide) (by decide) (by decide) (by decide) (by decide) (by decide) (by decide)).trans b_68) ((hF 69 (by decide) (by decide) (by decide) (by decide) (by decide) (by decide) (by decide)).trans b_69)) (cwV 0 hts gX9_row_X9_begins rfl rfl rfl (by decide +kernel) (by rw [hRf, hRl]; exact ⟨Nat.le_of_ble_eq_true rfl, Nat.le_of_ble_eq_true rfl⟩)) (by omega) h_63 rfl rfl hl.1 rfl (Nat.le_of_ble_eq_true rfl) dX9_row_180 ⟨Nat.zero_le _, Nat.zero_le _⟩ (qh_kkv fun E_9 H locs hpost hH => ?_)
                        obtain ⟨h_63, h_68, h_69, hfr⟩ := hpost
                        have h_76 := (hfr 76 (by decide) (by decide) (by decide)).trans h_76
                        have h_77 := (hfr 77 (by decide) (by decide) (by decide)).trans h_77
                        have h_78 := (hfr 78 (by decide) (by decide) (by decide)).trans h_78
                        have h_67 := (hfr 67 (by decide) (by decide) (by decide)).trans h_67
                        have h_70 := (hfr 70 (by decide) (by decide) (by decide)).trans h_70
                        have h_71 := (hfr 71 (by decide) (by decide) (by decide)).trans h_71
                        have hF : ∀ x9, x9 ≠ 63 → x9 ≠ 76 → x9 ≠ 77 → x9 ≠ 78 → x9 ≠ 67 → x9 ≠ 70 → x9 ≠ 71 → x9 ≠ 68 → x9 ≠ 69 → E_9 x9 = E x9 := fun x9 a0 a1 a2 a3 a4 a5 a6 a7 a8 => (hfr x9 a0 a7 a8).trans (hF x9 a0 a1 a2 a3 a4 a5 a6)
                        refine lv_aload_n hx hb dX9_row_183 rfl (lv_at hl 0 rfl) ?_
                        refine lv_iconst (v := 0) hx hb dX9_row_184 (by decide) ?_
                        refine qh_put (fs' := [.int 0, .int tr, .ref (z + 64), .ref (z + 65), .ref (z + 66), .int (nI K), .int (nI Hq), .ref (z + 67), .ref (z + 68), .ref (z + 69), .ref (z + 70), .ref (z + 71), .int 0, .ref (z + 72), .ref (z + 73), .ref (z + 74), .ref (z + 75), .int (nI (60 * j + a + P)), .int (nI K), .int (nI Hq), .ref (z + 76), .ref (z + 77), .ref (z + 78), .ref (z + 79), .ref (z + 80), .int sf, .int sl, .ref (z + 81), .int 0, .ref (z + 82), .ref (z + 83)]) hx hb hH w_117 (by omega) h_63 rfl rfl (Nat.le_of_ble_eq_true rfl) rfl dX9_row_185 (fun E_10 H locs h_63 hfr hH _ => ?_)
                        have h_76 := (hfr 76 (by decide)).trans h_76
                        have h_77 := (hfr 77 (by decide)).trans h_77
                        have h_78 := (hfr 78 (by decide)).trans h_78
                        have h_67 := (hfr 67 (by decide)).trans h_67
                        have h_70 := (hfr 70 (by decide)).trans h_70
                        have h_71 := (hfr 71 (by decide)).trans h_71
                        have h_68 := (hfr 68 (by decide)).trans h_68
                        have h_69 := (hfr 69 (by decide)).trans h_69
                        have hF : ∀ x9, x9 ≠ 63 → x9 ≠ 76 → x9 ≠ 77 → x9 ≠ 78 → x9 ≠ 67 → x9 ≠ 70 → x9 ≠ 71 → x9 ≠ 68 → x9 ≠ 69 → E_10 x9 = E x9 := fun x9 a0 a1 a2 a3 a4 a5 a6 a7 a8 => (hfr x9 a0).trans (hF x9 a0 a1 a2 a3 a4 a5 a6 a7 a8)
                        refine lv_aload_n hx hb dX9_row_188 rfl (lv_at hl 0 rfl) ?_
                        refine qh_get hx hb hH f_81 (by omega) h_63 rfl dX9_row_189 ?_
                        exact hret dX9_row_192 hH (by rw [hD, Ej, Ea, Em, dgC_sc, cdF_sc, ← eK, ← eH]; exact ⟨_, _, _, _, _, rfl, ⟨_, _, _, _, _, _, _, _, _, _, h_63, ((hF 64 (by decide) (by decide) (by decide) (by decide) (by decide) (by decide) (by decide) (by decide) (by decide)).trans b_64), ((hF 65 (by decide) (by decide) (by decide) (by decide) (by decide) (by decide) (by decide) (by decide) (by decide)).trans b_65), ((hF 66 (by decide) (by decide) (by decide) (by decide) (by decide) (by decide) (by decide) (by decide) (by decide)).trans b_66), h_67, h_68, h_69, h_70, h_71, ((hF 72 (by decide) (by decide) (by decide) (by decide) (by decide) (by decide) (by decide) (by decide) (by decide)).trans b_72), ((hF 73 (by decide) (by decide) (by decide) (by decide) (by decide) (by decide) (by decide) (by decide) (by decide)).trans b_73), ((hF 74 (by decide) (by decide) (by decide) (by decide) (by decide) (by decide) (by decide) (by decide) (by decide)).trans b_74), ((hF 75 (by decide) (by decide) (by decide) (by decide) (by decide) (by decide) (by decide) (by decide) (by decide)).trans b_75), h_76, h_77, h_78, ((hF 79 (by decide) (by decide) (by decide) (by decide) (by decide) (by decide) (by decide) (by decide) (by decide)).trans b_79), ((hF 80 (by decide) (by decide) (by decide) (by decide) (by decide) (by decide) (by decide) (by decide) (by decide)).trans b_80), ((hF 82 (by decide) (by decide) (by decide) (by decide) (by decide) (by decide) (by decide) (by decide) (by decide)).trans b_82), ((hF 83 (by decide) (by decide) (by decide) (by decide) (by decide) (by decide) (by decide) (by decide) (by decide)).trans b_83)⟩, hK1, fun t ht => ⟨by rw [nmT, if_pos ht, hd1 t ht], mixL_lt ht, mixL_lt ht⟩, fun t ht => ⟨(mixI_lt ht).trans (hh1 t ht).1, (mixI_lt ht).trans (hh1 t ht).2⟩, (fun x9 h9 => hF x9 (by omega) (by omega) (by omega) (by omega) (by omega) (by omega) (by omega) (by omega) (by omega))⟩)
                      · have hk : ¬ Hq ≤ k := fun w => c_142 (nI_le w (by omega))
                        refine lv_aload_n hx hb dX9_row_145 rfl (lv_at hl 0 rfl) ?_
                        refine qh_get hx hb hH f_29 (by omega) h_63 rfl dX9_row_146 ?_
                        refine lv_iload hx hb dX9_row_149 (lv_at hl 1 rfl) ?_
                        refine lv_aload_n hx hb dX9_row_151 rfl (lv_at hl 0 rfl) ?_
                        refine qh_get hx hb hH f_50 (by omega) h_63 rfl dX9_row_152 ?_
                        refine lv_iload hx hb dX9_row_155 (lv_at hl 1 rfl) ?_
                        refine qh_iald hx hb hK hH (by omega) h_77 (j := k) (rfl) (by omega) (by omega) dX9_row_157 ?_
                        refine qh_iast hx hb hK hH (by omega) h_70 (j := k) (rfl) (by omega) (by omega) dX9_row_158 (fun E_11 H locs h_70 hfr hH _ => ?_)
                        have h_70 : E_11 70 = qa_I G 3 (mixI r2a kd (k + 1)) := h_70.trans (congrArg (qa_I G 3) (mixI_s ..))
                        have h_63 := (hfr 63 (by decide)).trans h_63
                        have h_76 := (hfr 76 (by decide)).trans h_76
                        have h_77 := (hfr 77 (by decide)).trans h_77
                        have h_78 := (hfr 78 (by decide)).trans h_78
                        have h_67 := (hfr 67 (by decide)).trans h_67
                        have h_71 := (hfr 71 (by decide)).trans h_71
                        have hF : ∀ x9, x9 ≠ 63 → x9 ≠ 76 → x9 ≠ 77 → x9 ≠ 78 → x9 ≠ 67 → x9 ≠ 70 → x9 ≠ 71 → E_11 x9 = E x9 := fun x9 a0 a1 a2 a3 a4 a5 a6 => (hfr x9 a5).trans (hF x9 a0 a1 a2 a3 a4 a5 a6)
                        refine lv_aload_n hx hb dX9_row_159 rfl (lv_at hl 0 rfl) ?_
                        refine qh_get hx hb hH f_32 (by omega) h_63 rfl dX9_row_160 ?_
                        refine lv_iload hx hb dX9_row_163 (lv_at hl 1 rfl) ?_
                        refine lv_aload_n hx hb dX9_row_165 rfl (lv_at hl 0 rfl) ?_
                        refine qh_get hx hb hH f_53 (by omega) h_63 rfl dX9_row_166 ?_
                        refine lv_iload hx hb dX9_row_169 (lv_at hl 1 rfl) ?_
                        refine qh_iald hx hb hK hH (by omega) h_78 (j := k) (rfl) (by omega) (by omega) dX9_row_171 ?_
                        refine qh_iast hx hb hK hH (by omega) h_71 (j := k) (rfl) (by omega) (by omega) dX9_row_172 (fun E_12 H locs h_71 hfr hH _ => ?_)
                        have h_71 : E_12 71 = qa_I G 3 (mixI r3a pa (k + 1)) := h_71.trans (congrArg (qa_I G 3) (mixI_s ..))
                        have h_63 := (hfr 63 (by decide)).trans h_63
                        have h_76 := (hfr 76 (by decide)).trans h_76
                        have h_77 := (hfr 77 (by decide)).trans h_77
                        have h_78 := (hfr 78 (by decide)).trans h_78
                        have h_67 := (hfr 67 (by decide)).trans h_67
                        have h_70 := (hfr 70 (by decide)).trans h_70
                        have hF : ∀ x9, x9 ≠ 63 → x9 ≠ 76 → x9 ≠ 77 → x9 ≠ 78 → x9 ≠ 67 → x9 ≠ 70 → x9 ≠ 71 → E_12 x9 = E x9 := fun x9 a0 a1 a2 a3 a4 a5 a6 => (hfr x9 a6).trans (hF x9 a0 a1 a2 a3 a4 a5 a6)
                        refine lv_iinc (v := nI (k + 1)) (lv' := [(7, .int (nI (k + 1))), (0, .ref (z + 63))]) hx hb dX9_row_173 hl (k := 1) rfl (qn_inc k) (by decide) rfl (fun ls hl => ?_)
                        refine lv_goto (tgt := 136) hx hb dX9_row_176 (by decide) ?_
                        exact ih_136 (k + 1) (by omega) (by omega) E_12 h_63 h_76 h_77 h_78 h_67 h_70 h_71 (fun x9 a0 a1 a2 a3 a4 a5 a6 => hF x9 a0 a1 a2 a3 a4 a5 a6) _ _ hH ls (lv_sub hl [1, 0] rfl)
                  exact L_136 (Hq + 1) 0 (Nat.zero_le _) (by omega) Ek h_63 h_76 h_77 h_78 h_67 (((hF 70 (by decide) (by decide) (by decide) (by decide) (by decide)).trans b_70).trans (congrArg (qa_I G 3) (mixI_0 ..).symm)) (((hF 71 (by decide) (by decide) (by decide) (by decide) (by decide)).trans b_71).trans (congrArg (qa_I G 3) (mixI_0 ..).symm)) (fun x9 a0 a1 a2 a3 a4 a5 a6 => hF x9 a0 a1 a2 a3 a4) _ _ hH ls (lv_sub hl [1, 0] rfl)
                · have hk : ¬ K ≤ k := fun w => c_109 (nI_le w (by omega))
                  refine lv_aload_n hx hb dX9_row_112 rfl (lv_at hl 0 rfl) ?_
                  refine qh_get hx hb hH f_19 (by omega) h_63 rfl dX9_row_113 ?_
                  refine lv_iload hx hb dX9_row_116 (lv_at hl 1 rfl) ?_
                  refine lv_aload_n hx hb dX9_row_118 rfl (lv_at hl 0 rfl) ?_
                  refine qh_get hx hb hH f_47 (by omega) h_63 rfl dX9_row_119 ?_
                  refine lv_iload hx hb dX9_row_122 (lv_at hl 1 rfl) ?_
                  refine qh_iald hx hb hK hH (by omega) h_76 (j := k) (rfl) (by omega) (by omega) dX9_row_124 ?_
                  refine lv_i2l (v := (r1a k).toInt64) hx hb dX9_row_125 rfl ?_
                  refine qh_last hx hb hK hH (by omega) h_67 (j := k) (rfl) (by omega) (by omega) dX9_row_126 (fun E_13 H locs h_67 hfr hH _ => ?_)
                  have h_67 : E_13 67 = qa_J G 16 (nmT r1a f (k + 1)) := h_67.trans (congrArg (qa_J G 16) (nmT_s ..))
                  have h_63 := (hfr 63 (by decide)).trans h_63
                  have h_76 := (hfr 76 (by decide)).trans h_76
                  have h_77 := (hfr 77 (by decide)).trans h_77
                  have h_78 := (hfr 78 (by decide)).trans h_78
                  have hF : ∀ x9, x9 ≠ 63 → x9 ≠ 76 → x9 ≠ 77 → x9 ≠ 78 → x9 ≠ 67 → E_13 x9 = E x9 := fun x9 a0 a1 a2 a3 a4 => (hfr x9 a4).trans (hF x9 a0 a1 a2 a3 a4)
                  refine lv_iinc (v := nI (k + 1)) (lv' := [(7, .int (nI (k + 1))), (0, .ref (z + 63))]) hx hb dX9_row_127 hl (k := 1) rfl (qn_inc k) (by decide) rfl (fun ls hl => ?_)
                  refine lv_goto (tgt := 103) hx hb dX9_row_130 (by decide) ?_
                  exact ih_103 (k + 1) (by omega) (by omega) E_13 h_63 h_76 h_77 h_78 h_67 (fun x9 a0 a1 a2 a3 a4 => hF x9 a0 a1 a2 a3 a4) _ _ hH ls (lv_sub hl [1, 0] rfl)
            exact L_103 (K + 1) 0 (Nat.zero_le _) (by omega) E_8 h_63 h_76 h_77 h_78 (((hF 67 (by decide) (by decide) (by decide) (by decide)).trans b_67).trans (congrArg (qa_J G 16) (nmT_0 ..).symm)) (fun x9 a0 a1 a2 a3 a4 => hF x9 a0 a1 a2 a3) _ _ hH ls (lv_sub hl [3, 0] rfl)
          · exact absurd c_70 (by decide)
        · refine qh_runV (As := [.int (nI (60 * j + a + m1))]) (rest := []) (C := RX9) ⟨hx, hb, hml, hown, hts⟩ hK hH (c_X9_readRow l G z M E_5 0 tr n m2 ln rm rh sf sl rn (60 * j + a) m1 ce r1 r2 r3 (by omega) (hM) h_63 ((hF 66 (by decide)).trans b_66) ((hF 76 (by decide)).trans b_76) ((hF 77 (by decide)).trans b_77) ((hF 78 (by decide)).trans b_78)) (cwV 1 hts gX9_row_X9_readRow rfl rfl rfl (by decide +kernel) (by rw [hRf, hRl]; exact ⟨Nat.le_of_ble_eq_true rfl, Nat.le_of_ble_eq_true rfl⟩)) (by omega) h_63 rfl rfl hl.1 rfl (Nat.le_of_ble_eq_true rfl) dX9_row_67 ⟨Nat.zero_le _, Nat.zero_le _⟩ (qh_kki fun r_67 E_14 H locs hpost hH => ?_)
          obtain ⟨P, K, Hq, r1a, r2a, r3a, h_63, h_76, h_77, h_78, hmt, hfr⟩ := hpost
          obtain ⟨p, hp⟩ := Option.ne_none_iff_exists'.mp hS
          rw [hp] at hmt
          obtain ⟨rfl, rfl⟩ := hmt
          have hD : rowD x y q u (hrM so) so (lgM sg) (scM ce) = some (-100 - nI P, 0) := by rw [rowD, if_pos c_9, if_pos c_18, Ej, if_pos hT, if_pos h0, el1, if_pos hP, Ea, Em, ffR_sc, hp]
          have hF : ∀ x9, x9 ≠ 63 → x9 ≠ 76 → x9 ≠ 77 → x9 ≠ 78 → E_14 x9 = E x9 := fun x9 a0 a1 a2 a3 => (hfr x9 a0 a1 a2 a3).trans (hF x9 a0)
          refine lv_if_ne (tgt := 84) hx hb dX9_row_70 (by decide) (fun c_70 => ?_) (fun c_70 => ?_)
          · exact absurd (by decide) c_70
          · refine lv_bipush (v := (-100)) hx hb dX9_row_73 (by decide) ?_
            refine lv_aload_n hx hb dX9_row_75 rfl (lv_at hl 2 rfl) ?_
            refine qh_get hx hb hH f_87 (by omega) h_63 rfl dX9_row_76 ?_
            refine lv_iload hx hb dX9_row_79 (lv_at hl 0 rfl) ?_
            refine lv_isub hx hb dX9_row_81 ?_
            refine qh_topi (y := nI P) (by rw [pk_sub (by omega)]; congr 1; omega) ?_
            refine lv_isub hx hb dX9_row_82 ?_
            exact hret dX9_row_83 hH (by rw [hD]; exact ⟨rfl, ⟨_, _, _, _, _, _, _, _, _, _, h_63, ((hF 64 (by decide) (by decide) (by decide) (by decide)).trans b_64), ((hF 65 (by decide) (by decide) (by decide) (by decide)).trans b_65), ((hF 66 (by decide) (by decide) (by decide) (by decide)).trans b_66), ((hF 67 (by decide) (by decide) (by decide) (by decide)).trans b_67), ((hF 68 (by decide) (by decide) (by decide) (by decide)).trans b_68), ((hF 69 (by decide) (by decide) (by decide) (by decide)).trans b_69), ((hF 70 (by decide) (by decide) (by decide) (by decide)).trans b_70), ((hF 71 (by decide) (by decide) (by decide) (by decide)).trans b_71), ((hF 72 (by decide) (by decide) (by decide) (by decide)).trans b_72), ((hF 73 (by decide) (by decide) (by decide) (by decide)).trans b_73), ((hF 74 (by decide) (by decide) (by decide) (by decide)).trans b_74), ((hF 75 (by decide) (by decide) (by decide) (by decide)).trans b_75), h_76, h_77, h_78, ((hF 79 (by decide) (by decide) (by decide) (by decide)).trans b_79), ((hF 80 (by decide) (by decide) (by decide) (by decide)).trans b_80), ((hF 82 (by decide) (by decide) (by decide) (by decide)).trans b_82), ((hF 83 (by decide) (by decide) (by decide) (by decide)).trans b_83)⟩, (fun x9 h9 => hF x9 (by omega) (by omega) (by omega) (by omega))⟩)
      · have hD : rowD x y q u (hrM so) so (lgM sg) (scM ce) = some (-10 - agR (so j) (sg j) y q u, agR (so j) (sg j) y q u) := by rw [rowD, if_pos c_9, if_pos c_18, Ej]; exact ag_row (hso j hj) c_37
        refine lv_aload_n hx hb dX9_row_40 rfl (lv_at hl 1 rfl) ?_
        refine lv_iload hx hb dX9_row_41 (lv_at hl 0 rfl) ?_
        refine qh_runV (As := [.int (agR (so j) (sg j) y q u)]) (rest := []) (C := RX9) ⟨hx, hb, hml, hown, hts⟩ hK hH (c_X9_fails l G z M E_1 0 tr n m2 ln pt rm rh sf sl rn (hM) h_63 (agR (so j) (sg j) y q u)) (cwV 1 hts gX9_row_X9_fails rfl rfl rfl (by decide +kernel) (by rw [hRf, hRl]; exact ⟨Nat.le_of_ble_eq_true rfl, Nat.le_of_ble_eq_true rfl⟩)) (by omega) h_63 rfl rfl hl.1 rfl (Nat.le_of_ble_eq_true rfl) dX9_row_43 ⟨Nat.zero_le _, Nat.zero_le _⟩ (qh_kki fun r_43 E_15 H locs hpost hH => ?_)
        obtain ⟨rfl, h_63, hfr⟩ := hpost
        have hF : ∀ x9, x9 ≠ 63 → E_15 x9 = E x9 := fun x9 a0 => (hfr x9 a0).trans (hF x9 a0)
        exact hret dX9_row_46 hH (by rw [hD]; exact ⟨rfl, ⟨_, _, _, _, _, _, _, _, _, _, h_63, ((hF 64 (by decide)).trans b_64), ((hF 65 (by decide)).trans b_65), ((hF 66 (by decide)).trans b_66), ((hF 67 (by decide)).trans b_67), ((hF 68 (by decide)).trans b_68), ((hF 69 (by decide)).trans b_69), ((hF 70 (by decide)).trans b_70), ((hF 71 (by decide)).trans b_71), ((hF 72 (by decide)).trans b_72), ((hF 73 (by decide)).trans b_73), ((hF 74 (by decide)).trans b_74), ((hF 75 (by decide)).trans b_75), ((hF 76 (by decide)).trans b_76), ((hF 77 (by decide)).trans b_77), ((hF 78 (by decide)).trans b_78), ((hF 79 (by decide)).trans b_79), ((hF 80 (by decide)).trans b_80), ((hF 82 (by decide)).trans b_82), ((hF 83 (by decide)).trans b_83)⟩, (fun x9 h9 => hF x9 (by omega))⟩)
    · have c_18 := bI_eq.mp c_18
      have c_18 := (not_congr le2).mp c_18
      have hD : rowD x y q u (hrM so) so (lgM sg) (scM ce) = some (-2, 0) := by rw [rowD, if_pos c_9, if_neg c_18]
      refine lv_bipush (v := (-2)) hx hb dX9_row_21 (by decide) ?_
      exact hret dX9_row_23 hH (by rw [hD]; exact ⟨rfl, ⟨_, _, _, _, _, _, _, _, _, _, h_63, ((hF 64 (by decide)).trans b_64), ((hF 65 (by decide)).trans b_65), ((hF 66 (by decide)).trans b_66), ((hF 67 (by decide)).trans b_67), ((hF 68 (by decide)).trans b_68), ((hF 69 (by decide)).trans b_69), ((hF 70 (by decide)).trans b_70), ((hF 71 (by decide)).trans b_71), ((hF 72 (by decide)).trans b_72), ((hF 73 (by decide)).trans b_73), ((hF 74 (by decide)).trans b_74), ((hF 75 (by decide)).trans b_75), ((hF 76 (by decide)).trans b_76), ((hF 77 (by decide)).trans b_77), ((hF 78 (by decide)).trans b_78), ((hF 79 (by decide)).trans b_79), ((hF 80 (by decide)).trans b_80), ((hF 82 (by decide)).trans b_82), ((hF 83 (by decide)).trans b_83)⟩, (fun x9 h9 => hF x9 (by omega))⟩)
  · have c_9 := bI_eq.mp c_9
    have c_9 := (not_congr sh4).mp c_9
    have hD : rowD x y q u (hrM so) so (lgM sg) (scM ce) = some (-1, 0) := by rw [rowD, if_neg c_9]
    refine lv_iconst (v := (-1)) hx hb dX9_row_12 (by decide) ?_
    exact hret dX9_row_13 hH (by rw [hD]; exact ⟨rfl, ⟨_, _, _, _, _, _, _, _, _, _, h_63, ((hF 64 (by decide)).trans b_64), ((hF 65 (by decide)).trans b_65), ((hF 66 (by decide)).trans b_66), ((hF 67 (by decide)).trans b_67), ((hF 68 (by decide)).trans b_68), ((hF 69 (by decide)).trans b_69), ((hF 70 (by decide)).trans b_70), ((hF 71 (by decide)).trans b_71), ((hF 72 (by decide)).trans b_72), ((hF 73 (by decide)).trans b_73), ((hF 74 (by decide)).trans b_74), ((hF 75 (by decide)).trans b_75), ((hF 76 (by decide)).trans b_76), ((hF 77 (by decide)).trans b_77), ((hF 78 (by decide)).trans b_78), ((hF 79 (by decide)).trans b_79), ((hF 80 (by decide)).trans b_80), ((hF 82 (by decide)).trans b_82), ((hF 83 (by decide)).trans b_83)⟩, (fun x9 h9 => hF x9 (by omega))⟩)

set_option maxHeartbeats 2000000 in
set_option maxRecDepth 100000 in
theorem c_X9_day (l : Launch) (G : qh_G) (z M : Nat) (E : Nat → va_E) (tr : Int32) (lf : Int32) (n : Nat) (f : Nat → Int64) (g : Nat → Int64) (mb : Nat → Int64) (m2 : Nat) (kd : Nat → Int32) (pa : Nat → Int32) (ln : Nat) (ts : Nat → Int32) (ga : Nat → Nat) (gb : Nat → Nat) (va : Nat → Int64) (rn : Nat) (cn : Nat → Nat) (vs : Nat → Int64) (so : Nat → Int32) (sg : Nat → Int32) (ce : Nat → Int32) (hM : 84 ≤ M) (hX : ME G z E tr lf n f g mb m2 kd pa ln ts ga gb va rn cn vs so sg ce) (hW : MW n m2 ln rn ga gb cn ts va kd so sg) (x : Int32) (y : Int32) (q : Int32) (u : Int32) (w : Int32) : Met l yX9_day wsX9_day (qh_R 4) (qh_Pre G z M E [.ref (z + 63), .int x, .int y, .int q, .int u, .int w]) (qh_Q G z M (qh_l (fun r E' => r = (dayV x y q u w (hrM so) so (lgM sg) (scM ce) n f m2 kd pa).1 ∧ ME G z E' tr ((dayV x y q u w (hrM so) so (lgM sg) (scM ce) n f m2 kd pa).2) n f g mb m2 kd pa ln ts ga gb va rn cn vs so sg ce ∧ ∀ x9, (x9 < 63 ∨ x9 = 81) → E' x9 = E x9))) 0 0 (fun q => z ≤ q) := by
  refine qh_metL (cc := cX9_day) (maxL := 11) (by decide) rfl (Nat.le_of_ble_eq_true rfl) ?_
  intro pZ eZ sZ mZ aZ bZ tZ cZ RR QQ ls hx hb hml hown hts hRf hRl hH hK hl hret
  have hown : sZ.vm.findClass RX9 = some mZ.cls := hown
  have hl : lv_has ls 11 [(0, .ref (z + 63)), (1, .int x), (2, .int y), (3, .int q), (4, .int u), (5, .int w)] := hl
  obtain ⟨pt, rm, rh, sf, sl, r1, r2, r3, k1, k2, b_63, b_64, b_65, b_66, b_67, b_68, b_69, b_70, b_71, b_72, b_73, b_74, b_75, b_76, b_77, b_78, b_79, b_80, b_82, b_83⟩ := hX
  obtain ⟨⟨hn16, hm3, hl24, hr8⟩, hval, hcn, hok, hvh, hkd, hso⟩ := hW
  have in_X9 : ∀ w ∈ wsX90, w ∈ wsX9_day := fun w h => List.mem_cons_of_mem _ (List.mem_append_right _ h)
  have w_71 : qh_W G sZ mZ aZ 71 9 0 .int := qh_W.of hts in_X9 tyX9 tyX9_ok nmX9 hown hK rfl 0 (by decide) (by decide +kernel) rfl (by decide +kernel)
  have k_75 := hts (.constantLong RX9 75 (-9223372036854775808)) (by decide +kernel)
  have f_81 : qh_F G sZ mZ aZ 81 9 5 := qh_F.of hts in_X9 hown hK rfl 5 (by decide) (by decide +kernel)
  have f_23 : qh_F G sZ mZ aZ 23 9 8 := qh_F.of hts in_X9 hown hK rfl 8 (by decide) (by decide +kernel)
  have f_19 : qh_F G sZ mZ aZ 19 9 7 := qh_F.of hts in_X9 hown hK rfl 7 (by decide) (by decide +kernel)
  have f_16 : qh_F G sZ mZ aZ 16 9 4 := qh_F.of hts in_X9 hown hK rfl 4 (by decide) (by decide +kernel)
  refine lv_aload_n hx hb dX9_day_0 rfl (lv_at hl 0 rfl) ?_
  refine lv_iconst (v := 0) hx hb dX9_day_1 (by decide) ?_
  refine qh_put (fs' := [.int 0, .int tr, .ref (z + 64), .ref (z + 65), .ref (z + 66), .int (nI n), .int (nI m2), .ref (z + 67), .ref (z + 68), .ref (z + 69), .ref (z + 70), .ref (z + 71), .int (nI ln), .ref (z + 72), .ref (z + 73), .ref (z + 74), .ref (z + 75), .int pt, .int rm, .int rh, .ref (z + 76), .ref (z + 77), .ref (z + 78), .ref (z + 79), .ref (z + 80), .int sf, .int sl, .ref (z + 81), .int (nI rn), .ref (z + 82), .ref (z + 83)]) hx hb hH w_71 (by omega) b_63 rfl rfl (Nat.le_of_ble_eq_true rfl) rfl dX9_day_2 (fun E_1 H locs h_63 hfr hH _ => ?_)
  have hF : ∀ x9, x9 ≠ 63 → E_1 x9 = E x9 := fun x9 a0 => hfr x9 a0
  refine lv_iload_n hx hb dX9_day_5 rfl (lv_at hl 1 rfl) ?_
  refine qh_runS (As := [.int x]) (rest := []) ⟨hx, hb, hml, hown, hts⟩ hK hH (c_X9_isSheet l G z M E_1 x) (va_cwS 1 hts gX9_day_X9_isSheet rfl rfl rfl (by decide +kernel) (by rw [hRf, hRl]; exact ⟨Nat.le_of_ble_eq_true rfl, Nat.le_of_ble_eq_true rfl⟩)) rfl hl.1 rfl (Nat.le_of_ble_eq_true rfl) dX9_day_6 ⟨Nat.zero_le _, Nat.zero_le _⟩ (qh_kki fun r_6 E_2 H locs hpost hH => ?_)
  obtain ⟨rfl, rfl⟩ := hpost
  refine lv_if_eq (tgt := 52) hx hb dX9_day_9 (by decide) (fun c_9 => ?_) (fun c_9 => ?_)
  · have c_9 := bI_eq.mp c_9
    have c_9 := (not_congr sh4).mp c_9
    have hD : dayV x y q u w (hrM so) so (lgM sg) (scM ce) n f m2 kd pa = (LOSTv, 0) := by rw [dayV, if_neg (fun v => c_9 v.1)]
    refine lv_ldc2 hx hb hown k_75 dX9_day_52 ?_
    refine qh_topl (y := LOSTv) (rfl) ?_
    exact hret dX9_day_55 hH (by rw [hD]; exact ⟨rfl, ⟨_, _, _, _, _, _, _, _, _, _, h_63, ((hF 64 (by decide)).trans b_64), ((hF 65 (by decide)).trans b_65), ((hF 66 (by decide)).trans b_66), ((hF 67 (by decide)).trans b_67), ((hF 68 (by decide)).trans b_68), ((hF 69 (by decide)).trans b_69), ((hF 70 (by decide)).trans b_70), ((hF 71 (by decide)).trans b_71), ((hF 72 (by decide)).trans b_72), ((hF 73 (by decide)).trans b_73), ((hF 74 (by decide)).trans b_74), ((hF 75 (by decide)).trans b_75), ((hF 76 (by decide)).trans b_76), ((hF 77 (by decide)).trans b_77), ((hF 78 (by decide)).trans b_78), ((hF 79 (by decide)).trans b_79), ((hF 80 (by decide)).trans b_80), ((hF 82 (by decide)).trans b_82), ((hF 83 (by decide)).trans b_83)⟩, (fun x9 h9 => hF x9 (by omega))⟩)
  · have c_9 := bI_ne.mp c_9
    have c_9 := sh4.mp c_9
    obtain ⟨j, hj, ej⟩ := nI_of_in (k := x) (c := 4) (by decide) c_9
    have Ej : x.toNatClampNeg = j := by rw [ej]; exact nI_clamp (by omega)
    have hl : lv_has ls 11 [(0, .ref (z + 63)), (1, .int (nI j)), (2, .int y), (3, .int q), (4, .int u), (5, .int w)] := by rw [← ej]; exact hl
    refine lv_iload_n hx hb dX9_day_12 rfl (lv_at hl 2 rfl) ?_
    refine qh_runS (As := [.int y]) (rest := []) ⟨hx, hb, hml, hown, hts⟩ hK hH (c_X9_isSort l G z M E_1 y) (va_cwS 1 hts gX9_day_X9_isSort rfl rfl rfl (by decide +kernel) (by rw [hRf, hRl]; exact ⟨Nat.le_of_ble_eq_true rfl, Nat.le_of_ble_eq_true rfl⟩)) rfl hl.1 rfl (Nat.le_of_ble_eq_true rfl) dX9_day_13 ⟨Nat.zero_le _, Nat.zero_le _⟩ (qh_kki fun r_13 E_3 H locs hpost hH => ?_)
    obtain ⟨rfl, rfl⟩ := hpost
    refine lv_if_eq (tgt := 52) hx hb dX9_day_16 (by decide) (fun c_16 => ?_) (fun c_16 => ?_)
    · have c_16 := bI_eq.mp c_16
      have c_16 := (not_congr le2).mp c_16
      have hD : dayV x y q u w (hrM so) so (lgM sg) (scM ce) n f m2 kd pa = (LOSTv, 0) := by rw [dayV, if_neg (fun v => c_16 v.2.1)]
      refine lv_ldc2 hx hb hown k_75 dX9_day_52 ?_
      refine qh_topl (y := LOSTv) (rfl) ?_
      exact hret dX9_day_55 hH (by rw [hD]; exact ⟨rfl, ⟨_, _, _, _, _, _, _, _, _, _, h_63, ((hF 64 (by decide)).trans b_64), ((hF 65 (by decide)).trans b_65), ((hF 66 (by decide)).trans b_66), ((hF 67 (by decide)).trans b_67), ((hF 68 (by decide)).trans b_68), ((hF 69 (by decide)).trans b_69), ((hF 70 (by decide)).trans b_70), ((hF 71 (by decide)).trans b_71), ((hF 72 (by decide)).trans b_72), ((hF 73 (by decide)).trans b_73), ((hF 74 (by decide)).trans b_74), ((hF 75 (by decide)).trans b_75), ((hF 76 (by decide)).trans b_76), ((hF 77 (by decide)).trans b_77), ((hF 78 (by decide)).trans b_78), ((hF 79 (by decide)).trans b_79), ((hF 80 (by decide)).trans b_80), ((hF 82 (by decide)).trans b_82), ((hF 83 (by decide)).trans b_83)⟩, (fun x9 h9 => hF x9 (by omega))⟩)
    · have c_16 := bI_ne.mp c_16
      have c_16 := le2.mp c_16
      refine lv_iload hx hb dX9_day_19 (lv_at hl 4 rfl) ?_
      refine lv_iconst (v := 0) hx hb dX9_day_21 (by decide) ?_
      refine lv_bipush (v := 12) hx hb dX9_day_22 (by decide) ?_
      refine qh_runS (As := [.int u, .int 0, .int 12]) (rest := []) ⟨hx, hb, hml, hown, hts⟩ hK hH (c_X9_within l G z M E_1 u 0 12) (va_cwS 3 hts gX9_day_X9_within rfl rfl rfl (by decide +kernel) (by rw [hRf, hRl]; exact ⟨Nat.le_of_ble_eq_true rfl, Nat.le_of_ble_eq_true rfl⟩)) rfl hl.1 rfl (Nat.le_of_ble_eq_true rfl) dX9_day_24 ⟨Nat.zero_le _, Nat.zero_le _⟩ (qh_kki fun r_24 E_4 H locs hpost hH => ?_)
      obtain ⟨rfl, rfl⟩ := hpost
      refine lv_if_eq (tgt := 52) hx hb dX9_day_27 (by decide) (fun c_27 => ?_) (fun c_27 => ?_)
      · have c_27 := bI_eq.mp c_27
        have hD : dayV x y q u w (hrM so) so (lgM sg) (scM ce) n f m2 kd pa = (LOSTv, 0) := by rw [dayV, if_neg (fun v => c_27 ⟨v.2.2.1, v.2.2.2.1⟩)]
        refine lv_ldc2 hx hb hown k_75 dX9_day_52 ?_
        refine qh_topl (y := LOSTv) (rfl) ?_
        exact hret dX9_day_55 hH (by rw [hD]; exact ⟨rfl, ⟨_, _, _, _, _, _, _, _, _, _, h_63, ((hF 64 (by decide)).trans b_64), ((hF 65 (by decide)).trans b_65), ((hF 66 (by decide)).trans b_66), ((hF 67 (by decide)).trans b_67), ((hF 68 (by decide)).trans b_68), ((hF 69 (by decide)).trans b_69), ((hF 70 (by decide)).trans b_70), ((hF 71 (by decide)).trans b_71), ((hF 72 (by decide)).trans b_72), ((hF 73 (by decide)).trans b_73), ((hF 74 (by decide)).trans b_74), ((hF 75 (by decide)).trans b_75), ((hF 76 (by decide)).trans b_76), ((hF 77 (by decide)).trans b_77), ((hF 78 (by decide)).trans b_78), ((hF 79 (by decide)).trans b_79), ((hF 80 (by decide)).trans b_80), ((hF 82 (by decide)).trans b_82), ((hF 83 (by decide)).trans b_83)⟩, (fun x9 h9 => hF x9 (by omega))⟩)
      · have c_27 := bI_ne.mp c_27
        obtain ⟨m1, hm1, em⟩ := nI_of2 (x := u) (M := 12) (n := 12) rfl c_27.1 (Int32.not_lt.mp c_27.2)
        have Em : u.toNatClampNeg = m1 := by rw [em]; exact nI_clamp (by omega)
        have hl : lv_has ls 11 [(0, .ref (z + 63)), (1, .int (nI j)), (2, .int y), (3, .int q), (4, .int (nI m1)), (5, .int w)] := by rw [← em]; exact hl
        have L_56 : (ofDay w) → ∀ Ek : Nat → va_E, Ek 63 = .inr (9, [.int 0, .int tr, .ref (z + 64), .ref (z + 65), .ref (z + 66), .int (nI n), .int (nI m2), .ref (z + 67), .ref (z + 68), .ref (z + 69), .ref (z + 70), .ref (z + 71), .int (nI ln), .ref (z + 72), .ref (z + 73), .ref (z + 74), .ref (z + 75), .int pt, .int rm, .int rh, .ref (z + 76), .ref (z + 77), .ref (z + 78), .ref (z + 79), .ref (z + 80), .int sf, .int sl, .ref (z + 81), .int (nI rn), .ref (z + 82), .ref (z + 83)]) → (∀ x9, x9 ≠ 63 → Ek x9 = E x9) → ∀ (H : Heap) (locs : List Loc), qh_H G z M Ek sZ.heap H locs → ∀ ls : Array Slot, lv_has ls 11 [(0, .ref (z + 63)), (1, .int (nI j)), (2, .int y), (3, .int q), (4, .int (nI m1)), (5, .int w)] → W pZ l eZ RR sZ mZ aZ bZ tZ cZ H locs 0 0 QQ (F0 mZ 56 ls []) := by
          intro hod Ek h_63 hF H locs hH ls hl
          refine lv_aload_n hx hb dX9_day_56 rfl (lv_at hl 0 rfl) ?_
          refine lv_iload_n hx hb dX9_day_57 rfl (lv_at hl 1 rfl) ?_
          refine lv_iload_n hx hb dX9_day_58 rfl (lv_at hl 2 rfl) ?_
          refine lv_iload_n hx hb dX9_day_59 rfl (lv_at hl 3 rfl) ?_
          refine lv_iconst (v := 4) hx hb dX9_day_60 (by decide) ?_
          refine lv_iload hx hb dX9_day_61 (lv_at hl 4 rfl) ?_
          refine lv_imul hx hb dX9_day_63 ?_
          refine qh_topi (y := nI (4 * m1)) (pk_mul 4 m1) ?_
          refine qh_runV (As := [.int (nI j), .int y, .int q, .int (nI (4 * m1))]) (rest := []) (C := RX9) ⟨hx, hb, hml, hown, hts⟩ hK hH (c_X9_against l G z M Ek 0 tr n m2 ln pt rm rh sf sl rn (hM) h_63 j so sg y q (nI (4 * m1)) (by omega) ((hF 64 (by decide)).trans b_64) ((hF 65 (by decide)).trans b_65)) (cwV 4 hts gX9_day_X9_against rfl rfl rfl (by decide +kernel) (by rw [hRf, hRl]; exact ⟨Nat.le_of_ble_eq_true rfl, Nat.le_of_ble_eq_true rfl⟩)) (by omega) h_63 rfl rfl hl.1 rfl (Nat.le_of_ble_eq_true rfl) dX9_day_64 ⟨Nat.zero_le _, Nat.zero_le _⟩ (qh_kki fun r_64 E_5 H locs hpost hH => ?_)
          obtain ⟨rfl, rfl⟩ := hpost
          refine lv_istore (lv' := [(6, .int (agR (so j) (sg j) y q (nI (4 * m1)))), (0, .ref (z + 63)), (1, .int (nI j)), (2, .int y), (3, .int q), (4, .int (nI m1)), (5, .int w)]) hx hb dX9_day_67 hl (by decide) rfl (fun ls hl => ?_)
          refine lv_iload hx hb dX9_day_69 (lv_at hl 0 rfl) ?_
          refine lv_if_eq (tgt := 81) hx hb dX9_day_71 (by decide) (fun c_71 => ?_) (fun c_71 => ?_)
          · obtain ⟨hT, h0, hP⟩ := ag_0 (hso j hj) c_71
            obtain ⟨l1, hl1, el1⟩ := ag_l (hso j hj) hT
            rw [el1] at hP
            obtain ⟨a, b4, ea, eb4, hab4⟩ := has_n hl1 hP
            have e4 : 4 * m1 = b4 := (nI_eq (by omega) (by omega)).mp eb4
            have Ea : q.toNatClampNeg = a := by rw [ea]; exact nI_clamp (by omega)
            have hP : hasP l1 q (4 * u) := by rw [em, show (4 : Int32) * nI m1 = nI (4 * m1) from pk_mul 4 m1]; exact hP
            have hl : lv_has ls 11 [(6, .int (agR (so j) (sg j) y q (nI (4 * m1)))), (0, .ref (z + 63)), (1, .int (nI j)), (2, .int y), (3, .int (nI a)), (4, .int (nI m1)), (5, .int w)] := by rw [← ea]; exact hl
            refine lv_aload_n hx hb dX9_day_81 rfl (lv_at hl 1 rfl) ?_
            refine qh_get hx hb hH f_81 (by omega) h_63 rfl dX9_day_82 ?_
            refine lv_if_ne (tgt := 92) hx hb dX9_day_85 (by decide) (fun c_85 => ?_) (fun c_85 => ?_)
            · have hn1 : 1 ≤ n := n_pos hn16 (n_ne0 hn16 c_85)
              refine lv_bipush (v := 60) hx hb dX9_day_92 (by decide) ?_
              refine lv_iload_n hx hb dX9_day_94 rfl (lv_at hl 2 rfl) ?_
              refine lv_imul hx hb dX9_day_95 ?_
              refine qh_topi (y := nI (60 * j)) (pk_mul 60 j) ?_
              refine lv_iload_n hx hb dX9_day_96 rfl (lv_at hl 4 rfl) ?_
              refine lv_iadd hx hb dX9_day_97 ?_
              refine qh_topi (y := nI (60 * j + a)) (nI_add _ _) ?_
              refine lv_istore (lv' := [(7, .int (nI (60 * j + a))), (6, .int (agR (so j) (sg j) y q (nI (4 * m1)))), (0, .ref (z + 63)), (1, .int (nI j)), (2, .int y), (3, .int (nI a)), (4, .int (nI m1)), (5, .int w)]) hx hb dX9_day_98 hl (by decide) rfl (fun ls hl => ?_)
              refine lv_iconst (v := 0) hx hb dX9_day_100 (by decide) ?_
              refine lv_istore (lv' := [(8, .int 0), (7, .int (nI (60 * j + a))), (6, .int (agR (so j) (sg j) y q (nI (4 * m1)))), (0, .ref (z + 63)), (1, .int (nI j)), (2, .int y), (3, .int (nI a)), (4, .int (nI m1)), (5, .int w)]) hx hb dX9_day_101 hl (by decide) rfl (fun ls hl => ?_)
              have L_103 : ∀ fu_103 : Nat, ∀ t : Nat, (t ≤ m1) → (allR (fun t => decide (okS (ce (60 * j + a + 4 * t)))) t = true) → (m1 - t < fu_103) → ∀ Ek : Nat → va_E, Ek 63 = .inr (9, [.int 0, .int tr, .ref (z + 64), .ref (z + 65), .ref (z + 66), .int (nI n), .int (nI m2), .ref (z + 67), .ref (z + 68), .ref (z + 69), .ref (z + 70), .ref (z + 71), .int (nI ln), .ref (z + 72), .ref (z + 73), .ref (z + 74), .ref (z + 75), .int pt, .int rm, .int rh, .ref (z + 76), .ref (z + 77), .ref (z + 78), .ref (z + 79), .ref (z + 80), .int sf, .int sl, .ref (z + 81), .int (nI rn), .ref (z + 82), .ref (z + 83)]) → (∀ x9, x9 ≠ 63 → Ek x9 = E x9) → ∀ (H : Heap) (locs : List Loc), qh_H G z M Ek sZ.heap H locs → ∀ ls : Array Slot, lv_has ls 11 [(0, .ref (z + 63)), (4, .int (nI m1)), (5, .int w), (7, .int (nI (60 * j + a))), (8, .int (nI t))] → W pZ l eZ RR sZ mZ aZ bZ tZ cZ H locs 0 0 QQ (F0 mZ 103 ls []) := by
                intro fu_103
                induction fu_103 with
                | zero =>
                  intro t ht hall hfuel
                  exact absurd hfuel (by omega)
                | succ fu_103 ih_103 =>
                  intro t ht hall hfuel Ek h_63 hF H locs hH ls hl
                  refine lv_iload hx hb dX9_day_103 (lv_at hl 4 rfl) ?_
                  refine lv_iload hx hb dX9_day_105 (lv_at hl 1 rfl) ?_
                  refine lv_icmp_ge (tgt := 140) hx hb dX9_day_107 (by decide) (fun c_107 => ?_) (fun c_107 => ?_)
                  · have hk : m1 ≤ t := (nI_leI (by omega) (by omega)).mp c_107
                    have hex : m1 = t := by omega
                    subst hex
                    refine lv_aload_n hx hb dX9_day_140 rfl (lv_at hl 0 rfl) ?_
                    refine qh_runV (As := []) (rest := []) (C := RX9) ⟨hx, hb, hml, hown, hts⟩ hK hH (c_X9_keep l G z M Ek 0 tr n m2 ln pt rm rh sf sl rn (hM) h_63 f g k1 k2 (by omega) ((hF 67 (by decide)).trans b_67) ((hF 68 (by decide)).trans b_68) ((hF 79 (by decide)).trans b_79) ((hF 80 (by decide)).trans b_80)) (cwV 0 hts gX9_day_X9_keep rfl rfl rfl (by decide +kernel) (by rw [hRf, hRl]; exact ⟨Nat.le_of_ble_eq_true rfl, Nat.le_of_ble_eq_true rfl⟩)) (by omega) h_63 rfl rfl hl.1 rfl (Nat.le_of_ble_eq_true rfl) dX9_day_141 ⟨Nat.zero_le _, Nat.zero_le _⟩ (qh_kkv fun E_6 H locs hpost hH => ?_)
                    obtain ⟨h_79, h_80, hfr⟩ := hpost
                    have h_63 := (hfr 63 (by decide) (by decide)).trans h_63
                    have hF : ∀ x9, x9 ≠ 63 → x9 ≠ 79 → x9 ≠ 80 → E_6 x9 = E x9 := fun x9 a0 a1 a2 => (hfr x9 a1 a2).trans (hF x9 a0)
                    refine lv_iconst (v := 0) hx hb dX9_day_144 (by decide) ?_
                    refine lv_istore (lv' := [(8, .int 0), (0, .ref (z + 63)), (4, .int (nI m1)), (5, .int w), (7, .int (nI (60 * j + a)))]) hx hb dX9_day_145 hl (by decide) rfl (fun ls hl => ?_)
                    have L_147 : ∀ fu_147 : Nat, ∀ k : Nat, (k ≤ n) → (n - k < fu_147) → ∀ Ek : Nat → va_E, Ek 63 = .inr (9, [.int 0, .int tr, .ref (z + 64), .ref (z + 65), .ref (z + 66), .int (nI n), .int (nI m2), .ref (z + 67), .ref (z + 68), .ref (z + 69), .ref (z + 70), .ref (z + 71), .int (nI ln), .ref (z + 72), .ref (z + 73), .ref (z + 74), .ref (z + 75), .int pt, .int rm, .int rh, .ref (z + 76), .ref (z + 77), .ref (z + 78), .ref (z + 79), .ref (z + 80), .int sf, .int sl, .ref (z + 81), .int (nI rn), .ref (z + 82), .ref (z + 83)]) → Ek 79 = qa_J G 16 (mixL f k1 n) → Ek 80 = qa_J G 16 (mixL g k2 n) → Ek 68 = qa_J G 16 (mixL f g k) → (∀ x9, x9 ≠ 63 → x9 ≠ 79 → x9 ≠ 80 → x9 ≠ 68 → Ek x9 = E x9) → ∀ (H : Heap) (locs : List Loc), qh_H G z M Ek sZ.heap H locs → ∀ ls : Array Slot, lv_has ls 11 [(0, .ref (z + 63)), (4, .int (nI m1)), (5, .int w), (7, .int (nI (60 * j + a))), (8, .int (nI k))] → W pZ l eZ RR sZ mZ aZ bZ tZ cZ H locs 0 0 QQ (F0 mZ 147 ls []) := by
                      intro fu_147
                      induction fu_147 with
                      | zero =>
                        intro k hk hfuel
                        exact absurd hfuel (by omega)
                      | succ fu_147 ih_147 =>
                        intro k hk hfuel Ek h_63 h_79 h_80 h_68 hF H locs hH ls hl
                        refine lv_iload hx hb dX9_day_147 (lv_at hl 4 rfl) ?_
                        refine lv_aload_n hx hb dX9_day_149 rfl (lv_at hl 0 rfl) ?_
                        refine qh_get hx hb hH f_81 (by omega) h_63 rfl dX9_day_150 ?_
                        refine lv_icmp_ge (tgt := 176) hx hb dX9_day_153 (by decide) (fun c_153 => ?_) (fun c_153 => ?_)
                        · have hk : n ≤ k := (nI_leI (by omega) (by omega)).mp c_153
                          have hex : n = k := by omega
                          subst hex
                          refine lv_aload_n hx hb dX9_day_176 rfl (lv_at hl 0 rfl) ?_
                          refine lv_iload hx hb dX9_day_177 (lv_at hl 3 rfl) ?_
                          refine lv_iload hx hb dX9_day_179 (lv_at hl 1 rfl) ?_
                          refine qh_runV (As := [.int (nI (60 * j + a)), .int (nI m1)]) (rest := []) (C := RX9) ⟨hx, hb, hml, hown, hts⟩ hK hH (c_X9_goDay l G z M Ek 0 tr n m2 ln pt rm rh sf sl rn (hM) h_63 (60 * j + a) m1 f (mixL f g n) kd pa ce (⟨by omega, by omega⟩) (by omega) (fun t ht => of_decide_eq_true (allR_at hall ht)) (hkd) ((hF 67 (by decide) (by decide) (by decide) (by decide)).trans b_67) h_68 ((hF 70 (by decide) (by decide) (by decide) (by decide)).trans b_70) ((hF 71 (by decide) (by decide) (by decide) (by decide)).trans b_71) ((hF 66 (by decide) (by decide) (by decide) (by decide)).trans b_66)) (cwV 2 hts gX9_day_X9_goDay rfl rfl rfl (by decide +kernel) (by rw [hRf, hRl]; exact ⟨Nat.le_of_ble_eq_true rfl, Nat.le_of_ble_eq_true rfl⟩)) (by omega) h_63 rfl rfl hl.1 rfl (Nat.le_of_ble_eq_true rfl) dX9_day_181 ⟨Nat.zero_le _, Nat.zero_le _⟩ (qh_kki fun r_181 E_7 H locs hpost hH => ?_)
                          obtain ⟨rfl, h_67, h_68, hfr⟩ := hpost
                          have h_63 := (hfr 63 (by decide) (by decide)).trans h_63
                          have h_79 := (hfr 79 (by decide) (by decide)).trans h_79
                          have h_80 := (hfr 80 (by decide) (by decide)).trans h_80
                          have hF : ∀ x9, x9 ≠ 63 → x9 ≠ 79 → x9 ≠ 80 → x9 ≠ 68 → x9 ≠ 67 → E_7 x9 = E x9 := fun x9 a0 a1 a2 a3 a4 => (hfr x9 a4 a3).trans (hF x9 a0 a1 a2 a3)
                          refine lv_istore (lv' := [(8, .int (dyR n m2 ce (60 * j + a) m1)), (0, .ref (z + 63)), (4, .int (nI m1)), (5, .int w), (7, .int (nI (60 * j + a)))]) hx hb dX9_day_184 hl (by decide) rfl (fun ls hl => ?_)
                          refine lv_aload_n hx hb dX9_day_186 rfl (lv_at hl 1 rfl) ?_
                          refine lv_iload hx hb dX9_day_187 (lv_at hl 3 rfl) ?_
                          refine qh_runV (As := [.int w]) (rest := []) (C := RX9) ⟨hx, hb, hml, hown, hts⟩ hK hH (c_X9_tellDay l G z M E_7 0 tr n m2 ln pt rm rh sf sl rn (hM) h_63 (dyF f m2 kd pa ce (60 * j + a) (dyC n m2 ce (60 * j + a) m1)) (dyK (mixL f g n) f m2 kd pa ce (60 * j + a) (dyC n m2 ce (60 * j + a) m1)) w (⟨by omega, by omega⟩) h_67 h_68) (cwV 1 hts gX9_day_X9_tellDay rfl rfl rfl (by decide +kernel) (by rw [hRf, hRl]; exact ⟨Nat.le_of_ble_eq_true rfl, Nat.le_of_ble_eq_true rfl⟩)) (by omega) h_63 rfl rfl hl.1 rfl (Nat.le_of_ble_eq_true rfl) dX9_day_189 ⟨Nat.zero_le _, Nat.zero_le _⟩ (qh_kkl fun r_189 E_8 H locs hpost hH => ?_)
                          obtain ⟨rfl, rfl⟩ := hpost
                          refine lv_lstore (lv' := [(9, .long (tdM n (dyF f m2 kd pa ce (60 * j + a) (dyC n m2 ce (60 * j + a) m1)) (dyK (mixL f g n) f m2 kd pa ce (60 * j + a) (dyC n m2 ce (60 * j + a) m1)) w)), (8, .int (dyR n m2 ce (60 * j + a) m1)), (0, .ref (z + 63)), (4, .int (nI m1)), (5, .int w), (7, .int (nI (60 * j + a)))]) hx hb dX9_day_192 hl (by decide) rfl (fun ls hl => ?_)
                          refine lv_aload_n hx hb dX9_day_194 rfl (lv_at hl 2 rfl) ?_
                          refine qh_runV (As := []) (rest := []) (C := RX9) ⟨hx, hb, hml, hown, hts⟩ hK hH (c_X9_putBack l G z M E_7 0 tr n m2 ln pt rm rh sf sl rn (hM) h_63 (dyF f m2 kd pa ce (60 * j + a) (dyC n m2 ce (60 * j + a) m1)) (dyK (mixL f g n) f m2 kd pa ce (60 * j + a) (dyC n m2 ce (60 * j + a) m1)) (mixL f k1 n) (mixL g k2 n) (by omega) h_67 h_68 h_79 h_80) (cwV 0 hts gX9_day_X9_putBack rfl rfl rfl (by decide +kernel) (by rw [hRf, hRl]; exact ⟨Nat.le_of_ble_eq_true rfl, Nat.le_of_ble_eq_true rfl⟩)) (by omega) h_63 rfl rfl hl.1 rfl (Nat.le_of_ble_eq_true rfl) dX9_day_195 ⟨Nat.zero_le _, Nat.zero_le _⟩ (qh_kkv fun E_9 H locs hpost hH => ?_)
                          obtain ⟨h_67, h_68, hfr⟩ := hpost
                          have h_63 := (hfr 63 (by decide) (by decide)).trans h_63
                          have h_79 := (hfr 79 (by decide) (by decide)).trans h_79
                          have h_80 := (hfr 80 (by decide) (by decide)).trans h_80
                          have hF : ∀ x9, x9 ≠ 63 → x9 ≠ 79 → x9 ≠ 80 → x9 ≠ 68 → x9 ≠ 67 → E_9 x9 = E x9 := fun x9 a0 a1 a2 a3 a4 => (hfr x9 a4 a3).trans (hF x9 a0 a1 a2 a3 a4)
                          refine lv_iload hx hb dX9_day_198 (lv_at hl 4 rfl) ?_
                          refine lv_iconst (v := 1) hx hb dX9_day_200 (by decide) ?_
                          refine lv_icmp_ne (tgt := 210) hx hb dX9_day_201 (by decide) (fun c_201 => ?_) (fun c_201 => ?_)
                          · refine lv_iload hx hb dX9_day_210 (lv_at hl 1 rfl) ?_
                            refine lv_bipush (v := (-9)) hx hb dX9_day_212 (by decide) ?_
                            refine lv_icmp_ne (tgt := 222) hx hb dX9_day_214 (by decide) (fun c_214 => ?_) (fun c_214 => ?_)
                            · refine lv_bipush (v := (-100)) hx hb dX9_day_222 (by decide) ?_
                              refine lv_iload hx hb dX9_day_224 (lv_at hl 1 rfl) ?_
                              refine lv_isub hx hb dX9_day_226 ?_
                              refine lv_i2l (v := ((-100) - (dyR n m2 ce (60 * j + a) m1)).toInt64) hx hb dX9_day_227 rfl ?_
                              have hout : ∀ i, i < (dyC n m2 ce (60 * j + a) m1) → dyOk n m2 ce (60 * j + a) i := fun i hi => of_decide_eq_true (pfx_mem hi)
                              obtain ⟨E7, h_67, hfr, hH⟩ := qh_renJ (g := f) hH h_67 (fun _ _ => rfl) (fun k hk => day_f hn16 hout)
                              have h_68 := (hfr 68 (by decide)).trans h_68
                              have h_79 := (hfr 79 (by decide)).trans h_79
                              have h_80 := (hfr 80 (by decide)).trans h_80
                              have h_63 := (hfr 63 (by decide)).trans h_63
                              have hF7 := fun x9 a0 a1 a2 a3 a4 => (hfr x9 a4).trans (hF x9 a0 a1 a2 a3 a4)
                              obtain ⟨E8, h_68, hfr, hH⟩ := qh_renJ (g := g) hH h_68 (fun _ _ => rfl) (fun k hk => day_g hn16 hout)
                              have h_67 := (hfr 67 (by decide)).trans h_67
                              have h_79 := (hfr 79 (by decide)).trans h_79
                              have h_80 := (hfr 80 (by decide)).trans h_80
                              have h_63 := (hfr 63 (by decide)).trans h_63
                              have hF : ∀ x9, x9 ≠ 63 → x9 ≠ 79 → x9 ≠ 80 → x9 ≠ 68 → x9 ≠ 67 → E8 x9 = E x9 := fun x9 a0 a1 a2 a3 a4 => (hfr x9 a3).trans (hF7 x9 a0 a1 a2 a3 a4)
                              have hDD : dayV x y q u w (hrM so) so (lgM sg) (scM ce) n f m2 kd pa = (dayT n f m2 kd pa ce (60 * j + a) m1 w, 0) := by rw [dayV, if_pos ⟨c_9, c_16, c_27.1, c_27.2, hod⟩, Ej, if_pos hT, el1, if_pos hP, Ea, Em, sk_sc, if_pos ⟨n_ne0 hn16 c_85, hall⟩, dayT_sc]
                              have hD : dayV x y q u w (hrM so) so (lgM sg) (scM ce) n f m2 kd pa = ((-100 - dyR n m2 ce (60 * j + a) m1).toInt64, 0) := by rw [hDD, dayT, if_neg c_201, if_neg c_214]
                              exact hret dX9_day_228 hH (by rw [hD]; exact ⟨rfl, ⟨_, _, _, _, _, _, _, _, _, _, h_63, ((hF 64 (by decide) (by decide) (by decide) (by decide) (by decide)).trans b_64), ((hF 65 (by decide) (by decide) (by decide) (by decide) (by decide)).trans b_65), ((hF 66 (by decide) (by decide) (by decide) (by decide) (by decide)).trans b_66), h_67, h_68, ((hF 69 (by decide) (by decide) (by decide) (by decide) (by decide)).trans b_69), ((hF 70 (by decide) (by decide) (by decide) (by decide) (by decide)).trans b_70), ((hF 71 (by decide) (by decide) (by decide) (by decide) (by decide)).trans b_71), ((hF 72 (by decide) (by decide) (by decide) (by decide) (by decide)).trans b_72), ((hF 73 (by decide) (by decide) (by decide) (by decide) (by decide)).trans b_73), ((hF 74 (by decide) (by decide) (by decide) (by decide) (by decide)).trans b_74), ((hF 75 (by decide) (by decide) (by decide) (by decide) (by decide)).trans b_75), ((hF 76 (by decide) (by decide) (by decide) (by decide) (by decide)).trans b_76), ((hF 77 (by decide) (by decide) (by decide) (by decide) (by decide)).trans b_77), ((hF 78 (by decide) (by decide) (by decide) (by decide) (by decide)).trans b_78), h_79, h_80, ((hF 82 (by decide) (by decide) (by decide) (by decide) (by decide)).trans b_82), ((hF 83 (by decide) (by decide) (by decide) (by decide) (by decide)).trans b_83)⟩, (fun x9 h9 => hF x9 (by omega) (by omega) (by omega) (by omega) (by omega))⟩)
                            · refine lv_lload hx hb dX9_day_217 (lv_at hl 0 rfl) ?_
                              refine lv_goto (tgt := 228) hx hb dX9_day_219 (by decide) ?_
                              have hout : ∀ i, i < (dyC n m2 ce (60 * j + a) m1) → dyOk n m2 ce (60 * j + a) i := fun i hi => of_decide_eq_true (pfx_mem hi)
                              obtain ⟨E7, h_67, hfr, hH⟩ := qh_renJ (g := f) hH h_67 (fun _ _ => rfl) (fun k hk => day_f hn16 hout)
                              have h_68 := (hfr 68 (by decide)).trans h_68
                              have h_79 := (hfr 79 (by decide)).trans h_79
                              have h_80 := (hfr 80 (by decide)).trans h_80
                              have h_63 := (hfr 63 (by decide)).trans h_63
                              have hF7 := fun x9 a0 a1 a2 a3 a4 => (hfr x9 a4).trans (hF x9 a0 a1 a2 a3 a4)
                              obtain ⟨E8, h_68, hfr, hH⟩ := qh_renJ (g := g) hH h_68 (fun _ _ => rfl) (fun k hk => day_g hn16 hout)
                              have h_67 := (hfr 67 (by decide)).trans h_67
                              have h_79 := (hfr 79 (by decide)).trans h_79
                              have h_80 := (hfr 80 (by decide)).trans h_80
                              have h_63 := (hfr 63 (by decide)).trans h_63
                              have hF : ∀ x9, x9 ≠ 63 → x9 ≠ 79 → x9 ≠ 80 → x9 ≠ 68 → x9 ≠ 67 → E8 x9 = E x9 := fun x9 a0 a1 a2 a3 a4 => (hfr x9 a3).trans (hF7 x9 a0 a1 a2 a3 a4)
                              have hDD : dayV x y q u w (hrM so) so (lgM sg) (scM ce) n f m2 kd pa = (dayT n f m2 kd pa ce (60 * j + a) m1 w, 0) := by rw [dayV, if_pos ⟨c_9, c_16, c_27.1, c_27.2, hod⟩, Ej, if_pos hT, el1, if_pos hP, Ea, Em, sk_sc, if_pos ⟨n_ne0 hn16 c_85, hall⟩, dayT_sc]
                              have hD : dayV x y q u w (hrM so) so (lgM sg) (scM ce) n f m2 kd pa = (tdM n (dyF f m2 kd pa ce (60 * j + a) (dyC n m2 ce (60 * j + a) m1)) (dyK (mixL f g n) f m2 kd pa ce (60 * j + a) (dyC n m2 ce (60 * j + a) m1)) w, 0) := by rw [hDD, dayT, if_neg c_201, if_pos c_214, td_M hn1 hod c_201]
                              exact hret dX9_day_228 hH (by rw [hD]; exact ⟨rfl, ⟨_, _, _, _, _, _, _, _, _, _, h_63, ((hF 64 (by decide) (by decide) (by decide) (by decide) (by decide)).trans b_64), ((hF 65 (by decide) (by decide) (by decide) (by decide) (by decide)).trans b_65), ((hF 66 (by decide) (by decide) (by decide) (by decide) (by decide)).trans b_66), h_67, h_68, ((hF 69 (by decide) (by decide) (by decide) (by decide) (by decide)).trans b_69), ((hF 70 (by decide) (by decide) (by decide) (by decide) (by decide)).trans b_70), ((hF 71 (by decide) (by decide) (by decide) (by decide) (by decide)).trans b_71), ((hF 72 (by decide) (by decide) (by decide) (by decide) (by decide)).trans b_72), ((hF 73 (by decide) (by decide) (by decide) (by decide) (by decide)).trans b_73), ((hF 74 (by decide) (by decide) (by decide) (by decide) (by decide)).trans b_74), ((hF 75 (by decide) (by decide) (by decide) (by decide) (by decide)).trans b_75), ((hF 76 (by decide) (by decide) (by decide) (by decide) (by decide)).trans b_76), ((hF 77 (by decide) (by decide) (by decide) (by decide) (by decide)).trans b_77), ((hF 78 (by decide) (by decide) (by decide) (by decide) (by decide)).trans b_78), h_79, h_80, ((hF 82 (by decide) (by decide) (by decide) (by decide) (by decide)).trans b_82), ((hF 83 (by decide) (by decide) (by decide) (by decide) (by decide)).trans b_83)⟩, (fun x9 h9 => hF x9 (by omega) (by omega) (by omega) (by omega) (by omega))⟩)
                          · refine lv_iload hx hb dX9_day_204 (lv_at hl 1 rfl) ?_
                            refine lv_i2l (v := (dyR n m2 ce (60 * j + a) m1).toInt64) hx hb dX9_day_206 rfl ?_
                            refine lv_goto (tgt := 228) hx hb dX9_day_207 (by decide) ?_
                            have hout : ∀ i, i < (dyC n m2 ce (60 * j + a) m1) → dyOk n m2 ce (60 * j + a) i := fun i hi => of_decide_eq_true (pfx_mem hi)
                            obtain ⟨E7, h_67, hfr, hH⟩ := qh_renJ (g := f) hH h_67 (fun _ _ => rfl) (fun k hk => day_f hn16 hout)
                            have h_68 := (hfr 68 (by decide)).trans h_68
                            have h_79 := (hfr 79 (by decide)).trans h_79
                            have h_80 := (hfr 80 (by decide)).trans h_80
                            have h_63 := (hfr 63 (by decide)).trans h_63
                            have hF7 := fun x9 a0 a1 a2 a3 a4 => (hfr x9 a4).trans (hF x9 a0 a1 a2 a3 a4)
                            obtain ⟨E8, h_68, hfr, hH⟩ := qh_renJ (g := g) hH h_68 (fun _ _ => rfl) (fun k hk => day_g hn16 hout)
                            have h_67 := (hfr 67 (by decide)).trans h_67
                            have h_79 := (hfr 79 (by decide)).trans h_79
                            have h_80 := (hfr 80 (by decide)).trans h_80
                            have h_63 := (hfr 63 (by decide)).trans h_63
                            have hF : ∀ x9, x9 ≠ 63 → x9 ≠ 79 → x9 ≠ 80 → x9 ≠ 68 → x9 ≠ 67 → E8 x9 = E x9 := fun x9 a0 a1 a2 a3 a4 => (hfr x9 a3).trans (hF7 x9 a0 a1 a2 a3 a4)
                            have hDD : dayV x y q u w (hrM so) so (lgM sg) (scM ce) n f m2 kd pa = (dayT n f m2 kd pa ce (60 * j + a) m1 w, 0) := by rw [dayV, if_pos ⟨c_9, c_16, c_27.1, c_27.2, hod⟩, Ej, if_pos hT, el1, if_pos hP, Ea, Em, sk_sc, if_pos ⟨n_ne0 hn16 c_85, hall⟩, dayT_sc]
                            have hD : dayV x y q u w (hrM so) so (lgM sg) (scM ce) n f m2 kd pa = ((dyR n m2 ce (60 * j + a) m1).toInt64, 0) := by rw [hDD, dayT, if_pos c_201]
                            exact hret dX9_day_228 hH (by rw [hD]; exact ⟨rfl, ⟨_, _, _, _, _, _, _, _, _, _, h_63, ((hF 64 (by decide) (by decide) (by decide) (by decide) (by decide)).trans b_64), ((hF 65 (by decide) (by decide) (by decide) (by decide) (by decide)).trans b_65), ((hF 66 (by decide) (by decide) (by decide) (by decide) (by decide)).trans b_66), h_67, h_68, ((hF 69 (by decide) (by decide) (by decide) (by decide) (by decide)).trans b_69), ((hF 70 (by decide) (by decide) (by decide) (by decide) (by decide)).trans b_70), ((hF 71 (by decide) (by decide) (by decide) (by decide) (by decide)).trans b_71), ((hF 72 (by decide) (by decide) (by decide) (by decide) (by decide)).trans b_72), ((hF 73 (by decide) (by decide) (by decide) (by decide) (by decide)).trans b_73), ((hF 74 (by decide) (by decide) (by decide) (by decide) (by decide)).trans b_74), ((hF 75 (by decide) (by decide) (by decide) (by decide) (by decide)).trans b_75), ((hF 76 (by decide) (by decide) (by decide) (by decide) (by decide)).trans b_76), ((hF 77 (by decide) (by decide) (by decide) (by decide) (by decide)).trans b_77), ((hF 78 (by decide) (by decide) (by decide) (by decide) (by decide)).trans b_78), h_79, h_80, ((hF 82 (by decide) (by decide) (by decide) (by decide) (by decide)).trans b_82), ((hF 83 (by decide) (by decide) (by decide) (by decide) (by decide)).trans b_83)⟩, (fun x9 h9 => hF x9 (by omega) (by omega) (by omega) (by omega) (by omega))⟩)
                        · have hk : ¬ n ≤ k := fun w => c_153 (nI_le w (by omega))
                          refine lv_aload_n hx hb dX9_day_156 rfl (lv_at hl 0 rfl) ?_
                          refine qh_get hx hb hH f_23 (by omega) h_63 rfl dX9_day_157 ?_
                          refine lv_iload hx hb dX9_day_160 (lv_at hl 4 rfl) ?_
                          refine lv_aload_n hx hb dX9_day_162 rfl (lv_at hl 0 rfl) ?_
                          refine qh_get hx hb hH f_19 (by omega) h_63 rfl dX9_day_163 ?_
                          refine lv_iload hx hb dX9_day_166 (lv_at hl 4 rfl) ?_
                          refine qh_lald hx hb hK hH (by omega) ((hF 67 (by decide) (by decide) (by decide) (by decide)).trans b_67) (j := k) (rfl) (by omega) (by omega) dX9_day_168 ?_
                          refine qh_last hx hb hK hH (by omega) h_68 (j := k) (rfl) (by omega) (by omega) dX9_day_169 (fun E_10 H locs h_68 hfr hH _ => ?_)
                          have h_68 : E_10 68 = qa_J G 16 (mixL f g (k + 1)) := h_68.trans (congrArg (qa_J G 16) (mixL_s ..))
                          have h_63 := (hfr 63 (by decide)).trans h_63
                          have h_79 := (hfr 79 (by decide)).trans h_79
                          have h_80 := (hfr 80 (by decide)).trans h_80
                          have hF : ∀ x9, x9 ≠ 63 → x9 ≠ 79 → x9 ≠ 80 → x9 ≠ 68 → E_10 x9 = E x9 := fun x9 a0 a1 a2 a3 => (hfr x9 a3).trans (hF x9 a0 a1 a2 a3)
                          refine lv_iinc (v := nI (k + 1)) (lv' := [(8, .int (nI (k + 1))), (0, .ref (z + 63)), (4, .int (nI m1)), (5, .int w), (7, .int (nI (60 * j + a)))]) hx hb dX9_day_170 hl (k := 4) rfl (qn_inc k) (by decide) rfl (fun ls hl => ?_)
                          refine lv_goto (tgt := 147) hx hb dX9_day_173 (by decide) ?_
                          exact ih_147 (k + 1) (by omega) (by omega) E_10 h_63 h_79 h_80 h_68 (fun x9 a0 a1 a2 a3 => hF x9 a0 a1 a2 a3) _ _ hH ls (lv_sub hl [1, 2, 3, 4, 0] rfl)
                    exact L_147 (n + 1) 0 (Nat.zero_le _) (by omega) E_6 h_63 h_79 h_80 (((hF 68 (by decide) (by decide) (by decide)).trans b_68).trans (congrArg (qa_J G 16) (mixL_0 ..).symm)) (fun x9 a0 a1 a2 a3 => hF x9 a0 a1 a2) _ _ hH ls (lv_sub hl [1, 2, 3, 4, 0] rfl)
                  · have hk : ¬ m1 ≤ t := fun w => c_107 (nI_le w (by omega))
                    refine lv_aload_n hx hb dX9_day_110 rfl (lv_at hl 0 rfl) ?_
                    refine qh_get hx hb hH f_16 (by omega) h_63 rfl dX9_day_111 ?_
                    refine lv_iload hx hb dX9_day_114 (lv_at hl 3 rfl) ?_
                    refine lv_iconst (v := 4) hx hb dX9_day_116 (by decide) ?_
                    refine lv_iload hx hb dX9_day_117 (lv_at hl 4 rfl) ?_
                    refine lv_imul hx hb dX9_day_119 ?_
                    refine qh_topi (y := nI (4 * t)) (pk_mul 4 t) ?_
                    refine lv_iadd hx hb dX9_day_120 ?_
                    refine qh_topi (y := nI (60 * j + a + 4 * t)) (nI_add _ _) ?_
                    refine qh_iald hx hb hK hH (by omega) ((hF 66 (by decide)).trans b_66) (j := 60 * j + a + 4 * t) (rfl) (by omega) (by omega) dX9_day_121 ?_
                    refine lv_iconst (v := 0) hx hb dX9_day_122 (by decide) ?_
                    refine lv_iconst (v := 4) hx hb dX9_day_123 (by decide) ?_
                    refine qh_runS (As := [.int (ce (60 * j + a + 4 * t)), .int 0, .int 4]) (rest := []) ⟨hx, hb, hml, hown, hts⟩ hK hH (c_X9_within l G z M Ek (ce (60 * j + a + 4 * t)) 0 4) (va_cwS 3 hts gX9_day_X9_within rfl rfl rfl (by decide +kernel) (by rw [hRf, hRl]; exact ⟨Nat.le_of_ble_eq_true rfl, Nat.le_of_ble_eq_true rfl⟩)) rfl hl.1 rfl (Nat.le_of_ble_eq_true rfl) dX9_day_124 ⟨Nat.zero_le _, Nat.zero_le _⟩ (qh_kki fun r_124 E_11 H locs hpost hH => ?_)
                    obtain ⟨rfl, rfl⟩ := hpost
                    refine lv_if_ne (tgt := 134) hx hb dX9_day_127 (by decide) (fun c_127 => ?_) (fun c_127 => ?_)
                    · have c_127 := bI_ne.mp c_127
                      refine lv_iinc (v := nI (t + 1)) (lv' := [(8, .int (nI (t + 1))), (0, .ref (z + 63)), (4, .int (nI m1)), (5, .int w), (7, .int (nI (60 * j + a)))]) hx hb dX9_day_134 hl (k := 4) rfl (qn_inc t) (by decide) rfl (fun ls hl => ?_)
                      refine lv_goto (tgt := 103) hx hb dX9_day_137 (by decide) ?_
                      exact ih_103 (t + 1) (by omega) (by rw [allR, hall]; simp [okS, c_127]) (by omega) Ek h_63 (fun x9 a0 => hF x9 a0) _ _ hH ls (lv_sub hl [1, 2, 3, 4, 0] rfl)
                    · have c_127 := bI_eq.mp c_127
                      have hD : dayV x y q u w (hrM so) so (lgM sg) (scM ce) n f m2 kd pa = (LOSTv, 0) := by rw [dayV, if_pos ⟨c_9, c_16, c_27.1, c_27.2, hod⟩, Ej, if_pos hT, el1, if_pos hP, Ea, Em, sk_sc, if_neg (fun v => c_127 (of_decide_eq_true (allR_at v.2 (show t < m1 by omega))))]
                      refine lv_ldc2 hx hb hown k_75 dX9_day_130 ?_
                      refine qh_topl (y := LOSTv) (rfl) ?_
                      exact hret dX9_day_133 hH (by rw [hD]; exact ⟨rfl, ⟨_, _, _, _, _, _, _, _, _, _, h_63, ((hF 64 (by decide)).trans b_64), ((hF 65 (by decide)).trans b_65), ((hF 66 (by decide)).trans b_66), ((hF 67 (by decide)).trans b_67), ((hF 68 (by decide)).trans b_68), ((hF 69 (by decide)).trans b_69), ((hF 70 (by decide)).trans b_70), ((hF 71 (by decide)).trans b_71), ((hF 72 (by decide)).trans b_72), ((hF 73 (by decide)).trans b_73), ((hF 74 (by decide)).trans b_74), ((hF 75 (by decide)).trans b_75), ((hF 76 (by decide)).trans b_76), ((hF 77 (by decide)).trans b_77), ((hF 78 (by decide)).trans b_78), ((hF 79 (by decide)).trans b_79), ((hF 80 (by decide)).trans b_80), ((hF 82 (by decide)).trans b_82), ((hF 83 (by decide)).trans b_83)⟩, (fun x9 h9 => hF x9 (by omega))⟩)
              exact L_103 (m1 + 1) 0 (Nat.zero_le _) rfl (by omega) Ek h_63 (fun x9 a0 => hF x9 a0) _ _ hH ls (lv_sub hl [3, 7, 8, 1, 0] rfl)
            · have hD : dayV x y q u w (hrM so) so (lgM sg) (scM ce) n f m2 kd pa = (LOSTv, 0) := by rw [dayV, if_pos ⟨c_9, c_16, c_27.1, c_27.2, hod⟩, Ej, if_pos hT, el1, if_pos hP, if_neg (fun v => absurd v.1 (by rw [c_85]; decide))]
              refine lv_ldc2 hx hb hown k_75 dX9_day_88 ?_
              refine qh_topl (y := LOSTv) (rfl) ?_
              exact hret dX9_day_91 hH (by rw [hD]; exact ⟨rfl, ⟨_, _, _, _, _, _, _, _, _, _, h_63, ((hF 64 (by decide)).trans b_64), ((hF 65 (by decide)).trans b_65), ((hF 66 (by decide)).trans b_66), ((hF 67 (by decide)).trans b_67), ((hF 68 (by decide)).trans b_68), ((hF 69 (by decide)).trans b_69), ((hF 70 (by decide)).trans b_70), ((hF 71 (by decide)).trans b_71), ((hF 72 (by decide)).trans b_72), ((hF 73 (by decide)).trans b_73), ((hF 74 (by decide)).trans b_74), ((hF 75 (by decide)).trans b_75), ((hF 76 (by decide)).trans b_76), ((hF 77 (by decide)).trans b_77), ((hF 78 (by decide)).trans b_78), ((hF 79 (by decide)).trans b_79), ((hF 80 (by decide)).trans b_80), ((hF 82 (by decide)).trans b_82), ((hF 83 (by decide)).trans b_83)⟩, (fun x9 h9 => hF x9 (by omega))⟩)
          · have hD : dayV x y q u w (hrM so) so (lgM sg) (scM ce) n f m2 kd pa = (LOSTv, agR (so j) (sg j) y q (nI (4 * m1))) := by rw [dayV, if_pos ⟨c_9, c_16, c_27.1, c_27.2, hod⟩, Ej, em, show (4 : Int32) * nI m1 = nI (4 * m1) from pk_mul 4 m1]; exact ag_day (hso j hj) (nI_pos' (by omega)) c_71
            refine lv_aload_n hx hb dX9_day_74 rfl (lv_at hl 1 rfl) ?_
            refine lv_iload hx hb dX9_day_75 (lv_at hl 0 rfl) ?_
            refine qh_runV (As := [.int (agR (so j) (sg j) y q (nI (4 * m1)))]) (rest := []) (C := RX9) ⟨hx, hb, hml, hown, hts⟩ hK hH (c_X9_lost l G z M Ek 0 tr n m2 ln pt rm rh sf sl rn (hM) h_63 (agR (so j) (sg j) y q (nI (4 * m1)))) (cwV 1 hts gX9_day_X9_lost rfl rfl rfl (by decide +kernel) (by rw [hRf, hRl]; exact ⟨Nat.le_of_ble_eq_true rfl, Nat.le_of_ble_eq_true rfl⟩)) (by omega) h_63 rfl rfl hl.1 rfl (Nat.le_of_ble_eq_true rfl) dX9_day_77 ⟨Nat.zero_le _, Nat.zero_le _⟩ (qh_kkl fun r_77 E_12 H locs hpost hH => ?_)
            obtain ⟨rfl, h_63, hfr⟩ := hpost
            have hF : ∀ x9, x9 ≠ 63 → E_12 x9 = E x9 := fun x9 a0 => (hfr x9 a0).trans (hF x9 a0)
            exact hret dX9_day_80 hH (by rw [hD]; exact ⟨rfl, ⟨_, _, _, _, _, _, _, _, _, _, h_63, ((hF 64 (by decide)).trans b_64), ((hF 65 (by decide)).trans b_65), ((hF 66 (by decide)).trans b_66), ((hF 67 (by decide)).trans b_67), ((hF 68 (by decide)).trans b_68), ((hF 69 (by decide)).trans b_69), ((hF 70 (by decide)).trans b_70), ((hF 71 (by decide)).trans b_71), ((hF 72 (by decide)).trans b_72), ((hF 73 (by decide)).trans b_73), ((hF 74 (by decide)).trans b_74), ((hF 75 (by decide)).trans b_75), ((hF 76 (by decide)).trans b_76), ((hF 77 (by decide)).trans b_77), ((hF 78 (by decide)).trans b_78), ((hF 79 (by decide)).trans b_79), ((hF 80 (by decide)).trans b_80), ((hF 82 (by decide)).trans b_82), ((hF 83 (by decide)).trans b_83)⟩, (fun x9 h9 => hF x9 (by omega))⟩)
        refine lv_iload hx hb dX9_day_30 (lv_at hl 5 rfl) ?_
        refine lv_iconst (v := 0) hx hb dX9_day_32 (by decide) ?_
        refine lv_iconst (v := 4) hx hb dX9_day_33 (by decide) ?_
        refine qh_runS (As := [.int w, .int 0, .int 4]) (rest := []) ⟨hx, hb, hml, hown, hts⟩ hK hH (c_X9_within l G z M E_1 w 0 4) (va_cwS 3 hts gX9_day_X9_within rfl rfl rfl (by decide +kernel) (by rw [hRf, hRl]; exact ⟨Nat.le_of_ble_eq_true rfl, Nat.le_of_ble_eq_true rfl⟩)) rfl hl.1 rfl (Nat.le_of_ble_eq_true rfl) dX9_day_34 ⟨Nat.zero_le _, Nat.zero_le _⟩ (qh_kki fun r_34 E_13 H locs hpost hH => ?_)
        obtain ⟨rfl, rfl⟩ := hpost
        refine lv_if_ne (tgt := 56) hx hb dX9_day_37 (by decide) (fun c_37 => ?_) (fun c_37 => ?_)
        · have c_37 := bI_ne.mp c_37
          exact L_56 (od_1 c_37) E_1 h_63 (fun x9 a0 => hF x9 a0) _ _ hH ls (lv_sub hl [0, 1, 2, 3, 4, 5] rfl)
        · have c_37 := bI_eq.mp c_37
          refine lv_iload hx hb dX9_day_40 (lv_at hl 5 rfl) ?_
          refine lv_bipush (v := 10) hx hb dX9_day_42 (by decide) ?_
          refine lv_bipush (v := 25) hx hb dX9_day_44 (by decide) ?_
          refine qh_runS (As := [.int w, .int 10, .int 25]) (rest := []) ⟨hx, hb, hml, hown, hts⟩ hK hH (c_X9_within l G z M E_1 w 10 25) (va_cwS 3 hts gX9_day_X9_within rfl rfl rfl (by decide +kernel) (by rw [hRf, hRl]; exact ⟨Nat.le_of_ble_eq_true rfl, Nat.le_of_ble_eq_true rfl⟩)) rfl hl.1 rfl (Nat.le_of_ble_eq_true rfl) dX9_day_46 ⟨Nat.zero_le _, Nat.zero_le _⟩ (qh_kki fun r_46 E_14 H locs hpost hH => ?_)
          obtain ⟨rfl, rfl⟩ := hpost
          refine lv_if_ne (tgt := 56) hx hb dX9_day_49 (by decide) (fun c_49 => ?_) (fun c_49 => ?_)
          · have c_49 := bI_ne.mp c_49
            exact L_56 (od_2 c_49) E_1 h_63 (fun x9 a0 => hF x9 a0) _ _ hH ls (lv_sub hl [0, 1, 2, 3, 4, 5] rfl)
          · have c_49 := bI_eq.mp c_49
            have hD : dayV x y q u w (hrM so) so (lgM sg) (scM ce) n f m2 kd pa = (LOSTv, 0) := by rw [dayV, if_neg (fun v => od_no c_37 c_49 v.2.2.2.2)]
            refine lv_ldc2 hx hb hown k_75 dX9_day_52 ?_
            refine qh_topl (y := LOSTv) (rfl) ?_
            exact hret dX9_day_55 hH (by rw [hD]; exact ⟨rfl, ⟨_, _, _, _, _, _, _, _, _, _, h_63, ((hF 64 (by decide)).trans b_64), ((hF 65 (by decide)).trans b_65), ((hF 66 (by decide)).trans b_66), ((hF 67 (by decide)).trans b_67), ((hF 68 (by decide)).trans b_68), ((hF 69 (by decide)).trans b_69), ((hF 70 (by decide)).trans b_70), ((hF 71 (by decide)).trans b_71), ((hF 72 (by decide)).trans b_72), ((hF 73 (by decide)).trans b_73), ((hF 74 (by decide)).trans b_74), ((hF 75 (by decide)).trans b_75), ((hF 76 (by decide)).trans b_76), ((hF 77 (by decide)).trans b_77), ((hF 78 (by decide)).trans b_78), ((hF 79 (by decide)).trans b_79), ((hF 80 (by decide)).trans b_80), ((hF 82 (by decide)).trans b_82), ((hF 83 (by decide)).trans b_83)⟩, (fun x9 h9 => hF x9 (by omega))⟩)
