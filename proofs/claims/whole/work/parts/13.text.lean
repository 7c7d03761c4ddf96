/-! a text: codes, digits, helpers -/
abbrev isDg (x : Int32) : Prop := ¬ x < 48 ∧ ¬ 57 < x
def knd (x : Int32) : Int32 := if x = 98 then 1 else if x = 100 then 2 else if x = 112 then 0 else -9
/-- the code at place t of m cells from a on; -9: there is none -/
def cdF (f : Nat → Int32) (a m t : Nat) : Int32 := if t < m then f (a + t) else -9
/-- how many stand first that are so, among n -/
def pfx (d : Nat → Bool) : Nat → Nat
  | 0 => 0
  | n + 1 => if pfx d n = n ∧ d n = true then n + 1 else pfx d n
theorem pfx_all {d : Nat → Bool} : ∀ {n : Nat}, (∀ t, t < n → d t = true) → pfx d n = n
  | 0, _ => rfl
  | n + 1, h => by
    rw [pfx, if_pos ⟨pfx_all (fun t ht => h t (by omega)), h n (by omega)⟩]
theorem pfx_le (d : Nat → Bool) : ∀ n, pfx d n ≤ n
  | 0 => Nat.le_refl 0
  | n + 1 => by
    have := pfx_le d n
    rw [pfx]
    split <;> omega
theorem pfx_stop {d : Nat → Bool} {k : Nat} (h : ∀ t, t < k → d t = true) (hk : ¬ d k = true) : ∀ {n : Nat}, k ≤ n → pfx d n = k
  | 0, hn => by
    have e : k = 0 := by omega
    subst e; rfl
  | n + 1, hn => by
    rcases Nat.lt_or_ge n k with w | w
    · have e : k = n + 1 := by omega
      subst e
      exact pfx_all h
    · rw [pfx, pfx_stop h hk w, if_neg]
      intro q
      exact hk (q.1 ▸ q.2)
def dgC (f : Nat → Int32) (a m : Nat) : Nat := pfx (fun t => decide (isDg (cdF f a m (1 + t)))) 16
theorem dgC_le (f : Nat → Int32) (a m : Nat) : dgC f a m ≤ 16 := pfx_le _ 16
theorem dgC_full {f : Nat → Int32} {a m : Nat} (h : ∀ t, t < 16 → isDg (cdF f a m (1 + t))) : dgC f a m = 16 := pfx_all (fun t ht => decide_eq_true (h t ht))
theorem dgC_stop {f : Nat → Int32} {a m k : Nat} (hk : k < 16) (h : ∀ t, t < k → isDg (cdF f a m (1 + t))) (h2 : ¬ isDg (cdF f a m (1 + k))) : dgC f a m = k := pfx_stop (fun t ht => decide_eq_true (h t ht)) (fun w => h2 (of_decide_eq_true w)) (by omega)
theorem dgC_z {f : Nat → Int32} {a m : Nat} (h : nI (dgC f a m) = 0) : dgC f a m = 0 := by
  have h1 := dgC_le f a m
  exact (nI_eq (b := 0) (by omega) (by decide)).mp h
def dgA (f : Nat → Int32) (a m : Nat) (dg : Nat → Int32) (k : Nat) : Nat → Int32 := fun t => if t < k then cdF f a m (1 + t) - 48 else dg t
theorem dgA_0 (f : Nat → Int32) (a m : Nat) (dg : Nat → Int32) : dgA f a m dg 0 = dg := by
  funext t
  exact if_neg (Nat.not_lt_zero t)
theorem dgA_at {f : Nat → Int32} {a m : Nat} {dg : Nat → Int32} {k t : Nat} (h : t < k) : dgA f a m dg k t = cdF f a m (1 + t) - 48 := if_pos h
theorem dgA_s (f : Nat → Int32) (a m : Nat) (dg : Nat → Int32) (k : Nat) : upd (dgA f a m dg k) k (cdF f a m (1 + k) - 48) = dgA f a m dg (k + 1) := by
  funext t
  simp only [upd, dgA]
  by_cases h : t = k
  · subst h
    rw [if_pos rfl, if_pos (by omega)]
  · rw [if_neg h]
    by_cases h2 : t < k
    · rw [if_pos h2, if_pos (by omega)]
    · rw [if_neg h2, if_neg (by omega)]
/-- the first fault of h helpers at most from place p on -/
def hpF (cd : Nat → Int32) (m : Nat) : Nat → Nat → Option Nat
  | 0, p => if p < m then some p else none
  | h + 1, p => if p < m then (if cd p = 59 then (if knd (cd (p + 1)) = -9 then some (p + 1) else if isDg (cd (p + 2)) then hpF cd m h (p + 3) else some (p + 2)) else some p) else none
/-- how many are read -/
def hpN (cd : Nat → Int32) (m : Nat) : Nat → Nat → Nat
  | 0, _ => 0
  | h + 1, p => if p < m ∧ cd p = 59 ∧ ¬ knd (cd (p + 1)) = -9 ∧ isDg (cd (p + 2)) then hpN cd m h (p + 3) + 1 else 0
theorem hpN_le (cd : Nat → Int32) (m : Nat) : ∀ h p, hpN cd m h p ≤ h
  | 0, _ => Nat.le_refl 0
  | h + 1, p => by
    have := hpN_le cd m h (p + 3)
    rw [hpN]
    split <;> omega
def enc (q : Option Nat) : Int32 := match q with
  | none => -9
  | some p => nI p
def hkA (cd : Nat → Int32) (p : Nat) (kd : Nat → Int32) (h : Nat) : Nat → Int32 := fun t => if t < h then knd (cd (p + 3 * t + 1)) else kd t
def hpA (cd : Nat → Int32) (p : Nat) (pa : Nat → Int32) (h : Nat) : Nat → Int32 := fun t => if t < h then cd (p + 3 * t + 2) - 48 else pa t
theorem hkA_0 (cd : Nat → Int32) (p : Nat) (kd : Nat → Int32) : hkA cd p kd 0 = kd := by
  funext t
  exact if_neg (Nat.not_lt_zero t)
theorem hpA_0 (cd : Nat → Int32) (p : Nat) (kd : Nat → Int32) : hpA cd p kd 0 = kd := by
  funext t
  exact if_neg (Nat.not_lt_zero t)
theorem hkA_at {cd : Nat → Int32} {p : Nat} {kd : Nat → Int32} {h t : Nat} (ht : t < h) : hkA cd p kd h t = knd (cd (p + 3 * t + 1)) := if_pos ht
theorem hpA_at {cd : Nat → Int32} {p : Nat} {kd : Nat → Int32} {h t : Nat} (ht : t < h) : hpA cd p kd h t = cd (p + 3 * t + 2) - 48 := if_pos ht
theorem hkA_s (cd : Nat → Int32) (p : Nat) (kd : Nat → Int32) (h : Nat) : upd (hkA cd p kd h) h (knd (cd (p + 3 * h + 1))) = hkA cd p kd (h + 1) := by
  funext t
  simp only [upd, hkA]
  by_cases h1 : t = h
  · subst h1
    rw [if_pos rfl, if_pos (by omega)]
  · rw [if_neg h1]
    by_cases h2 : t < h
    · rw [if_pos h2, if_pos (by omega)]
    · rw [if_neg h2, if_neg (by omega)]
theorem hpA_s (cd : Nat → Int32) (p : Nat) (pa : Nat → Int32) (h : Nat) : upd (hpA cd p pa h) h (cd (p + 3 * h + 2) - 48) = hpA cd p pa (h + 1) := by
  funext t
  simp only [upd, hpA]
  by_cases h1 : t = h
  · subst h1
    rw [if_pos rfl, if_pos (by omega)]
  · rw [if_neg h1]
    by_cases h2 : t < h
    · rw [if_pos h2, if_pos (by omega)]
    · rw [if_neg h2, if_neg (by omega)]
/-- a text's first fault; none: it is taken -/
def ffR (f : Nat → Int32) (a m : Nat) : Option Nat := if cdF f a m 0 = 114 then (if dgC f a m = 0 then some 1 else hpF (cdF f a m) m 3 (1 + dgC f a m)) else some 0
theorem qn_inc3 (k : Nat) : nI k + Int32.ofInt 3 = nI (k + 3) := by
  rw [← nI_add]; rfl
set_option maxHeartbeats 1000000 in
set_option maxRecDepth 100000 in
theorem c_X7_isDigit (l : Launch) (G : qh_G) (z M : Nat) (E : Nat → va_E) (x : Int32) : Met l yX7_isDigit wsX7_isDigit (qh_R 0) (qh_Pre G z M E [.int x]) (qh_Q G z M (qh_i (fun r E' => E = E' ∧ r = bI (isDg x)))) 0 0 (fun q => z ≤ q) := by
  refine qh_metZ (cc := cX7_isDigit) (maxL := 1) (by decide) rfl (Nat.le_of_ble_eq_true rfl) ?_
  intro pZ eZ sZ mZ aZ bZ tZ cZ RR QQ ls hx hb hml hown hts hRf hRl hH hK hl hret
  have hown : sZ.vm.findClass RX7 = some mZ.cls := hown
  have hl : lv_has ls 1 [(0, .int x)] := hl
  refine lv_iload_n hx hb dX7_isDigit_0 rfl (lv_at hl 0 rfl) ?_
  refine lv_bipush (v := 48) hx hb dX7_isDigit_1 (by decide) ?_
  refine lv_icmp_lt (tgt := 16) hx hb dX7_isDigit_3 (by decide) (fun c_3 => ?_) (fun c_3 => ?_)
  · refine lv_iconst (v := 0) hx hb dX7_isDigit_16 (by decide) ?_
    exact hret dX7_isDigit_17 hH (Or.inl rfl) (⟨rfl, by first | rfl | (simp [bI, c_3])⟩)
  · refine lv_iload_n hx hb dX7_isDigit_6 rfl (lv_at hl 0 rfl) ?_
    refine lv_bipush (v := 57) hx hb dX7_isDigit_7 (by decide) ?_
    refine lv_icmp_gt (tgt := 16) hx hb dX7_isDigit_9 (by decide) (fun c_9 => ?_) (fun c_9 => ?_)
    · refine lv_iconst (v := 0) hx hb dX7_isDigit_16 (by decide) ?_
      exact hret dX7_isDigit_17 hH (Or.inl rfl) (⟨rfl, by first | rfl | (simp [bI, c_3, c_9])⟩)
    · refine lv_iconst (v := 1) hx hb dX7_isDigit_12 (by decide) ?_
      refine lv_goto (tgt := 17) hx hb dX7_isDigit_13 (by decide) ?_
      exact hret dX7_isDigit_17 hH (Or.inr rfl) (⟨rfl, by first | rfl | (simp [bI, c_3, c_9])⟩)

set_option maxHeartbeats 1000000 in
set_option maxRecDepth 100000 in
theorem c_X7_kindOf (l : Launch) (G : qh_G) (z M : Nat) (E : Nat → va_E) (x : Int32) : Met l yX7_kindOf wsX7_kindOf (qh_R 0) (qh_Pre G z M E [.int x]) (qh_Q G z M (qh_i (fun r E' => E = E' ∧ r = knd x))) 0 0 (fun q => z ≤ q) := by
  refine qh_metI (cc := cX7_kindOf) (maxL := 1) (by decide) rfl (Nat.le_of_ble_eq_true rfl) ?_
  intro pZ eZ sZ mZ aZ bZ tZ cZ RR QQ ls hx hb hml hown hts hRf hRl hH hK hl hret
  have hown : sZ.vm.findClass RX7 = some mZ.cls := hown
  have hl : lv_has ls 1 [(0, .int x)] := hl
  refine lv_iload_n hx hb dX7_kindOf_0 rfl (lv_at hl 0 rfl) ?_
  by_cases c_1_98 : x = 98
  · refine lv_lookup (tgt := 38) (off := 37) hx hb dX7_kindOf_1 (by decide) (by rw [c_1_98] <;> decide) (by decide) ?_
    refine lv_iconst (v := 1) hx hb dX7_kindOf_38 (by decide) ?_
    exact hret dX7_kindOf_39 hH (⟨rfl, by simp [knd, c_1_98]⟩)
  by_cases c_1_100 : x = 100
  · refine lv_lookup (tgt := 40) (off := 39) hx hb dX7_kindOf_1 (by decide) (by rw [c_1_100] <;> decide) (by decide) ?_
    refine lv_iconst (v := 2) hx hb dX7_kindOf_40 (by decide) ?_
    exact hret dX7_kindOf_41 hH (⟨rfl, by simp [knd, c_1_98, c_1_100]⟩)
  by_cases c_1_112 : x = 112
  · refine lv_lookup (tgt := 36) (off := 35) hx hb dX7_kindOf_1 (by decide) (by rw [c_1_112] <;> decide) (by decide) ?_
    refine lv_iconst (v := 0) hx hb dX7_kindOf_36 (by decide) ?_
    exact hret dX7_kindOf_37 hH (⟨rfl, by simp [knd, c_1_98, c_1_100, c_1_112]⟩)
  refine lv_lookup (tgt := 42) (off := 41) hx hb dX7_kindOf_1 (by decide) (by rw [lv_osw (k := 98) c_1_98 (by decide), lv_osw (k := 100) c_1_100 (by decide), lv_osw (k := 112) c_1_112 (by decide)] <;> rfl) (by decide) ?_
  refine lv_bipush (v := (-9)) hx hb dX7_kindOf_42 (by decide) ?_
  exact hret dX7_kindOf_44 hH (⟨rfl, by simp [knd, c_1_98, c_1_100, c_1_112]⟩)

set_option maxHeartbeats 1000000 in
set_option maxRecDepth 100000 in
theorem c_X7_codeOf (l : Launch) (G : qh_G) (z M : Nat) (E : Nat → va_E) (si : Nat) (sj : Nat) (q : Nat) (a : Nat) (m : Nat) (sa : Int32) (sb : Int32) (f : Nat → Int32) (t : Nat) (hs : si < M ∧ sj < M) (hq : a + m ≤ q ∧ q ≤ 60) (ht : t ≤ 100) (b_si : E si = .inr (5, [.int sa, .int sb, .int (nI q), .ref (z + sj)])) (b_sj : E sj = qa_I G 60 f) : Met l yX7_codeOf wsX7_codeOf (qh_R 1) (qh_Pre G z M E [.ref (z + si), .int (nI a), .int (nI m), .int (nI t)]) (qh_Q G z M (qh_i (fun r E' => E = E' ∧ r = cdF f a m t))) 0 0 (fun q => z ≤ q) := by
  refine qh_metI (cc := cX7_codeOf) (maxL := 4) (by decide) rfl (Nat.le_of_ble_eq_true rfl) ?_
  intro pZ eZ sZ mZ aZ bZ tZ cZ RR QQ ls hx hb hml hown hts hRf hRl hH hK hl hret
  have hown : sZ.vm.findClass RX7 = some mZ.cls := hown
  have hl : lv_has ls 4 [(0, .ref (z + si)), (1, .int (nI a)), (2, .int (nI m)), (3, .int (nI t))] := hl
  refine lv_iload_n hx hb dX7_codeOf_0 rfl (lv_at hl 3 rfl) ?_
  refine lv_iload_n hx hb dX7_codeOf_1 rfl (lv_at hl 2 rfl) ?_
  refine lv_icmp_ge (tgt := 15) hx hb dX7_codeOf_2 (by decide) (fun c_2 => ?_) (fun c_2 => ?_)
  · have hk : ¬ t < m := fun w => nI_ge w (by omega) c_2
    refine lv_bipush (v := (-9)) hx hb dX7_codeOf_15 (by decide) ?_
    exact hret dX7_codeOf_17 hH (⟨rfl, (if_neg hk).symm⟩)
  · have hk : t < m := by
      rcases Nat.lt_or_ge t m with w | w
      · exact w
      · exact absurd (nI_le w (by omega)) c_2
    refine lv_aload_n hx hb dX7_codeOf_5 rfl (lv_at hl 0 rfl) ?_
    refine lv_iload_n hx hb dX7_codeOf_6 rfl (lv_at hl 1 rfl) ?_
    refine lv_iload_n hx hb dX7_codeOf_7 rfl (lv_at hl 3 rfl) ?_
    refine lv_iadd hx hb dX7_codeOf_8 ?_
    refine qh_topi (y := nI (a + t)) (nI_add a t) ?_
    refine qh_runV (As := [.int (nI (a + t))]) (rest := []) (C := RX5) ⟨hx, hb, hml, hown, hts⟩ hK hH (c_X5_code l G z M E si sj q sa sb (nI (a + t)) f (⟨hs.1, hs.2⟩) (hq.2) b_si b_sj) (cwV 1 hts gX7_codeOf_X5_code rfl rfl rfl (by decide +kernel) (by rw [hRf, hRl]; exact ⟨Nat.le_of_ble_eq_true rfl, Nat.le_of_ble_eq_true rfl⟩)) (hs.1) b_si rfl rfl hl.1 rfl (Nat.le_of_ble_eq_true rfl) dX7_codeOf_9 ⟨Nat.zero_le _, Nat.zero_le _⟩ (qh_kki fun r_9 E_1 H locs hpost hH => ?_)
    obtain ⟨rfl, rfl⟩ := hpost
    refine qh_topi (y := f (a + t)) (by rw [codF, if_pos (nI_has (by omega) (by omega)), nI_clamp (by omega)]) ?_
    refine lv_goto (tgt := 17) hx hb dX7_codeOf_12 (by decide) ?_
    exact hret dX7_codeOf_17 hH (⟨rfl, (if_pos hk).symm⟩)

set_option maxHeartbeats 1000000 in
set_option maxRecDepth 100000 in
theorem c_X7_readDigits (l : Launch) (G : qh_G) (z M : Nat) (E : Nat → va_E) (i : Nat) (j : Nat) (i2 : Nat) (j2 : Nat) (k2 : Nat) (si : Nat) (sj : Nat) (q : Nat) (a : Nat) (m : Nat) (sa : Int32) (sb : Int32) (f : Nat → Int32) (dg : Nat → Int32) (hs : si < M ∧ sj < M) (hq : a + m ≤ q ∧ q ≤ 60) (hi : i < M ∧ j < M ∧ i2 < M ∧ j2 < M ∧ k2 < M) (hd : i ≠ j ∧ i ≠ i2 ∧ i ≠ j2 ∧ i ≠ k2 ∧ j ≠ i2 ∧ j ≠ j2 ∧ j ≠ k2 ∧ i2 ≠ j2 ∧ i2 ≠ k2 ∧ j2 ≠ k2) (hds : si ≠ i ∧ si ≠ j ∧ si ≠ i2 ∧ si ≠ j2 ∧ si ≠ k2 ∧ sj ≠ i ∧ sj ≠ j ∧ sj ≠ i2 ∧ sj ≠ j2 ∧ sj ≠ k2) (b_i : E i = .inr (7, [.int 0, .ref (z + j), .ref (z + i2)])) (b_j : E j = qa_I G 16 dg) (b_si : E si = .inr (5, [.int sa, .int sb, .int (nI q), .ref (z + sj)])) (b_sj : E sj = qa_I G 60 f) : Met l yX7_readDigits wsX7_readDigits (qh_R 2) (qh_Pre G z M E [.ref (z + i), .ref (z + si), .int (nI a), .int (nI m)]) (qh_Q G z M (qh_v (fun E' => E' i = .inr (7, [.int (nI (dgC f a m)), .ref (z + j), .ref (z + i2)]) ∧ E' j = qa_I G 16 (dgA f a m dg (dgC f a m)) ∧ ∀ x9, x9 ≠ i → x9 ≠ j → E' x9 = E x9))) 0 0 (fun q => z ≤ q) := by
  refine qh_metV (cc := cX7_readDigits) (maxL := 6) (by decide) rfl (Nat.le_of_ble_eq_true rfl) ?_
  intro pZ eZ sZ mZ aZ bZ tZ cZ RR QQ ls hx hb hml hown hts hRf hRl hH hK hl hret
  have hown : sZ.vm.findClass RX7 = some mZ.cls := hown
  have hl : lv_has ls 6 [(0, .ref (z + i)), (1, .ref (z + si)), (2, .int (nI a)), (3, .int (nI m))] := hl
  have in_X7 : ∀ w ∈ wsX70, w ∈ wsX7_readDigits := fun w h => List.mem_cons_of_mem _ (List.mem_append_left _ (List.mem_append_right _ h))
  have f_15 : qh_F G sZ mZ aZ 15 7 1 := qh_F.of hts in_X7 hown hK rfl 1 (by decide) (by decide +kernel)
  have w_9 : qh_W G sZ mZ aZ 9 7 0 .int := qh_W.of hts in_X7 tyX7 tyX7_ok nmX7 hown hK rfl 0 (by decide) (by decide +kernel) rfl (by decide +kernel)
  refine lv_iconst (v := 0) hx hb dX7_readDigits_0 (by decide) ?_
  refine lv_istore (lv' := [(4, .int 0), (0, .ref (z + i)), (1, .ref (z + si)), (2, .int (nI a)), (3, .int (nI m))]) hx hb dX7_readDigits_1 hl (by decide) rfl (fun ls hl => ?_)
  have L_3 : ∀ fu : Nat, ∀ k : Nat, (k ≤ 16) → (∀ t, t < k → isDg (cdF f a m (1 + t))) → (16 - k < fu) → ∀ Ek : Nat → va_E, Ek i = .inr (7, [.int (nI k), .ref (z + j), .ref (z + i2)]) → Ek j = qa_I G 16 (dgA f a m dg k) → (∀ x9, x9 ≠ i → x9 ≠ j → Ek x9 = E x9) → ∀ (H : Heap) (locs : List Loc), qh_H G z M Ek sZ.heap H locs → ∀ ls : Array Slot, lv_has ls 6 [(0, .ref (z + i)), (1, .ref (z + si)), (2, .int (nI a)), (3, .int (nI m)), (4, .int (nI k))] → W pZ l eZ RR sZ mZ aZ bZ tZ cZ H locs 0 0 QQ (F0 mZ 3 ls []) := by
    intro fu
    induction fu with
    | zero =>
      intro k hk hall hfuel
      exact absurd hfuel (by omega)
    | succ fu ih =>
      intro k hk hall hfuel Ek h_i h_j hF H locs hH ls hl
      refine lv_iload hx hb dX7_readDigits_3 (lv_at hl 4 rfl) ?_
      refine lv_bipush (v := 16) hx hb dX7_readDigits_5 (by decide) ?_
      refine lv_icmp_ge (tgt := 57) hx hb dX7_readDigits_7 (by decide) (fun c_7 => ?_) (fun c_7 => ?_)
      · have hk2 : k = 16 := by
          rcases Nat.lt_or_ge k 16 with w | w
          · exact absurd c_7 (nI_ge w (by decide))
          · omega
        subst hk2
        have e := dgC_full (f := f) (a := a) (m := m) hall
        exact hret dX7_readDigits_57 hH (⟨by rw [e]; exact h_i, by rw [e]; exact h_j, hF⟩)
      · have hk2 : k < 16 := by
          rcases Nat.lt_or_ge k 16 with w | w
          · exact w
          · exact absurd (nI_le w (by omega)) c_7
        refine lv_aload_n hx hb dX7_readDigits_10 rfl (lv_at hl 1 rfl) ?_
        refine lv_iload_n hx hb dX7_readDigits_11 rfl (lv_at hl 2 rfl) ?_
        refine lv_iload_n hx hb dX7_readDigits_12 rfl (lv_at hl 3 rfl) ?_
        refine lv_iconst (v := 1) hx hb dX7_readDigits_13 (by decide) ?_
        refine lv_iload hx hb dX7_readDigits_14 (lv_at hl 4 rfl) ?_
        refine lv_iadd hx hb dX7_readDigits_16 ?_
        refine qh_topi (y := nI (1 + k)) (nI_add 1 k) ?_
        refine qh_runS (As := [.ref (z + si), .int (nI a), .int (nI m), .int (nI (1 + k))]) (rest := []) ⟨hx, hb, hml, hown, hts⟩ hK hH (c_X7_codeOf l G z M Ek si sj q a m sa sb f (1 + k) (⟨hs.1, hs.2⟩) (⟨hq.1, hq.2⟩) (by omega) ((hF si (hds.1) (hds.2.1)).trans b_si) ((hF sj (hds.2.2.2.2.2.1) (hds.2.2.2.2.2.2.1)).trans b_sj)) (va_cwS 4 hts gX7_readDigits_X7_codeOf rfl rfl rfl (by decide +kernel) (by rw [hRf, hRl]; exact ⟨Nat.le_of_ble_eq_true rfl, Nat.le_of_ble_eq_true rfl⟩)) rfl hl.1 rfl (Nat.le_of_ble_eq_true rfl) dX7_readDigits_17 ⟨Nat.zero_le _, Nat.zero_le _⟩ (qh_kki fun r_17 E_1 H locs hpost hH => ?_)
        obtain ⟨rfl, rfl⟩ := hpost
        refine lv_istore (lv' := [(5, .int (cdF f a m (1 + k))), (0, .ref (z + i)), (1, .ref (z + si)), (2, .int (nI a)), (3, .int (nI m)), (4, .int (nI k))]) hx hb dX7_readDigits_20 hl (by decide) rfl (fun ls hl => ?_)
        refine lv_iload hx hb dX7_readDigits_22 (lv_at hl 0 rfl) ?_
        refine qh_runS (As := [.int (cdF f a m (1 + k))]) (rest := []) ⟨hx, hb, hml, hown, hts⟩ hK hH (c_X7_isDigit l G z M Ek (cdF f a m (1 + k))) (va_cwS 1 hts gX7_readDigits_X7_isDigit rfl rfl rfl (by decide +kernel) (by rw [hRf, hRl]; exact ⟨Nat.le_of_ble_eq_true rfl, Nat.le_of_ble_eq_true rfl⟩)) rfl hl.1 rfl (Nat.le_of_ble_eq_true rfl) dX7_readDigits_24 ⟨Nat.zero_le _, Nat.zero_le _⟩ (qh_kki fun r_24 E_2 H locs hpost hH => ?_)
        obtain ⟨rfl, rfl⟩ := hpost
        refine lv_if_ne (tgt := 31) hx hb dX7_readDigits_27 (by decide) (fun c_27 => ?_) (fun c_27 => ?_)
        · have c_27 := bI_ne.mp c_27
          refine lv_aload_n hx hb dX7_readDigits_31 rfl (lv_at hl 1 rfl) ?_
          refine qh_get hx hb hH f_15 (hi.1) h_i rfl dX7_readDigits_32 ?_
          refine lv_iload hx hb dX7_readDigits_35 (lv_at hl 5 rfl) ?_
          refine lv_iload hx hb dX7_readDigits_37 (lv_at hl 0 rfl) ?_
          refine lv_bipush (v := 48) hx hb dX7_readDigits_39 (by decide) ?_
          refine lv_isub hx hb dX7_readDigits_41 ?_
          refine qh_iast hx hb hK hH (hi.2.1) h_j (j := k) (rfl) (by omega) (by omega) dX7_readDigits_42 (fun E_3 H locs h_j hfr hH _ => ?_)
          have h_j : E_3 j = qa_I G 16 (dgA f a m dg (k + 1)) := h_j.trans (congrArg (qa_I G 16) (dgA_s ..))
          have h_i := (hfr i (hd.1)).trans h_i
          have hF : ∀ x9, x9 ≠ i → x9 ≠ j → E_3 x9 = E x9 := fun x9 a0 a1 => (hfr x9 a1).trans (hF x9 a0 a1)
          refine lv_aload_n hx hb dX7_readDigits_43 rfl (lv_at hl 1 rfl) ?_
          refine lv_iload hx hb dX7_readDigits_44 (lv_at hl 5 rfl) ?_
          refine lv_iconst (v := 1) hx hb dX7_readDigits_46 (by decide) ?_
          refine lv_iadd hx hb dX7_readDigits_47 ?_
          refine qh_topi (y := nI (k + 1)) (nI_1 k) ?_
          refine qh_put (fs' := [.int (nI (k + 1)), .ref (z + j), .ref (z + i2)]) hx hb hH w_9 (hi.1) h_i rfl rfl (Nat.le_of_ble_eq_true rfl) rfl dX7_readDigits_48 (fun E_4 H locs h_i hfr hH _ => ?_)
          have h_j := (hfr j (Ne.symm hd.1)).trans h_j
          have hF : ∀ x9, x9 ≠ i → x9 ≠ j → E_4 x9 = E x9 := fun x9 a0 a1 => (hfr x9 a0).trans (hF x9 a0 a1)
          refine lv_iinc (v := nI (k + 1)) (lv' := [(4, .int (nI (k + 1))), (5, .int (cdF f a m (1 + k))), (0, .ref (z + i)), (1, .ref (z + si)), (2, .int (nI a)), (3, .int (nI m))]) hx hb dX7_readDigits_51 hl (k := 5) rfl (qn_inc k) (by decide) rfl (fun ls hl => ?_)
          refine lv_goto (tgt := 3) hx hb dX7_readDigits_54 (by decide) ?_
          exact ih (k + 1) (by omega) (fun t w => (Nat.lt_succ_iff_lt_or_eq.mp w).elim (hall t) (fun w2 => w2 ▸ c_27)) (by omega) E_4 h_i h_j (fun x9 a0 a1 => hF x9 a0 a1) _ _ hH ls (lv_sub hl [2, 3, 4, 5, 0] rfl)
        · have c_27 := bI_eq.mp c_27
          have e := dgC_stop (f := f) (a := a) (m := m) hk2 hall c_27
          exact hret dX7_readDigits_30 hH (⟨by rw [e]; exact h_i, by rw [e]; exact h_j, hF⟩)
  exact L_3 17 0 (by omega) (fun _ w => absurd w (Nat.not_lt_zero _)) (by omega) E b_i (b_j.trans (congrArg (qa_I G 16) (dgA_0 ..).symm)) (fun x9 a0 a1 => rfl) _ _ hH ls (lv_sub hl [1, 2, 3, 4, 0] rfl)

set_option maxHeartbeats 1000000 in
set_option maxRecDepth 100000 in
theorem c_X7_firstFaultOfHelpers (l : Launch) (G : qh_G) (z M : Nat) (E : Nat → va_E) (i : Nat) (j : Nat) (i2 : Nat) (j2 : Nat) (k2 : Nat) (si : Nat) (sj : Nat) (q : Nat) (a : Nat) (m : Nat) (sa : Int32) (sb : Int32) (f : Nat → Int32) (k : Nat) (kd : Nat → Int32) (pa : Nat → Int32) (hs : si < M ∧ sj < M) (hq : a + m ≤ q ∧ q ≤ 60) (hi : i < M ∧ j < M ∧ i2 < M ∧ j2 < M ∧ k2 < M) (hd : i ≠ j ∧ i ≠ i2 ∧ i ≠ j2 ∧ i ≠ k2 ∧ j ≠ i2 ∧ j ≠ j2 ∧ j ≠ k2 ∧ i2 ≠ j2 ∧ i2 ≠ k2 ∧ j2 ≠ k2) (hds : si ≠ i ∧ si ≠ j ∧ si ≠ i2 ∧ si ≠ j2 ∧ si ≠ k2 ∧ sj ≠ i ∧ sj ≠ j ∧ sj ≠ i2 ∧ sj ≠ j2 ∧ sj ≠ k2) (hk : k ≤ 16) (b_i : E i = .inr (7, [.int (nI k), .ref (z + j), .ref (z + i2)])) (b_i2 : E i2 = .inr (1, [.int 0, .ref (z + j2), .ref (z + k2)])) (b_j2 : E j2 = qa_I G 3 kd) (b_k2 : E k2 = qa_I G 3 pa) (b_si : E si = .inr (5, [.int sa, .int sb, .int (nI q), .ref (z + sj)])) (b_sj : E sj = qa_I G 60 f) : Met l yX7_firstFaultOfHelpers wsX7_firstFaultOfHelpers (qh_R 2) (qh_Pre G z M E [.ref (z + i), .ref (z + si), .int (nI a), .int (nI m)]) (qh_Q G z M (qh_i (fun r E' => r = enc (hpF (cdF f a m) m 3 (1 + k)) ∧ E' i2 = .inr (1, [.int (nI (hpN (cdF f a m) m 3 (1 + k))), .ref (z + j2), .ref (z + k2)]) ∧ E' j2 = qa_I G 3 (hkA (cdF f a m) (1 + k) kd (hpN (cdF f a m) m 3 (1 + k))) ∧ E' k2 = qa_I G 3 (hpA (cdF f a m) (1 + k) pa (hpN (cdF f a m) m 3 (1 + k))) ∧ ∀ x9, x9 ≠ i2 → x9 ≠ j2 → x9 ≠ k2 → E' x9 = E x9))) 0 0 (fun q => z ≤ q) := by
  refine qh_metI (cc := cX7_firstFaultOfHelpers) (maxL := 8) (by decide) rfl (Nat.le_of_ble_eq_true rfl) ?_
  intro pZ eZ sZ mZ aZ bZ tZ cZ RR QQ ls hx hb hml hown hts hRf hRl hH hK hl hret
  have hown : sZ.vm.findClass RX7 = some mZ.cls := hown
  have hl : lv_has ls 8 [(0, .ref (z + i)), (1, .ref (z + si)), (2, .int (nI a)), (3, .int (nI m))] := hl
  have in_X7 : ∀ w ∈ wsX70, w ∈ wsX7_firstFaultOfHelpers := fun w h => List.mem_cons_of_mem _ (List.mem_append_left _ (List.mem_append_left _ (List.mem_append_right _ h)))
  have f_9 : qh_F G sZ mZ aZ 9 7 0 := qh_F.of hts in_X7 hown hK rfl 0 (by decide) (by decide +kernel)
  have f_22 : qh_F G sZ mZ aZ 22 7 2 := qh_F.of hts in_X7 hown hK rfl 2 (by decide) (by decide +kernel)
  refine lv_iconst (v := 1) hx hb dX7_firstFaultOfHelpers_0 (by decide) ?_
  refine lv_aload_n hx hb dX7_firstFaultOfHelpers_1 rfl (lv_at hl 0 rfl) ?_
  refine qh_get hx hb hH f_9 (hi.1) b_i rfl dX7_firstFaultOfHelpers_2 ?_
  refine lv_iadd hx hb dX7_firstFaultOfHelpers_5 ?_
  refine qh_topi (y := nI (1 + k)) (nI_add 1 k) ?_
  refine lv_istore (lv' := [(4, .int (nI (1 + k))), (0, .ref (z + i)), (1, .ref (z + si)), (2, .int (nI a)), (3, .int (nI m))]) hx hb dX7_firstFaultOfHelpers_6 hl (by decide) rfl (fun ls hl => ?_)
  refine lv_iconst (v := 0) hx hb dX7_firstFaultOfHelpers_8 (by decide) ?_
  refine lv_istore (lv' := [(5, .int 0), (4, .int (nI (1 + k))), (0, .ref (z + i)), (1, .ref (z + si)), (2, .int (nI a)), (3, .int (nI m))]) hx hb dX7_firstFaultOfHelpers_9 hl (by decide) rfl (fun ls hl => ?_)
  have L_11 : ∀ fu : Nat, ∀ t : Nat, (t ≤ 3) → (hpF (cdF f a m) m 3 (1 + k) = hpF (cdF f a m) m (3 - t) (1 + k + 3 * t)) → (hpN (cdF f a m) m 3 (1 + k) = t + hpN (cdF f a m) m (3 - t) (1 + k + 3 * t)) → (3 - t < fu) → ∀ Ek : Nat → va_E, Ek i2 = .inr (1, [.int (nI t), .ref (z + j2), .ref (z + k2)]) → Ek j2 = qa_I G 3 (hkA (cdF f a m) (1 + k) kd t) → Ek k2 = qa_I G 3 (hpA (cdF f a m) (1 + k) pa t) → (∀ x9, x9 ≠ i2 → x9 ≠ j2 → x9 ≠ k2 → Ek x9 = E x9) → ∀ (H : Heap) (locs : List Loc), qh_H G z M Ek sZ.heap H locs → ∀ ls : Array Slot, lv_has ls 8 [(0, .ref (z + i)), (1, .ref (z + si)), (2, .int (nI a)), (3, .int (nI m)), (4, .int (nI (1 + k + 3 * t))), (5, .int (nI t))] → W pZ l eZ RR sZ mZ aZ bZ tZ cZ H locs 0 0 QQ (F0 mZ 11 ls []) := by
    intro fu
    induction fu with
    | zero =>
      intro t ht hq1 hq2 hfuel
      exact absurd hfuel (by omega)
    | succ fu ih =>
      intro t ht hq1 hq2 hfuel Ek h_i2 h_j2 h_k2 hF H locs hH ls hl
      refine lv_iload hx hb dX7_firstFaultOfHelpers_11 (lv_at hl 5 rfl) ?_
      refine lv_iconst (v := 3) hx hb dX7_firstFaultOfHelpers_13 (by decide) ?_
      refine lv_icmp_ge (tgt := 114) hx hb dX7_firstFaultOfHelpers_14 (by decide) (fun c_14 => ?_) (fun c_14 => ?_)
      · have ht3 : t = 3 := by
          rcases Nat.lt_or_ge t 3 with w | w
          · exact absurd c_14 (nI_ge w (by decide))
          · omega
        subst ht3
        have eN : (hpN (cdF f a m) m 3 (1 + k)) = 3 := hq2
        refine lv_iload hx hb dX7_firstFaultOfHelpers_114 (lv_at hl 4 rfl) ?_
        refine lv_iload_n hx hb dX7_firstFaultOfHelpers_116 rfl (lv_at hl 3 rfl) ?_
        refine lv_icmp_ge (tgt := 125) hx hb dX7_firstFaultOfHelpers_117 (by decide) (fun c_117 => ?_) (fun c_117 => ?_)
        · have hpm2 : ¬ (1 + k + 3 * 3) < m := fun w => nI_ge w (by omega) c_117
          refine lv_bipush (v := (-9)) hx hb dX7_firstFaultOfHelpers_125 (by decide) ?_
          exact hret dX7_firstFaultOfHelpers_127 hH (⟨by rw [hq1, Nat.sub_self, hpF, if_neg hpm2]; rfl, by rw [eN]; exact h_i2, by rw [eN]; exact h_j2, by rw [eN]; exact h_k2, hF⟩)
        · have hpm2 : (1 + k + 3 * 3) < m := by
            rcases Nat.lt_or_ge (1 + k + 3 * 3) m with w | w
            · exact w
            · exact absurd (nI_le w (by omega)) c_117
          refine lv_iload hx hb dX7_firstFaultOfHelpers_120 (lv_at hl 4 rfl) ?_
          refine lv_goto (tgt := 127) hx hb dX7_firstFaultOfHelpers_122 (by decide) ?_
          exact hret dX7_firstFaultOfHelpers_127 hH (⟨by rw [hq1, Nat.sub_self, hpF, if_pos hpm2]; rfl, by rw [eN]; exact h_i2, by rw [eN]; exact h_j2, by rw [eN]; exact h_k2, hF⟩)
      · have ht3 : t < 3 := by
          rcases Nat.lt_or_ge t 3 with w | w
          · exact w
          · exact absurd (nI_le w (by omega)) c_14
        have e3 : 3 - t = (3 - (t + 1)) + 1 := by omega
        refine lv_iload hx hb dX7_firstFaultOfHelpers_17 (lv_at hl 4 rfl) ?_
        refine lv_iload_n hx hb dX7_firstFaultOfHelpers_19 rfl (lv_at hl 3 rfl) ?_
        refine lv_icmp_ge (tgt := 114) hx hb dX7_firstFaultOfHelpers_20 (by decide) (fun c_20 => ?_) (fun c_20 => ?_)
        · have hpm : ¬ (1 + k + 3 * t) < m := fun w => nI_ge w (by omega) c_20
          have eN : (hpN (cdF f a m) m 3 (1 + k)) = t := by rw [hq2, e3, hpN, if_neg (fun w => hpm w.1)]; rfl
          refine lv_iload hx hb dX7_firstFaultOfHelpers_114 (lv_at hl 4 rfl) ?_
          refine lv_iload_n hx hb dX7_firstFaultOfHelpers_116 rfl (lv_at hl 3 rfl) ?_
          refine lv_icmp_ge (tgt := 125) hx hb dX7_firstFaultOfHelpers_117 (by decide) (fun c_117 => ?_) (fun c_117 => ?_)
          · have hpm2 : ¬ (1 + k + 3 * t) < m := fun w => nI_ge w (by omega) c_117
            refine lv_bipush (v := (-9)) hx hb dX7_firstFaultOfHelpers_125 (by decide) ?_
            exact hret dX7_firstFaultOfHelpers_127 hH (⟨by rw [hq1, e3, hpF, if_neg hpm]; rfl, by rw [eN]; exact h_i2, by rw [eN]; exact h_j2, by rw [eN]; exact h_k2, hF⟩)
          · have hpm2 : (1 + k + 3 * t) < m := by
              rcases Nat.lt_or_ge (1 + k + 3 * t) m with w | w
              · exact w
              · exact absurd (nI_le w (by omega)) c_117
            refine lv_iload hx hb dX7_firstFaultOfHelpers_120 (lv_at hl 4 rfl) ?_
            refine lv_goto (tgt := 127) hx hb dX7_firstFaultOfHelpers_122 (by decide) ?_
            exact hret dX7_firstFaultOfHelpers_127 hH (⟨absurd hpm2 hpm, by rw [eN]; exact h_i2, by rw [eN]; exact h_j2, by rw [eN]; exact h_k2, hF⟩)
        · have hpm : (1 + k + 3 * t) < m := by
            rcases Nat.lt_or_ge (1 + k + 3 * t) m with w | w
            · exact w
            · exact absurd (nI_le w (by omega)) c_20
          refine lv_aload_n hx hb dX7_firstFaultOfHelpers_23 rfl (lv_at hl 1 rfl) ?_
          refine lv_iload_n hx hb dX7_firstFaultOfHelpers_24 rfl (lv_at hl 2 rfl) ?_
          refine lv_iload_n hx hb dX7_firstFaultOfHelpers_25 rfl (lv_at hl 3 rfl) ?_
          refine lv_iload hx hb dX7_firstFaultOfHelpers_26 (lv_at hl 4 rfl) ?_
          refine lv_iconst (v := 1) hx hb dX7_firstFaultOfHelpers_28 (by decide) ?_
          refine lv_iadd hx hb dX7_firstFaultOfHelpers_29 ?_
          refine qh_topi (y := nI ((1 + k + 3 * t) + 1)) (nI_1 _) ?_
          refine qh_runS (As := [.ref (z + si), .int (nI a), .int (nI m), .int (nI ((1 + k + 3 * t) + 1))]) (rest := []) ⟨hx, hb, hml, hown, hts⟩ hK hH (c_X7_codeOf l G z M Ek si sj q a m sa sb f ((1 + k + 3 * t) + 1) (⟨hs.1, hs.2⟩) (⟨hq.1, hq.2⟩) (by omega) ((hF si (hds.2.2.1) (hds.2.2.2.1) (hds.2.2.2.2.1)).trans b_si) ((hF sj (hds.2.2.2.2.2.2.2.1) (hds.2.2.2.2.2.2.2.2.1) (hds.2.2.2.2.2.2.2.2.2)).trans b_sj)) (va_cwS 4 hts gX7_firstFaultOfHelpers_X7_codeOf rfl rfl rfl (by decide +kernel) (by rw [hRf, hRl]; exact ⟨Nat.le_of_ble_eq_true rfl, Nat.le_of_ble_eq_true rfl⟩)) rfl hl.1 rfl (Nat.le_of_ble_eq_true rfl) dX7_firstFaultOfHelpers_30 ⟨Nat.zero_le _, Nat.zero_le _⟩ (qh_kki fun r_30 E_1 H locs hpost hH => ?_)
          obtain ⟨rfl, rfl⟩ := hpost
          refine qh_runS (As := [.int (cdF f a m ((1 + k + 3 * t) + 1))]) (rest := []) ⟨hx, hb, hml, hown, hts⟩ hK hH (c_X7_kindOf l G z M Ek (cdF f a m ((1 + k + 3 * t) + 1))) (va_cwS 1 hts gX7_firstFaultOfHelpers_X7_kindOf rfl rfl rfl (by decide +kernel) (by rw [hRf, hRl]; exact ⟨Nat.le_of_ble_eq_true rfl, Nat.le_of_ble_eq_true rfl⟩)) rfl hl.1 rfl (Nat.le_of_ble_eq_true rfl) dX7_firstFaultOfHelpers_33 ⟨Nat.zero_le _, Nat.zero_le _⟩ (qh_kki fun r_33 E_2 H locs hpost hH => ?_)
          obtain ⟨rfl, rfl⟩ := hpost
          refine lv_istore (lv' := [(6, .int (knd (cdF f a m ((1 + k + 3 * t) + 1)))), (0, .ref (z + i)), (1, .ref (z + si)), (2, .int (nI a)), (3, .int (nI m)), (4, .int (nI (1 + k + 3 * t))), (5, .int (nI t))]) hx hb dX7_firstFaultOfHelpers_36 hl (by decide) rfl (fun ls hl => ?_)
          refine lv_aload_n hx hb dX7_firstFaultOfHelpers_38 rfl (lv_at hl 2 rfl) ?_
          refine lv_iload_n hx hb dX7_firstFaultOfHelpers_39 rfl (lv_at hl 3 rfl) ?_
          refine lv_iload_n hx hb dX7_firstFaultOfHelpers_40 rfl (lv_at hl 4 rfl) ?_
          refine lv_iload hx hb dX7_firstFaultOfHelpers_41 (lv_at hl 5 rfl) ?_
          refine lv_iconst (v := 2) hx hb dX7_firstFaultOfHelpers_43 (by decide) ?_
          refine lv_iadd hx hb dX7_firstFaultOfHelpers_44 ?_
          refine qh_topi (y := nI ((1 + k + 3 * t) + 2)) (nI_add _ 2) ?_
          refine qh_runS (As := [.ref (z + si), .int (nI a), .int (nI m), .int (nI ((1 + k + 3 * t) + 2))]) (rest := []) ⟨hx, hb, hml, hown, hts⟩ hK hH (c_X7_codeOf l G z M Ek si sj q a m sa sb f ((1 + k + 3 * t) + 2) (⟨hs.1, hs.2⟩) (⟨hq.1, hq.2⟩) (by omega) ((hF si (hds.2.2.1) (hds.2.2.2.1) (hds.2.2.2.2.1)).trans b_si) ((hF sj (hds.2.2.2.2.2.2.2.1) (hds.2.2.2.2.2.2.2.2.1) (hds.2.2.2.2.2.2.2.2.2)).trans b_sj)) (va_cwS 4 hts gX7_firstFaultOfHelpers_X7_codeOf rfl rfl rfl (by decide +kernel) (by rw [hRf, hRl]; exact ⟨Nat.le_of_ble_eq_true rfl, Nat.le_of_ble_eq_true rfl⟩)) rfl hl.1 rfl (Nat.le_of_ble_eq_true rfl) dX7_firstFaultOfHelpers_45 ⟨Nat.zero_le _, Nat.zero_le _⟩ (qh_kki fun r_45 E_3 H locs hpost hH => ?_)
          obtain ⟨rfl, rfl⟩ := hpost
          refine lv_istore (lv' := [(7, .int (cdF f a m ((1 + k + 3 * t) + 2))), (6, .int (knd (cdF f a m ((1 + k + 3 * t) + 1)))), (0, .ref (z + i)), (1, .ref (z + si)), (2, .int (nI a)), (3, .int (nI m)), (4, .int (nI (1 + k + 3 * t))), (5, .int (nI t))]) hx hb dX7_firstFaultOfHelpers_48 hl (by decide) rfl (fun ls hl => ?_)
          refine lv_aload_n hx hb dX7_firstFaultOfHelpers_50 rfl (lv_at hl 3 rfl) ?_
          refine lv_iload_n hx hb dX7_firstFaultOfHelpers_51 rfl (lv_at hl 4 rfl) ?_
          refine lv_iload_n hx hb dX7_firstFaultOfHelpers_52 rfl (lv_at hl 5 rfl) ?_
          refine lv_iload hx hb dX7_firstFaultOfHelpers_53 (lv_at hl 6 rfl) ?_
          refine qh_runS (As := [.ref (z + si), .int (nI a), .int (nI m), .int (nI (1 + k + 3 * t))]) (rest := []) ⟨hx, hb, hml, hown, hts⟩ hK hH (c_X7_codeOf l G z M Ek si sj q a m sa sb f (1 + k + 3 * t) (⟨hs.1, hs.2⟩) (⟨hq.1, hq.2⟩) (by omega) ((hF si (hds.2.2.1) (hds.2.2.2.1) (hds.2.2.2.2.1)).trans b_si) ((hF sj (hds.2.2.2.2.2.2.2.1) (hds.2.2.2.2.2.2.2.2.1) (hds.2.2.2.2.2.2.2.2.2)).trans b_sj)) (va_cwS 4 hts gX7_firstFaultOfHelpers_X7_codeOf rfl rfl rfl (by decide +kernel) (by rw [hRf, hRl]; exact ⟨Nat.le_of_ble_eq_true rfl, Nat.le_of_ble_eq_true rfl⟩)) rfl hl.1 rfl (Nat.le_of_ble_eq_true rfl) dX7_firstFaultOfHelpers_55 ⟨Nat.zero_le _, Nat.zero_le _⟩ (qh_kki fun r_55 E_4 H locs hpost hH => ?_)
          obtain ⟨rfl, rfl⟩ := hpost
          refine lv_bipush (v := 59) hx hb dX7_firstFaultOfHelpers_58 (by decide) ?_
          refine lv_icmp_eq (tgt := 66) hx hb dX7_firstFaultOfHelpers_60 (by decide) (fun c_60 => ?_) (fun c_60 => ?_)
          · refine lv_iload hx hb dX7_firstFaultOfHelpers_66 (lv_at hl 1 rfl) ?_
            refine lv_bipush (v := (-9)) hx hb dX7_firstFaultOfHelpers_68 (by decide) ?_
            refine lv_icmp_ne (tgt := 78) hx hb dX7_firstFaultOfHelpers_70 (by decide) (fun c_70 => ?_) (fun c_70 => ?_)
            · refine lv_iload hx hb dX7_firstFaultOfHelpers_78 (lv_at hl 0 rfl) ?_
              refine qh_runS (As := [.int (cdF f a m ((1 + k + 3 * t) + 2))]) (rest := []) ⟨hx, hb, hml, hown, hts⟩ hK hH (c_X7_isDigit l G z M Ek (cdF f a m ((1 + k + 3 * t) + 2))) (va_cwS 1 hts gX7_firstFaultOfHelpers_X7_isDigit rfl rfl rfl (by decide +kernel) (by rw [hRf, hRl]; exact ⟨Nat.le_of_ble_eq_true rfl, Nat.le_of_ble_eq_true rfl⟩)) rfl hl.1 rfl (Nat.le_of_ble_eq_true rfl) dX7_firstFaultOfHelpers_80 ⟨Nat.zero_le _, Nat.zero_le _⟩ (qh_kki fun r_80 E_5 H locs hpost hH => ?_)
              obtain ⟨rfl, rfl⟩ := hpost
              refine lv_if_ne (tgt := 91) hx hb dX7_firstFaultOfHelpers_83 (by decide) (fun c_83 => ?_) (fun c_83 => ?_)
              · have c_83 := bI_ne.mp c_83
                refine lv_aload_n hx hb dX7_firstFaultOfHelpers_91 rfl (lv_at hl 2 rfl) ?_
                refine qh_get hx hb hH f_22 (hi.1) ((hF i (hd.2.1) (hd.2.2.1) (hd.2.2.2.1)).trans b_i) rfl dX7_firstFaultOfHelpers_92 ?_
                refine lv_iload hx hb dX7_firstFaultOfHelpers_95 (lv_at hl 1 rfl) ?_
                refine lv_iload hx hb dX7_firstFaultOfHelpers_97 (lv_at hl 0 rfl) ?_
                refine lv_bipush (v := 48) hx hb dX7_firstFaultOfHelpers_99 (by decide) ?_
                refine lv_isub hx hb dX7_firstFaultOfHelpers_101 ?_
                refine qh_runV (As := [.int (knd (cdF f a m ((1 + k + 3 * t) + 1))), .int ((cdF f a m ((1 + k + 3 * t) + 2)) - 48)]) (rest := []) (C := RX1) ⟨hx, hb, hml, hown, hts⟩ hK hH (c_X1_join l G z M Ek i2 j2 k2 t (hkA (cdF f a m) (1 + k) kd t) (hpA (cdF f a m) (1 + k) pa t) (knd (cdF f a m ((1 + k + 3 * t) + 1))) ((cdF f a m ((1 + k + 3 * t) + 2)) - 48) (⟨hi.2.2.1, hi.2.2.2.1, hi.2.2.2.2⟩) (by omega) (⟨hd.2.2.2.2.2.2.2.1, hd.2.2.2.2.2.2.2.2.1, hd.2.2.2.2.2.2.2.2.2⟩) h_i2 h_j2 h_k2) (cwV 2 hts gX7_firstFaultOfHelpers_X1_join rfl rfl rfl (by decide +kernel) (by rw [hRf, hRl]; exact ⟨Nat.le_of_ble_eq_true rfl, Nat.le_of_ble_eq_true rfl⟩)) (hi.2.2.1) h_i2 rfl rfl hl.1 rfl (Nat.le_of_ble_eq_true rfl) dX7_firstFaultOfHelpers_102 ⟨Nat.zero_le _, Nat.zero_le _⟩ (qh_kkv fun E_6 H locs hpost hH => ?_)
                obtain ⟨h_i2, h_j2, h_k2, hfr⟩ := hpost
                have h_j2 : E_6 j2 = qa_I G 3 (hkA (cdF f a m) (1 + k) kd (t + 1)) := h_j2.trans (congrArg (qa_I G 3) (hkA_s ..))
                have h_k2 : E_6 k2 = qa_I G 3 (hpA (cdF f a m) (1 + k) pa (t + 1)) := h_k2.trans (congrArg (qa_I G 3) (hpA_s ..))
                have hF : ∀ x9, x9 ≠ i2 → x9 ≠ j2 → x9 ≠ k2 → E_6 x9 = E x9 := fun x9 a0 a1 a2 => (hfr x9 a0 a1 a2).trans (hF x9 a0 a1 a2)
                refine lv_iinc (v := nI ((1 + k + 3 * t) + 3)) (lv' := [(4, .int (nI ((1 + k + 3 * t) + 3))), (7, .int (cdF f a m ((1 + k + 3 * t) + 2))), (6, .int (knd (cdF f a m ((1 + k + 3 * t) + 1)))), (0, .ref (z + i)), (1, .ref (z + si)), (2, .int (nI a)), (3, .int (nI m)), (5, .int (nI t))]) hx hb dX7_firstFaultOfHelpers_105 hl (k := 6) rfl (qn_inc3 (1 + k + 3 * t)) (by decide) rfl (fun ls hl => ?_)
                refine lv_iinc (v := nI (t + 1)) (lv' := [(5, .int (nI (t + 1))), (4, .int (nI ((1 + k + 3 * t) + 3))), (7, .int (cdF f a m ((1 + k + 3 * t) + 2))), (6, .int (knd (cdF f a m ((1 + k + 3 * t) + 1)))), (0, .ref (z + i)), (1, .ref (z + si)), (2, .int (nI a)), (3, .int (nI m))]) hx hb dX7_firstFaultOfHelpers_108 hl (k := 7) rfl (qn_inc t) (by decide) rfl (fun ls hl => ?_)
                refine lv_goto (tgt := 11) hx hb dX7_firstFaultOfHelpers_111 (by decide) ?_
                have e4 : (1 + k + 3 * t) + 3 = (1 + k + 3 * (t + 1)) := by omega
                rw [e4] at hl
                exact ih (t + 1) (by omega) (by rw [hq1, e3, hpF, if_pos hpm, if_pos c_60, if_neg c_70, if_pos c_83]; rfl) (by rw [hq2, e3, hpN, if_pos ⟨hpm, c_60, c_70, c_83⟩, ← e4]; omega) (by omega) E_6 h_i2 h_j2 h_k2 (fun x9 a0 a1 a2 => hF x9 a0 a1 a2) _ _ hH ls (lv_sub hl [4, 5, 6, 7, 1, 0] rfl)
              · have c_83 := bI_eq.mp c_83
                have eN : (hpN (cdF f a m) m 3 (1 + k)) = t := by rw [hq2, e3, hpN, if_neg (fun w => c_83 w.2.2.2)]; rfl
                refine lv_iload hx hb dX7_firstFaultOfHelpers_86 (lv_at hl 6 rfl) ?_
                refine lv_iconst (v := 2) hx hb dX7_firstFaultOfHelpers_88 (by decide) ?_
                refine lv_iadd hx hb dX7_firstFaultOfHelpers_89 ?_
                refine qh_topi (y := nI ((1 + k + 3 * t) + 2)) (nI_add _ 2) ?_
                exact hret dX7_firstFaultOfHelpers_90 hH (⟨by rw [hq1, e3, hpF, if_pos hpm, if_pos c_60, if_neg c_70, if_neg c_83]; rfl, by rw [eN]; exact h_i2, by rw [eN]; exact h_j2, by rw [eN]; exact h_k2, hF⟩)
            · have eN : (hpN (cdF f a m) m 3 (1 + k)) = t := by rw [hq2, e3, hpN, if_neg (fun w => w.2.2.1 c_70)]; rfl
              refine lv_iload hx hb dX7_firstFaultOfHelpers_73 (lv_at hl 6 rfl) ?_
              refine lv_iconst (v := 1) hx hb dX7_firstFaultOfHelpers_75 (by decide) ?_
              refine lv_iadd hx hb dX7_firstFaultOfHelpers_76 ?_
              refine qh_topi (y := nI ((1 + k + 3 * t) + 1)) (nI_1 _) ?_
              exact hret dX7_firstFaultOfHelpers_77 hH (⟨by rw [hq1, e3, hpF, if_pos hpm, if_pos c_60, if_pos c_70]; rfl, by rw [eN]; exact h_i2, by rw [eN]; exact h_j2, by rw [eN]; exact h_k2, hF⟩)
          · have eN : (hpN (cdF f a m) m 3 (1 + k)) = t := by rw [hq2, e3, hpN, if_neg (fun w => c_60 w.2.1)]; rfl
            refine lv_iload hx hb dX7_firstFaultOfHelpers_63 (lv_at hl 6 rfl) ?_
            exact hret dX7_firstFaultOfHelpers_65 hH (⟨by rw [hq1, e3, hpF, if_pos hpm, if_neg c_60]; rfl, by rw [eN]; exact h_i2, by rw [eN]; exact h_j2, by rw [eN]; exact h_k2, hF⟩)
  exact L_11 4 0 (by omega) rfl (by rw [Nat.zero_add]; rfl) (by omega) E b_i2 (b_j2.trans (congrArg (qa_I G 3) (hkA_0 ..).symm)) (b_k2.trans (congrArg (qa_I G 3) (hpA_0 ..).symm)) (fun x9 a0 a1 a2 => rfl) _ _ hH ls (lv_sub hl [2, 3, 4, 5, 1, 0] rfl)

set_option maxHeartbeats 1000000 in
set_option maxRecDepth 100000 in
theorem c_X7_firstFault (l : Launch) (G : qh_G) (z M : Nat) (E : Nat → va_E) (i : Nat) (j : Nat) (i2 : Nat) (j2 : Nat) (k2 : Nat) (si : Nat) (sj : Nat) (q : Nat) (a : Nat) (m : Nat) (sa : Int32) (sb : Int32) (f : Nat → Int32) (tc0 : Int32) (hn0 : Int32) (dg : Nat → Int32) (kd : Nat → Int32) (pa : Nat → Int32) (hs : si < M ∧ sj < M) (hq : a + m ≤ q ∧ q ≤ 60) (hi : i < M ∧ j < M ∧ i2 < M ∧ j2 < M ∧ k2 < M) (hd : i ≠ j ∧ i ≠ i2 ∧ i ≠ j2 ∧ i ≠ k2 ∧ j ≠ i2 ∧ j ≠ j2 ∧ j ≠ k2 ∧ i2 ≠ j2 ∧ i2 ≠ k2 ∧ j2 ≠ k2) (hds : si ≠ i ∧ si ≠ j ∧ si ≠ i2 ∧ si ≠ j2 ∧ si ≠ k2 ∧ sj ≠ i ∧ sj ≠ j ∧ sj ≠ i2 ∧ sj ≠ j2 ∧ sj ≠ k2) (b_i : E i = .inr (7, [.int tc0, .ref (z + j), .ref (z + i2)])) (b_j : E j = qa_I G 16 dg) (b_i2 : E i2 = .inr (1, [.int hn0, .ref (z + j2), .ref (z + k2)])) (b_j2 : E j2 = qa_I G 3 kd) (b_k2 : E k2 = qa_I G 3 pa) (b_si : E si = .inr (5, [.int sa, .int sb, .int (nI q), .ref (z + sj)])) (b_sj : E sj = qa_I G 60 f) : Met l yX7_firstFault wsX7_firstFault (qh_R 3) (qh_Pre G z M E [.ref (z + i), .ref (z + si), .int (nI a), .int (nI m)]) (qh_Q G z M (qh_i (fun r E' => ∃ (tc hn : Nat) (dg' kd' pa' : Nat → Int32), r = enc (ffR f a m) ∧ E' i = .inr (7, [.int (nI tc), .ref (z + j), .ref (z + i2)]) ∧ E' j = qa_I G 16 dg' ∧ E' i2 = .inr (1, [.int (nI hn), .ref (z + j2), .ref (z + k2)]) ∧ E' j2 = qa_I G 3 kd' ∧ E' k2 = qa_I G 3 pa' ∧ (ffR f a m = none → tc = dgC f a m ∧ 1 ≤ tc ∧ hn = hpN (cdF f a m) m 3 (1 + tc) ∧ (∀ t, t < tc → dg' t = cdF f a m (1 + t) - 48) ∧ (∀ t, t < hn → kd' t = knd (cdF f a m (1 + tc + 3 * t + 1)) ∧ pa' t = cdF f a m (1 + tc + 3 * t + 2) - 48)) ∧ ∀ x9, x9 ≠ i → x9 ≠ j → x9 ≠ i2 → x9 ≠ j2 → x9 ≠ k2 → E' x9 = E x9))) 0 0 (fun q => z ≤ q) := by
  refine qh_metI (cc := cX7_firstFault) (maxL := 4) (by decide) rfl (Nat.le_of_ble_eq_true rfl) ?_
  intro pZ eZ sZ mZ aZ bZ tZ cZ RR QQ ls hx hb hml hown hts hRf hRl hH hK hl hret
  have hown : sZ.vm.findClass RX7 = some mZ.cls := hown
  have hl : lv_has ls 4 [(0, .ref (z + i)), (1, .ref (z + si)), (2, .int (nI a)), (3, .int (nI m))] := hl
  have in_X7 : ∀ w ∈ wsX70, w ∈ wsX7_firstFault := fun w h => List.mem_cons_of_mem _ (List.mem_append_left _ (List.mem_append_left _ (List.mem_append_right _ h)))
  have in_X1 : ∀ w ∈ wsX10, w ∈ wsX7_firstFault := fun w h => List.mem_cons_of_mem _ (List.mem_append_left _ (List.mem_append_right _ h))
  have w_9 : qh_W G sZ mZ aZ 9 7 0 .int := qh_W.of hts in_X7 tyX7 tyX7_ok nmX7 hown hK rfl 0 (by decide) (by decide +kernel) rfl (by decide +kernel)
  have f_22 : qh_F G sZ mZ aZ 22 7 2 := qh_F.of hts in_X7 hown hK rfl 2 (by decide) (by decide +kernel)
  have w_26 : qh_W G sZ mZ aZ 26 1 0 .int := qh_W.of hts in_X1 tyX1 tyX1_ok nmX1 hown hK rfl 0 (by decide) (by decide +kernel) rfl (by decide +kernel)
  have f_9 : qh_F G sZ mZ aZ 9 7 0 := qh_F.of hts in_X7 hown hK rfl 0 (by decide) (by decide +kernel)
  refine lv_aload_n hx hb dX7_firstFault_0 rfl (lv_at hl 0 rfl) ?_
  refine lv_iconst (v := 0) hx hb dX7_firstFault_1 (by decide) ?_
  refine qh_put (fs' := [.int 0, .ref (z + j), .ref (z + i2)]) hx hb hH w_9 (hi.1) b_i rfl rfl (Nat.le_of_ble_eq_true rfl) rfl dX7_firstFault_2 (fun E_1 H locs h_i hfr hH _ => ?_)
  have hF : ∀ x9, x9 ≠ i → E_1 x9 = E x9 := fun x9 a0 => hfr x9 a0
  refine lv_aload_n hx hb dX7_firstFault_5 rfl (lv_at hl 0 rfl) ?_
  refine qh_get hx hb hH f_22 (hi.1) h_i rfl dX7_firstFault_6 ?_
  refine lv_iconst (v := 0) hx hb dX7_firstFault_9 (by decide) ?_
  refine qh_put (fs' := [.int 0, .ref (z + j2), .ref (z + k2)]) hx hb hH w_26 (hi.2.2.1) ((hF i2 (Ne.symm hd.2.1)).trans b_i2) rfl rfl (Nat.le_of_ble_eq_true rfl) rfl dX7_firstFault_10 (fun E_2 H locs h_i2 hfr hH _ => ?_)
  have h_i := (hfr i (hd.2.1)).trans h_i
  have hF : ∀ x9, x9 ≠ i → x9 ≠ i2 → E_2 x9 = E x9 := fun x9 a0 a1 => (hfr x9 a1).trans (hF x9 a0)
  refine lv_aload_n hx hb dX7_firstFault_13 rfl (lv_at hl 1 rfl) ?_
  refine lv_iload_n hx hb dX7_firstFault_14 rfl (lv_at hl 2 rfl) ?_
  refine lv_iload_n hx hb dX7_firstFault_15 rfl (lv_at hl 3 rfl) ?_
  refine lv_iconst (v := 0) hx hb dX7_firstFault_16 (by decide) ?_
  refine qh_runS (As := [.ref (z + si), .int (nI a), .int (nI m), .int 0]) (rest := []) ⟨hx, hb, hml, hown, hts⟩ hK hH (c_X7_codeOf l G z M E_2 si sj q a m sa sb f 0 (⟨hs.1, hs.2⟩) (⟨hq.1, hq.2⟩) (by decide) ((hF si (hds.1) (hds.2.2.1)).trans b_si) ((hF sj (hds.2.2.2.2.2.1) (hds.2.2.2.2.2.2.2.1)).trans b_sj)) (va_cwS 4 hts gX7_firstFault_X7_codeOf rfl rfl rfl (by decide +kernel) (by rw [hRf, hRl]; exact ⟨Nat.le_of_ble_eq_true rfl, Nat.le_of_ble_eq_true rfl⟩)) rfl hl.1 rfl (Nat.le_of_ble_eq_true rfl) dX7_firstFault_17 ⟨Nat.zero_le _, Nat.zero_le _⟩ (qh_kki fun r_17 E_3 H locs hpost hH => ?_)
  obtain ⟨rfl, rfl⟩ := hpost
  refine qh_topi (y := cdF f a m 0) (rfl) ?_
  refine lv_bipush (v := 114) hx hb dX7_firstFault_20 (by decide) ?_
  refine lv_icmp_eq (tgt := 27) hx hb dX7_firstFault_22 (by decide) (fun c_22 => ?_) (fun c_22 => ?_)
  · refine lv_aload_n hx hb dX7_firstFault_27 rfl (lv_at hl 0 rfl) ?_
    refine lv_aload_n hx hb dX7_firstFault_28 rfl (lv_at hl 1 rfl) ?_
    refine lv_iload_n hx hb dX7_firstFault_29 rfl (lv_at hl 2 rfl) ?_
    refine lv_iload_n hx hb dX7_firstFault_30 rfl (lv_at hl 3 rfl) ?_
    refine qh_runV (As := [.ref (z + si), .int (nI a), .int (nI m)]) (rest := []) (C := RX7) ⟨hx, hb, hml, hown, hts⟩ hK hH (c_X7_readDigits l G z M E_2 i j i2 _ _ si sj q a m sa sb f dg (⟨hs.1, hs.2⟩) (⟨hq.1, hq.2⟩) (⟨hi.1, hi.2.1, hi.2.2.1, hi.2.2.2.1, hi.2.2.2.2⟩) (⟨hd.1, hd.2.1, hd.2.2.1, hd.2.2.2.1, hd.2.2.2.2.1, hd.2.2.2.2.2.1, hd.2.2.2.2.2.2.1, hd.2.2.2.2.2.2.2.1, hd.2.2.2.2.2.2.2.2.1, hd.2.2.2.2.2.2.2.2.2⟩) (⟨hds.1, hds.2.1, hds.2.2.1, hds.2.2.2.1, hds.2.2.2.2.1, hds.2.2.2.2.2.1, hds.2.2.2.2.2.2.1, hds.2.2.2.2.2.2.2.1, hds.2.2.2.2.2.2.2.2.1, hds.2.2.2.2.2.2.2.2.2⟩) h_i ((hF j (Ne.symm hd.1) (hd.2.2.2.2.1)).trans b_j) ((hF si (hds.1) (hds.2.2.1)).trans b_si) ((hF sj (hds.2.2.2.2.2.1) (hds.2.2.2.2.2.2.2.1)).trans b_sj)) (cwV 3 hts gX7_firstFault_X7_readDigits rfl rfl rfl (by decide +kernel) (by rw [hRf, hRl]; exact ⟨Nat.le_of_ble_eq_true rfl, Nat.le_of_ble_eq_true rfl⟩)) (hi.1) h_i rfl rfl hl.1 rfl (Nat.le_of_ble_eq_true rfl) dX7_firstFault_31 ⟨Nat.zero_le _, Nat.zero_le _⟩ (qh_kkv fun E_4 H locs hpost hH => ?_)
    obtain ⟨h_i, h_j, hfr⟩ := hpost
    have h_i2 := (hfr i2 (Ne.symm hd.2.1) (Ne.symm hd.2.2.2.2.1)).trans h_i2
    have hF : ∀ x9, x9 ≠ i → x9 ≠ i2 → x9 ≠ j → E_4 x9 = E x9 := fun x9 a0 a1 a2 => (hfr x9 a0 a2).trans (hF x9 a0 a1)
    refine lv_aload_n hx hb dX7_firstFault_34 rfl (lv_at hl 0 rfl) ?_
    refine qh_get hx hb hH f_9 (hi.1) h_i rfl dX7_firstFault_35 ?_
    refine lv_if_ne (tgt := 45) hx hb dX7_firstFault_38 (by decide) (fun c_38 => ?_) (fun c_38 => ?_)
    · have hd0 : ¬ dgC f a m = 0 := fun w => c_38 (by rw [w]; rfl)
      have hr0 : ffR f a m = hpF (cdF f a m) m 3 (1 + dgC f a m) := by rw [ffR, if_pos c_22, if_neg hd0]
      refine lv_aload_n hx hb dX7_firstFault_45 rfl (lv_at hl 0 rfl) ?_
      refine lv_aload_n hx hb dX7_firstFault_46 rfl (lv_at hl 1 rfl) ?_
      refine lv_iload_n hx hb dX7_firstFault_47 rfl (lv_at hl 2 rfl) ?_
      refine lv_iload_n hx hb dX7_firstFault_48 rfl (lv_at hl 3 rfl) ?_
      refine qh_runV (As := [.ref (z + si), .int (nI a), .int (nI m)]) (rest := []) (C := RX7) ⟨hx, hb, hml, hown, hts⟩ hK hH (c_X7_firstFaultOfHelpers l G z M E_4 i j i2 j2 k2 si sj q a m sa sb f (dgC f a m) kd pa (⟨hs.1, hs.2⟩) (⟨hq.1, hq.2⟩) (⟨hi.1, hi.2.1, hi.2.2.1, hi.2.2.2.1, hi.2.2.2.2⟩) (⟨hd.1, hd.2.1, hd.2.2.1, hd.2.2.2.1, hd.2.2.2.2.1, hd.2.2.2.2.2.1, hd.2.2.2.2.2.2.1, hd.2.2.2.2.2.2.2.1, hd.2.2.2.2.2.2.2.2.1, hd.2.2.2.2.2.2.2.2.2⟩) (⟨hds.1, hds.2.1, hds.2.2.1, hds.2.2.2.1, hds.2.2.2.2.1, hds.2.2.2.2.2.1, hds.2.2.2.2.2.2.1, hds.2.2.2.2.2.2.2.1, hds.2.2.2.2.2.2.2.2.1, hds.2.2.2.2.2.2.2.2.2⟩) (dgC_le ..) h_i h_i2 ((hF j2 (Ne.symm hd.2.2.1) (Ne.symm hd.2.2.2.2.2.2.2.1) (Ne.symm hd.2.2.2.2.2.1)).trans b_j2) ((hF k2 (Ne.symm hd.2.2.2.1) (Ne.symm hd.2.2.2.2.2.2.2.2.1) (Ne.symm hd.2.2.2.2.2.2.1)).trans b_k2) ((hF si (hds.1) (hds.2.2.1) (hds.2.1)).trans b_si) ((hF sj (hds.2.2.2.2.2.1) (hds.2.2.2.2.2.2.2.1) (hds.2.2.2.2.2.2.1)).trans b_sj)) (cwV 3 hts gX7_firstFault_X7_firstFaultOfHelpers rfl rfl rfl (by decide +kernel) (by rw [hRf, hRl]; exact ⟨Nat.le_of_ble_eq_true rfl, Nat.le_of_ble_eq_true rfl⟩)) (hi.1) h_i rfl rfl hl.1 rfl (Nat.le_of_ble_eq_true rfl) dX7_firstFault_49 ⟨Nat.zero_le _, Nat.zero_le _⟩ (qh_kki fun r_49 E_5 H locs hpost hH => ?_)
      obtain ⟨rfl, h_i2, h_j2, h_k2, hfr⟩ := hpost
      have h_i := (hfr i (hd.2.1) (hd.2.2.1) (hd.2.2.2.1)).trans h_i
      have h_j := (hfr j (hd.2.2.2.2.1) (hd.2.2.2.2.2.1) (hd.2.2.2.2.2.2.1)).trans h_j
      have hF : ∀ x9, x9 ≠ i → x9 ≠ i2 → x9 ≠ j → x9 ≠ j2 → x9 ≠ k2 → E_5 x9 = E x9 := fun x9 a0 a1 a2 a3 a4 => (hfr x9 a1 a3 a4).trans (hF x9 a0 a1 a2)
      exact hret dX7_firstFault_52 hH (⟨_, _, _, _, _, by rw [hr0], h_i, h_j, h_i2, h_j2, h_k2, fun _ => ⟨rfl, Nat.pos_of_ne_zero hd0, rfl, fun t ht => dgA_at ht, fun t ht => ⟨hkA_at ht, hpA_at ht⟩⟩, fun x a0 a1 a2 a3 a4 => hF x a0 a2 a1 a3 a4⟩)
    · have hd0 : dgC f a m = 0 := dgC_z c_38
      have hr0 : ffR f a m = some 1 := by rw [ffR, if_pos c_22, if_pos hd0]
      refine lv_iconst (v := 1) hx hb dX7_firstFault_41 (by decide) ?_
      refine lv_goto (tgt := 52) hx hb dX7_firstFault_42 (by decide) ?_
      exact hret dX7_firstFault_52 hH (⟨_, 0, _, _, _, by rw [hr0]; rfl, h_i, h_j, h_i2, ((hF j2 (Ne.symm hd.2.2.1) (Ne.symm hd.2.2.2.2.2.2.2.1) (Ne.symm hd.2.2.2.2.2.1)).trans b_j2), ((hF k2 (Ne.symm hd.2.2.2.1) (Ne.symm hd.2.2.2.2.2.2.2.2.1) (Ne.symm hd.2.2.2.2.2.2.1)).trans b_k2), (fun w => by rw [hr0] at w; cases w), fun x a0 a1 a2 _ _ => hF x a0 a2 a1⟩)
  · have hr0 : ffR f a m = some 0 := if_neg c_22
    refine lv_iconst (v := 0) hx hb dX7_firstFault_25 (by decide) ?_
    exact hret dX7_firstFault_26 hH (⟨0, 0, _, _, _, by rw [hr0]; rfl, h_i, ((hF j (Ne.symm hd.1) (hd.2.2.2.2.1)).trans b_j), h_i2, ((hF j2 (Ne.symm hd.2.2.1) (Ne.symm hd.2.2.2.2.2.2.2.1)).trans b_j2), ((hF k2 (Ne.symm hd.2.2.2.1) (Ne.symm hd.2.2.2.2.2.2.2.2.1)).trans b_k2), (fun w => by rw [hr0] at w; cases w), fun x a0 _ a2 _ _ => hF x a0 a2⟩)
