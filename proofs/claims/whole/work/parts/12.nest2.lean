/-! spans: what stands at a number of a span, of c cells -/
def spG (c : Nat) : Nat → Nat → Option (Nat × Nat)
  | 0, _ => none
  | fu + 1, s => if s = 0 then none else if s = 1 then (if c = 0 then none else some (0, c - 1)) else match spG c fu (s / 2) with
    | none => none
    | some (a, b) => if b ≤ a then none else if s % 2 = 0 then some (a, (a + b) / 2) else some ((a + b) / 2 + 1, b)
def spN (c s : Nat) : Option (Nat × Nat) := spG c 32 s
def spF (c s : Nat) : Int32 := match spN c s with
  | some (a, _) => nI a
  | none => 0
def spL (c s : Nat) : Int32 := match spN c s with
  | some (_, b) => nI b
  | none => -1
def spSt (s : Nat) (w : Option (Nat × Nat)) : Option (Nat × Nat) := match w with
  | none => none
  | some (a, b) => if b ≤ a then none else if s % 2 = 0 then some (a, (a + b) / 2) else some ((a + b) / 2 + 1, b)
def spOk (w : Option (Nat × Nat)) : Bool := match w with
  | none => true
  | some (a, b) => decide (a ≤ b ∧ b < 16)
theorem sp_dec : (List.range 17).all (fun c => (List.range 32).all (fun s => spOk (spN c s) && (decide (s < 2) || decide (spN c s = spSt s (spN c (s / 2)))))) = true := by decide +kernel
theorem sp_get {c s : Nat} (hc : c ≤ 16) (hs : s < 32) : spOk (spN c s) = true ∧ (2 ≤ s → spN c s = spSt s (spN c (s / 2))) := by
  have h1 := List.all_eq_true.mp sp_dec c (List.mem_range.mpr (by omega))
  have h2 := List.all_eq_true.mp h1 s (List.mem_range.mpr hs)
  simp only [Bool.and_eq_true, Bool.or_eq_true, decide_eq_true_eq] at h2
  exact ⟨h2.1, fun h => h2.2.resolve_left (by omega)⟩
theorem sp_lt {c s : Nat} (hc : c ≤ 16) (hs : s < 32) (h : spF c s < spL c s) : ∃ a b, spN c s = some (a, b) ∧ a < b ∧ b < 16 := by
  have h1 := (sp_get hc hs).1
  unfold spF spL at h
  cases hw : spN c s with
  | none => rw [hw] at h; exact absurd h (by decide)
  | some q =>
    obtain ⟨a, b⟩ := q
    rw [hw] at h h1
    have h2 : a ≤ b ∧ b < 16 := of_decide_eq_true h1
    have h3 : nI a < nI b := h
    exact ⟨a, b, rfl, (nI_ltI (by omega) (by omega)).mp h3, h2.2⟩
theorem sp_non {c s : Nat} (hc : c ≤ 16) (h2 : 2 ≤ s) (hs : s < 32) (h : ¬ spF c (s / 2) < spL c (s / 2)) : spF c s = 0 ∧ spL c s = -1 := by
  have h1 := (sp_get hc (show s / 2 < 32 by omega)).1
  have h3 := (sp_get hc hs).2 h2
  have h4 : spN c s = none := by
    rw [h3]
    unfold spF spL at h
    cases hw : spN c (s / 2) with
    | none => rfl
    | some q =>
      obtain ⟨a, b⟩ := q
      rw [hw] at h h1
      have h5 : a ≤ b ∧ b < 16 := of_decide_eq_true h1
      have h6 : ¬ nI a < nI b := h
      have h7 : b ≤ a := by
        rcases Nat.lt_or_ge a b with w | w
        · exact absurd (nI_lt w (by omega)) h6
        · exact w
      show (if b ≤ a then none else _) = none
      rw [if_pos h7]
  exact ⟨by rw [spF, h4], by rw [spL, h4]⟩
theorem sp_even {c s a b : Nat} (hc : c ≤ 16) (h2 : 2 ≤ s) (hs : s < 32) (hw : spN c (s / 2) = some (a, b)) (hab : a < b) (hp : s % 2 = 0) : spF c s = nI a ∧ spL c s = nI ((a + b) / 2) := by
  have h3 := (sp_get hc hs).2 h2
  rw [hw] at h3
  have h4 : spN c s = some (a, (a + b) / 2) := by
    rw [h3]
    show (if b ≤ a then none else if s % 2 = 0 then some (a, (a + b) / 2) else _) = _
    rw [if_neg (by omega), if_pos hp]
  exact ⟨by rw [spF, h4], by rw [spL, h4]⟩
theorem sp_odd {c s a b : Nat} (hc : c ≤ 16) (h2 : 2 ≤ s) (hs : s < 32) (hw : spN c (s / 2) = some (a, b)) (hab : a < b) (hp : ¬ s % 2 = 0) : spF c s = nI ((a + b) / 2 + 1) ∧ spL c s = nI b := by
  have h3 := (sp_get hc hs).2 h2
  rw [hw] at h3
  have h4 : spN c s = some ((a + b) / 2 + 1, b) := by
    rw [h3]
    show (if b ≤ a then none else if s % 2 = 0 then _ else some ((a + b) / 2 + 1, b)) = _
    rw [if_neg (by omega), if_neg hp]
  exact ⟨by rw [spF, h4], by rw [spL, h4]⟩
/-- whether there is a span of that number -/
abbrev spH (c : Nat) (s : Int32) : Prop := ¬ s < 1 ∧ s < 32 ∧ (spN c s.toNatClampNeg).isSome = true
theorem sp_le {c t : Nat} (hc : c ≤ 16) (ht : t < 32) : spF c t ≤ spL c t ↔ (spN c t).isSome = true := by
  have h1 := (sp_get hc ht).1
  unfold spF spL
  cases hw : spN c t with
  | none => exact ⟨fun h => absurd h (by decide), fun h => by cases h⟩
  | some q =>
    obtain ⟨a, b⟩ := q
    rw [hw] at h1
    have h2 : a ≤ b ∧ b < 16 := of_decide_eq_true h1
    exact ⟨fun _ => rfl, fun _ => nI_le h2.1 (by omega)⟩
theorem spH_no {c t : Nat} {s : Int32} (hc : c ≤ 16) (ht : t < 32) (et : s = nI t) (h : spL c t < spF c t) : ¬ spH c s := by
  intro w
  have h2 := w.2.2
  rw [et, nI_clamp (by omega), ← sp_le hc ht] at h2
  exact Int32.not_lt.mpr h2 h
theorem spH_yes {c t : Nat} {s : Int32} (hc : c ≤ 16) (ht : t < 32) (et : s = nI t) (h1 : ¬ s < 1) (h2 : s < 32) (h : ¬ spL c t < spF c t) : spH c s := by
  refine ⟨h1, h2, ?_⟩
  rw [et, nI_clamp (by omega), ← sp_le hc ht]
  exact Int32.not_lt.mp h
theorem spH_nI {c t : Nat} (ht : t < 32) (h : spH c (nI t)) : (spN c t).isSome = true := by
  have h2 := h.2.2
  rw [nI_clamp (by omega)] at h2
  exact h2
theorem spH_nI_no {c t : Nat} (h1 : 1 ≤ t) (ht : t < 32) (h : ¬ spH c (nI t)) : (spN c t).isSome = false := by
  cases hw : (spN c t).isSome with
  | false => rfl
  | true => exact absurd ⟨nI_nlt (a := t) (b := 1) h1 (by omega), nI_lt (b := 32) ht (by decide), by rw [nI_clamp (by omega)]; exact hw⟩ h
theorem cnt_y {q : Nat → Bool} {a n : Nat} (h : q (a + n) = true) : cntR q a (n + 1) = cntR q a n + 1 := by rw [cntR_succ, if_pos h]
theorem cnt_n {q : Nat → Bool} {a n : Nat} (h : q (a + n) = false) : cntR q a (n + 1) = cntR q a n := by
  rw [cntR_succ, if_neg (by rw [h]; decide)]
  rfl
theorem cnt0_y {q : Nat → Bool} {n : Nat} (h : q n = true) : cntR q 0 (n + 1) = cntR q 0 n + 1 := cnt_y (by rw [Nat.zero_add]; exact h)
theorem cnt0_n {q : Nat → Bool} {n : Nat} (h : q n = false) : cntR q 0 (n + 1) = cntR q 0 n := cnt_n (by rw [Nat.zero_add]; exact h)
/-- below s the new ones, the old ones from s on -/
def hvF (g g0 : Nat → Int32) (s : Nat) : Nat → Int32 := fun t => if t < s then g t else g0 t
theorem hvF_lt {g g0 : Nat → Int32} {s t : Nat} (h : t < s) : hvF g g0 s t = g t := if_pos h
theorem hvF_s (g g0 : Nat → Int32) (s : Nat) : upd (hvF g g0 s) s (g s) = hvF g g0 (s + 1) := by
  funext t
  simp only [upd, hvF]
  by_cases h : t = s
  · subst h
    rw [if_pos rfl, if_pos (by omega)]
  · rw [if_neg h]
    by_cases h2 : t < s
    · rw [if_pos h2, if_pos (by omega)]
    · rw [if_neg h2, if_neg (by omega)]
theorem sp_0 (c : Nat) : spN c 0 = none := rfl
theorem sp_1 {c : Nat} (h : 1 ≤ c) : spN c 1 = some (0, c - 1) := by
  show (if c = 0 then none else some (0, c - 1)) = _
  rw [if_neg (by omega)]
theorem spF_1 (c : Nat) : spF c 1 = 0 := by
  rcases Nat.eq_zero_or_pos c with h | h
  · subst h; rfl
  · rw [spF, sp_1 h]; rfl
theorem hvF_2 {c c0 : Nat} (h : 1 ≤ c) : spF c0 = hvF (spF c) (spF c0) 2 := by
  funext t
  unfold hvF
  split
  · rcases (show t = 0 ∨ t = 1 by omega) with e | e
    · subst e; rfl
    · subst e; rw [spF_1, spF_1]
  · rfl
theorem hvL_2 {c c0 : Nat} (h : 1 ≤ c) : upd (spL c0) 1 (nI (c - 1)) = hvF (spL c) (spL c0) 2 := by
  funext t
  simp only [upd, hvF]
  by_cases h1 : t = 1
  · subst h1
    rw [if_pos rfl, if_pos (by decide), spL, sp_1 h]
  · rw [if_neg h1]
    split
    · have e : t = 0 := by omega
      subst e; rfl
    · rfl
/-! rows of references, readings -/
def rfA (z ab : Nat) : Nat → Option Nat := fun t => some (z + (ab + t))
def rdC (cn : Nat → Nat) : Nat → Int32 := fun q => nI (cn q)
def upN (f : Nat → Nat) (k x : Nat) : Nat → Nat := fun j => if j = k then x else f j
theorem rdC_up (cn : Nat → Nat) (n a : Nat) : upd (rdC cn) n (nI a) = rdC (upN cn n a) := by
  funext j
  simp only [upd, rdC, upN]
  split <;> rfl
def allR (q : Nat → Bool) : Nat → Bool
  | 0 => true
  | n + 1 => allR q n && q n
theorem allR_at {q : Nat → Bool} : ∀ {n k : Nat}, allR q n = true → k < n → q k = true
  | 0, k, _, h => absurd h (Nat.not_lt_zero k)
  | n + 1, k, h, hk => by
    simp only [allR, Bool.and_eq_true] at h
    rcases Nat.lt_or_ge k n with w | w
    · exact allR_at h.1 w
    · have e : k = n := by omega
      subst e
      exact h.2
set_option maxHeartbeats 1000000 in
set_option maxRecDepth 100000 in
theorem c_X6_has (l : Launch) (G : qh_G) (z M : Nat) (E : Nat → va_E) (i : Nat) (j : Nat) (k : Nat) (c : Nat) (s : Int32) (hi : i < M ∧ j < M ∧ k < M) (hc : c ≤ 16) (b_i : E i = .inr (6, [.ref (z + j), .ref (z + k)])) (b_j : E j = qa_I G 32 (spF c)) (b_k : E k = qa_I G 32 (spL c)) : Met l yX6_has wsX6_has (qh_R 0) (qh_Pre G z M E [.ref (z + i), .int s]) (qh_Q G z M (qh_i (fun r E' => E = E' ∧ r = bI (spH c s)))) 0 0 (fun q => z ≤ q) := by
  refine qh_metZ (cc := cX6_has) (maxL := 2) (by decide) rfl (Nat.le_of_ble_eq_true rfl) ?_
  intro pZ eZ sZ mZ aZ bZ tZ cZ RR QQ ls hx hb hml hown hts hRf hRl hH hK hl hret
  have hown : sZ.vm.findClass RX6 = some mZ.cls := hown
  have hl : lv_has ls 2 [(0, .ref (z + i)), (1, .int s)] := hl
  have in_X6 : ∀ w ∈ wsX60, w ∈ wsX6_has := fun w h => List.mem_cons_of_mem _ (List.mem_append_right _ h)
  have f_9 : qh_F G sZ mZ aZ 9 6 0 := qh_F.of hts in_X6 hown hK rfl 0 (by decide) (by decide +kernel)
  have f_15 : qh_F G sZ mZ aZ 15 6 1 := qh_F.of hts in_X6 hown hK rfl 1 (by decide) (by decide +kernel)
  refine lv_iload_n hx hb dX6_has_0 rfl (lv_at hl 1 rfl) ?_
  refine lv_iconst (v := 1) hx hb dX6_has_1 (by decide) ?_
  refine lv_icmp_lt (tgt := 30) hx hb dX6_has_2 (by decide) (fun c_2 => ?_) (fun c_2 => ?_)
  · refine lv_iconst (v := 0) hx hb dX6_has_30 (by decide) ?_
    exact hret dX6_has_31 hH (Or.inl rfl) (⟨rfl, bI_0 (fun w => w.1 c_2)⟩)
  · refine lv_iload_n hx hb dX6_has_5 rfl (lv_at hl 1 rfl) ?_
    refine lv_bipush (v := 32) hx hb dX6_has_6 (by decide) ?_
    refine lv_icmp_ge (tgt := 30) hx hb dX6_has_8 (by decide) (fun c_8 => ?_) (fun c_8 => ?_)
    · refine lv_iconst (v := 0) hx hb dX6_has_30 (by decide) ?_
      exact hret dX6_has_31 hH (Or.inl rfl) (⟨rfl, bI_0 (fun w => Int32.not_lt.mpr c_8 w.2.1)⟩)
    · obtain ⟨t, ht, et⟩ := nI_of_in (k := s) (c := 32) (by decide) ⟨fun w => c_2 (Int32.lt_trans w (by decide)), Int32.not_le.mp c_8⟩
      refine lv_aload_n hx hb dX6_has_11 rfl (lv_at hl 0 rfl) ?_
      refine qh_get hx hb hH f_9 (hi.1) b_i rfl dX6_has_12 ?_
      refine lv_iload_n hx hb dX6_has_15 rfl (lv_at hl 1 rfl) ?_
      refine qh_iald hx hb hK hH (hi.2.1) b_j (j := t) (et) (ht) (by omega) dX6_has_16 ?_
      refine lv_aload_n hx hb dX6_has_17 rfl (lv_at hl 0 rfl) ?_
      refine qh_get hx hb hH f_15 (hi.1) b_i rfl dX6_has_18 ?_
      refine lv_iload_n hx hb dX6_has_21 rfl (lv_at hl 1 rfl) ?_
      refine qh_iald hx hb hK hH (hi.2.2) b_k (j := t) (et) (ht) (by omega) dX6_has_22 ?_
      refine lv_icmp_gt (tgt := 30) hx hb dX6_has_23 (by decide) (fun c_23 => ?_) (fun c_23 => ?_)
      · refine lv_iconst (v := 0) hx hb dX6_has_30 (by decide) ?_
        exact hret dX6_has_31 hH (Or.inl rfl) (⟨rfl, bI_0 (spH_no hc ht et c_23)⟩)
      · refine lv_iconst (v := 1) hx hb dX6_has_26 (by decide) ?_
        refine lv_goto (tgt := 31) hx hb dX6_has_27 (by decide) ?_
        exact hret dX6_has_31 hH (Or.inr rfl) (⟨rfl, bI_1 (spH_yes hc ht et c_2 (Int32.not_le.mp c_8) c_23)⟩)

set_option maxHeartbeats 1000000 in
set_option maxRecDepth 100000 in
theorem c_X6_count (l : Launch) (G : qh_G) (z M : Nat) (E : Nat → va_E) (i : Nat) (j : Nat) (k : Nat) (c : Nat) (hi : i < M ∧ j < M ∧ k < M) (hc : c ≤ 16) (b_i : E i = .inr (6, [.ref (z + j), .ref (z + k)])) (b_j : E j = qa_I G 32 (spF c)) (b_k : E k = qa_I G 32 (spL c)) : Met l yX6_count wsX6_count (qh_R 1) (qh_Pre G z M E [.ref (z + i)]) (qh_Q G z M (qh_i (fun r E' => E = E' ∧ r = nI (cntR (fun s => (spN c s).isSome) 1 31)))) 0 0 (fun q => z ≤ q) := by
  refine qh_metI (cc := cX6_count) (maxL := 3) (by decide) rfl (Nat.le_of_ble_eq_true rfl) ?_
  intro pZ eZ sZ mZ aZ bZ tZ cZ RR QQ ls hx hb hml hown hts hRf hRl hH hK hl hret
  have hown : sZ.vm.findClass RX6 = some mZ.cls := hown
  have hl : lv_has ls 3 [(0, .ref (z + i))] := hl
  refine lv_iconst (v := 0) hx hb dX6_count_0 (by decide) ?_
  refine lv_istore_n (lv' := [(1, .int 0), (0, .ref (z + i))]) hx hb dX6_count_1 rfl hl (by decide) rfl (fun ls hl => ?_)
  refine lv_iconst (v := 1) hx hb dX6_count_2 (by decide) ?_
  refine lv_istore_n (lv' := [(2, .int 1), (1, .int 0), (0, .ref (z + i))]) hx hb dX6_count_3 rfl hl (by decide) rfl (fun ls hl => ?_)
  have L_4 : ∀ fu : Nat, ∀ q : Nat, (q ≤ 31) → (31 - q < fu) → ∀ (H : Heap) (locs : List Loc), qh_H G z M E sZ.heap H locs → ∀ ls : Array Slot, lv_has ls 3 [(0, .ref (z + i)), (1, .int (nI (cntR (fun s => (spN c s).isSome) 1 q))), (2, .int (nI (1 + q)))] → W pZ l eZ RR sZ mZ aZ bZ tZ cZ H locs 0 0 QQ (F0 mZ 4 ls []) := by
    intro fu
    induction fu with
    | zero =>
      intro q hq hfuel
      exact absurd hfuel (by omega)
    | succ fu ih =>
      intro q hq hfuel H locs hH ls hl
      refine lv_iload_n hx hb dX6_count_4 rfl (lv_at hl 2 rfl) ?_
      refine lv_bipush (v := 32) hx hb dX6_count_5 (by decide) ?_
      refine lv_icmp_ge (tgt := 27) hx hb dX6_count_7 (by decide) (fun c_7 => ?_) (fun c_7 => ?_)
      · have hk : q = 31 := by
          rcases Nat.lt_or_ge (1 + q) 32 with w | w
          · exact absurd c_7 (nI_ge w (by decide))
          · omega
        subst hk
        refine lv_iload_n hx hb dX6_count_27 rfl (lv_at hl 1 rfl) ?_
        exact hret dX6_count_28 hH (⟨rfl, rfl⟩)
      · have hk : 1 + q < 32 := by
          rcases Nat.lt_or_ge (1 + q) 32 with w | w
          · exact w
          · exact absurd (nI_le w (by omega)) c_7
        refine lv_aload_n hx hb dX6_count_10 rfl (lv_at hl 0 rfl) ?_
        refine lv_iload_n hx hb dX6_count_11 rfl (lv_at hl 2 rfl) ?_
        refine qh_runV (As := [.int (nI (1 + q))]) (rest := []) (C := RX6) ⟨hx, hb, hml, hown, hts⟩ hK hH (c_X6_has l G z M E i j k _ (nI (1 + q)) (⟨hi.1, hi.2.1, hi.2.2⟩) (hc) b_i b_j b_k) (cwV 1 hts gX6_count_X6_has rfl rfl rfl (by decide +kernel) (by rw [hRf, hRl]; exact ⟨Nat.le_of_ble_eq_true rfl, Nat.le_of_ble_eq_true rfl⟩)) (hi.1) b_i rfl rfl hl.1 rfl (Nat.le_of_ble_eq_true rfl) dX6_count_12 ⟨Nat.zero_le _, Nat.zero_le _⟩ (qh_kki fun r_12 E_1 H locs hpost hH => ?_)
        obtain ⟨rfl, rfl⟩ := hpost
        refine lv_if_eq (tgt := 21) hx hb dX6_count_15 (by decide) (fun c_15 => ?_) (fun c_15 => ?_)
        · have c_15 := bI_eq.mp c_15
          refine lv_iinc (v := nI ((1 + q) + 1)) (lv' := [(2, .int (nI ((1 + q) + 1))), (0, .ref (z + i)), (1, .int (nI (cntR (fun s => (spN c s).isSome) 1 q)))]) hx hb dX6_count_21 hl (k := 2) rfl (qn_inc (1 + q)) (by decide) rfl (fun ls hl => ?_)
          refine lv_goto (tgt := 4) hx hb dX6_count_24 (by decide) ?_
          first | rw [← cnt_y (q := fun s => (spN c s).isSome) (spH_nI (by omega) c_15)] at hl | rw [← cnt_n (q := fun s => (spN c s).isSome) (spH_nI_no (by omega) (by omega) c_15)] at hl
          exact ih (q + 1) (by omega) (by omega) _ _ hH ls (lv_sub hl [1, 2, 0] rfl)
        · have c_15 := bI_ne.mp c_15
          refine lv_iinc (v := nI ((cntR (fun s => (spN c s).isSome) 1 q) + 1)) (lv' := [(1, .int (nI ((cntR (fun s => (spN c s).isSome) 1 q) + 1))), (0, .ref (z + i)), (2, .int (nI (1 + q)))]) hx hb dX6_count_18 hl (k := 1) rfl (qn_inc (cntR (fun s => (spN c s).isSome) 1 q)) (by decide) rfl (fun ls hl => ?_)
          refine lv_iinc (v := nI ((1 + q) + 1)) (lv' := [(2, .int (nI ((1 + q) + 1))), (1, .int (nI ((cntR (fun s => (spN c s).isSome) 1 q) + 1))), (0, .ref (z + i))]) hx hb dX6_count_21 hl (k := 2) rfl (qn_inc (1 + q)) (by decide) rfl (fun ls hl => ?_)
          refine lv_goto (tgt := 4) hx hb dX6_count_24 (by decide) ?_
          first | rw [← cnt_y (q := fun s => (spN c s).isSome) (spH_nI (by omega) c_15)] at hl | rw [← cnt_n (q := fun s => (spN c s).isSome) (spH_nI_no (by omega) (by omega) c_15)] at hl
          exact ih (q + 1) (by omega) (by omega) _ _ hH ls (lv_sub hl [2, 1, 0] rfl)
  exact L_4 32 0 (Nat.zero_le _) (by omega) _ _ hH ls (lv_sub hl [2, 1, 0] rfl)

set_option maxHeartbeats 1000000 in
set_option maxRecDepth 100000 in
theorem c_X6_halve (l : Launch) (G : qh_G) (z M : Nat) (E : Nat → va_E) (i : Nat) (j : Nat) (k : Nat) (c0 : Nat) (c : Nat) (hi : i < M ∧ j < M ∧ k < M) (hd : i ≠ j ∧ i ≠ k ∧ j ≠ k) (hc : 1 ≤ c ∧ c ≤ 16) (b_i : E i = .inr (6, [.ref (z + j), .ref (z + k)])) (b_j : E j = qa_I G 32 (spF c0)) (b_k : E k = qa_I G 32 (spL c0)) : Met l yX6_halve wsX6_halve (qh_R 0) (qh_Pre G z M E [.ref (z + i), .int (nI c)]) (qh_Q G z M (qh_v (fun E' => E' j = qa_I G 32 (spF c) ∧ E' k = qa_I G 32 (spL c) ∧ ∀ x9, x9 ≠ j → x9 ≠ k → E' x9 = E x9))) 0 0 (fun q => z ≤ q) := by
  refine qh_metV (cc := cX6_halve) (maxL := 6) (by decide) rfl (Nat.le_of_ble_eq_true rfl) ?_
  intro pZ eZ sZ mZ aZ bZ tZ cZ RR QQ ls hx hb hml hown hts hRf hRl hH hK hl hret
  have hown : sZ.vm.findClass RX6 = some mZ.cls := hown
  have hl : lv_has ls 6 [(0, .ref (z + i)), (1, .int (nI c))] := hl
  have in_X6 : ∀ w ∈ wsX60, w ∈ wsX6_halve := fun w h => List.mem_cons_of_mem _ (List.mem_append_right _ h)
  have f_15 : qh_F G sZ mZ aZ 15 6 1 := qh_F.of hts in_X6 hown hK rfl 1 (by decide) (by decide +kernel)
  have f_9 : qh_F G sZ mZ aZ 9 6 0 := qh_F.of hts in_X6 hown hK rfl 0 (by decide) (by decide +kernel)
  refine lv_aload_n hx hb dX6_halve_0 rfl (lv_at hl 0 rfl) ?_
  refine qh_get hx hb hH f_15 (hi.1) b_i rfl dX6_halve_1 ?_
  refine lv_iconst (v := 1) hx hb dX6_halve_4 (by decide) ?_
  refine lv_iload_n hx hb dX6_halve_5 rfl (lv_at hl 1 rfl) ?_
  refine lv_iconst (v := 1) hx hb dX6_halve_6 (by decide) ?_
  refine lv_isub hx hb dX6_halve_7 ?_
  refine qh_topi (y := nI (c - 1)) (pk_sub (b := 1) hc.1) ?_
  refine qh_iast hx hb hK hH (hi.2.2) b_k (j := 1) (rfl) (by decide) (by omega) dX6_halve_8 (fun E_1 H locs h_k hfr hH _ => ?_)
  have h_k : E_1 k = qa_I G 32 (hvF (spL c) (spL c0) 2) := h_k.trans (congrArg (qa_I G 32) (hvL_2 hc.1))
  have hF : ∀ x9, x9 ≠ k → E_1 x9 = E x9 := fun x9 a0 => hfr x9 a0
  refine lv_iconst (v := 2) hx hb dX6_halve_9 (by decide) ?_
  refine lv_istore_n (lv' := [(2, .int 2), (0, .ref (z + i)), (1, .int (nI c))]) hx hb dX6_halve_10 rfl hl (by decide) rfl (fun ls hl => ?_)
  have L_11 : ∀ fu : Nat, ∀ t : Nat, (2 ≤ t ∧ t ≤ 32) → (32 - t < fu) → ∀ Ek : Nat → va_E, Ek j = qa_I G 32 (hvF (spF c) (spF c0) t) → Ek k = qa_I G 32 (hvF (spL c) (spL c0) t) → (∀ x9, x9 ≠ j → x9 ≠ k → Ek x9 = E x9) → ∀ (H : Heap) (locs : List Loc), qh_H G z M Ek sZ.heap H locs → ∀ ls : Array Slot, lv_has ls 6 [(0, .ref (z + i)), (2, .int (nI t))] → W pZ l eZ RR sZ mZ aZ bZ tZ cZ H locs 0 0 QQ (F0 mZ 11 ls []) := by
    intro fu
    induction fu with
    | zero =>
      intro t ht hfuel
      exact absurd hfuel (by omega)
    | succ fu ih =>
      intro t ht hfuel Ek h_j h_k hF H locs hH ls hl
      refine lv_iload_n hx hb dX6_halve_11 rfl (lv_at hl 1 rfl) ?_
      refine lv_bipush (v := 32) hx hb dX6_halve_12 (by decide) ?_
      refine lv_icmp_ge (tgt := 135) hx hb dX6_halve_14 (by decide) (fun c_14 => ?_) (fun c_14 => ?_)
      · have hk : t = 32 := by
          rcases Nat.lt_or_ge t 32 with w | w
          · exact absurd c_14 (nI_ge w (by decide))
          · omega
        subst hk
        obtain ⟨E2, h_j, hfr, hH⟩ := qh_renI (g := spF c) hH h_j (fun _ _ => rfl) (fun _ ht => hvF_lt ht)
        have h_k := (hfr k (by omega)).trans h_k
        have hF : ∀ x9, x9 ≠ j → x9 ≠ k → E2 x9 = E x9 := fun x9 a0 a1 => (hfr x9 a0).trans (hF x9 a0 a1)
        obtain ⟨E3, h_k, hfr, hH⟩ := qh_renI (g := spL c) hH h_k (fun _ _ => rfl) (fun _ ht => hvF_lt ht)
        exact hret dX6_halve_135 hH (⟨(hfr j (by omega)).trans h_j, h_k, fun x9 a0 a1 => (hfr x9 a1).trans (hF x9 a0 a1)⟩)
      · have hk : t < 32 := by
          rcases Nat.lt_or_ge t 32 with w | w
          · exact w
          · exact absurd (nI_le w (by omega)) c_14
        refine lv_iload_n hx hb dX6_halve_17 rfl (lv_at hl 1 rfl) ?_
        refine lv_iconst (v := 2) hx hb dX6_halve_18 (by decide) ?_
        refine lv_idiv hx hb dX6_halve_19 (by decide) ?_
        refine qh_topi (y := nI (t / 2)) (pk_div (d := 2) (by omega) (by decide) (by decide)) ?_
        refine lv_istore_n (lv' := [(3, .int (nI (t / 2))), (0, .ref (z + i)), (2, .int (nI t))]) hx hb dX6_halve_20 rfl hl (by decide) rfl (fun ls hl => ?_)
        refine lv_aload_n hx hb dX6_halve_21 rfl (lv_at hl 1 rfl) ?_
        refine qh_get hx hb hH f_9 (hi.1) ((hF i (hd.1) (hd.2.1)).trans b_i) rfl dX6_halve_22 ?_
        refine lv_iload_n hx hb dX6_halve_25 rfl (lv_at hl 0 rfl) ?_
        refine qh_iald hx hb hK hH (hi.2.1) h_j (j := t / 2) (rfl) (by omega) (by omega) dX6_halve_26 ?_
        refine qh_topi (y := spF c (t / 2)) (hvF_lt (by omega)) ?_
        refine lv_aload_n hx hb dX6_halve_27 rfl (lv_at hl 1 rfl) ?_
        refine qh_get hx hb hH f_15 (hi.1) ((hF i (hd.1) (hd.2.1)).trans b_i) rfl dX6_halve_28 ?_
        refine lv_iload_n hx hb dX6_halve_31 rfl (lv_at hl 0 rfl) ?_
        refine qh_iald hx hb hK hH (hi.2.2) h_k (j := t / 2) (rfl) (by omega) (by omega) dX6_halve_32 ?_
        refine qh_topi (y := spL c (t / 2)) (hvF_lt (by omega)) ?_
        refine lv_icmp_lt (tgt := 53) hx hb dX6_halve_33 (by decide) (fun c_33 => ?_) (fun c_33 => ?_)
        · obtain ⟨a, b, hw, hab, hb16⟩ := sp_lt hc.2 (show t / 2 < 32 by omega) c_33
          have hwF : spF c (t / 2) = nI a := by rw [spF, hw]
          have hwL : spL c (t / 2) = nI b := by rw [spL, hw]
          refine lv_aload_n hx hb dX6_halve_53 rfl (lv_at hl 1 rfl) ?_
          refine qh_get hx hb hH f_9 (hi.1) ((hF i (hd.1) (hd.2.1)).trans b_i) rfl dX6_halve_54 ?_
          refine lv_iload_n hx hb dX6_halve_57 rfl (lv_at hl 0 rfl) ?_
          refine qh_iald hx hb hK hH (hi.2.1) h_j (j := t / 2) (rfl) (by omega) (by omega) dX6_halve_58 ?_
          refine qh_topi (y := nI a) (hwF ▸ hvF_lt (by omega)) ?_
          refine lv_aload_n hx hb dX6_halve_59 rfl (lv_at hl 1 rfl) ?_
          refine qh_get hx hb hH f_15 (hi.1) ((hF i (hd.1) (hd.2.1)).trans b_i) rfl dX6_halve_60 ?_
          refine lv_iload_n hx hb dX6_halve_63 rfl (lv_at hl 0 rfl) ?_
          refine qh_iald hx hb hK hH (hi.2.2) h_k (j := t / 2) (rfl) (by omega) (by omega) dX6_halve_64 ?_
          refine qh_topi (y := nI b) (hwL ▸ hvF_lt (by omega)) ?_
          refine lv_iadd hx hb dX6_halve_65 ?_
          refine qh_topi (y := nI (a + b)) (nI_add a b) ?_
          refine lv_iconst (v := 2) hx hb dX6_halve_66 (by decide) ?_
          refine lv_idiv hx hb dX6_halve_67 (by decide) ?_
          refine qh_topi (y := nI ((a + b) / 2)) (pk_div (d := 2) (by omega) (by decide) (by decide)) ?_
          refine lv_istore (lv' := [(4, .int (nI ((a + b) / 2))), (3, .int (nI (t / 2))), (0, .ref (z + i)), (2, .int (nI t))]) hx hb dX6_halve_68 hl (by decide) rfl (fun ls hl => ?_)
          refine lv_iload_n hx hb dX6_halve_70 rfl (lv_at hl 3 rfl) ?_
          refine lv_iconst (v := 2) hx hb dX6_halve_71 (by decide) ?_
          refine lv_irem hx hb dX6_halve_72 (by decide) ?_
          refine qh_topi (y := nI (t % 2)) (pk_rem (d := 2) (by omega) (by decide) (by decide)) ?_
          refine lv_if_ne (tgt := 80) hx hb dX6_halve_73 (by decide) (fun c_73 => ?_) (fun c_73 => ?_)
          · have hpar : ¬ t % 2 = 0 := fun w => c_73 (by rw [w]; rfl)
            obtain ⟨hsF, hsL⟩ := sp_odd hc.2 (by omega) (by omega) hw hab hpar
            refine lv_iconst (v := 0) hx hb dX6_halve_80 (by decide) ?_
            refine lv_istore (lv' := [(5, .int 0), (4, .int (nI ((a + b) / 2))), (3, .int (nI (t / 2))), (0, .ref (z + i)), (2, .int (nI t))]) hx hb dX6_halve_81 hl (by decide) rfl (fun ls hl => ?_)
            refine lv_aload_n hx hb dX6_halve_83 rfl (lv_at hl 3 rfl) ?_
            refine qh_get hx hb hH f_9 (hi.1) ((hF i (hd.1) (hd.2.1)).trans b_i) rfl dX6_halve_84 ?_
            refine lv_iload_n hx hb dX6_halve_87 rfl (lv_at hl 4 rfl) ?_
            refine lv_iload hx hb dX6_halve_88 (lv_at hl 0 rfl) ?_
            refine lv_if_eq (tgt := 102) hx hb dX6_halve_90 (by decide) (fun c_90 => ?_) (fun c_90 => ?_)
            · refine lv_iload hx hb dX6_halve_102 (lv_at hl 1 rfl) ?_
              refine lv_iconst (v := 1) hx hb dX6_halve_104 (by decide) ?_
              refine lv_iadd hx hb dX6_halve_105 ?_
              refine qh_topi (y := nI ((a + b) / 2 + 1)) (nI_1 _) ?_
              refine qh_iast hx hb hK hH (hi.2.1) h_j (j := t) (rfl) (by omega) (by omega) dX6_halve_106 (fun E_2 H locs h_j hfr hH _ => ?_)
              have h_j : E_2 j = qa_I G 32 (hvF (spF c) (spF c0) (t + 1)) := h_j.trans (congrArg (qa_I G 32) (by rw [← hvF_s, hsF]))
              have h_k := (hfr k (Ne.symm hd.2.2)).trans h_k
              have hF : ∀ x9, x9 ≠ j → x9 ≠ k → E_2 x9 = E x9 := fun x9 a0 a1 => (hfr x9 a0).trans (hF x9 a0 a1)
              refine lv_aload_n hx hb dX6_halve_107 rfl (lv_at hl 3 rfl) ?_
              refine qh_get hx hb hH f_15 (hi.1) ((hF i (hd.1) (hd.2.1)).trans b_i) rfl dX6_halve_108 ?_
              refine lv_iload_n hx hb dX6_halve_111 rfl (lv_at hl 4 rfl) ?_
              refine lv_iload hx hb dX6_halve_112 (lv_at hl 0 rfl) ?_
              refine lv_if_eq (tgt := 122) hx hb dX6_halve_114 (by decide) (fun c_114 => ?_) (fun c_114 => ?_)
              · refine lv_aload_n hx hb dX6_halve_122 rfl (lv_at hl 3 rfl) ?_
                refine qh_get hx hb hH f_15 (hi.1) ((hF i (hd.1) (hd.2.1)).trans b_i) rfl dX6_halve_123 ?_
                refine lv_iload_n hx hb dX6_halve_126 rfl (lv_at hl 2 rfl) ?_
                refine qh_iald hx hb hK hH (hi.2.2) h_k (j := t / 2) (rfl) (by omega) (by omega) dX6_halve_127 ?_
                refine qh_topi (y := nI b) (hwL ▸ hvF_lt (by omega)) ?_
                refine qh_iast hx hb hK hH (hi.2.2) h_k (j := t) (rfl) (by omega) (by omega) dX6_halve_128 (fun E_3 H locs h_k hfr hH _ => ?_)
                have h_k : E_3 k = qa_I G 32 (hvF (spL c) (spL c0) (t + 1)) := h_k.trans (congrArg (qa_I G 32) (by rw [← hvF_s, hsL]))
                have h_j := (hfr j (hd.2.2)).trans h_j
                have hF : ∀ x9, x9 ≠ j → x9 ≠ k → E_3 x9 = E x9 := fun x9 a0 a1 => (hfr x9 a1).trans (hF x9 a0 a1)
                refine lv_iinc (v := nI (t + 1)) (lv' := [(2, .int (nI (t + 1))), (5, .int 0), (4, .int (nI ((a + b) / 2))), (3, .int (nI (t / 2))), (0, .ref (z + i))]) hx hb dX6_halve_129 hl (k := 4) rfl (qn_inc t) (by decide) rfl (fun ls hl => ?_)
                refine lv_goto (tgt := 11) hx hb dX6_halve_132 (by decide) ?_
                exact ih (t + 1) (by omega) (by omega) E_3 h_j h_k (fun x9 a0 a1 => hF x9 a0 a1) _ _ hH ls (lv_sub hl [4, 0] rfl)
              · exact absurd (by decide) c_114
            · exact absurd (by decide) c_90
          · have hpar : t % 2 = 0 := by
              rcases Nat.eq_zero_or_pos (t % 2) with w | w
              · exact w
              · exact absurd c_73 (nI_ne0 w (by omega))
            obtain ⟨hsF, hsL⟩ := sp_even hc.2 (by omega) (by omega) hw hab hpar
            refine lv_iconst (v := 1) hx hb dX6_halve_76 (by decide) ?_
            refine lv_goto (tgt := 81) hx hb dX6_halve_77 (by decide) ?_
            refine lv_istore (lv' := [(5, .int 1), (4, .int (nI ((a + b) / 2))), (3, .int (nI (t / 2))), (0, .ref (z + i)), (2, .int (nI t))]) hx hb dX6_halve_81 hl (by decide) rfl (fun ls hl => ?_)
            refine lv_aload_n hx hb dX6_halve_83 rfl (lv_at hl 3 rfl) ?_
            refine qh_get hx hb hH f_9 (hi.1) ((hF i (hd.1) (hd.2.1)).trans b_i) rfl dX6_halve_84 ?_
            refine lv_iload_n hx hb dX6_halve_87 rfl (lv_at hl 4 rfl) ?_
            refine lv_iload hx hb dX6_halve_88 (lv_at hl 0 rfl) ?_
            refine lv_if_eq (tgt := 102) hx hb dX6_halve_90 (by decide) (fun c_90 => ?_) (fun c_90 => ?_)
            · exact absurd c_90 (by decide)
            · refine lv_aload_n hx hb dX6_halve_93 rfl (lv_at hl 3 rfl) ?_
              refine qh_get hx hb hH f_9 (hi.1) ((hF i (hd.1) (hd.2.1)).trans b_i) rfl dX6_halve_94 ?_
              refine lv_iload_n hx hb dX6_halve_97 rfl (lv_at hl 2 rfl) ?_
              refine qh_iald hx hb hK hH (hi.2.1) h_j (j := t / 2) (rfl) (by omega) (by omega) dX6_halve_98 ?_
              refine qh_topi (y := nI a) (hwF ▸ hvF_lt (by omega)) ?_
              refine lv_goto (tgt := 106) hx hb dX6_halve_99 (by decide) ?_
              refine qh_iast hx hb hK hH (hi.2.1) h_j (j := t) (rfl) (by omega) (by omega) dX6_halve_106 (fun E_4 H locs h_j hfr hH _ => ?_)
              have h_j : E_4 j = qa_I G 32 (hvF (spF c) (spF c0) (t + 1)) := h_j.trans (congrArg (qa_I G 32) (by rw [← hvF_s, hsF]))
              have h_k := (hfr k (Ne.symm hd.2.2)).trans h_k
              have hF : ∀ x9, x9 ≠ j → x9 ≠ k → E_4 x9 = E x9 := fun x9 a0 a1 => (hfr x9 a0).trans (hF x9 a0 a1)
              refine lv_aload_n hx hb dX6_halve_107 rfl (lv_at hl 3 rfl) ?_
              refine qh_get hx hb hH f_15 (hi.1) ((hF i (hd.1) (hd.2.1)).trans b_i) rfl dX6_halve_108 ?_
              refine lv_iload_n hx hb dX6_halve_111 rfl (lv_at hl 4 rfl) ?_
              refine lv_iload hx hb dX6_halve_112 (lv_at hl 0 rfl) ?_
              refine lv_if_eq (tgt := 122) hx hb dX6_halve_114 (by decide) (fun c_114 => ?_) (fun c_114 => ?_)
              · exact absurd c_114 (by decide)
              · refine lv_iload hx hb dX6_halve_117 (lv_at hl 1 rfl) ?_
                refine lv_goto (tgt := 128) hx hb dX6_halve_119 (by decide) ?_
                refine qh_iast hx hb hK hH (hi.2.2) h_k (j := t) (rfl) (by omega) (by omega) dX6_halve_128 (fun E_5 H locs h_k hfr hH _ => ?_)
                have h_k : E_5 k = qa_I G 32 (hvF (spL c) (spL c0) (t + 1)) := h_k.trans (congrArg (qa_I G 32) (by rw [← hvF_s, hsL]))
                have h_j := (hfr j (hd.2.2)).trans h_j
                have hF : ∀ x9, x9 ≠ j → x9 ≠ k → E_5 x9 = E x9 := fun x9 a0 a1 => (hfr x9 a1).trans (hF x9 a0 a1)
                refine lv_iinc (v := nI (t + 1)) (lv' := [(2, .int (nI (t + 1))), (5, .int 1), (4, .int (nI ((a + b) / 2))), (3, .int (nI (t / 2))), (0, .ref (z + i))]) hx hb dX6_halve_129 hl (k := 4) rfl (qn_inc t) (by decide) rfl (fun ls hl => ?_)
                refine lv_goto (tgt := 11) hx hb dX6_halve_132 (by decide) ?_
                exact ih (t + 1) (by omega) (by omega) E_5 h_j h_k (fun x9 a0 a1 => hF x9 a0 a1) _ _ hH ls (lv_sub hl [4, 0] rfl)
        · have hsn := sp_non hc.2 ht.1 hk c_33
          refine lv_aload_n hx hb dX6_halve_36 rfl (lv_at hl 1 rfl) ?_
          refine qh_get hx hb hH f_9 (hi.1) ((hF i (hd.1) (hd.2.1)).trans b_i) rfl dX6_halve_37 ?_
          refine lv_iload_n hx hb dX6_halve_40 rfl (lv_at hl 2 rfl) ?_
          refine lv_iconst (v := 0) hx hb dX6_halve_41 (by decide) ?_
          refine qh_iast hx hb hK hH (hi.2.1) h_j (j := t) (rfl) (by omega) (by omega) dX6_halve_42 (fun E_6 H locs h_j hfr hH _ => ?_)
          have h_j : E_6 j = qa_I G 32 (hvF (spF c) (spF c0) (t + 1)) := h_j.trans (congrArg (qa_I G 32) (by rw [← hvF_s, hsn.1]))
          have h_k := (hfr k (Ne.symm hd.2.2)).trans h_k
          have hF : ∀ x9, x9 ≠ j → x9 ≠ k → E_6 x9 = E x9 := fun x9 a0 a1 => (hfr x9 a0).trans (hF x9 a0 a1)
          refine lv_aload_n hx hb dX6_halve_43 rfl (lv_at hl 1 rfl) ?_
          refine qh_get hx hb hH f_15 (hi.1) ((hF i (hd.1) (hd.2.1)).trans b_i) rfl dX6_halve_44 ?_
          refine lv_iload_n hx hb dX6_halve_47 rfl (lv_at hl 2 rfl) ?_
          refine lv_iconst (v := (-1)) hx hb dX6_halve_48 (by decide) ?_
          refine qh_iast hx hb hK hH (hi.2.2) h_k (j := t) (rfl) (by omega) (by omega) dX6_halve_49 (fun E_7 H locs h_k hfr hH _ => ?_)
          have h_k : E_7 k = qa_I G 32 (hvF (spL c) (spL c0) (t + 1)) := h_k.trans (congrArg (qa_I G 32) (by rw [← hvF_s, hsn.2]))
          have h_j := (hfr j (hd.2.2)).trans h_j
          have hF : ∀ x9, x9 ≠ j → x9 ≠ k → E_7 x9 = E x9 := fun x9 a0 a1 => (hfr x9 a1).trans (hF x9 a0 a1)
          refine lv_goto (tgt := 129) hx hb dX6_halve_50 (by decide) ?_
          refine lv_iinc (v := nI (t + 1)) (lv' := [(2, .int (nI (t + 1))), (3, .int (nI (t / 2))), (0, .ref (z + i))]) hx hb dX6_halve_129 hl (k := 2) rfl (qn_inc t) (by decide) rfl (fun ls hl => ?_)
          refine lv_goto (tgt := 11) hx hb dX6_halve_132 (by decide) ?_
          exact ih (t + 1) (by omega) (by omega) E_7 h_j h_k (fun x9 a0 a1 => hF x9 a0 a1) _ _ hH ls (lv_sub hl [2, 0] rfl)
  exact L_11 31 2 (by omega) (by omega) E_1 (((hF j (by omega)).trans b_j).trans (congrArg (qa_I G 32) (hvF_2 hc.1))) h_k (fun x9 a0 a1 => hF x9 a1) _ _ hH ls (lv_sub hl [1, 0] rfl)

set_option maxHeartbeats 1000000 in
set_option maxRecDepth 100000 in
theorem c_X2_next (l : Launch) (G : qh_G) (z M : Nat) (E : Nat → va_E) (i : Nat) (j : Nat) (ab : Nat) (n : Nat) (hi : i < M ∧ j < M ∧ i ≠ j) (hn : n < 24) (b_i : E i = .inr (2, [.int (nI n), .ref (z + j)])) (b_j : E j = qa_A G 24 (rfA z ab)) : Met l yX2_next wsX2_next (qh_R 0) (qh_Pre G z M E [.ref (z + i)]) (qh_Q G z M (qh_a (fun r E' => r = .ref (z + (ab + n)) ∧ E' i = .inr (2, [.int (nI (n + 1)), .ref (z + j)]) ∧ ∀ x9, x9 ≠ i → E' x9 = E x9))) 0 0 (fun q => z ≤ q) := by
  refine qh_metA (cc := cX2_next) (maxL := 1) (by decide) rfl (Nat.le_of_ble_eq_true rfl) ?_
  intro pZ eZ sZ mZ aZ bZ tZ cZ RR QQ ls hx hb hml hown hts hRf hRl hH hK hl hret
  have hown : sZ.vm.findClass RX2 = some mZ.cls := hown
  have hl : lv_has ls 1 [(0, .ref (z + i))] := hl
  have in_X2 : ∀ w ∈ wsX20, w ∈ wsX2_next := fun w h => List.mem_cons_of_mem _ (List.mem_append_right _ h)
  have f_9 : qh_F G sZ mZ aZ 9 2 0 := qh_F.of hts in_X2 hown hK rfl 0 (by decide) (by decide +kernel)
  have w_9 : qh_W G sZ mZ aZ 9 2 0 .int := qh_W.of hts in_X2 tyX2 tyX2_ok nmX2 hown hK rfl 0 (by decide) (by decide +kernel) rfl (by decide +kernel)
  have f_17 : qh_F G sZ mZ aZ 17 2 1 := qh_F.of hts in_X2 hown hK rfl 1 (by decide) (by decide +kernel)
  refine lv_aload_n hx hb dX2_next_0 rfl (lv_at hl 0 rfl) ?_
  refine qh_get hx hb hH f_9 (hi.1) b_i rfl dX2_next_1 ?_
  refine lv_bipush (v := 24) hx hb dX2_next_4 (by decide) ?_
  refine lv_icmp_lt (tgt := 11) hx hb dX2_next_6 (by decide) (fun c_6 => ?_) (fun c_6 => ?_)
  · refine lv_aload_n hx hb dX2_next_11 rfl (lv_at hl 0 rfl) ?_
    refine lv_dup hx hb dX2_next_12 rfl ?_
    refine qh_get hx hb hH f_9 (hi.1) b_i rfl dX2_next_13 ?_
    refine lv_iconst (v := 1) hx hb dX2_next_16 (by decide) ?_
    refine lv_iadd hx hb dX2_next_17 ?_
    refine qh_topi (y := nI (n + 1)) (nI_1 n) ?_
    refine qh_put (fs' := [.int (nI (n + 1)), .ref (z + j)]) hx hb hH w_9 (hi.1) b_i rfl rfl (Nat.le_of_ble_eq_true rfl) rfl dX2_next_18 (fun E_1 H locs h_i hfr hH _ => ?_)
    have hF : ∀ x9, x9 ≠ i → E_1 x9 = E x9 := fun x9 a0 => hfr x9 a0
    refine lv_aload_n hx hb dX2_next_21 rfl (lv_at hl 0 rfl) ?_
    refine qh_get hx hb hH f_17 (hi.1) h_i rfl dX2_next_22 ?_
    refine lv_aload_n hx hb dX2_next_25 rfl (lv_at hl 0 rfl) ?_
    refine qh_get hx hb hH f_9 (hi.1) h_i rfl dX2_next_26 ?_
    refine lv_iconst (v := 1) hx hb dX2_next_29 (by decide) ?_
    refine lv_isub hx hb dX2_next_30 ?_
    refine qh_topi (y := nI n) (nI_pred n) ?_
    refine qh_aaldA (a := z + (ab + n)) hx hb hK hH (hi.2.1) ((hF j (Ne.symm hi.2.2)).trans b_j) (j := n) (rfl) (by omega) (by omega) (rfl) dX2_next_31 ?_
    exact hret dX2_next_32 hH (Or.inr ⟨_, rfl⟩) (⟨rfl, h_i, hF⟩)
  · exact absurd (nI_lt hn (by decide)) c_6

set_option maxHeartbeats 1000000 in
set_option maxRecDepth 100000 in
theorem c_X2_next_full (l : Launch) (G : qh_G) (z M : Nat) (E : Nat → va_E) (i : Nat) (j : Nat) (n : Nat) (hi : i < M) (hn : 24 ≤ n ∧ n < 100) (b_i : E i = .inr (2, [.int (nI n), .ref (z + j)])) : Met l yX2_next wsX2_next (qh_R 0) (qh_Pre G z M E [.ref (z + i)]) (qh_Q G z M (qh_a (fun r E' => E = E' ∧ r = .null))) 0 0 (fun q => z ≤ q) := by
  refine qh_metA (cc := cX2_next) (maxL := 1) (by decide) rfl (Nat.le_of_ble_eq_true rfl) ?_
  intro pZ eZ sZ mZ aZ bZ tZ cZ RR QQ ls hx hb hml hown hts hRf hRl hH hK hl hret
  have hown : sZ.vm.findClass RX2 = some mZ.cls := hown
  have hl : lv_has ls 1 [(0, .ref (z + i))] := hl
  have in_X2 : ∀ w ∈ wsX20, w ∈ wsX2_next := fun w h => List.mem_cons_of_mem _ (List.mem_append_right _ h)
  have f_9 : qh_F G sZ mZ aZ 9 2 0 := qh_F.of hts in_X2 hown hK rfl 0 (by decide) (by decide +kernel)
  refine lv_aload_n hx hb dX2_next_0 rfl (lv_at hl 0 rfl) ?_
  refine qh_get hx hb hH f_9 (hi) b_i rfl dX2_next_1 ?_
  refine lv_bipush (v := 24) hx hb dX2_next_4 (by decide) ?_
  refine lv_icmp_lt (tgt := 11) hx hb dX2_next_6 (by decide) (fun c_6 => ?_) (fun c_6 => ?_)
  · exact absurd c_6 (nI_nlt hn.1 (by omega))
  · refine lv_null hx hb dX2_next_9 ?_
    exact hret dX2_next_10 hH (Or.inl rfl) (⟨rfl, rfl⟩)

set_option maxHeartbeats 1000000 in
set_option maxRecDepth 100000 in
theorem c_X2_actsOf (l : Launch) (G : qh_G) (z M : Nat) (E : Nat → va_E) (i : Nat) (j : Nat) (ab : Nat) (n : Nat) (ts : Nat → Int32) (fr : Nat → Int32) (to : Nat → Int32) (va : Nat → Int64) (h : Int32) (hi : i < M ∧ j < M ∧ ab + n ≤ M) (hn : n ≤ 24) (b_i : E i = .inr (2, [.int (nI n), .ref (z + j)])) (b_j : E j = qa_A G 24 (rfA z ab)) (hacts : ∀ t, t < n → E (ab + t) = .inr (0, [.int (ts t), .int (fr t), .int (to t), .long (va t)])) : Met l yX2_actsOf wsX2_actsOf (qh_R 1) (qh_Pre G z M E [.ref (z + i), .int h]) (qh_Q G z M (qh_i (fun r E' => E = E' ∧ r = nI (cntR (fun t => decide ((ts t = 3 ∨ ts t = 4) ∧ va t = h.toInt64)) 0 n)))) 0 0 (fun q => z ≤ q) := by
  refine qh_metI (cc := cX2_actsOf) (maxL := 4) (by decide) rfl (Nat.le_of_ble_eq_true rfl) ?_
  intro pZ eZ sZ mZ aZ bZ tZ cZ RR QQ ls hx hb hml hown hts hRf hRl hH hK hl hret
  have hown : sZ.vm.findClass RX2 = some mZ.cls := hown
  have hl : lv_has ls 4 [(0, .ref (z + i)), (1, .int h)] := hl
  have in_X2 : ∀ w ∈ wsX20, w ∈ wsX2_actsOf := fun w h => List.mem_cons_of_mem _ (List.mem_append_left _ (List.mem_append_right _ h))
  have in_X0 : ∀ w ∈ wsX00, w ∈ wsX2_actsOf := fun w h => List.mem_cons_of_mem _ (List.mem_append_right _ h)
  have f_9 : qh_F G sZ mZ aZ 9 2 0 := qh_F.of hts in_X2 hown hK rfl 0 (by decide) (by decide +kernel)
  have f_17 : qh_F G sZ mZ aZ 17 2 1 := qh_F.of hts in_X2 hown hK rfl 1 (by decide) (by decide +kernel)
  have f_26 : qh_F G sZ mZ aZ 26 0 3 := qh_F.of hts in_X0 hown hK rfl 3 (by decide) (by decide +kernel)
  refine lv_iconst (v := 0) hx hb dX2_actsOf_0 (by decide) ?_
  refine lv_istore_n (lv' := [(2, .int 0), (0, .ref (z + i)), (1, .int h)]) hx hb dX2_actsOf_1 rfl hl (by decide) rfl (fun ls hl => ?_)
  refine lv_iconst (v := 0) hx hb dX2_actsOf_2 (by decide) ?_
  refine lv_istore_n (lv' := [(3, .int 0), (2, .int 0), (0, .ref (z + i)), (1, .int h)]) hx hb dX2_actsOf_3 rfl hl (by decide) rfl (fun ls hl => ?_)
  have L_4 : ∀ fu : Nat, ∀ q : Nat, (q ≤ n) → (n - q < fu) → ∀ (H : Heap) (locs : List Loc), qh_H G z M E sZ.heap H locs → ∀ ls : Array Slot, lv_has ls 4 [(0, .ref (z + i)), (1, .int h), (2, .int (nI (cntR (fun t => decide ((ts t = 3 ∨ ts t = 4) ∧ va t = h.toInt64)) 0 q))), (3, .int (nI q))] → W pZ l eZ RR sZ mZ aZ bZ tZ cZ H locs 0 0 QQ (F0 mZ 4 ls []) := by
    intro fu
    induction fu with
    | zero =>
      intro q hq hfuel
      exact absurd hfuel (by omega)
    | succ fu ih =>
      intro q hq hfuel H locs hH ls hl
      refine lv_iload_n hx hb dX2_actsOf_4 rfl (lv_at hl 3 rfl) ?_
      refine lv_aload_n hx hb dX2_actsOf_5 rfl (lv_at hl 0 rfl) ?_
      refine qh_get hx hb hH f_9 (hi.1) b_i rfl dX2_actsOf_6 ?_
      refine lv_icmp_ge (tgt := 48) hx hb dX2_actsOf_9 (by decide) (fun c_9 => ?_) (fun c_9 => ?_)
      · have hk : q = n := by
          rcases Nat.lt_or_ge q n with w | w
          · exact absurd c_9 (nI_ge w (by omega))
          · omega
        subst hk
        refine lv_iload_n hx hb dX2_actsOf_48 rfl (lv_at hl 2 rfl) ?_
        exact hret dX2_actsOf_49 hH (⟨rfl, rfl⟩)
      · have hk : q < n := by
          rcases Nat.lt_or_ge q n with w | w
          · exact w
          · exact absurd (nI_le w (by omega)) c_9
        refine lv_aload_n hx hb dX2_actsOf_12 rfl (lv_at hl 0 rfl) ?_
        refine qh_get hx hb hH f_17 (hi.1) b_i rfl dX2_actsOf_13 ?_
        refine lv_iload_n hx hb dX2_actsOf_16 rfl (lv_at hl 3 rfl) ?_
        refine qh_aaldA (a := z + (ab + q)) hx hb hK hH (hi.2.1) b_j (j := q) (rfl) (by omega) (by omega) (rfl) dX2_actsOf_17 ?_
        refine qh_runV (As := []) (rest := []) (C := RX0) ⟨hx, hb, hml, hown, hts⟩ hK hH (c_X0_isHelp l G z M E (ab + q) (ts q) (fr q) (to q) (va q) (by omega) (hacts q (by omega))) (cwV 0 hts gX2_actsOf_X0_isHelp rfl rfl rfl (by decide +kernel) (by rw [hRf, hRl]; exact ⟨Nat.le_of_ble_eq_true rfl, Nat.le_of_ble_eq_true rfl⟩)) (by omega) (hacts q (by omega)) rfl rfl hl.1 rfl (Nat.le_of_ble_eq_true rfl) dX2_actsOf_18 ⟨Nat.zero_le _, Nat.zero_le _⟩ (qh_kki fun r_18 E_1 H locs hpost hH => ?_)
        obtain ⟨rfl, rfl⟩ := hpost
        refine lv_if_eq (tgt := 42) hx hb dX2_actsOf_21 (by decide) (fun c_21 => ?_) (fun c_21 => ?_)
        · have c_21 := bI_eq.mp c_21
          refine lv_iinc (v := nI (q + 1)) (lv' := [(3, .int (nI (q + 1))), (0, .ref (z + i)), (1, .int h), (2, .int (nI (cntR (fun t => decide ((ts t = 3 ∨ ts t = 4) ∧ va t = h.toInt64)) 0 q)))]) hx hb dX2_actsOf_42 hl (k := 3) rfl (qn_inc q) (by decide) rfl (fun ls hl => ?_)
          refine lv_goto (tgt := 4) hx hb dX2_actsOf_45 (by decide) ?_
          rw [← cnt0_n (q := (fun t => decide ((ts t = 3 ∨ ts t = 4) ∧ va t = h.toInt64))) (by simp [c_21])] at hl
          exact ih (q + 1) (by omega) (by omega) _ _ hH ls (lv_sub hl [1, 2, 3, 0] rfl)
        · have c_21 := bI_ne.mp c_21
          refine lv_aload_n hx hb dX2_actsOf_24 rfl (lv_at hl 0 rfl) ?_
          refine qh_get hx hb hH f_17 (hi.1) b_i rfl dX2_actsOf_25 ?_
          refine lv_iload_n hx hb dX2_actsOf_28 rfl (lv_at hl 3 rfl) ?_
          refine qh_aaldA (a := z + (ab + q)) hx hb hK hH (hi.2.1) b_j (j := q) (rfl) (by omega) (by omega) (rfl) dX2_actsOf_29 ?_
          refine qh_get hx hb hH f_26 (by omega) (hacts q (by omega)) rfl dX2_actsOf_30 ?_
          refine lv_iload_n hx hb dX2_actsOf_33 rfl (lv_at hl 1 rfl) ?_
          refine lv_i2l (v := h.toInt64) hx hb dX2_actsOf_34 rfl ?_
          refine W.lcmp hx hb dX2_actsOf_35 ?_
          refine lv_if_ne (tgt := 42) hx hb dX2_actsOf_36 (by decide) (fun c_36 => ?_) (fun c_36 => ?_)
          · have c_36 := (lg_cmp_ne _ _).mp c_36
            refine lv_iinc (v := nI (q + 1)) (lv' := [(3, .int (nI (q + 1))), (0, .ref (z + i)), (1, .int h), (2, .int (nI (cntR (fun t => decide ((ts t = 3 ∨ ts t = 4) ∧ va t = h.toInt64)) 0 q)))]) hx hb dX2_actsOf_42 hl (k := 3) rfl (qn_inc q) (by decide) rfl (fun ls hl => ?_)
            refine lv_goto (tgt := 4) hx hb dX2_actsOf_45 (by decide) ?_
            rw [← cnt0_n (q := (fun t => decide ((ts t = 3 ∨ ts t = 4) ∧ va t = h.toInt64))) (by simp [c_36])] at hl
            exact ih (q + 1) (by omega) (by omega) _ _ hH ls (lv_sub hl [1, 2, 3, 0] rfl)
          · have c_36 := (lg_cmp_eq _ _).mp c_36
            refine lv_iinc (v := nI ((cntR (fun t => decide ((ts t = 3 ∨ ts t = 4) ∧ va t = h.toInt64)) 0 q) + 1)) (lv' := [(2, .int (nI ((cntR (fun t => decide ((ts t = 3 ∨ ts t = 4) ∧ va t = h.toInt64)) 0 q) + 1))), (0, .ref (z + i)), (1, .int h), (3, .int (nI q))]) hx hb dX2_actsOf_39 hl (k := 2) rfl (qn_inc (cntR (fun t => decide ((ts t = 3 ∨ ts t = 4) ∧ va t = h.toInt64)) 0 q)) (by decide) rfl (fun ls hl => ?_)
            refine lv_iinc (v := nI (q + 1)) (lv' := [(3, .int (nI (q + 1))), (2, .int (nI ((cntR (fun t => decide ((ts t = 3 ∨ ts t = 4) ∧ va t = h.toInt64)) 0 q) + 1))), (0, .ref (z + i)), (1, .int h)]) hx hb dX2_actsOf_42 hl (k := 3) rfl (qn_inc q) (by decide) rfl (fun ls hl => ?_)
            refine lv_goto (tgt := 4) hx hb dX2_actsOf_45 (by decide) ?_
            rw [← cnt0_y (q := (fun t => decide ((ts t = 3 ∨ ts t = 4) ∧ va t = h.toInt64))) (by simp [c_21, c_36])] at hl
            exact ih (q + 1) (by omega) (by omega) _ _ hH ls (lv_sub hl [2, 3, 1, 0] rfl)
  exact L_4 (n + 1) 0 (Nat.zero_le _) (by omega) _ _ hH ls (lv_sub hl [2, 3, 1, 0] rfl)

set_option maxHeartbeats 1000000 in
set_option maxRecDepth 100000 in
theorem c_X4_keep (l : Launch) (G : qh_G) (z M : Nat) (E : Nat → va_E) (i : Nat) (j : Nat) (k : Nat) (n : Nat) (a : Nat) (v : Int64) (cn : Nat → Nat) (vs : Nat → Int64) (hi : i < M ∧ j < M ∧ k < M) (hd : i ≠ j ∧ i ≠ k ∧ j ≠ k) (hn : n < 8) (b_i : E i = .inr (4, [.int (nI n), .ref (z + j), .ref (z + k)])) (b_j : E j = qa_I G 8 (rdC cn)) (b_k : E k = qa_J G 8 vs) : Met l yX4_keep wsX4_keep (qh_R 0) (qh_Pre G z M E [.ref (z + i), .int (nI a), .long v]) (qh_Q G z M (qh_i (fun r E' => r = nI n ∧ E' i = .inr (4, [.int (nI (n + 1)), .ref (z + j), .ref (z + k)]) ∧ E' j = qa_I G 8 (rdC (upN cn n a)) ∧ E' k = qa_J G 8 (vp_updL vs n v) ∧ ∀ x9, x9 ≠ i → x9 ≠ j → x9 ≠ k → E' x9 = E x9))) 0 0 (fun q => z ≤ q) := by
  refine qh_metI (cc := cX4_keep) (maxL := 4) (by decide) rfl (Nat.le_of_ble_eq_true rfl) ?_
  intro pZ eZ sZ mZ aZ bZ tZ cZ RR QQ ls hx hb hml hown hts hRf hRl hH hK hl hret
  have hown : sZ.vm.findClass RX4 = some mZ.cls := hown
  have hl : lv_has ls 4 [(0, .ref (z + i)), (1, .int (nI a)), (2, .long v)] := hl
  have in_X4 : ∀ w ∈ wsX40, w ∈ wsX4_keep := fun w h => List.mem_cons_of_mem _ (List.mem_append_right _ h)
  have f_9 : qh_F G sZ mZ aZ 9 4 0 := qh_F.of hts in_X4 hown hK rfl 0 (by decide) (by decide +kernel)
  have f_15 : qh_F G sZ mZ aZ 15 4 1 := qh_F.of hts in_X4 hown hK rfl 1 (by decide) (by decide +kernel)
  have f_19 : qh_F G sZ mZ aZ 19 4 2 := qh_F.of hts in_X4 hown hK rfl 2 (by decide) (by decide +kernel)
  have w_9 : qh_W G sZ mZ aZ 9 4 0 .int := qh_W.of hts in_X4 tyX4 tyX4_ok nmX4 hown hK rfl 0 (by decide) (by decide +kernel) rfl (by decide +kernel)
  refine lv_aload_n hx hb dX4_keep_0 rfl (lv_at hl 0 rfl) ?_
  refine qh_get hx hb hH f_9 (hi.1) b_i rfl dX4_keep_1 ?_
  refine lv_bipush (v := 8) hx hb dX4_keep_4 (by decide) ?_
  refine lv_icmp_lt (tgt := 12) hx hb dX4_keep_6 (by decide) (fun c_6 => ?_) (fun c_6 => ?_)
  · refine lv_aload_n hx hb dX4_keep_12 rfl (lv_at hl 0 rfl) ?_
    refine qh_get hx hb hH f_15 (hi.1) b_i rfl dX4_keep_13 ?_
    refine lv_aload_n hx hb dX4_keep_16 rfl (lv_at hl 0 rfl) ?_
    refine qh_get hx hb hH f_9 (hi.1) b_i rfl dX4_keep_17 ?_
    refine lv_iload_n hx hb dX4_keep_20 rfl (lv_at hl 1 rfl) ?_
    refine qh_iast hx hb hK hH (hi.2.1) b_j (j := n) (rfl) (by omega) (by omega) dX4_keep_21 (fun E_1 H locs h_j hfr hH _ => ?_)
    have h_j : E_1 j = qa_I G 8 (rdC (upN cn n a)) := h_j.trans (congrArg (qa_I G 8) (rdC_up ..))
    have hF : ∀ x9, x9 ≠ j → E_1 x9 = E x9 := fun x9 a0 => hfr x9 a0
    refine lv_aload_n hx hb dX4_keep_22 rfl (lv_at hl 0 rfl) ?_
    refine qh_get hx hb hH f_19 (hi.1) ((hF i (hd.1)).trans b_i) rfl dX4_keep_23 ?_
    refine lv_aload_n hx hb dX4_keep_26 rfl (lv_at hl 0 rfl) ?_
    refine qh_get hx hb hH f_9 (hi.1) ((hF i (hd.1)).trans b_i) rfl dX4_keep_27 ?_
    refine lv_lload_n hx hb dX4_keep_30 rfl (lv_at hl 2 rfl) ?_
    refine qh_last hx hb hK hH (hi.2.2) ((hF k (Ne.symm hd.2.2)).trans b_k) (j := n) (rfl) (by omega) (by omega) dX4_keep_31 (fun E_2 H locs h_k hfr hH _ => ?_)
    have h_j := (hfr j (hd.2.2)).trans h_j
    have hF : ∀ x9, x9 ≠ j → x9 ≠ k → E_2 x9 = E x9 := fun x9 a0 a1 => (hfr x9 a1).trans (hF x9 a0)
    refine lv_aload_n hx hb dX4_keep_32 rfl (lv_at hl 0 rfl) ?_
    refine lv_dup hx hb dX4_keep_33 rfl ?_
    refine qh_get hx hb hH f_9 (hi.1) ((hF i (hd.1) (hd.2.1)).trans b_i) rfl dX4_keep_34 ?_
    refine lv_iconst (v := 1) hx hb dX4_keep_37 (by decide) ?_
    refine lv_iadd hx hb dX4_keep_38 ?_
    refine qh_topi (y := nI (n + 1)) (nI_1 n) ?_
    refine qh_put (fs' := [.int (nI (n + 1)), .ref (z + j), .ref (z + k)]) hx hb hH w_9 (hi.1) ((hF i (hd.1) (hd.2.1)).trans b_i) rfl rfl (Nat.le_of_ble_eq_true rfl) rfl dX4_keep_39 (fun E_3 H locs h_i hfr hH _ => ?_)
    have h_j := (hfr j (Ne.symm hd.1)).trans h_j
    have h_k := (hfr k (Ne.symm hd.2.1)).trans h_k
    have hF : ∀ x9, x9 ≠ j → x9 ≠ k → x9 ≠ i → E_3 x9 = E x9 := fun x9 a0 a1 a2 => (hfr x9 a2).trans (hF x9 a0 a1)
    refine lv_aload_n hx hb dX4_keep_42 rfl (lv_at hl 0 rfl) ?_
    refine qh_get hx hb hH f_9 (hi.1) h_i rfl dX4_keep_43 ?_
    refine lv_iconst (v := 1) hx hb dX4_keep_46 (by decide) ?_
    refine lv_isub hx hb dX4_keep_47 ?_
    refine qh_topi (y := nI n) (nI_pred n) ?_
    exact hret dX4_keep_48 hH (⟨rfl, h_i, h_j, h_k, fun x a b c => hF x b c a⟩)
  · exact absurd (nI_lt hn (by decide)) c_6

set_option maxHeartbeats 1000000 in
set_option maxRecDepth 100000 in
theorem c_X4_keep_full (l : Launch) (G : qh_G) (z M : Nat) (E : Nat → va_E) (i : Nat) (n : Nat) (a : Int32) (v : Int64) (u1 : Value) (u2 : Value) (hi : i < M) (hn : 8 ≤ n ∧ n < 100) (b_i : E i = .inr (4, [.int (nI n), u1, u2])) : Met l yX4_keep wsX4_keep (qh_R 0) (qh_Pre G z M E [.ref (z + i), .int a, .long v]) (qh_Q G z M (qh_i (fun r E' => E = E' ∧ r = (-4)))) 0 0 (fun q => z ≤ q) := by
  refine qh_metI (cc := cX4_keep) (maxL := 4) (by decide) rfl (Nat.le_of_ble_eq_true rfl) ?_
  intro pZ eZ sZ mZ aZ bZ tZ cZ RR QQ ls hx hb hml hown hts hRf hRl hH hK hl hret
  have hown : sZ.vm.findClass RX4 = some mZ.cls := hown
  have hl : lv_has ls 4 [(0, .ref (z + i)), (1, .int a), (2, .long v)] := hl
  have in_X4 : ∀ w ∈ wsX40, w ∈ wsX4_keep := fun w h => List.mem_cons_of_mem _ (List.mem_append_right _ h)
  have f_9 : qh_F G sZ mZ aZ 9 4 0 := qh_F.of hts in_X4 hown hK rfl 0 (by decide) (by decide +kernel)
  refine lv_aload_n hx hb dX4_keep_0 rfl (lv_at hl 0 rfl) ?_
  refine qh_get hx hb hH f_9 (hi) b_i rfl dX4_keep_1 ?_
  refine lv_bipush (v := 8) hx hb dX4_keep_4 (by decide) ?_
  refine lv_icmp_lt (tgt := 12) hx hb dX4_keep_6 (by decide) (fun c_6 => ?_) (fun c_6 => ?_)
  · exact absurd c_6 (nI_nlt hn.1 (by omega))
  · refine lv_bipush (v := (-4)) hx hb dX4_keep_9 (by decide) ?_
    exact hret dX4_keep_11 hH (⟨rfl, rfl⟩)

set_option maxHeartbeats 1000000 in
set_option maxRecDepth 100000 in
theorem c_X4_areSoBy (l : Launch) (G : qh_G) (z M : Nat) (E : Nat → va_E) (i : Nat) (j : Nat) (k : Nat) (n : Nat) (i2 : Nat) (j2 : Nat) (c : Nat) (cn : Nat → Nat) (vs : Nat → Int64) (f : Nat → Int64) (u2 : Value) (hi : i < M ∧ j < M ∧ k < M ∧ i2 < M ∧ j2 < M) (hn : n ≤ 8 ∧ c ≤ 16) (hcn : ∀ q, q < n → cn q < c) (b_i : E i = .inr (4, [.int (nI n), .ref (z + j), .ref (z + k)])) (b_j : E j = qa_I G 8 (rdC cn)) (b_k : E k = qa_J G 8 vs) (b_i2 : E i2 = .inr (3, [.int (nI c), .ref (z + j2), u2])) (b_j2 : E j2 = qa_J G 16 f) : Met l yX4_areSoBy wsX4_areSoBy (qh_R 1) (qh_Pre G z M E [.ref (z + i), .ref (z + i2)]) (qh_Q G z M (qh_i (fun r E' => E = E' ∧ r = bI (allR (fun q => decide (f (cn q) = vs q)) n = true)))) 0 0 (fun q => z ≤ q) := by
  refine qh_metZ (cc := cX4_areSoBy) (maxL := 3) (by decide) rfl (Nat.le_of_ble_eq_true rfl) ?_
  intro pZ eZ sZ mZ aZ bZ tZ cZ RR QQ ls hx hb hml hown hts hRf hRl hH hK hl hret
  have hown : sZ.vm.findClass RX4 = some mZ.cls := hown
  have hl : lv_has ls 3 [(0, .ref (z + i)), (1, .ref (z + i2))] := hl
  have in_X4 : ∀ w ∈ wsX40, w ∈ wsX4_areSoBy := fun w h => List.mem_cons_of_mem _ (List.mem_append_left _ (List.mem_append_right _ h))
  have in_X3 : ∀ w ∈ wsX30, w ∈ wsX4_areSoBy := fun w h => List.mem_cons_of_mem _ (List.mem_append_right _ h)
  have f_9 : qh_F G sZ mZ aZ 9 4 0 := qh_F.of hts in_X4 hown hK rfl 0 (by decide) (by decide +kernel)
  have f_15 : qh_F G sZ mZ aZ 15 4 1 := qh_F.of hts in_X4 hown hK rfl 1 (by decide) (by decide +kernel)
  have f_29 : qh_F G sZ mZ aZ 29 3 1 := qh_F.of hts in_X3 hown hK rfl 1 (by decide) (by decide +kernel)
  have f_19 : qh_F G sZ mZ aZ 19 4 2 := qh_F.of hts in_X4 hown hK rfl 2 (by decide) (by decide +kernel)
  refine lv_iconst (v := 0) hx hb dX4_areSoBy_0 (by decide) ?_
  refine lv_istore_n (lv' := [(2, .int 0), (0, .ref (z + i)), (1, .ref (z + i2))]) hx hb dX4_areSoBy_1 rfl hl (by decide) rfl (fun ls hl => ?_)
  have L_2 : ∀ fu : Nat, ∀ q : Nat, (q ≤ n) → (allR (fun q => decide (f (cn q) = vs q)) q = true) → (n - q < fu) → ∀ (H : Heap) (locs : List Loc), qh_H G z M E sZ.heap H locs → ∀ ls : Array Slot, lv_has ls 3 [(0, .ref (z + i)), (1, .ref (z + i2)), (2, .int (nI q))] → W pZ l eZ RR sZ mZ aZ bZ tZ cZ H locs 0 0 QQ (F0 mZ 2 ls []) := by
    intro fu
    induction fu with
    | zero =>
      intro q hq hall hfuel
      exact absurd hfuel (by omega)
    | succ fu ih =>
      intro q hq hall hfuel H locs hH ls hl
      refine lv_iload_n hx hb dX4_areSoBy_2 rfl (lv_at hl 2 rfl) ?_
      refine lv_aload_n hx hb dX4_areSoBy_3 rfl (lv_at hl 0 rfl) ?_
      refine qh_get hx hb hH f_9 (hi.1) b_i rfl dX4_areSoBy_4 ?_
      refine lv_icmp_ge (tgt := 52) hx hb dX4_areSoBy_7 (by decide) (fun c_7 => ?_) (fun c_7 => ?_)
      · have hk : q = n := by
          rcases Nat.lt_or_ge q n with w | w
          · exact absurd c_7 (nI_ge w (by omega))
          · omega
        subst hk
        refine lv_iconst (v := 1) hx hb dX4_areSoBy_52 (by decide) ?_
        exact hret dX4_areSoBy_53 hH (Or.inr rfl) (⟨rfl, bI_1 hall⟩)
      · have hk : q < n := by
          rcases Nat.lt_or_ge q n with w | w
          · exact w
          · exact absurd (nI_le w (by omega)) c_7
        have hcq := hcn q hk
        refine lv_aload_n hx hb dX4_areSoBy_10 rfl (lv_at hl 1 rfl) ?_
        refine lv_aload_n hx hb dX4_areSoBy_11 rfl (lv_at hl 0 rfl) ?_
        refine qh_get hx hb hH f_15 (hi.1) b_i rfl dX4_areSoBy_12 ?_
        refine lv_iload_n hx hb dX4_areSoBy_15 rfl (lv_at hl 2 rfl) ?_
        refine qh_iald hx hb hK hH (hi.2.1) b_j (j := q) (rfl) (by omega) (by omega) dX4_areSoBy_16 ?_
        refine qh_runV (As := [.int (rdC cn q)]) (rest := []) (C := RX3) ⟨hx, hb, hml, hown, hts⟩ hK hH (c_X3_has l G z M E i2 (hi.2.2.2.1) (nI c) (.ref (z + j2)) u2 (rdC cn q) b_i2) (cwV 1 hts gX4_areSoBy_X3_has rfl rfl rfl (by decide +kernel) (by rw [hRf, hRl]; exact ⟨Nat.le_of_ble_eq_true rfl, Nat.le_of_ble_eq_true rfl⟩)) (hi.2.2.2.1) b_i2 rfl rfl hl.1 rfl (Nat.le_of_ble_eq_true rfl) dX4_areSoBy_17 ⟨Nat.zero_le _, Nat.zero_le _⟩ (qh_kki fun r_17 E_1 H locs hpost hH => ?_)
        obtain ⟨rfl, rfl⟩ := hpost
        refine lv_if_eq (tgt := 44) hx hb dX4_areSoBy_20 (by decide) (fun c_20 => ?_) (fun c_20 => ?_)
        · have c_20 := bI_eq.mp c_20
          exact absurd (nI_has (hcn q hk) (by omega)) c_20
        · have c_20 := bI_ne.mp c_20
          refine lv_aload_n hx hb dX4_areSoBy_23 rfl (lv_at hl 1 rfl) ?_
          refine qh_get hx hb hH f_29 (hi.2.2.2.1) b_i2 rfl dX4_areSoBy_24 ?_
          refine lv_aload_n hx hb dX4_areSoBy_27 rfl (lv_at hl 0 rfl) ?_
          refine qh_get hx hb hH f_15 (hi.1) b_i rfl dX4_areSoBy_28 ?_
          refine lv_iload_n hx hb dX4_areSoBy_31 rfl (lv_at hl 2 rfl) ?_
          refine qh_iald hx hb hK hH (hi.2.1) b_j (j := q) (rfl) (by omega) (by omega) dX4_areSoBy_32 ?_
          refine qh_lald hx hb hK hH (hi.2.2.2.2) b_j2 (j := (cn q)) (rfl) (by omega) (by omega) dX4_areSoBy_33 ?_
          refine lv_aload_n hx hb dX4_areSoBy_34 rfl (lv_at hl 0 rfl) ?_
          refine qh_get hx hb hH f_19 (hi.1) b_i rfl dX4_areSoBy_35 ?_
          refine lv_iload_n hx hb dX4_areSoBy_38 rfl (lv_at hl 2 rfl) ?_
          refine qh_lald hx hb hK hH (hi.2.2.1) b_k (j := q) (rfl) (by omega) (by omega) dX4_areSoBy_39 ?_
          refine W.lcmp hx hb dX4_areSoBy_40 ?_
          refine lv_if_eq (tgt := 46) hx hb dX4_areSoBy_41 (by decide) (fun c_41 => ?_) (fun c_41 => ?_)
          · have c_41 := (lg_cmp_eq _ _).mp c_41
            refine lv_iinc (v := nI (q + 1)) (lv' := [(2, .int (nI (q + 1))), (0, .ref (z + i)), (1, .ref (z + i2))]) hx hb dX4_areSoBy_46 hl (k := 2) rfl (qn_inc q) (by decide) rfl (fun ls hl => ?_)
            refine lv_goto (tgt := 2) hx hb dX4_areSoBy_49 (by decide) ?_
            exact ih (q + 1) (by omega) (by rw [allR, hall, c_41]; simp) (by omega) _ _ hH ls (lv_sub hl [1, 2, 0] rfl)
          · have c_41 := (lg_cmp_ne _ _).mp c_41
            refine lv_iconst (v := 0) hx hb dX4_areSoBy_44 (by decide) ?_
            exact hret dX4_areSoBy_45 hH (Or.inl rfl) (⟨rfl, bI_0 (fun w => c_41 (of_decide_eq_true (allR_at w hk)))⟩)
  exact L_2 (n + 1) 0 (Nat.zero_le _) rfl (by omega) _ _ hH ls (lv_sub hl [1, 2, 0] rfl)
