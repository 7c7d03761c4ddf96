abbrev dyOk (n m2 : Nat) (s : Nat → Int32) (a t : Nat) : Prop := canB n m2 (s (a + 4 * t)) (s (a + 4 * t + 1)) (s (a + 4 * t + 2)) (s (a + 4 * t + 3)).toInt64
def dyF (f : Nat → Int64) (m2 : Nat) (kd pa s : Nat → Int32) (a : Nat) : Nat → Nat → Int64
  | 0 => f
  | t + 1 => actF (dyF f m2 kd pa s a t) (s (a + 4 * t)) (amt (s (a + 4 * t)) m2 kd pa (s (a + 4 * t + 3)).toInt64) (s (a + 4 * t + 1)).toNatClampNeg ((s (a + 4 * t + 2)).toNatClampNeg + 1 - (s (a + 4 * t + 1)).toNatClampNeg)
def dyH (f : Nat → Int64) (m2 : Nat) (kd pa s : Nat → Int32) (a : Nat) : Nat → Nat → Int64
  | 0 => f
  | t + 1 => hisF (dyH f m2 kd pa s a t) (dyF f m2 kd pa s a t) (s (a + 4 * t)) (amt (s (a + 4 * t)) m2 kd pa (s (a + 4 * t + 3)).toInt64) (s (a + 4 * t + 1)).toNatClampNeg ((s (a + 4 * t + 2)).toNatClampNeg + 1 - (s (a + 4 * t + 1)).toNatClampNeg)
/-- how many acts of a day can be, from the first on -/
def dyC (n m2 : Nat) (s : Nat → Int32) (a m : Nat) : Nat := pfx (fun t => decide (dyOk n m2 s a t)) m
def dyR (n m2 : Nat) (s : Nat → Int32) (a m : Nat) : Int32 := if dyC n m2 s a m = m then -9 else nI (dyC n m2 s a m)
def dayT (n : Nat) (f : Nat → Int64) (m2 : Nat) (kd pa s : Nat → Int32) (a m : Nat) (w : Int32) : Int64 := if w = 1 then (dyR n m2 s a m).toInt64 else if dyR n m2 s a m = -9 then tdR n (dyF f m2 kd pa s a (dyC n m2 s a m)) (dyH f m2 kd pa s a (dyC n m2 s a m)) w else (-100 - dyR n m2 s a m).toInt64
def dayV (x y q u w : Int32) (hr la : Nat → Int32) (lg : Nat → Nat) (sc : Nat → Nat → Int32) (n : Nat) (f : Nat → Int64) (m2 : Nat) (kd pa : Nat → Int32) : Int64 × Int32 :=
  if (¬ x < 0 ∧ x < 4) ∧ (¬ y < 0 ∧ y ≤ 2) ∧ ¬ u < 0 ∧ ¬ 12 < u ∧ ofDay w then
    (if takF (hr x.toNatClampNeg) (la x.toNatClampNeg) y = 0 then
      (if hasP (lg x.toNatClampNeg) q (4 * u) then
        (if 0 < nI n ∧ allR (fun t => decide (okS (sc x.toNatClampNeg (q.toNatClampNeg + 4 * t)))) u.toNatClampNeg = true then (dayT n f m2 kd pa (sc x.toNatClampNeg) q.toNatClampNeg u.toNatClampNeg w, 0) else (LOSTv, 0))
      else (LOSTv, 3))
    else (LOSTv, takF (hr x.toNatClampNeg) (la x.toNatClampNeg) y))
  else (LOSTv, 0)
theorem n_pos {n : Nat} (hn : n ≤ 16) (h : 0 < nI n) : 1 ≤ n := by
  rcases Nat.eq_zero_or_pos n with w | w
  · subst w
    exact absurd h (by decide)
  · exact w
theorem hpF_le (cd : Nat → Int32) (m : Nat) : ∀ h p q, hpF cd m h p = some q → q ≤ p + 3 * h
  | 0, p, q, e => by
    rw [hpF] at e
    split at e
    · cases e; omega
    · cases e
  | h + 1, p, q, e => by
    rw [hpF] at e
    split at e
    · split at e
      · split at e
        · cases e; omega
        · split at e
          · have := hpF_le cd m h (p + 3) q e
            omega
          · cases e; omega
      · cases e; omega
    · cases e
theorem ffR_le {f : Nat → Int32} {a m q : Nat} (e : ffR f a m = some q) : q ≤ 100 := by
  rw [ffR] at e
  split at e
  · split at e
    · cases e; omega
    · have h1 := hpF_le _ _ _ _ _ e
      have h2 := dgC_le f a m
      omega
  · cases e; omega
theorem enc_none {f : Nat → Int32} {a m : Nat} (h : enc (ffR f a m) = -9) : ffR f a m = none := by
  cases e : ffR f a m with
  | none => rfl
  | some q =>
    rw [e] at h
    have h1 : nI q = -9 := h
    have h2 := nI_pos (n := q) (by have := ffR_le e; omega)
    rw [h1] at h2
    exact absurd (by decide) h2
theorem enc_some {f : Nat → Int32} {a m : Nat} (h : ¬ enc (ffR f a m) = -9) : ∃ q, ffR f a m = some q := by
  cases e : ffR f a m with
  | none => rw [e] at h; exact absurd rfl h
  | some q => exact ⟨q, rfl⟩
def rowD (x y q u : Int32) (hr la : Nat → Int32) (lg : Nat → Nat) (sc : Nat → Nat → Int32) : Option (Int32 × Int32) :=
  if ¬ x < 0 ∧ x < 4 then
    (if ¬ y < 0 ∧ y ≤ 2 then
      (if takF (hr x.toNatClampNeg) (la x.toNatClampNeg) y = 0 then
        (if 0 ≤ u then
          (if hasP (lg x.toNatClampNeg) q u then
            (match ffR (sc x.toNatClampNeg) q.toNatClampNeg u.toNatClampNeg with
              | some v => some (-100 - nI v, 0)
              | none => none)
          else some (-10 - 3, 3))
        else some (-10 - 4, 4))
      else some (-10 - takF (hr x.toNatClampNeg) (la x.toNatClampNeg) y, takF (hr x.toNatClampNeg) (la x.toNatClampNeg) y))
    else some (-2, 0))
  else some (-1, 0)
set_option maxHeartbeats 1000000 in
set_option maxRecDepth 100000 in
theorem c_X8_playDay (l : Launch) (G : qh_G) (z M : Nat) (E : Nat → va_E) (tr : Int32) (lf : Int32) (hM : 84 ≤ M) (b_0 : E 0 = .inr (8, [.ref (z + 1), .ref (z + 2), .ref (z + 7), .ref (z + 10), .ref (z + 13), .ref (z + 39), .ref (z + 40), .ref (z + 43), .ref (z + 46), .ref (z + 49), .ref (z + 52), .int tr, .int lf])) (n : Nat) (m2 : Nat) (j : Nat) (q : Nat) (a : Nat) (m : Nat) (f : Nat → Int64) (g : Nat → Int64) (tf : Nat → Int64) (tg : Nat → Int64) (kd : Nat → Int32) (pa : Nat → Int32) (s : Nat → Int32) (tn : Int32) (t0 : Int32) (a0 : Int32) (b0 : Int32) (sa : Int32) (sb : Int32) (v0 : Int64) (hn : n ≤ 16 ∧ m2 ≤ 3) (hj : j < 4) (hq : a + 4 * m ≤ q ∧ q ≤ 60) (b_40 : E 40 = .inr (3, [.int (nI n), .ref (z + 41), .ref (z + 42)])) (b_41 : E 41 = qa_J G 16 f) (b_42 : E 42 = qa_J G 16 g) (b_7 : E 7 = .inr (1, [.int (nI m2), .ref (z + 8), .ref (z + 9)])) (b_8 : E 8 = qa_I G 3 kd) (b_9 : E 9 = qa_I G 3 pa) (b_46 : E 46 = .inr (3, [.int tn, .ref (z + 47), .ref (z + 48)])) (b_47 : E 47 = qa_J G 16 tf) (b_48 : E 48 = qa_J G 16 tg) (b_39 : E 39 = .inr (0, [.int t0, .int a0, .int b0, .long v0])) (b_55_2_j : E (55 + 2 * j) = .inr (5, [.int sa, .int sb, .int (nI q), .ref (z + (56 + 2 * j))])) (b_56_2_j : E (56 + 2 * j) = qa_I G 60 s) : Met l yX8_playDay wsX8_playDay (qh_R 4) (qh_Pre G z M E [.ref (z + 0), .ref (z + (55 + 2 * j)), .int (nI a), .int (nI m)]) (qh_Q G z M (qh_i (fun r E' => ∃ (u0 u1 u2 : Int32) (u3 : Int64), r = dyR n m2 s a m ∧ E' 39 = .inr (0, [.int u0, .int u1, .int u2, .long u3]) ∧ E' 46 = .inr (3, [.int (nI n), .ref (z + 47), .ref (z + 48)]) ∧ E' 47 = qa_J G 16 (dyF f m2 kd pa s a (dyC n m2 s a m)) ∧ E' 48 = qa_J G 16 (dyH f m2 kd pa s a (dyC n m2 s a m)) ∧ ∀ x9, x9 ≠ 39 → x9 ≠ 46 → x9 ≠ 47 → x9 ≠ 48 → E' x9 = E x9))) 0 0 (fun q => z ≤ q) := by
  refine qh_metI (cc := cX8_playDay) (maxL := 6) (by decide) rfl (Nat.le_of_ble_eq_true rfl) ?_
  intro pZ eZ sZ mZ aZ bZ tZ cZ RR QQ ls hx hb hml hown hts hRf hRl hH hK hl hret
  have hown : sZ.vm.findClass RX8 = some mZ.cls := hown
  have hl : lv_has ls 6 [(0, .ref (z + 0)), (1, .ref (z + (55 + 2 * j))), (2, .int (nI a)), (3, .int (nI m))] := hl
  have in_X8 : ∀ w ∈ wsX80, w ∈ wsX8_playDay := fun w h => List.mem_cons_of_mem _ (List.mem_append_left _ (List.mem_append_left _ (List.mem_append_left _ (List.mem_append_left _ (List.mem_append_right _ h)))))
  have f_58 : qh_F G sZ mZ aZ 58 8 8 := qh_F.of hts in_X8 hown hK rfl 8 (by decide) (by decide +kernel)
  have f_51 : qh_F G sZ mZ aZ 51 8 6 := qh_F.of hts in_X8 hown hK rfl 6 (by decide) (by decide +kernel)
  have f_44 : qh_F G sZ mZ aZ 44 8 5 := qh_F.of hts in_X8 hown hK rfl 5 (by decide) (by decide +kernel)
  have f_27 : qh_F G sZ mZ aZ 27 8 2 := qh_F.of hts in_X8 hown hK rfl 2 (by decide) (by decide +kernel)
  refine lv_aload_n hx hb dX8_playDay_0 rfl (lv_at hl 0 rfl) ?_
  refine qh_get hx hb hH f_58 (by omega) b_0 rfl dX8_playDay_1 ?_
  refine lv_aload_n hx hb dX8_playDay_4 rfl (lv_at hl 0 rfl) ?_
  refine qh_get hx hb hH f_51 (by omega) b_0 rfl dX8_playDay_5 ?_
  refine qh_runV (As := [.ref (z + 40)]) (rest := []) (C := RX3) ⟨hx, hb, hml, hown, hts⟩ hK hH (c_X3_becomeLike l G z M E 46 47 48 40 41 tn (nI n) tf tg f (.ref (z + 42)) (⟨by omega, by omega, by omega, by omega, by omega⟩) (⟨by decide, by decide, by decide, by decide, by decide, by decide, by decide, by decide, by decide⟩) b_46 b_47 b_48 b_40 b_41) (cwV 1 hts gX8_playDay_X3_becomeLike rfl rfl rfl (by decide +kernel) (by rw [hRf, hRl]; exact ⟨Nat.le_of_ble_eq_true rfl, Nat.le_of_ble_eq_true rfl⟩)) (by omega) b_46 rfl rfl hl.1 rfl (Nat.le_of_ble_eq_true rfl) dX8_playDay_8 ⟨Nat.zero_le _, Nat.zero_le _⟩ (qh_kkv fun E_1 H locs hpost hH => ?_)
  obtain ⟨h_46, h_47, h_48, hfr⟩ := hpost
  have hF : ∀ x9, x9 ≠ 46 → x9 ≠ 47 → x9 ≠ 48 → E_1 x9 = E x9 := fun x9 a0 a1 a2 => hfr x9 a0 a1 a2
  refine lv_iconst (v := 0) hx hb dX8_playDay_11 (by decide) ?_
  refine lv_istore (lv' := [(4, .int 0), (0, .ref (z + 0)), (1, .ref (z + (55 + 2 * j))), (2, .int (nI a)), (3, .int (nI m))]) hx hb dX8_playDay_12 hl (by decide) rfl (fun ls hl => ?_)
  have L_14 : ∀ fu : Nat, ∀ t : Nat, ∀ u0 : Int32, ∀ u1 : Int32, ∀ u2 : Int32, ∀ u3 : Int64, (t ≤ m) → (∀ i, i < t → dyOk n m2 s a i) → (m - t < fu) → ∀ Ek : Nat → va_E, Ek 46 = .inr (3, [.int (nI n), .ref (z + 47), .ref (z + 48)]) → Ek 47 = qa_J G 16 (dyF f m2 kd pa s a t) → Ek 48 = qa_J G 16 (dyH f m2 kd pa s a t) → Ek 39 = .inr (0, [.int u0, .int u1, .int u2, .long u3]) → (∀ x9, x9 ≠ 46 → x9 ≠ 47 → x9 ≠ 48 → x9 ≠ 39 → Ek x9 = E x9) → ∀ (H : Heap) (locs : List Loc), qh_H G z M Ek sZ.heap H locs → ∀ ls : Array Slot, lv_has ls 6 [(0, .ref (z + 0)), (1, .ref (z + (55 + 2 * j))), (2, .int (nI a)), (3, .int (nI m)), (4, .int (nI t))] → W pZ l eZ RR sZ mZ aZ bZ tZ cZ H locs 0 0 QQ (F0 mZ 14 ls []) := by
    intro fu
    induction fu with
    | zero =>
      intro t u0 u1 u2 u3 ht hall hfuel
      exact absurd hfuel (by omega)
    | succ fu ih =>
      intro t u0 u1 u2 u3 ht hall hfuel Ek h_46 h_47 h_48 h_39 hF H locs hH ls hl
      refine lv_iload hx hb dX8_playDay_14 (lv_at hl 4 rfl) ?_
      refine lv_iload_n hx hb dX8_playDay_16 rfl (lv_at hl 3 rfl) ?_
      refine lv_icmp_ge (tgt := 102) hx hb dX8_playDay_17 (by decide) (fun c_17 => ?_) (fun c_17 => ?_)
      · have hk : m ≤ t := (nI_leI (by omega) (by omega)).mp c_17
        have hex : m = t := by omega
        subst hex
        refine lv_bipush (v := (-9)) hx hb dX8_playDay_102 (by decide) ?_
        have eC : dyC n m2 s a m = m := pfx_all (fun i w => decide_eq_true (hall i w))
        exact hret dX8_playDay_104 hH (⟨_, _, _, _, by rw [dyR, eC, if_pos rfl], h_39, h_46, by rw [eC]; exact h_47, by rw [eC]; exact h_48, fun x a0 a1 a2 a3 => hF x a1 a2 a3 a0⟩)
      · have hk : ¬ m ≤ t := fun w => c_17 (nI_le w (by omega))
        refine lv_iload_n hx hb dX8_playDay_20 rfl (lv_at hl 2 rfl) ?_
        refine lv_iconst (v := 4) hx hb dX8_playDay_21 (by decide) ?_
        refine lv_iload hx hb dX8_playDay_22 (lv_at hl 4 rfl) ?_
        refine lv_imul hx hb dX8_playDay_24 ?_
        refine qh_topi (y := nI (4 * t)) (pk_mul 4 t) ?_
        refine lv_iadd hx hb dX8_playDay_25 ?_
        refine qh_topi (y := nI (a + 4 * t)) (nI_add _ _) ?_
        refine lv_istore (lv' := [(5, .int (nI (a + 4 * t))), (0, .ref (z + 0)), (1, .ref (z + (55 + 2 * j))), (2, .int (nI a)), (3, .int (nI m)), (4, .int (nI t))]) hx hb dX8_playDay_26 hl (by decide) rfl (fun ls hl => ?_)
        refine lv_aload_n hx hb dX8_playDay_28 rfl (lv_at hl 1 rfl) ?_
        refine qh_get hx hb hH f_44 (by omega) ((hF 0 (by decide) (by decide) (by decide) (by decide)).trans b_0) rfl dX8_playDay_29 ?_
        refine lv_aload_n hx hb dX8_playDay_32 rfl (lv_at hl 2 rfl) ?_
        refine lv_iload hx hb dX8_playDay_33 (lv_at hl 0 rfl) ?_
        refine qh_runV (As := [.int (nI (a + 4 * t))]) (rest := [.ref (z + 39)]) (C := RX5) ⟨hx, hb, hml, hown, hts⟩ hK hH (c_X5_code l G z M Ek (55 + 2 * j) (56 + 2 * j) q sa sb (nI (a + 4 * t)) s (⟨by omega, by omega⟩) (hq.2) ((hF (55 + 2 * j) (by omega) (by omega) (by omega) (by omega)).trans b_55_2_j) ((hF (56 + 2 * j) (by omega) (by omega) (by omega) (by omega)).trans b_56_2_j)) (cwV 1 hts gX8_playDay_X5_code rfl rfl rfl (by decide +kernel) (by rw [hRf, hRl]; exact ⟨Nat.le_of_ble_eq_true rfl, Nat.le_of_ble_eq_true rfl⟩)) (by omega) ((hF (55 + 2 * j) (by omega) (by omega) (by omega) (by omega)).trans b_55_2_j) rfl rfl hl.1 rfl (Nat.le_of_ble_eq_true rfl) dX8_playDay_35 ⟨Nat.zero_le _, Nat.zero_le _⟩ (qh_kki fun r_35 E_2 H locs hpost hH => ?_)
        obtain ⟨rfl, rfl⟩ := hpost
        refine qh_topi (y := s (a + 4 * t)) (codF_in (by omega) (by omega)) ?_
        refine lv_aload_n hx hb dX8_playDay_38 rfl (lv_at hl 2 rfl) ?_
        refine lv_iload hx hb dX8_playDay_39 (lv_at hl 0 rfl) ?_
        refine lv_iconst (v := 1) hx hb dX8_playDay_41 (by decide) ?_
        refine lv_iadd hx hb dX8_playDay_42 ?_
        refine qh_topi (y := nI ((a + 4 * t) + 1)) (nI_1 _) ?_
        refine qh_runV (As := [.int (nI ((a + 4 * t) + 1))]) (rest := [.int (s (a + 4 * t)), .ref (z + 39)]) (C := RX5) ⟨hx, hb, hml, hown, hts⟩ hK hH (c_X5_code l G z M Ek (55 + 2 * j) (56 + 2 * j) q sa sb (nI ((a + 4 * t) + 1)) s (⟨by omega, by omega⟩) (hq.2) ((hF (55 + 2 * j) (by omega) (by omega) (by omega) (by omega)).trans b_55_2_j) ((hF (56 + 2 * j) (by omega) (by omega) (by omega) (by omega)).trans b_56_2_j)) (cwV 1 hts gX8_playDay_X5_code rfl rfl rfl (by decide +kernel) (by rw [hRf, hRl]; exact ⟨Nat.le_of_ble_eq_true rfl, Nat.le_of_ble_eq_true rfl⟩)) (by omega) ((hF (55 + 2 * j) (by omega) (by omega) (by omega) (by omega)).trans b_55_2_j) rfl rfl hl.1 rfl (Nat.le_of_ble_eq_true rfl) dX8_playDay_43 ⟨Nat.zero_le _, Nat.zero_le _⟩ (qh_kki fun r_43 E_3 H locs hpost hH => ?_)
        obtain ⟨rfl, rfl⟩ := hpost
        refine qh_topi (y := s ((a + 4 * t) + 1)) (codF_in (by omega) (by omega)) ?_
        refine lv_aload_n hx hb dX8_playDay_46 rfl (lv_at hl 2 rfl) ?_
        refine lv_iload hx hb dX8_playDay_47 (lv_at hl 0 rfl) ?_
        refine lv_iconst (v := 2) hx hb dX8_playDay_49 (by decide) ?_
        refine lv_iadd hx hb dX8_playDay_50 ?_
        refine qh_topi (y := nI ((a + 4 * t) + 2)) (nI_add _ 2) ?_
        refine qh_runV (As := [.int (nI ((a + 4 * t) + 2))]) (rest := [.int (s ((a + 4 * t) + 1)), .int (s (a + 4 * t)), .ref (z + 39)]) (C := RX5) ⟨hx, hb, hml, hown, hts⟩ hK hH (c_X5_code l G z M Ek (55 + 2 * j) (56 + 2 * j) q sa sb (nI ((a + 4 * t) + 2)) s (⟨by omega, by omega⟩) (hq.2) ((hF (55 + 2 * j) (by omega) (by omega) (by omega) (by omega)).trans b_55_2_j) ((hF (56 + 2 * j) (by omega) (by omega) (by omega) (by omega)).trans b_56_2_j)) (cwV 1 hts gX8_playDay_X5_code rfl rfl rfl (by decide +kernel) (by rw [hRf, hRl]; exact ⟨Nat.le_of_ble_eq_true rfl, Nat.le_of_ble_eq_true rfl⟩)) (by omega) ((hF (55 + 2 * j) (by omega) (by omega) (by omega) (by omega)).trans b_55_2_j) rfl rfl hl.1 rfl (Nat.le_of_ble_eq_true rfl) dX8_playDay_51 ⟨Nat.zero_le _, Nat.zero_le _⟩ (qh_kki fun r_51 E_4 H locs hpost hH => ?_)
        obtain ⟨rfl, rfl⟩ := hpost
        refine qh_topi (y := s ((a + 4 * t) + 2)) (codF_in (by omega) (by omega)) ?_
        refine lv_aload_n hx hb dX8_playDay_54 rfl (lv_at hl 2 rfl) ?_
        refine lv_iload hx hb dX8_playDay_55 (lv_at hl 0 rfl) ?_
        refine lv_iconst (v := 3) hx hb dX8_playDay_57 (by decide) ?_
        refine lv_iadd hx hb dX8_playDay_58 ?_
        refine qh_topi (y := nI ((a + 4 * t) + 3)) (nI_add _ 3) ?_
        refine qh_runV (As := [.int (nI ((a + 4 * t) + 3))]) (rest := [.int (s ((a + 4 * t) + 2)), .int (s ((a + 4 * t) + 1)), .int (s (a + 4 * t)), .ref (z + 39)]) (C := RX5) ⟨hx, hb, hml, hown, hts⟩ hK hH (c_X5_code l G z M Ek (55 + 2 * j) (56 + 2 * j) q sa sb (nI ((a + 4 * t) + 3)) s (⟨by omega, by omega⟩) (hq.2) ((hF (55 + 2 * j) (by omega) (by omega) (by omega) (by omega)).trans b_55_2_j) ((hF (56 + 2 * j) (by omega) (by omega) (by omega) (by omega)).trans b_56_2_j)) (cwV 1 hts gX8_playDay_X5_code rfl rfl rfl (by decide +kernel) (by rw [hRf, hRl]; exact ⟨Nat.le_of_ble_eq_true rfl, Nat.le_of_ble_eq_true rfl⟩)) (by omega) ((hF (55 + 2 * j) (by omega) (by omega) (by omega) (by omega)).trans b_55_2_j) rfl rfl hl.1 rfl (Nat.le_of_ble_eq_true rfl) dX8_playDay_59 ⟨Nat.zero_le _, Nat.zero_le _⟩ (qh_kki fun r_59 E_5 H locs hpost hH => ?_)
        obtain ⟨rfl, rfl⟩ := hpost
        refine qh_topi (y := s ((a + 4 * t) + 3)) (codF_in (by omega) (by omega)) ?_
        refine lv_i2l (v := (s ((a + 4 * t) + 3)).toInt64) hx hb dX8_playDay_62 rfl ?_
        refine qh_runV (As := [.int (s (a + 4 * t)), .int (s ((a + 4 * t) + 1)), .int (s ((a + 4 * t) + 2)), .long ((s ((a + 4 * t) + 3)).toInt64)]) (rest := []) (C := RX0) ⟨hx, hb, hml, hown, hts⟩ hK hH (c_X0_become l G z M Ek 39 u0 u1 u2 u3 (s (a + 4 * t)) (s ((a + 4 * t) + 1)) (s ((a + 4 * t) + 2)) ((s ((a + 4 * t) + 3)).toInt64) (by omega) h_39) (cwV 4 hts gX8_playDay_X0_become rfl rfl rfl (by decide +kernel) (by rw [hRf, hRl]; exact ⟨Nat.le_of_ble_eq_true rfl, Nat.le_of_ble_eq_true rfl⟩)) (by omega) h_39 rfl rfl hl.1 rfl (Nat.le_of_ble_eq_true rfl) dX8_playDay_63 ⟨Nat.zero_le _, Nat.zero_le _⟩ (qh_kkv fun E_6 H locs hpost hH => ?_)
        obtain ⟨h_39, hfr⟩ := hpost
        have h_46 := (hfr 46 (by decide)).trans h_46
        have h_47 := (hfr 47 (by decide)).trans h_47
        have h_48 := (hfr 48 (by decide)).trans h_48
        have hF : ∀ x9, x9 ≠ 46 → x9 ≠ 47 → x9 ≠ 48 → x9 ≠ 39 → E_6 x9 = E x9 := fun x9 a0 a1 a2 a3 => (hfr x9 a3).trans (hF x9 a0 a1 a2 a3)
        refine lv_aload_n hx hb dX8_playDay_66 rfl (lv_at hl 1 rfl) ?_
        refine lv_aload_n hx hb dX8_playDay_67 rfl (lv_at hl 1 rfl) ?_
        refine qh_get hx hb hH f_44 (by omega) ((hF 0 (by decide) (by decide) (by decide) (by decide)).trans b_0) rfl dX8_playDay_68 ?_
        refine qh_runV (As := [.ref (z + 39)]) (rest := []) (C := RX8) ⟨hx, hb, hml, hown, hts⟩ hK hH (c_X8_canBe l G z M E_6 tr lf (hM) ((hF 0 (by decide) (by decide) (by decide) (by decide)).trans b_0) n m2 (s (a + 4 * t)) (s ((a + 4 * t) + 1)) (s ((a + 4 * t) + 2)) ((s ((a + 4 * t) + 3)).toInt64) ((hF 40 (by decide) (by decide) (by decide) (by decide)).trans b_40) ((hF 7 (by decide) (by decide) (by decide) (by decide)).trans b_7) h_39) (cwV 1 hts gX8_playDay_X8_canBe rfl rfl rfl (by decide +kernel) (by rw [hRf, hRl]; exact ⟨Nat.le_of_ble_eq_true rfl, Nat.le_of_ble_eq_true rfl⟩)) (by omega) ((hF 0 (by decide) (by decide) (by decide) (by decide)).trans b_0) rfl rfl hl.1 rfl (Nat.le_of_ble_eq_true rfl) dX8_playDay_71 ⟨Nat.zero_le _, Nat.zero_le _⟩ (qh_kki fun r_71 E_7 H locs hpost hH => ?_)
        obtain ⟨rfl, rfl⟩ := hpost
        refine lv_if_ne (tgt := 80) hx hb dX8_playDay_74 (by decide) (fun c_74 => ?_) (fun c_74 => ?_)
        · have c_74 := bI_ne.mp c_74
          obtain ⟨p1, p2, hp12, hp2, e1, e2⟩ := rfR_ok hn.1 c_74.1
          have E1 : (s ((a + 4 * t) + 1)).toNatClampNeg = p1 := by rw [e1]; exact nI_clamp (by omega)
          have E2 : (s ((a + 4 * t) + 2)).toNatClampNeg = p2 := by rw [e2]; exact nI_clamp (by omega)
          have h_39 : E_6 39 = .inr (0, [.int (s (a + 4 * t)), .int (nI p1), .int (nI p2), .long ((s ((a + 4 * t) + 3)).toInt64)]) := by rw [← e1, ← e2]; exact h_39
          refine lv_aload_n hx hb dX8_playDay_80 rfl (lv_at hl 1 rfl) ?_
          refine qh_get hx hb hH f_58 (by omega) ((hF 0 (by decide) (by decide) (by decide) (by decide)).trans b_0) rfl dX8_playDay_81 ?_
          refine lv_aload_n hx hb dX8_playDay_84 rfl (lv_at hl 1 rfl) ?_
          refine qh_get hx hb hH f_44 (by omega) ((hF 0 (by decide) (by decide) (by decide) (by decide)).trans b_0) rfl dX8_playDay_85 ?_
          refine lv_aload_n hx hb dX8_playDay_88 rfl (lv_at hl 1 rfl) ?_
          refine qh_get hx hb hH f_27 (by omega) ((hF 0 (by decide) (by decide) (by decide) (by decide)).trans b_0) rfl dX8_playDay_89 ?_
          refine qh_runV (As := [.ref (z + 39), .ref (z + 7)]) (rest := []) (C := RX3) ⟨hx, hb, hml, hown, hts⟩ hK hH (c_X3_suffer l G z M E_6 46 47 48 n 39 7 8 9 m2 p1 p2 (s (a + 4 * t)) ((s ((a + 4 * t) + 3)).toInt64) (dyF f m2 kd pa s a t) (dyH f m2 kd pa s a t) kd pa (⟨by omega, by omega, by omega, by omega, by omega, by omega, by omega⟩) (⟨by decide, by decide, by decide, by decide, by decide, by decide, by decide, by decide, by decide, by decide, by decide⟩) (⟨hn.1, hn.2⟩) (⟨by omega, by omega⟩) h_46 h_47 h_48 h_39 ((hF 7 (by decide) (by decide) (by decide) (by decide)).trans b_7) ((hF 8 (by decide) (by decide) (by decide) (by decide)).trans b_8) ((hF 9 (by decide) (by decide) (by decide) (by decide)).trans b_9)) (cwV 2 hts gX8_playDay_X3_suffer rfl rfl rfl (by decide +kernel) (by rw [hRf, hRl]; exact ⟨Nat.le_of_ble_eq_true rfl, Nat.le_of_ble_eq_true rfl⟩)) (by omega) h_46 rfl rfl hl.1 rfl (Nat.le_of_ble_eq_true rfl) dX8_playDay_92 ⟨Nat.zero_le _, Nat.zero_le _⟩ (qh_kki fun r_92 E_8 H locs hpost hH => ?_)
          obtain ⟨rfl, h_47, h_48, hfr⟩ := hpost
          have h_47 : E_8 47 = qa_J G 16 (dyF f m2 kd pa s a (t + 1)) := by rw [dyF, E1, E2]; exact h_47
          have h_48 : E_8 48 = qa_J G 16 (dyH f m2 kd pa s a (t + 1)) := by rw [dyH, E1, E2]; exact h_48
          have h_46 := (hfr 46 (by decide) (by decide)).trans h_46
          have h_39 := (hfr 39 (by decide) (by decide)).trans h_39
          have hF : ∀ x9, x9 ≠ 46 → x9 ≠ 47 → x9 ≠ 48 → x9 ≠ 39 → E_8 x9 = E x9 := fun x9 a0 a1 a2 a3 => (hfr x9 a1 a2).trans (hF x9 a0 a1 a2 a3)
          refine lv_pop hx hb dX8_playDay_95 rfl ?_
          refine lv_iinc (v := nI (t + 1)) (lv' := [(4, .int (nI (t + 1))), (5, .int (nI (a + 4 * t))), (0, .ref (z + 0)), (1, .ref (z + (55 + 2 * j))), (2, .int (nI a)), (3, .int (nI m))]) hx hb dX8_playDay_96 hl (k := 5) rfl (qn_inc t) (by decide) rfl (fun ls hl => ?_)
          refine lv_goto (tgt := 14) hx hb dX8_playDay_99 (by decide) ?_
          exact ih (t + 1) _ _ _ _ (by omega) (fun i w => (Nat.lt_succ_iff_lt_or_eq.mp w).elim (hall i) (fun w2 => w2 ▸ c_74)) (by omega) E_8 h_46 h_47 h_48 h_39 (fun x9 a0 a1 a2 a3 => hF x9 a0 a1 a2 a3) _ _ hH ls (lv_sub hl [2, 3, 4, 5, 0] rfl)
        · have c_74 := bI_eq.mp c_74
          refine lv_iload hx hb dX8_playDay_77 (lv_at hl 5 rfl) ?_
          have eC : dyC n m2 s a m = t := pfx_stop (fun i w => decide_eq_true (hall i w)) (fun w => c_74 (of_decide_eq_true w)) (by omega)
          exact hret dX8_playDay_79 hH (⟨_, _, _, _, by rw [dyR, eC, if_neg (by omega)], h_39, h_46, by rw [eC]; exact h_47, by rw [eC]; exact h_48, fun x a0 a1 a2 a3 => hF x a1 a2 a3 a0⟩)
  exact L_14 (m + 1) 0 _ _ _ _ (Nat.zero_le _) (fun _ w => absurd w (Nat.not_lt_zero _)) (by omega) E_1 h_46 h_47 h_48 ((hF 39 (by decide) (by decide) (by decide)).trans b_39) (fun x9 a0 a1 a2 a3 => hF x9 a0 a1 a2) _ _ hH ls (lv_sub hl [1, 2, 3, 4, 0] rfl)

set_option maxHeartbeats 1000000 in
set_option maxRecDepth 100000 in
theorem c_X8_day (l : Launch) (G : qh_G) (z M : Nat) (E : Nat → va_E) (tr : Int32) (lf : Int32) (n : Nat) (f : Nat → Int64) (g : Nat → Int64) (bf : Nat → Int64) (m2 : Nat) (kd : Nat → Int32) (pa : Nat → Int32) (ln : Nat) (ts : Nat → Int32) (ga : Nat → Nat) (gb : Nat → Nat) (va : Nat → Int64) (rn : Nat) (cn : Nat → Nat) (vs : Nat → Int64) (hr : Nat → Int32) (la : Nat → Int32) (lg : Nat → Nat) (sc : Nat → Nat → Int32) (hM : 84 ≤ M) (hX : XE G z E tr lf n f g bf m2 kd pa ln ts ga gb va rn cn vs hr la lg sc) (hW : XW n m2 ln rn ga gb cn lg hr) (x : Int32) (y : Int32) (q : Int32) (u : Int32) (w : Int32) : Met l yX8_day wsX8_day (qh_R 5) (qh_Pre G z M E [.ref (z + 0), .int x, .int y, .int q, .int u, .int w]) (qh_Q G z M (qh_l (fun r E' => r = (dayV x y q u w hr la lg sc n f m2 kd pa).1 ∧ XE G z E' tr ((dayV x y q u w hr la lg sc n f m2 kd pa).2) n f g bf m2 kd pa ln ts ga gb va rn cn vs hr la lg sc ∧ ∀ x9, 63 ≤ x9 → E' x9 = E x9))) 0 0 (fun q => z ≤ q) := by
  refine qh_metL (cc := cX8_day) (maxL := 9) (by decide) rfl (Nat.le_of_ble_eq_true rfl) ?_
  intro pZ eZ sZ mZ aZ bZ tZ cZ RR QQ ls hx hb hml hown hts hRf hRl hH hK hl hret
  have hown : sZ.vm.findClass RX8 = some mZ.cls := hown
  have hl : lv_has ls 9 [(0, .ref (z + 0)), (1, .int x), (2, .int y), (3, .int q), (4, .int u), (5, .int w)] := hl
  obtain ⟨tc, dg, hn0, tk, tp, gn, gk, gp, t0, a0, b0, v0, bg, tn, tf, tg, b_0, b_1, b_2, b_3, b_4, b_5, b_6, b_7, b_8, b_9, b_10, b_11, b_12, b_13, b_14, b_39, b_40, b_41, b_42, b_43, b_44, b_45, b_46, b_47, b_48, b_49, b_50, b_51, b_52, b_53, b_54, hacts, hsh⟩ := hX
  obtain ⟨⟨hn16, hm3, hl24, hr8⟩, hval, hcn, hlg, hhr⟩ := hW
  have in_X8 : ∀ w ∈ wsX80, w ∈ wsX8_day := fun w h => List.mem_cons_of_mem _ (List.mem_append_left _ (List.mem_append_left _ (List.mem_append_left _ (List.mem_append_left _ (List.mem_append_right _ h)))))
  have w_79 : qh_W G sZ mZ aZ 79 8 12 .int := qh_W.of hts in_X8 tyX8 tyX8_ok nmX8 hown hK rfl 12 (by decide) (by decide +kernel) rfl (by decide +kernel)
  have k_161 := hts (.constantLong RX8 161 (-9223372036854775808)) (by decide +kernel)
  have f_13 : qh_F G sZ mZ aZ 13 8 0 := qh_F.of hts in_X8 hown hK rfl 0 (by decide) (by decide +kernel)
  have f_51 : qh_F G sZ mZ aZ 51 8 6 := qh_F.of hts in_X8 hown hK rfl 6 (by decide) (by decide +kernel)
  refine lv_aload_n hx hb dX8_day_0 rfl (lv_at hl 0 rfl) ?_
  refine lv_iconst (v := 0) hx hb dX8_day_1 (by decide) ?_
  refine qh_put (fs' := [.ref (z + 1), .ref (z + 2), .ref (z + 7), .ref (z + 10), .ref (z + 13), .ref (z + 39), .ref (z + 40), .ref (z + 43), .ref (z + 46), .ref (z + 49), .ref (z + 52), .int tr, .int 0]) hx hb hH w_79 (by omega) b_0 rfl rfl (Nat.le_of_ble_eq_true rfl) rfl dX8_day_2 (fun E_1 H locs h_0 hfr hH _ => ?_)
  have hF : ∀ x9, x9 ≠ 0 → E_1 x9 = E x9 := fun x9 a0 => hfr x9 a0
  refine lv_iload_n hx hb dX8_day_5 rfl (lv_at hl 1 rfl) ?_
  refine qh_runS (As := [.int x]) (rest := []) ⟨hx, hb, hml, hown, hts⟩ hK hH (c_X8_isSheet l G z M E_1 x) (va_cwS 1 hts gX8_day_X8_isSheet rfl rfl rfl (by decide +kernel) (by rw [hRf, hRl]; exact ⟨Nat.le_of_ble_eq_true rfl, Nat.le_of_ble_eq_true rfl⟩)) rfl hl.1 rfl (Nat.le_of_ble_eq_true rfl) dX8_day_6 ⟨Nat.zero_le _, Nat.zero_le _⟩ (qh_kki fun r_6 E_2 H locs hpost hH => ?_)
  obtain ⟨rfl, rfl⟩ := hpost
  refine lv_if_eq (tgt := 39) hx hb dX8_day_9 (by decide) (fun c_9 => ?_) (fun c_9 => ?_)
  · have c_9 := bI_eq.mp c_9
    have hD : dayV x y q u w hr la lg sc n f m2 kd pa = (LOSTv, 0) := by rw [dayV, if_neg (fun v => c_9 v.1)]
    refine lv_ldc2 hx hb hown k_161 dX8_day_39 ?_
    refine qh_topl (y := LOSTv) (rfl) ?_
    exact hret dX8_day_42 hH (by rw [hD]; exact ⟨rfl, ⟨_, _, _, _, _, _, _, _, _, _, _, _, _, _, _, _, h_0, ((hF 1 (by decide)).trans b_1), ((hF 2 (by decide)).trans b_2), ((hF 3 (by decide)).trans b_3), ((hF 4 (by decide)).trans b_4), ((hF 5 (by decide)).trans b_5), ((hF 6 (by decide)).trans b_6), ((hF 7 (by decide)).trans b_7), ((hF 8 (by decide)).trans b_8), ((hF 9 (by decide)).trans b_9), ((hF 10 (by decide)).trans b_10), ((hF 11 (by decide)).trans b_11), ((hF 12 (by decide)).trans b_12), ((hF 13 (by decide)).trans b_13), ((hF 14 (by decide)).trans b_14), ((hF 39 (by decide)).trans b_39), ((hF 40 (by decide)).trans b_40), ((hF 41 (by decide)).trans b_41), ((hF 42 (by decide)).trans b_42), ((hF 43 (by decide)).trans b_43), ((hF 44 (by decide)).trans b_44), ((hF 45 (by decide)).trans b_45), ((hF 46 (by decide)).trans b_46), ((hF 47 (by decide)).trans b_47), ((hF 48 (by decide)).trans b_48), ((hF 49 (by decide)).trans b_49), ((hF 50 (by decide)).trans b_50), ((hF 51 (by decide)).trans b_51), ((hF 52 (by decide)).trans b_52), ((hF 53 (by decide)).trans b_53), ((hF 54 (by decide)).trans b_54), (fun t ht => (hF (15 + t) (by omega)).trans (hacts t ht)), (fun k hk => ⟨(hF (55 + 2 * k) (by omega)).trans (hsh k hk).1, (hF (56 + 2 * k) (by omega)).trans (hsh k hk).2⟩)⟩, (fun x9 h9 => hF x9 (by omega))⟩)
  · have c_9 := bI_ne.mp c_9
    refine lv_iload_n hx hb dX8_day_12 rfl (lv_at hl 2 rfl) ?_
    refine qh_runS (As := [.int y]) (rest := []) ⟨hx, hb, hml, hown, hts⟩ hK hH (c_X8_isLane l G z M E_1 y) (va_cwS 1 hts gX8_day_X8_isLane rfl rfl rfl (by decide +kernel) (by rw [hRf, hRl]; exact ⟨Nat.le_of_ble_eq_true rfl, Nat.le_of_ble_eq_true rfl⟩)) rfl hl.1 rfl (Nat.le_of_ble_eq_true rfl) dX8_day_13 ⟨Nat.zero_le _, Nat.zero_le _⟩ (qh_kki fun r_13 E_3 H locs hpost hH => ?_)
    obtain ⟨rfl, rfl⟩ := hpost
    refine lv_if_eq (tgt := 39) hx hb dX8_day_16 (by decide) (fun c_16 => ?_) (fun c_16 => ?_)
    · have c_16 := bI_eq.mp c_16
      have hD : dayV x y q u w hr la lg sc n f m2 kd pa = (LOSTv, 0) := by rw [dayV, if_neg (fun v => c_16 v.2.1)]
      refine lv_ldc2 hx hb hown k_161 dX8_day_39 ?_
      refine qh_topl (y := LOSTv) (rfl) ?_
      exact hret dX8_day_42 hH (by rw [hD]; exact ⟨rfl, ⟨_, _, _, _, _, _, _, _, _, _, _, _, _, _, _, _, h_0, ((hF 1 (by decide)).trans b_1), ((hF 2 (by decide)).trans b_2), ((hF 3 (by decide)).trans b_3), ((hF 4 (by decide)).trans b_4), ((hF 5 (by decide)).trans b_5), ((hF 6 (by decide)).trans b_6), ((hF 7 (by decide)).trans b_7), ((hF 8 (by decide)).trans b_8), ((hF 9 (by decide)).trans b_9), ((hF 10 (by decide)).trans b_10), ((hF 11 (by decide)).trans b_11), ((hF 12 (by decide)).trans b_12), ((hF 13 (by decide)).trans b_13), ((hF 14 (by decide)).trans b_14), ((hF 39 (by decide)).trans b_39), ((hF 40 (by decide)).trans b_40), ((hF 41 (by decide)).trans b_41), ((hF 42 (by decide)).trans b_42), ((hF 43 (by decide)).trans b_43), ((hF 44 (by decide)).trans b_44), ((hF 45 (by decide)).trans b_45), ((hF 46 (by decide)).trans b_46), ((hF 47 (by decide)).trans b_47), ((hF 48 (by decide)).trans b_48), ((hF 49 (by decide)).trans b_49), ((hF 50 (by decide)).trans b_50), ((hF 51 (by decide)).trans b_51), ((hF 52 (by decide)).trans b_52), ((hF 53 (by decide)).trans b_53), ((hF 54 (by decide)).trans b_54), (fun t ht => (hF (15 + t) (by omega)).trans (hacts t ht)), (fun k hk => ⟨(hF (55 + 2 * k) (by omega)).trans (hsh k hk).1, (hF (56 + 2 * k) (by omega)).trans (hsh k hk).2⟩)⟩, (fun x9 h9 => hF x9 (by omega))⟩)
    · have c_16 := bI_ne.mp c_16
      refine lv_iload hx hb dX8_day_19 (lv_at hl 4 rfl) ?_
      refine lv_if_lt (tgt := 39) hx hb dX8_day_21 (by decide) (fun c_21 => ?_) (fun c_21 => ?_)
      · have hD : dayV x y q u w hr la lg sc n f m2 kd pa = (LOSTv, 0) := by rw [dayV, if_neg (fun v => v.2.2.1 c_21)]
        refine lv_ldc2 hx hb hown k_161 dX8_day_39 ?_
        refine qh_topl (y := LOSTv) (rfl) ?_
        exact hret dX8_day_42 hH (by rw [hD]; exact ⟨rfl, ⟨_, _, _, _, _, _, _, _, _, _, _, _, _, _, _, _, h_0, ((hF 1 (by decide)).trans b_1), ((hF 2 (by decide)).trans b_2), ((hF 3 (by decide)).trans b_3), ((hF 4 (by decide)).trans b_4), ((hF 5 (by decide)).trans b_5), ((hF 6 (by decide)).trans b_6), ((hF 7 (by decide)).trans b_7), ((hF 8 (by decide)).trans b_8), ((hF 9 (by decide)).trans b_9), ((hF 10 (by decide)).trans b_10), ((hF 11 (by decide)).trans b_11), ((hF 12 (by decide)).trans b_12), ((hF 13 (by decide)).trans b_13), ((hF 14 (by decide)).trans b_14), ((hF 39 (by decide)).trans b_39), ((hF 40 (by decide)).trans b_40), ((hF 41 (by decide)).trans b_41), ((hF 42 (by decide)).trans b_42), ((hF 43 (by decide)).trans b_43), ((hF 44 (by decide)).trans b_44), ((hF 45 (by decide)).trans b_45), ((hF 46 (by decide)).trans b_46), ((hF 47 (by decide)).trans b_47), ((hF 48 (by decide)).trans b_48), ((hF 49 (by decide)).trans b_49), ((hF 50 (by decide)).trans b_50), ((hF 51 (by decide)).trans b_51), ((hF 52 (by decide)).trans b_52), ((hF 53 (by decide)).trans b_53), ((hF 54 (by decide)).trans b_54), (fun t ht => (hF (15 + t) (by omega)).trans (hacts t ht)), (fun k hk => ⟨(hF (55 + 2 * k) (by omega)).trans (hsh k hk).1, (hF (56 + 2 * k) (by omega)).trans (hsh k hk).2⟩)⟩, (fun x9 h9 => hF x9 (by omega))⟩)
      · refine lv_iload hx hb dX8_day_24 (lv_at hl 4 rfl) ?_
        refine lv_bipush (v := 12) hx hb dX8_day_26 (by decide) ?_
        refine lv_icmp_gt (tgt := 39) hx hb dX8_day_28 (by decide) (fun c_28 => ?_) (fun c_28 => ?_)
        · have hD : dayV x y q u w hr la lg sc n f m2 kd pa = (LOSTv, 0) := by rw [dayV, if_neg (fun v => v.2.2.2.1 c_28)]
          refine lv_ldc2 hx hb hown k_161 dX8_day_39 ?_
          refine qh_topl (y := LOSTv) (rfl) ?_
          exact hret dX8_day_42 hH (by rw [hD]; exact ⟨rfl, ⟨_, _, _, _, _, _, _, _, _, _, _, _, _, _, _, _, h_0, ((hF 1 (by decide)).trans b_1), ((hF 2 (by decide)).trans b_2), ((hF 3 (by decide)).trans b_3), ((hF 4 (by decide)).trans b_4), ((hF 5 (by decide)).trans b_5), ((hF 6 (by decide)).trans b_6), ((hF 7 (by decide)).trans b_7), ((hF 8 (by decide)).trans b_8), ((hF 9 (by decide)).trans b_9), ((hF 10 (by decide)).trans b_10), ((hF 11 (by decide)).trans b_11), ((hF 12 (by decide)).trans b_12), ((hF 13 (by decide)).trans b_13), ((hF 14 (by decide)).trans b_14), ((hF 39 (by decide)).trans b_39), ((hF 40 (by decide)).trans b_40), ((hF 41 (by decide)).trans b_41), ((hF 42 (by decide)).trans b_42), ((hF 43 (by decide)).trans b_43), ((hF 44 (by decide)).trans b_44), ((hF 45 (by decide)).trans b_45), ((hF 46 (by decide)).trans b_46), ((hF 47 (by decide)).trans b_47), ((hF 48 (by decide)).trans b_48), ((hF 49 (by decide)).trans b_49), ((hF 50 (by decide)).trans b_50), ((hF 51 (by decide)).trans b_51), ((hF 52 (by decide)).trans b_52), ((hF 53 (by decide)).trans b_53), ((hF 54 (by decide)).trans b_54), (fun t ht => (hF (15 + t) (by omega)).trans (hacts t ht)), (fun k hk => ⟨(hF (55 + 2 * k) (by omega)).trans (hsh k hk).1, (hF (56 + 2 * k) (by omega)).trans (hsh k hk).2⟩)⟩, (fun x9 h9 => hF x9 (by omega))⟩)
        · refine lv_iload hx hb dX8_day_31 (lv_at hl 5 rfl) ?_
          refine qh_runS (As := [.int w]) (rest := []) ⟨hx, hb, hml, hown, hts⟩ hK hH (c_X8_isOfDay l G z M E_1 w) (va_cwS 1 hts gX8_day_X8_isOfDay rfl rfl rfl (by decide +kernel) (by rw [hRf, hRl]; exact ⟨Nat.le_of_ble_eq_true rfl, Nat.le_of_ble_eq_true rfl⟩)) rfl hl.1 rfl (Nat.le_of_ble_eq_true rfl) dX8_day_33 ⟨Nat.zero_le _, Nat.zero_le _⟩ (qh_kki fun r_33 E_4 H locs hpost hH => ?_)
          obtain ⟨rfl, rfl⟩ := hpost
          refine lv_if_ne (tgt := 43) hx hb dX8_day_36 (by decide) (fun c_36 => ?_) (fun c_36 => ?_)
          · have c_36 := bI_ne.mp c_36
            obtain ⟨j, hj, ej⟩ := nI_of_in (k := x) (c := 4) (by decide) c_9
            have Ej : x.toNatClampNeg = j := by rw [ej]; exact nI_clamp (by omega)
            obtain ⟨m1, hm1, em⟩ := nI_of2 (x := u) (M := 12) (n := 12) rfl c_21 (Int32.not_lt.mp c_28)
            have Em : u.toNatClampNeg = m1 := by rw [em]; exact nI_clamp (by omega)
            have hlj := hlg j hj
            refine lv_aload_n hx hb dX8_day_43 rfl (lv_at hl 0 rfl) ?_
            refine qh_get hx hb hH f_13 (by omega) h_0 rfl dX8_day_44 ?_
            refine lv_iload_n hx hb dX8_day_47 rfl (lv_at hl 1 rfl) ?_
            refine qh_aaldS (a := z + (55 + 2 * j)) hx hb hK hH (by omega) ((hF 1 (by decide)).trans b_1) (j := j) (ej) (hj) (by omega) (rfl) dX8_day_48 ?_
            refine lv_astore (lv' := [(6, .ref (z + (55 + 2 * j))), (0, .ref (z + 0)), (1, .int x), (2, .int y), (3, .int q), (4, .int u), (5, .int w)]) hx hb dX8_day_49 hl (by decide) rfl (fun ls hl => ?_)
            refine lv_aload hx hb dX8_day_51 (lv_at hl 0 rfl) ?_
            refine lv_iload_n hx hb dX8_day_53 rfl (lv_at hl 3 rfl) ?_
            refine qh_runV (As := [.int y]) (rest := []) (C := RX5) ⟨hx, hb, hml, hown, hts⟩ hK hH (c_X5_faultTakenAs l G z M E_1 (55 + 2 * j) (hr j) (la j) (nI (lg j)) y (.ref (z + (56 + 2 * j))) (by omega) ((hF (55 + 2 * j) (by omega)).trans (hsh j (by omega)).1)) (cwV 1 hts gX8_day_X5_faultTakenAs rfl rfl rfl (by decide +kernel) (by rw [hRf, hRl]; exact ⟨Nat.le_of_ble_eq_true rfl, Nat.le_of_ble_eq_true rfl⟩)) (by omega) ((hF (55 + 2 * j) (by omega)).trans (hsh j (by omega)).1) rfl rfl hl.1 rfl (Nat.le_of_ble_eq_true rfl) dX8_day_54 ⟨Nat.zero_le _, Nat.zero_le _⟩ (qh_kki fun r_54 E_5 H locs hpost hH => ?_)
            obtain ⟨rfl, rfl⟩ := hpost
            refine qh_topi (y := takF (hr j) (la j) y) (rfl) ?_
            refine lv_istore (lv' := [(7, .int (takF (hr j) (la j) y)), (6, .ref (z + (55 + 2 * j))), (0, .ref (z + 0)), (1, .int x), (2, .int y), (3, .int q), (4, .int u), (5, .int w)]) hx hb dX8_day_57 hl (by decide) rfl (fun ls hl => ?_)
            refine lv_iload hx hb dX8_day_59 (lv_at hl 0 rfl) ?_
            refine lv_if_eq (tgt := 71) hx hb dX8_day_61 (by decide) (fun c_61 => ?_) (fun c_61 => ?_)
            · refine lv_aload hx hb dX8_day_71 (lv_at hl 1 rfl) ?_
              refine lv_iload_n hx hb dX8_day_73 rfl (lv_at hl 5 rfl) ?_
              refine lv_iconst (v := 4) hx hb dX8_day_74 (by decide) ?_
              refine lv_iload hx hb dX8_day_75 (lv_at hl 6 rfl) ?_
              refine lv_imul hx hb dX8_day_77 ?_
              refine qh_runV (As := [.int q, .int (4 * u)]) (rest := []) (C := RX5) ⟨hx, hb, hml, hown, hts⟩ hK hH (c_X5_hasCells l G z M E_1 (55 + 2 * j) (hr j) (la j) (nI (lg j)) q (4 * u) (.ref (z + (56 + 2 * j))) (by omega) ((hF (55 + 2 * j) (by omega)).trans (hsh j (by omega)).1)) (cwV 2 hts gX8_day_X5_hasCells rfl rfl rfl (by decide +kernel) (by rw [hRf, hRl]; exact ⟨Nat.le_of_ble_eq_true rfl, Nat.le_of_ble_eq_true rfl⟩)) (by omega) ((hF (55 + 2 * j) (by omega)).trans (hsh j (by omega)).1) rfl rfl hl.1 rfl (Nat.le_of_ble_eq_true rfl) dX8_day_78 ⟨Nat.zero_le _, Nat.zero_le _⟩ (qh_kki fun r_78 E_6 H locs hpost hH => ?_)
              obtain ⟨rfl, rfl⟩ := hpost
              refine lv_if_ne (tgt := 90) hx hb dX8_day_81 (by decide) (fun c_81 => ?_) (fun c_81 => ?_)
              · have c_81 := bI_ne.mp c_81
                obtain ⟨a, b4, ea, eb4, hab4⟩ := has_n hlj c_81
                have e4 : 4 * m1 = b4 := (nI_eq (by omega) (by omega)).mp (by rw [← eb4, em]; exact (pk_mul 4 m1).symm)
                have Ea : q.toNatClampNeg = a := by rw [ea]; exact nI_clamp (by omega)
                have hl : lv_has ls 9 [(7, .int (takF (hr j) (la j) y)), (6, .ref (z + (55 + 2 * j))), (0, .ref (z + 0)), (1, .int x), (2, .int y), (3, .int (nI a)), (4, .int u), (5, .int w)] := by rw [← ea]; exact hl
                have hl : lv_has ls 9 [(7, .int (takF (hr j) (la j) y)), (6, .ref (z + (55 + 2 * j))), (0, .ref (z + 0)), (1, .int x), (2, .int y), (3, .int (nI a)), (4, .int (nI m1)), (5, .int w)] := by rw [← em]; exact hl
                refine lv_aload_n hx hb dX8_day_90 rfl (lv_at hl 2 rfl) ?_
                refine qh_get hx hb hH f_51 (by omega) h_0 rfl dX8_day_91 ?_
                refine qh_runV (As := []) (rest := []) (C := RX3) ⟨hx, hb, hml, hown, hts⟩ hK hH (c_X3_areThere l G z M E_1 40 (by omega) (nI n) (.ref (z + 41)) (.ref (z + 42)) ((hF 40 (by decide)).trans b_40)) (cwV 0 hts gX8_day_X3_areThere rfl rfl rfl (by decide +kernel) (by rw [hRf, hRl]; exact ⟨Nat.le_of_ble_eq_true rfl, Nat.le_of_ble_eq_true rfl⟩)) (by omega) ((hF 40 (by decide)).trans b_40) rfl rfl hl.1 rfl (Nat.le_of_ble_eq_true rfl) dX8_day_94 ⟨Nat.zero_le _, Nat.zero_le _⟩ (qh_kki fun r_94 E_7 H locs hpost hH => ?_)
                obtain ⟨rfl, rfl⟩ := hpost
                refine lv_if_eq (tgt := 111) hx hb dX8_day_97 (by decide) (fun c_97 => ?_) (fun c_97 => ?_)
                · have c_97 := bI_eq.mp c_97
                  have hD : dayV x y q u w hr la lg sc n f m2 kd pa = (LOSTv, 0) := by rw [dayV, if_pos ⟨c_9, c_16, c_21, c_28, c_36⟩, Ej, if_pos c_61, if_pos c_81, if_neg (fun v => c_97 v.1)]
                  refine lv_ldc2 hx hb hown k_161 dX8_day_111 ?_
                  refine qh_topl (y := LOSTv) (rfl) ?_
                  exact hret dX8_day_114 hH (by rw [hD]; exact ⟨rfl, ⟨_, _, _, _, _, _, _, _, _, _, _, _, _, _, _, _, h_0, ((hF 1 (by decide)).trans b_1), ((hF 2 (by decide)).trans b_2), ((hF 3 (by decide)).trans b_3), ((hF 4 (by decide)).trans b_4), ((hF 5 (by decide)).trans b_5), ((hF 6 (by decide)).trans b_6), ((hF 7 (by decide)).trans b_7), ((hF 8 (by decide)).trans b_8), ((hF 9 (by decide)).trans b_9), ((hF 10 (by decide)).trans b_10), ((hF 11 (by decide)).trans b_11), ((hF 12 (by decide)).trans b_12), ((hF 13 (by decide)).trans b_13), ((hF 14 (by decide)).trans b_14), ((hF 39 (by decide)).trans b_39), ((hF 40 (by decide)).trans b_40), ((hF 41 (by decide)).trans b_41), ((hF 42 (by decide)).trans b_42), ((hF 43 (by decide)).trans b_43), ((hF 44 (by decide)).trans b_44), ((hF 45 (by decide)).trans b_45), ((hF 46 (by decide)).trans b_46), ((hF 47 (by decide)).trans b_47), ((hF 48 (by decide)).trans b_48), ((hF 49 (by decide)).trans b_49), ((hF 50 (by decide)).trans b_50), ((hF 51 (by decide)).trans b_51), ((hF 52 (by decide)).trans b_52), ((hF 53 (by decide)).trans b_53), ((hF 54 (by decide)).trans b_54), (fun t ht => (hF (15 + t) (by omega)).trans (hacts t ht)), (fun k hk => ⟨(hF (55 + 2 * k) (by omega)).trans (hsh k hk).1, (hF (56 + 2 * k) (by omega)).trans (hsh k hk).2⟩)⟩, (fun x9 h9 => hF x9 (by omega))⟩)
                · have c_97 := bI_ne.mp c_97
                  refine lv_aload hx hb dX8_day_100 (lv_at hl 1 rfl) ?_
                  refine lv_iload_n hx hb dX8_day_102 rfl (lv_at hl 5 rfl) ?_
                  refine lv_iload hx hb dX8_day_103 (lv_at hl 6 rfl) ?_
                  refine qh_runS (As := [.ref (z + (55 + 2 * j)), .int (nI a), .int (nI m1)]) (rest := []) ⟨hx, hb, hml, hown, hts⟩ hK hH (c_X8_sortsAreKnown l G z M E_1 (55 + 2 * j) (56 + 2 * j) (lg j) a m1 (hr j) (la j) (sc j) (⟨by omega, by omega⟩) (⟨by omega, by omega⟩) ((hF (55 + 2 * j) (by omega)).trans (hsh j (by omega)).1) ((hF (56 + 2 * j) (by omega)).trans (hsh j (by omega)).2)) (va_cwS 3 hts gX8_day_X8_sortsAreKnown rfl rfl rfl (by decide +kernel) (by rw [hRf, hRl]; exact ⟨Nat.le_of_ble_eq_true rfl, Nat.le_of_ble_eq_true rfl⟩)) rfl hl.1 rfl (Nat.le_of_ble_eq_true rfl) dX8_day_105 ⟨Nat.zero_le _, Nat.zero_le _⟩ (qh_kki fun r_105 E_8 H locs hpost hH => ?_)
                  obtain ⟨rfl, rfl⟩ := hpost
                  refine lv_if_ne (tgt := 115) hx hb dX8_day_108 (by decide) (fun c_108 => ?_) (fun c_108 => ?_)
                  · have c_108 := bI_ne.mp c_108
                    have hn1 : 1 ≤ n := n_pos hn16 c_97
                    have hDD : dayV x y q u w hr la lg sc n f m2 kd pa = (dayT n f m2 kd pa (sc j) a m1 w, 0) := by rw [dayV, if_pos ⟨c_9, c_16, c_21, c_28, c_36⟩, Ej, if_pos c_61, if_pos c_81, Ea, Em, if_pos ⟨c_97, c_108⟩]
                    refine lv_aload_n hx hb dX8_day_115 rfl (lv_at hl 2 rfl) ?_
                    refine lv_aload hx hb dX8_day_116 (lv_at hl 1 rfl) ?_
                    refine lv_iload_n hx hb dX8_day_118 rfl (lv_at hl 5 rfl) ?_
                    refine lv_iload hx hb dX8_day_119 (lv_at hl 6 rfl) ?_
                    refine qh_runV (As := [.ref (z + (55 + 2 * j)), .int (nI a), .int (nI m1)]) (rest := []) (C := RX8) ⟨hx, hb, hml, hown, hts⟩ hK hH (c_X8_playDay l G z M E_1 tr 0 (hM) h_0 n m2 j (lg j) a m1 f g tf tg kd pa (sc j) tn t0 a0 b0 (hr j) (la j) v0 (⟨by omega, by omega⟩) (by omega) (⟨by omega, by omega⟩) ((hF 40 (by decide)).trans b_40) ((hF 41 (by decide)).trans b_41) ((hF 42 (by decide)).trans b_42) ((hF 7 (by decide)).trans b_7) ((hF 8 (by decide)).trans b_8) ((hF 9 (by decide)).trans b_9) ((hF 46 (by decide)).trans b_46) ((hF 47 (by decide)).trans b_47) ((hF 48 (by decide)).trans b_48) ((hF 39 (by decide)).trans b_39) ((hF (55 + 2 * j) (by omega)).trans (hsh j (by omega)).1) ((hF (56 + 2 * j) (by omega)).trans (hsh j (by omega)).2)) (cwV 3 hts gX8_day_X8_playDay rfl rfl rfl (by decide +kernel) (by rw [hRf, hRl]; exact ⟨Nat.le_of_ble_eq_true rfl, Nat.le_of_ble_eq_true rfl⟩)) (by omega) h_0 rfl rfl hl.1 rfl (Nat.le_of_ble_eq_true rfl) dX8_day_121 ⟨Nat.zero_le _, Nat.zero_le _⟩ (qh_kki fun r_121 E_9 H locs hpost hH => ?_)
                    obtain ⟨u0, u1, u2, u3, rfl, h_39, h_46, h_47, h_48, hfr⟩ := hpost
                    have h_0 := (hfr 0 (by decide) (by decide) (by decide) (by decide)).trans h_0
                    have hF : ∀ x9, x9 ≠ 0 → x9 ≠ 39 → x9 ≠ 46 → x9 ≠ 47 → x9 ≠ 48 → E_9 x9 = E x9 := fun x9 a0 a1 a2 a3 a4 => (hfr x9 a1 a2 a3 a4).trans (hF x9 a0)
                    refine lv_istore (lv' := [(8, .int (dyR n m2 (sc j) a m1)), (7, .int (takF (hr j) (la j) y)), (6, .ref (z + (55 + 2 * j))), (0, .ref (z + 0)), (1, .int x), (2, .int y), (3, .int (nI a)), (4, .int (nI m1)), (5, .int w)]) hx hb dX8_day_124 hl (by decide) rfl (fun ls hl => ?_)
                    refine lv_iload hx hb dX8_day_126 (lv_at hl 8 rfl) ?_
                    refine lv_iconst (v := 1) hx hb dX8_day_128 (by decide) ?_
                    refine lv_icmp_ne (tgt := 136) hx hb dX8_day_129 (by decide) (fun c_129 => ?_) (fun c_129 => ?_)
                    · refine lv_iload hx hb dX8_day_136 (lv_at hl 0 rfl) ?_
                      refine lv_bipush (v := (-9)) hx hb dX8_day_138 (by decide) ?_
                      refine lv_icmp_eq (tgt := 152) hx hb dX8_day_140 (by decide) (fun c_140 => ?_) (fun c_140 => ?_)
                      · have hD : dayV x y q u w hr la lg sc n f m2 kd pa = (tdR n (dyF f m2 kd pa (sc j) a (dyC n m2 (sc j) a m1)) (dyH f m2 kd pa (sc j) a (dyC n m2 (sc j) a m1)) w, 0) := by rw [hDD, dayT, if_neg c_129, if_pos c_140]
                        refine lv_aload_n hx hb dX8_day_152 rfl (lv_at hl 3 rfl) ?_
                        refine lv_iload hx hb dX8_day_153 (lv_at hl 8 rfl) ?_
                        refine qh_runV (As := [.int w]) (rest := []) (C := RX8) ⟨hx, hb, hml, hown, hts⟩ hK hH (c_X8_ofTrial l G z M E_9 tr 0 (hM) h_0 n (dyF f m2 kd pa (sc j) a (dyC n m2 (sc j) a m1)) (dyH f m2 kd pa (sc j) a (dyC n m2 (sc j) a m1)) w (⟨by omega, by omega⟩) (c_129) h_46 h_47 h_48) (cwV 1 hts gX8_day_X8_ofTrial rfl rfl rfl (by decide +kernel) (by rw [hRf, hRl]; exact ⟨Nat.le_of_ble_eq_true rfl, Nat.le_of_ble_eq_true rfl⟩)) (by omega) h_0 rfl rfl hl.1 rfl (Nat.le_of_ble_eq_true rfl) dX8_day_155 ⟨Nat.zero_le _, Nat.zero_le _⟩ (qh_kkl fun r_155 E_10 H locs hpost hH => ?_)
                        obtain ⟨rfl, rfl⟩ := hpost
                        exact hret dX8_day_158 hH (by rw [hD]; exact ⟨rfl, ⟨_, _, _, _, _, _, _, _, _, _, _, _, _, _, _, _, h_0, ((hF 1 (by decide) (by decide) (by decide) (by decide) (by decide)).trans b_1), ((hF 2 (by decide) (by decide) (by decide) (by decide) (by decide)).trans b_2), ((hF 3 (by decide) (by decide) (by decide) (by decide) (by decide)).trans b_3), ((hF 4 (by decide) (by decide) (by decide) (by decide) (by decide)).trans b_4), ((hF 5 (by decide) (by decide) (by decide) (by decide) (by decide)).trans b_5), ((hF 6 (by decide) (by decide) (by decide) (by decide) (by decide)).trans b_6), ((hF 7 (by decide) (by decide) (by decide) (by decide) (by decide)).trans b_7), ((hF 8 (by decide) (by decide) (by decide) (by decide) (by decide)).trans b_8), ((hF 9 (by decide) (by decide) (by decide) (by decide) (by decide)).trans b_9), ((hF 10 (by decide) (by decide) (by decide) (by decide) (by decide)).trans b_10), ((hF 11 (by decide) (by decide) (by decide) (by decide) (by decide)).trans b_11), ((hF 12 (by decide) (by decide) (by decide) (by decide) (by decide)).trans b_12), ((hF 13 (by decide) (by decide) (by decide) (by decide) (by decide)).trans b_13), ((hF 14 (by decide) (by decide) (by decide) (by decide) (by decide)).trans b_14), h_39, ((hF 40 (by decide) (by decide) (by decide) (by decide) (by decide)).trans b_40), ((hF 41 (by decide) (by decide) (by decide) (by decide) (by decide)).trans b_41), ((hF 42 (by decide) (by decide) (by decide) (by decide) (by decide)).trans b_42), ((hF 43 (by decide) (by decide) (by decide) (by decide) (by decide)).trans b_43), ((hF 44 (by decide) (by decide) (by decide) (by decide) (by decide)).trans b_44), ((hF 45 (by decide) (by decide) (by decide) (by decide) (by decide)).trans b_45), h_46, h_47, h_48, ((hF 49 (by decide) (by decide) (by decide) (by decide) (by decide)).trans b_49), ((hF 50 (by decide) (by decide) (by decide) (by decide) (by decide)).trans b_50), ((hF 51 (by decide) (by decide) (by decide) (by decide) (by decide)).trans b_51), ((hF 52 (by decide) (by decide) (by decide) (by decide) (by decide)).trans b_52), ((hF 53 (by decide) (by decide) (by decide) (by decide) (by decide)).trans b_53), ((hF 54 (by decide) (by decide) (by decide) (by decide) (by decide)).trans b_54), (fun t ht => (hF (15 + t) (by omega) (by omega) (by omega) (by omega) (by omega)).trans (hacts t ht)), (fun k hk => ⟨(hF (55 + 2 * k) (by omega) (by omega) (by omega) (by omega) (by omega)).trans (hsh k hk).1, (hF (56 + 2 * k) (by omega) (by omega) (by omega) (by omega) (by omega)).trans (hsh k hk).2⟩)⟩, (fun x9 h9 => hF x9 (by omega) (by omega) (by omega) (by omega) (by omega))⟩)
                      · have hD : dayV x y q u w hr la lg sc n f m2 kd pa = ((-100 - dyR n m2 (sc j) a m1).toInt64, 0) := by rw [hDD, dayT, if_neg c_129, if_neg c_140]
                        refine lv_bipush (v := (-100)) hx hb dX8_day_143 (by decide) ?_
                        refine lv_iload hx hb dX8_day_145 (lv_at hl 0 rfl) ?_
                        refine lv_isub hx hb dX8_day_147 ?_
                        refine lv_i2l (v := ((-100) - (dyR n m2 (sc j) a m1)).toInt64) hx hb dX8_day_148 rfl ?_
                        refine lv_goto (tgt := 158) hx hb dX8_day_149 (by decide) ?_
                        exact hret dX8_day_158 hH (by rw [hD]; exact ⟨rfl, ⟨_, _, _, _, _, _, _, _, _, _, _, _, _, _, _, _, h_0, ((hF 1 (by decide) (by decide) (by decide) (by decide) (by decide)).trans b_1), ((hF 2 (by decide) (by decide) (by decide) (by decide) (by decide)).trans b_2), ((hF 3 (by decide) (by decide) (by decide) (by decide) (by decide)).trans b_3), ((hF 4 (by decide) (by decide) (by decide) (by decide) (by decide)).trans b_4), ((hF 5 (by decide) (by decide) (by decide) (by decide) (by decide)).trans b_5), ((hF 6 (by decide) (by decide) (by decide) (by decide) (by decide)).trans b_6), ((hF 7 (by decide) (by decide) (by decide) (by decide) (by decide)).trans b_7), ((hF 8 (by decide) (by decide) (by decide) (by decide) (by decide)).trans b_8), ((hF 9 (by decide) (by decide) (by decide) (by decide) (by decide)).trans b_9), ((hF 10 (by decide) (by decide) (by decide) (by decide) (by decide)).trans b_10), ((hF 11 (by decide) (by decide) (by decide) (by decide) (by decide)).trans b_11), ((hF 12 (by decide) (by decide) (by decide) (by decide) (by decide)).trans b_12), ((hF 13 (by decide) (by decide) (by decide) (by decide) (by decide)).trans b_13), ((hF 14 (by decide) (by decide) (by decide) (by decide) (by decide)).trans b_14), h_39, ((hF 40 (by decide) (by decide) (by decide) (by decide) (by decide)).trans b_40), ((hF 41 (by decide) (by decide) (by decide) (by decide) (by decide)).trans b_41), ((hF 42 (by decide) (by decide) (by decide) (by decide) (by decide)).trans b_42), ((hF 43 (by decide) (by decide) (by decide) (by decide) (by decide)).trans b_43), ((hF 44 (by decide) (by decide) (by decide) (by decide) (by decide)).trans b_44), ((hF 45 (by decide) (by decide) (by decide) (by decide) (by decide)).trans b_45), h_46, h_47, h_48, ((hF 49 (by decide) (by decide) (by decide) (by decide) (by decide)).trans b_49), ((hF 50 (by decide) (by decide) (by decide) (by decide) (by decide)).trans b_50), ((hF 51 (by decide) (by decide) (by decide) (by decide) (by decide)).trans b_51), ((hF 52 (by decide) (by decide) (by decide) (by decide) (by decide)).trans b_52), ((hF 53 (by decide) (by decide) (by decide) (by decide) (by decide)).trans b_53), ((hF 54 (by decide) (by decide) (by decide) (by decide) (by decide)).trans b_54), (fun t ht => (hF (15 + t) (by omega) (by omega) (by omega) (by omega) (by omega)).trans (hacts t ht)), (fun k hk => ⟨(hF (55 + 2 * k) (by omega) (by omega) (by omega) (by omega) (by omega)).trans (hsh k hk).1, (hF (56 + 2 * k) (by omega) (by omega) (by omega) (by omega) (by omega)).trans (hsh k hk).2⟩)⟩, (fun x9 h9 => hF x9 (by omega) (by omega) (by omega) (by omega) (by omega))⟩)
                    · have hD : dayV x y q u w hr la lg sc n f m2 kd pa = ((dyR n m2 (sc j) a m1).toInt64, 0) := by rw [hDD, dayT, if_pos c_129]
                      refine lv_iload hx hb dX8_day_132 (lv_at hl 0 rfl) ?_
                      refine lv_i2l (v := (dyR n m2 (sc j) a m1).toInt64) hx hb dX8_day_134 rfl ?_
                      exact hret dX8_day_135 hH (by rw [hD]; exact ⟨rfl, ⟨_, _, _, _, _, _, _, _, _, _, _, _, _, _, _, _, h_0, ((hF 1 (by decide) (by decide) (by decide) (by decide) (by decide)).trans b_1), ((hF 2 (by decide) (by decide) (by decide) (by decide) (by decide)).trans b_2), ((hF 3 (by decide) (by decide) (by decide) (by decide) (by decide)).trans b_3), ((hF 4 (by decide) (by decide) (by decide) (by decide) (by decide)).trans b_4), ((hF 5 (by decide) (by decide) (by decide) (by decide) (by decide)).trans b_5), ((hF 6 (by decide) (by decide) (by decide) (by decide) (by decide)).trans b_6), ((hF 7 (by decide) (by decide) (by decide) (by decide) (by decide)).trans b_7), ((hF 8 (by decide) (by decide) (by decide) (by decide) (by decide)).trans b_8), ((hF 9 (by decide) (by decide) (by decide) (by decide) (by decide)).trans b_9), ((hF 10 (by decide) (by decide) (by decide) (by decide) (by decide)).trans b_10), ((hF 11 (by decide) (by decide) (by decide) (by decide) (by decide)).trans b_11), ((hF 12 (by decide) (by decide) (by decide) (by decide) (by decide)).trans b_12), ((hF 13 (by decide) (by decide) (by decide) (by decide) (by decide)).trans b_13), ((hF 14 (by decide) (by decide) (by decide) (by decide) (by decide)).trans b_14), h_39, ((hF 40 (by decide) (by decide) (by decide) (by decide) (by decide)).trans b_40), ((hF 41 (by decide) (by decide) (by decide) (by decide) (by decide)).trans b_41), ((hF 42 (by decide) (by decide) (by decide) (by decide) (by decide)).trans b_42), ((hF 43 (by decide) (by decide) (by decide) (by decide) (by decide)).trans b_43), ((hF 44 (by decide) (by decide) (by decide) (by decide) (by decide)).trans b_44), ((hF 45 (by decide) (by decide) (by decide) (by decide) (by decide)).trans b_45), h_46, h_47, h_48, ((hF 49 (by decide) (by decide) (by decide) (by decide) (by decide)).trans b_49), ((hF 50 (by decide) (by decide) (by decide) (by decide) (by decide)).trans b_50), ((hF 51 (by decide) (by decide) (by decide) (by decide) (by decide)).trans b_51), ((hF 52 (by decide) (by decide) (by decide) (by decide) (by decide)).trans b_52), ((hF 53 (by decide) (by decide) (by decide) (by decide) (by decide)).trans b_53), ((hF 54 (by decide) (by decide) (by decide) (by decide) (by decide)).trans b_54), (fun t ht => (hF (15 + t) (by omega) (by omega) (by omega) (by omega) (by omega)).trans (hacts t ht)), (fun k hk => ⟨(hF (55 + 2 * k) (by omega) (by omega) (by omega) (by omega) (by omega)).trans (hsh k hk).1, (hF (56 + 2 * k) (by omega) (by omega) (by omega) (by omega) (by omega)).trans (hsh k hk).2⟩)⟩, (fun x9 h9 => hF x9 (by omega) (by omega) (by omega) (by omega) (by omega))⟩)
                  · have c_108 := bI_eq.mp c_108
                    have hD : dayV x y q u w hr la lg sc n f m2 kd pa = (LOSTv, 0) := by rw [dayV, if_pos ⟨c_9, c_16, c_21, c_28, c_36⟩, Ej, if_pos c_61, if_pos c_81, Ea, Em, if_neg (fun v => c_108 v.2)]
                    refine lv_ldc2 hx hb hown k_161 dX8_day_111 ?_
                    refine qh_topl (y := LOSTv) (rfl) ?_
                    exact hret dX8_day_114 hH (by rw [hD]; exact ⟨rfl, ⟨_, _, _, _, _, _, _, _, _, _, _, _, _, _, _, _, h_0, ((hF 1 (by decide)).trans b_1), ((hF 2 (by decide)).trans b_2), ((hF 3 (by decide)).trans b_3), ((hF 4 (by decide)).trans b_4), ((hF 5 (by decide)).trans b_5), ((hF 6 (by decide)).trans b_6), ((hF 7 (by decide)).trans b_7), ((hF 8 (by decide)).trans b_8), ((hF 9 (by decide)).trans b_9), ((hF 10 (by decide)).trans b_10), ((hF 11 (by decide)).trans b_11), ((hF 12 (by decide)).trans b_12), ((hF 13 (by decide)).trans b_13), ((hF 14 (by decide)).trans b_14), ((hF 39 (by decide)).trans b_39), ((hF 40 (by decide)).trans b_40), ((hF 41 (by decide)).trans b_41), ((hF 42 (by decide)).trans b_42), ((hF 43 (by decide)).trans b_43), ((hF 44 (by decide)).trans b_44), ((hF 45 (by decide)).trans b_45), ((hF 46 (by decide)).trans b_46), ((hF 47 (by decide)).trans b_47), ((hF 48 (by decide)).trans b_48), ((hF 49 (by decide)).trans b_49), ((hF 50 (by decide)).trans b_50), ((hF 51 (by decide)).trans b_51), ((hF 52 (by decide)).trans b_52), ((hF 53 (by decide)).trans b_53), ((hF 54 (by decide)).trans b_54), (fun t ht => (hF (15 + t) (by omega)).trans (hacts t ht)), (fun k hk => ⟨(hF (55 + 2 * k) (by omega)).trans (hsh k hk).1, (hF (56 + 2 * k) (by omega)).trans (hsh k hk).2⟩)⟩, (fun x9 h9 => hF x9 (by omega))⟩)
              · have c_81 := bI_eq.mp c_81
                have hD : dayV x y q u w hr la lg sc n f m2 kd pa = (LOSTv, 3) := by rw [dayV, if_pos ⟨c_9, c_16, c_21, c_28, c_36⟩, Ej, if_pos c_61, if_neg c_81]
                refine lv_aload_n hx hb dX8_day_84 rfl (lv_at hl 2 rfl) ?_
                refine lv_iconst (v := 3) hx hb dX8_day_85 (by decide) ?_
                refine qh_runV (As := [.int 3]) (rest := []) (C := RX8) ⟨hx, hb, hml, hown, hts⟩ hK hH (c_X8_lost l G z M E_1 tr 0 (hM) h_0 3) (cwV 1 hts gX8_day_X8_lost rfl rfl rfl (by decide +kernel) (by rw [hRf, hRl]; exact ⟨Nat.le_of_ble_eq_true rfl, Nat.le_of_ble_eq_true rfl⟩)) (by omega) h_0 rfl rfl hl.1 rfl (Nat.le_of_ble_eq_true rfl) dX8_day_86 ⟨Nat.zero_le _, Nat.zero_le _⟩ (qh_kkl fun r_86 E_11 H locs hpost hH => ?_)
                obtain ⟨rfl, h_0, hfr⟩ := hpost
                have hF : ∀ x9, x9 ≠ 0 → E_11 x9 = E x9 := fun x9 a0 => (hfr x9 a0).trans (hF x9 a0)
                exact hret dX8_day_89 hH (by rw [hD]; exact ⟨rfl, ⟨_, _, _, _, _, _, _, _, _, _, _, _, _, _, _, _, h_0, ((hF 1 (by decide)).trans b_1), ((hF 2 (by decide)).trans b_2), ((hF 3 (by decide)).trans b_3), ((hF 4 (by decide)).trans b_4), ((hF 5 (by decide)).trans b_5), ((hF 6 (by decide)).trans b_6), ((hF 7 (by decide)).trans b_7), ((hF 8 (by decide)).trans b_8), ((hF 9 (by decide)).trans b_9), ((hF 10 (by decide)).trans b_10), ((hF 11 (by decide)).trans b_11), ((hF 12 (by decide)).trans b_12), ((hF 13 (by decide)).trans b_13), ((hF 14 (by decide)).trans b_14), ((hF 39 (by decide)).trans b_39), ((hF 40 (by decide)).trans b_40), ((hF 41 (by decide)).trans b_41), ((hF 42 (by decide)).trans b_42), ((hF 43 (by decide)).trans b_43), ((hF 44 (by decide)).trans b_44), ((hF 45 (by decide)).trans b_45), ((hF 46 (by decide)).trans b_46), ((hF 47 (by decide)).trans b_47), ((hF 48 (by decide)).trans b_48), ((hF 49 (by decide)).trans b_49), ((hF 50 (by decide)).trans b_50), ((hF 51 (by decide)).trans b_51), ((hF 52 (by decide)).trans b_52), ((hF 53 (by decide)).trans b_53), ((hF 54 (by decide)).trans b_54), (fun t ht => (hF (15 + t) (by omega)).trans (hacts t ht)), (fun k hk => ⟨(hF (55 + 2 * k) (by omega)).trans (hsh k hk).1, (hF (56 + 2 * k) (by omega)).trans (hsh k hk).2⟩)⟩, (fun x9 h9 => hF x9 (by omega))⟩)
            · have hD : dayV x y q u w hr la lg sc n f m2 kd pa = (LOSTv, takF (hr j) (la j) y) := by rw [dayV, if_pos ⟨c_9, c_16, c_21, c_28, c_36⟩, Ej, if_neg c_61]
              refine lv_aload_n hx hb dX8_day_64 rfl (lv_at hl 2 rfl) ?_
              refine lv_iload hx hb dX8_day_65 (lv_at hl 0 rfl) ?_
              refine qh_runV (As := [.int (takF (hr j) (la j) y)]) (rest := []) (C := RX8) ⟨hx, hb, hml, hown, hts⟩ hK hH (c_X8_lost l G z M E_1 tr 0 (hM) h_0 (takF (hr j) (la j) y)) (cwV 1 hts gX8_day_X8_lost rfl rfl rfl (by decide +kernel) (by rw [hRf, hRl]; exact ⟨Nat.le_of_ble_eq_true rfl, Nat.le_of_ble_eq_true rfl⟩)) (by omega) h_0 rfl rfl hl.1 rfl (Nat.le_of_ble_eq_true rfl) dX8_day_67 ⟨Nat.zero_le _, Nat.zero_le _⟩ (qh_kkl fun r_67 E_12 H locs hpost hH => ?_)
              obtain ⟨rfl, h_0, hfr⟩ := hpost
              have hF : ∀ x9, x9 ≠ 0 → E_12 x9 = E x9 := fun x9 a0 => (hfr x9 a0).trans (hF x9 a0)
              exact hret dX8_day_70 hH (by rw [hD]; exact ⟨rfl, ⟨_, _, _, _, _, _, _, _, _, _, _, _, _, _, _, _, h_0, ((hF 1 (by decide)).trans b_1), ((hF 2 (by decide)).trans b_2), ((hF 3 (by decide)).trans b_3), ((hF 4 (by decide)).trans b_4), ((hF 5 (by decide)).trans b_5), ((hF 6 (by decide)).trans b_6), ((hF 7 (by decide)).trans b_7), ((hF 8 (by decide)).trans b_8), ((hF 9 (by decide)).trans b_9), ((hF 10 (by decide)).trans b_10), ((hF 11 (by decide)).trans b_11), ((hF 12 (by decide)).trans b_12), ((hF 13 (by decide)).trans b_13), ((hF 14 (by decide)).trans b_14), ((hF 39 (by decide)).trans b_39), ((hF 40 (by decide)).trans b_40), ((hF 41 (by decide)).trans b_41), ((hF 42 (by decide)).trans b_42), ((hF 43 (by decide)).trans b_43), ((hF 44 (by decide)).trans b_44), ((hF 45 (by decide)).trans b_45), ((hF 46 (by decide)).trans b_46), ((hF 47 (by decide)).trans b_47), ((hF 48 (by decide)).trans b_48), ((hF 49 (by decide)).trans b_49), ((hF 50 (by decide)).trans b_50), ((hF 51 (by decide)).trans b_51), ((hF 52 (by decide)).trans b_52), ((hF 53 (by decide)).trans b_53), ((hF 54 (by decide)).trans b_54), (fun t ht => (hF (15 + t) (by omega)).trans (hacts t ht)), (fun k hk => ⟨(hF (55 + 2 * k) (by omega)).trans (hsh k hk).1, (hF (56 + 2 * k) (by omega)).trans (hsh k hk).2⟩)⟩, (fun x9 h9 => hF x9 (by omega))⟩)
          · have c_36 := bI_eq.mp c_36
            have hD : dayV x y q u w hr la lg sc n f m2 kd pa = (LOSTv, 0) := by rw [dayV, if_neg (fun v => c_36 v.2.2.2.2)]
            refine lv_ldc2 hx hb hown k_161 dX8_day_39 ?_
            refine qh_topl (y := LOSTv) (rfl) ?_
            exact hret dX8_day_42 hH (by rw [hD]; exact ⟨rfl, ⟨_, _, _, _, _, _, _, _, _, _, _, _, _, _, _, _, h_0, ((hF 1 (by decide)).trans b_1), ((hF 2 (by decide)).trans b_2), ((hF 3 (by decide)).trans b_3), ((hF 4 (by decide)).trans b_4), ((hF 5 (by decide)).trans b_5), ((hF 6 (by decide)).trans b_6), ((hF 7 (by decide)).trans b_7), ((hF 8 (by decide)).trans b_8), ((hF 9 (by decide)).trans b_9), ((hF 10 (by decide)).trans b_10), ((hF 11 (by decide)).trans b_11), ((hF 12 (by decide)).trans b_12), ((hF 13 (by decide)).trans b_13), ((hF 14 (by decide)).trans b_14), ((hF 39 (by decide)).trans b_39), ((hF 40 (by decide)).trans b_40), ((hF 41 (by decide)).trans b_41), ((hF 42 (by decide)).trans b_42), ((hF 43 (by decide)).trans b_43), ((hF 44 (by decide)).trans b_44), ((hF 45 (by decide)).trans b_45), ((hF 46 (by decide)).trans b_46), ((hF 47 (by decide)).trans b_47), ((hF 48 (by decide)).trans b_48), ((hF 49 (by decide)).trans b_49), ((hF 50 (by decide)).trans b_50), ((hF 51 (by decide)).trans b_51), ((hF 52 (by decide)).trans b_52), ((hF 53 (by decide)).trans b_53), ((hF 54 (by decide)).trans b_54), (fun t ht => (hF (15 + t) (by omega)).trans (hacts t ht)), (fun k hk => ⟨(hF (55 + 2 * k) (by omega)).trans (hsh k hk).1, (hF (56 + 2 * k) (by omega)).trans (hsh k hk).2⟩)⟩, (fun x9 h9 => hF x9 (by omega))⟩)

set_option maxHeartbeats 1500000 in
set_option maxRecDepth 100000 in
theorem c_X8_row (l : Launch) (G : qh_G) (z M : Nat) (E : Nat → va_E) (tr : Int32) (lf : Int32) (n : Nat) (f : Nat → Int64) (g : Nat → Int64) (bf : Nat → Int64) (m2 : Nat) (kd : Nat → Int32) (pa : Nat → Int32) (ln : Nat) (ts : Nat → Int32) (ga : Nat → Nat) (gb : Nat → Nat) (va : Nat → Int64) (rn : Nat) (cn : Nat → Nat) (vs : Nat → Int64) (hr : Nat → Int32) (la : Nat → Int32) (lg : Nat → Nat) (sc : Nat → Nat → Int32) (hM : 84 ≤ M) (hX : XE G z E tr lf n f g bf m2 kd pa ln ts ga gb va rn cn vs hr la lg sc) (hW : XW n m2 ln rn ga gb cn lg hr) (x : Int32) (y : Int32) (q : Int32) (u : Int32) : Met l yX8_row wsX8_row (qh_R 5) (qh_Pre G z M E [.ref (z + 0), .int x, .int y, .int q, .int u]) (qh_Q G z M (qh_i (fun r E' => match rowD x y q u hr la lg sc with | some d => r = d.1 ∧ XE G z E' tr d.2 n f g bf m2 kd pa ln ts ga gb va rn cn vs hr la lg sc ∧ ∀ x9, 63 ≤ x9 → E' x9 = E x9 | none => ∃ (f' : Nat → Int64) (kd' pa' : Nat → Int32), r = nI (dgC (sc x.toNatClampNeg) q.toNatClampNeg u.toNatClampNeg) ∧ XE G z E' tr 0 (dgC (sc x.toNatClampNeg) q.toNatClampNeg u.toNatClampNeg) f' f' f' (hpN (cdF (sc x.toNatClampNeg) q.toNatClampNeg u.toNatClampNeg) u.toNatClampNeg 3 (1 + dgC (sc x.toNatClampNeg) q.toNatClampNeg u.toNatClampNeg)) kd' pa' 0 ts ga gb va 0 cn vs hr la lg sc ∧ (1 ≤ dgC (sc x.toNatClampNeg) q.toNatClampNeg u.toNatClampNeg) ∧ (∀ t, t < dgC (sc x.toNatClampNeg) q.toNatClampNeg u.toNatClampNeg → f' t = (cdF (sc x.toNatClampNeg) q.toNatClampNeg u.toNatClampNeg (1 + t) - 48).toInt64) ∧ (∀ t, t < hpN (cdF (sc x.toNatClampNeg) q.toNatClampNeg u.toNatClampNeg) u.toNatClampNeg 3 (1 + dgC (sc x.toNatClampNeg) q.toNatClampNeg u.toNatClampNeg) → kd' t = knd (cdF (sc x.toNatClampNeg) q.toNatClampNeg u.toNatClampNeg (1 + dgC (sc x.toNatClampNeg) q.toNatClampNeg u.toNatClampNeg + 3 * t + 1)) ∧ pa' t = cdF (sc x.toNatClampNeg) q.toNatClampNeg u.toNatClampNeg (1 + dgC (sc x.toNatClampNeg) q.toNatClampNeg u.toNatClampNeg + 3 * t + 2) - 48) ∧ ∀ x9, 63 ≤ x9 → E' x9 = E x9))) 0 0 (fun q => z ≤ q) := by
  refine qh_metI (cc := cX8_row) (maxL := 8) (by decide) rfl (Nat.le_of_ble_eq_true rfl) ?_
  intro pZ eZ sZ mZ aZ bZ tZ cZ RR QQ ls hx hb hml hown hts hRf hRl hH hK hl hret
  have hown : sZ.vm.findClass RX8 = some mZ.cls := hown
  have hl : lv_has ls 8 [(0, .ref (z + 0)), (1, .int x), (2, .int y), (3, .int q), (4, .int u)] := hl
  obtain ⟨tc, dg, hn0, tk, tp, gn, gk, gp, t0, a0, b0, v0, bg, tn, tf, tg, b_0, b_1, b_2, b_3, b_4, b_5, b_6, b_7, b_8, b_9, b_10, b_11, b_12, b_13, b_14, b_39, b_40, b_41, b_42, b_43, b_44, b_45, b_46, b_47, b_48, b_49, b_50, b_51, b_52, b_53, b_54, hacts, hsh⟩ := hX
  obtain ⟨⟨hn16, hm3, hl24, hr8⟩, hval, hcn, hlg, hhr⟩ := hW
  have in_X8 : ∀ w ∈ wsX80, w ∈ wsX8_row := fun w h => List.mem_cons_of_mem _ (List.mem_append_left _ (List.mem_append_left _ (List.mem_append_left _ (List.mem_append_left _ (List.mem_append_left _ (List.mem_append_left _ (List.mem_append_left _ (List.mem_append_right _ h))))))))
  have in_X3 : ∀ w ∈ wsX30, w ∈ wsX8_row := fun w h => List.mem_cons_of_mem _ (List.mem_append_left _ (List.mem_append_left _ (List.mem_append_left _ (List.mem_append_left _ (List.mem_append_left _ (List.mem_append_left _ (List.mem_append_right _ h)))))))
  have w_79 : qh_W G sZ mZ aZ 79 8 12 .int := qh_W.of hts in_X8 tyX8 tyX8_ok nmX8 hown hK rfl 12 (by decide) (by decide +kernel) rfl (by decide +kernel)
  have f_13 : qh_F G sZ mZ aZ 13 8 0 := qh_F.of hts in_X8 hown hK rfl 0 (by decide) (by decide +kernel)
  have f_20 : qh_F G sZ mZ aZ 20 8 1 := qh_F.of hts in_X8 hown hK rfl 1 (by decide) (by decide +kernel)
  have f_51 : qh_F G sZ mZ aZ 51 8 6 := qh_F.of hts in_X8 hown hK rfl 6 (by decide) (by decide +kernel)
  have f_108 : qh_F G sZ mZ aZ 108 3 0 := qh_F.of hts in_X3 hown hK rfl 0 (by decide) (by decide +kernel)
  refine lv_aload_n hx hb dX8_row_0 rfl (lv_at hl 0 rfl) ?_
  refine lv_iconst (v := 0) hx hb dX8_row_1 (by decide) ?_
  refine qh_put (fs' := [.ref (z + 1), .ref (z + 2), .ref (z + 7), .ref (z + 10), .ref (z + 13), .ref (z + 39), .ref (z + 40), .ref (z + 43), .ref (z + 46), .ref (z + 49), .ref (z + 52), .int tr, .int 0]) hx hb hH w_79 (by omega) b_0 rfl rfl (Nat.le_of_ble_eq_true rfl) rfl dX8_row_2 (fun E_1 H locs h_0 hfr hH _ => ?_)
  have hF : ∀ x9, x9 ≠ 0 → E_1 x9 = E x9 := fun x9 a0 => hfr x9 a0
  refine lv_iload_n hx hb dX8_row_5 rfl (lv_at hl 1 rfl) ?_
  refine qh_runS (As := [.int x]) (rest := []) ⟨hx, hb, hml, hown, hts⟩ hK hH (c_X8_isSheet l G z M E_1 x) (va_cwS 1 hts gX8_row_X8_isSheet rfl rfl rfl (by decide +kernel) (by rw [hRf, hRl]; exact ⟨Nat.le_of_ble_eq_true rfl, Nat.le_of_ble_eq_true rfl⟩)) rfl hl.1 rfl (Nat.le_of_ble_eq_true rfl) dX8_row_6 ⟨Nat.zero_le _, Nat.zero_le _⟩ (qh_kki fun r_6 E_2 H locs hpost hH => ?_)
  obtain ⟨rfl, rfl⟩ := hpost
  refine lv_if_ne (tgt := 14) hx hb dX8_row_9 (by decide) (fun c_9 => ?_) (fun c_9 => ?_)
  · have c_9 := bI_ne.mp c_9
    refine lv_iload_n hx hb dX8_row_14 rfl (lv_at hl 2 rfl) ?_
    refine qh_runS (As := [.int y]) (rest := []) ⟨hx, hb, hml, hown, hts⟩ hK hH (c_X8_isLane l G z M E_1 y) (va_cwS 1 hts gX8_row_X8_isLane rfl rfl rfl (by decide +kernel) (by rw [hRf, hRl]; exact ⟨Nat.le_of_ble_eq_true rfl, Nat.le_of_ble_eq_true rfl⟩)) rfl hl.1 rfl (Nat.le_of_ble_eq_true rfl) dX8_row_15 ⟨Nat.zero_le _, Nat.zero_le _⟩ (qh_kki fun r_15 E_3 H locs hpost hH => ?_)
    obtain ⟨rfl, rfl⟩ := hpost
    refine lv_if_ne (tgt := 24) hx hb dX8_row_18 (by decide) (fun c_18 => ?_) (fun c_18 => ?_)
    · have c_18 := bI_ne.mp c_18
      obtain ⟨j, hj, ej⟩ := nI_of_in (k := x) (c := 4) (by decide) c_9
      have Ej : x.toNatClampNeg = j := by rw [ej]; exact nI_clamp (by omega)
      refine lv_aload_n hx hb dX8_row_24 rfl (lv_at hl 0 rfl) ?_
      refine qh_get hx hb hH f_13 (by omega) h_0 rfl dX8_row_25 ?_
      refine lv_iload_n hx hb dX8_row_28 rfl (lv_at hl 1 rfl) ?_
      refine qh_aaldS (a := z + (55 + 2 * j)) hx hb hK hH (by omega) ((hF 1 (by decide)).trans b_1) (j := j) (ej) (hj) (by omega) (rfl) dX8_row_29 ?_
      refine lv_astore (lv' := [(5, .ref (z + (55 + 2 * j))), (0, .ref (z + 0)), (1, .int x), (2, .int y), (3, .int q), (4, .int u)]) hx hb dX8_row_30 hl (by decide) rfl (fun ls hl => ?_)
      refine lv_aload hx hb dX8_row_32 (lv_at hl 0 rfl) ?_
      refine lv_iload_n hx hb dX8_row_34 rfl (lv_at hl 3 rfl) ?_
      refine qh_runV (As := [.int y]) (rest := []) (C := RX5) ⟨hx, hb, hml, hown, hts⟩ hK hH (c_X5_faultTakenAs l G z M E_1 (55 + 2 * j) (hr j) (la j) (nI (lg j)) y (.ref (z + (56 + 2 * j))) (by omega) ((hF (55 + 2 * j) (by omega)).trans (hsh j (by omega)).1)) (cwV 1 hts gX8_row_X5_faultTakenAs rfl rfl rfl (by decide +kernel) (by rw [hRf, hRl]; exact ⟨Nat.le_of_ble_eq_true rfl, Nat.le_of_ble_eq_true rfl⟩)) (by omega) ((hF (55 + 2 * j) (by omega)).trans (hsh j (by omega)).1) rfl rfl hl.1 rfl (Nat.le_of_ble_eq_true rfl) dX8_row_35 ⟨Nat.zero_le _, Nat.zero_le _⟩ (qh_kki fun r_35 E_4 H locs hpost hH => ?_)
      obtain ⟨rfl, rfl⟩ := hpost
      refine qh_topi (y := takF (hr j) (la j) y) (rfl) ?_
      refine lv_istore (lv' := [(6, .int (takF (hr j) (la j) y)), (5, .ref (z + (55 + 2 * j))), (0, .ref (z + 0)), (1, .int x), (2, .int y), (3, .int q), (4, .int u)]) hx hb dX8_row_38 hl (by decide) rfl (fun ls hl => ?_)
      refine lv_iload hx hb dX8_row_40 (lv_at hl 0 rfl) ?_
      refine lv_if_eq (tgt := 52) hx hb dX8_row_42 (by decide) (fun c_42 => ?_) (fun c_42 => ?_)
      · refine lv_iload hx hb dX8_row_52 (lv_at hl 6 rfl) ?_
        refine lv_if_ge (tgt := 63) hx hb dX8_row_54 (by decide) (fun c_54 => ?_) (fun c_54 => ?_)
        · refine lv_aload hx hb dX8_row_63 (lv_at hl 1 rfl) ?_
          refine lv_iload_n hx hb dX8_row_65 rfl (lv_at hl 5 rfl) ?_
          refine lv_iload hx hb dX8_row_66 (lv_at hl 6 rfl) ?_
          refine qh_runV (As := [.int q, .int u]) (rest := []) (C := RX5) ⟨hx, hb, hml, hown, hts⟩ hK hH (c_X5_hasCells l G z M E_1 (55 + 2 * j) (hr j) (la j) (nI (lg j)) q u (.ref (z + (56 + 2 * j))) (by omega) ((hF (55 + 2 * j) (by omega)).trans (hsh j (by omega)).1)) (cwV 2 hts gX8_row_X5_hasCells rfl rfl rfl (by decide +kernel) (by rw [hRf, hRl]; exact ⟨Nat.le_of_ble_eq_true rfl, Nat.le_of_ble_eq_true rfl⟩)) (by omega) ((hF (55 + 2 * j) (by omega)).trans (hsh j (by omega)).1) rfl rfl hl.1 rfl (Nat.le_of_ble_eq_true rfl) dX8_row_68 ⟨Nat.zero_le _, Nat.zero_le _⟩ (qh_kki fun r_68 E_5 H locs hpost hH => ?_)
          obtain ⟨rfl, rfl⟩ := hpost
          refine lv_if_ne (tgt := 80) hx hb dX8_row_71 (by decide) (fun c_71 => ?_) (fun c_71 => ?_)
          · have c_71 := bI_ne.mp c_71
            have hlj := hlg j hj
            obtain ⟨a, m1, ea, em, ham⟩ := has_n hlj c_71
            have Ea : q.toNatClampNeg = a := by rw [ea]; exact nI_clamp (by omega)
            have Em : u.toNatClampNeg = m1 := by rw [em]; exact nI_clamp (by omega)
            have hl : lv_has ls 8 [(6, .int (takF (hr j) (la j) y)), (5, .ref (z + (55 + 2 * j))), (0, .ref (z + 0)), (1, .int x), (2, .int y), (3, .int (nI a)), (4, .int u)] := by rw [← ea]; exact hl
            have hl : lv_has ls 8 [(6, .int (takF (hr j) (la j) y)), (5, .ref (z + (55 + 2 * j))), (0, .ref (z + 0)), (1, .int x), (2, .int y), (3, .int (nI a)), (4, .int (nI m1))] := by rw [← em]; exact hl
            refine lv_aload_n hx hb dX8_row_80 rfl (lv_at hl 2 rfl) ?_
            refine qh_get hx hb hH f_20 (by omega) h_0 rfl dX8_row_81 ?_
            refine lv_aload hx hb dX8_row_84 (lv_at hl 1 rfl) ?_
            refine lv_iload_n hx hb dX8_row_86 rfl (lv_at hl 5 rfl) ?_
            refine lv_iload hx hb dX8_row_87 (lv_at hl 6 rfl) ?_
            refine qh_runV (As := [.ref (z + (55 + 2 * j)), .int (nI a), .int (nI m1)]) (rest := []) (C := RX7) ⟨hx, hb, hml, hown, hts⟩ hK hH (c_X7_firstFault l G z M E_1 2 3 4 5 6 (55 + 2 * j) (56 + 2 * j) (lg j) a m1 (hr j) (la j) (sc j) tc hn0 dg tk tp (⟨by omega, by omega⟩) (⟨by omega, by omega⟩) (⟨by omega, by omega, by omega, by omega, by omega⟩) (⟨by decide, by decide, by decide, by decide, by decide, by decide, by decide, by decide, by decide, by decide⟩) (⟨by omega, by omega, by omega, by omega, by omega, by omega, by omega, by omega, by omega, by omega⟩) ((hF 2 (by decide)).trans b_2) ((hF 3 (by decide)).trans b_3) ((hF 4 (by decide)).trans b_4) ((hF 5 (by decide)).trans b_5) ((hF 6 (by decide)).trans b_6) ((hF (55 + 2 * j) (by omega)).trans (hsh j (by omega)).1) ((hF (56 + 2 * j) (by omega)).trans (hsh j (by omega)).2)) (cwV 3 hts gX8_row_X7_firstFault rfl rfl rfl (by decide +kernel) (by rw [hRf, hRl]; exact ⟨Nat.le_of_ble_eq_true rfl, Nat.le_of_ble_eq_true rfl⟩)) (by omega) ((hF 2 (by decide)).trans b_2) rfl rfl hl.1 rfl (Nat.le_of_ble_eq_true rfl) dX8_row_89 ⟨Nat.zero_le _, Nat.zero_le _⟩ (qh_kki fun r_89 E_6 H locs hpost hH => ?_)
            obtain ⟨tc1, hn1, dg1, kd1, pa1, rfl, h_2, h_3, h_4, h_5, h_6, hsome, hfr⟩ := hpost
            have h_0 := (hfr 0 (by decide) (by decide) (by decide) (by decide) (by decide)).trans h_0
            have hF : ∀ x9, x9 ≠ 0 → x9 ≠ 2 → x9 ≠ 3 → x9 ≠ 4 → x9 ≠ 5 → x9 ≠ 6 → E_6 x9 = E x9 := fun x9 a0 a1 a2 a3 a4 a5 => (hfr x9 a1 a2 a3 a4 a5).trans (hF x9 a0)
            refine lv_istore (lv' := [(7, .int (enc (ffR (sc j) a m1))), (6, .int (takF (hr j) (la j) y)), (5, .ref (z + (55 + 2 * j))), (0, .ref (z + 0)), (1, .int x), (2, .int y), (3, .int (nI a)), (4, .int (nI m1))]) hx hb dX8_row_92 hl (by decide) rfl (fun ls hl => ?_)
            refine lv_iload hx hb dX8_row_94 (lv_at hl 0 rfl) ?_
            refine lv_bipush (v := (-9)) hx hb dX8_row_96 (by decide) ?_
            refine lv_icmp_eq (tgt := 107) hx hb dX8_row_98 (by decide) (fun c_98 => ?_) (fun c_98 => ?_)
            · have hnone := enc_none c_98
              have hD : rowD x y q u hr la lg sc = none := by rw [rowD, if_pos c_9, if_pos c_18, Ej, if_pos c_42, if_pos c_54, if_pos c_71, Ea, Em, hnone]
              obtain ⟨e1, h1tc, e2, hdg, hkk⟩ := hsome hnone
              have hle16 : tc1 ≤ 16 := by rw [e1]; exact dgC_le _ _ _
              refine lv_aload_n hx hb dX8_row_107 rfl (lv_at hl 3 rfl) ?_
              refine qh_runV (As := []) (rest := []) (C := RX8) ⟨hx, hb, hml, hown, hts⟩ hK hH (c_X8_takeText l G z M E_6 tr 0 (hM) h_0 tc1 hn1 _ f g bf bg dg1 kd1 pa1 kd pa (nI ln) (nI n) (nI n) (nI m2) (nI rn) (⟨h1tc, hle16⟩) ((hF 40 (by decide) (by decide) (by decide) (by decide) (by decide) (by decide)).trans b_40) ((hF 41 (by decide) (by decide) (by decide) (by decide) (by decide) (by decide)).trans b_41) ((hF 42 (by decide) (by decide) (by decide) (by decide) (by decide) (by decide)).trans b_42) h_2 h_3 h_4 h_5 h_6 ((hF 7 (by decide) (by decide) (by decide) (by decide) (by decide) (by decide)).trans b_7) ((hF 8 (by decide) (by decide) (by decide) (by decide) (by decide) (by decide)).trans b_8) ((hF 9 (by decide) (by decide) (by decide) (by decide) (by decide) (by decide)).trans b_9) ((hF 49 (by decide) (by decide) (by decide) (by decide) (by decide) (by decide)).trans b_49) ((hF 50 (by decide) (by decide) (by decide) (by decide) (by decide) (by decide)).trans b_50) ((hF 51 (by decide) (by decide) (by decide) (by decide) (by decide) (by decide)).trans b_51) ((hF 52 (by decide) (by decide) (by decide) (by decide) (by decide) (by decide)).trans b_52) ((hF 13 (by decide) (by decide) (by decide) (by decide) (by decide) (by decide)).trans b_13) ((hF 43 (by decide) (by decide) (by decide) (by decide) (by decide) (by decide)).trans b_43) ((hF 44 (by decide) (by decide) (by decide) (by decide) (by decide) (by decide)).trans b_44) ((hF 45 (by decide) (by decide) (by decide) (by decide) (by decide) (by decide)).trans b_45)) (cwV 0 hts gX8_row_X8_takeText rfl rfl rfl (by decide +kernel) (by rw [hRf, hRl]; exact ⟨Nat.le_of_ble_eq_true rfl, Nat.le_of_ble_eq_true rfl⟩)) (by omega) h_0 rfl rfl hl.1 rfl (Nat.le_of_ble_eq_true rfl) dX8_row_108 ⟨Nat.zero_le _, Nat.zero_le _⟩ (qh_kkv fun E_7 H locs hpost hH => ?_)
              obtain ⟨h_40, h_41, h_7, h_8, h_9, h_50, h_51, h_52, h_13, h_42, h_43, h_44, h_45, hfr⟩ := hpost
              have h_0 := (hfr 0 (by decide) (by decide) (by decide) (by decide) (by decide) (by decide) (by decide) (by decide) (by decide) (by decide) (by decide) (by decide) (by decide)).trans h_0
              have h_2 := (hfr 2 (by decide) (by decide) (by decide) (by decide) (by decide) (by decide) (by decide) (by decide) (by decide) (by decide) (by decide) (by decide) (by decide)).trans h_2
              have h_3 := (hfr 3 (by decide) (by decide) (by decide) (by decide) (by decide) (by decide) (by decide) (by decide) (by decide) (by decide) (by decide) (by decide) (by decide)).trans h_3
              have h_4 := (hfr 4 (by decide) (by decide) (by decide) (by decide) (by decide) (by decide) (by decide) (by decide) (by decide) (by decide) (by decide) (by decide) (by decide)).trans h_4
              have h_5 := (hfr 5 (by decide) (by decide) (by decide) (by decide) (by decide) (by decide) (by decide) (by decide) (by decide) (by decide) (by decide) (by decide) (by decide)).trans h_5
              have h_6 := (hfr 6 (by decide) (by decide) (by decide) (by decide) (by decide) (by decide) (by decide) (by decide) (by decide) (by decide) (by decide) (by decide) (by decide)).trans h_6
              have hF : ∀ x9, x9 ≠ 0 → x9 ≠ 2 → x9 ≠ 3 → x9 ≠ 4 → x9 ≠ 5 → x9 ≠ 6 → x9 ≠ 40 → x9 ≠ 41 → x9 ≠ 7 → x9 ≠ 8 → x9 ≠ 9 → x9 ≠ 50 → x9 ≠ 51 → x9 ≠ 52 → x9 ≠ 13 → x9 ≠ 42 → x9 ≠ 43 → x9 ≠ 44 → x9 ≠ 45 → E_7 x9 = E x9 := fun x9 a0 a1 a2 a3 a4 a5 a6 a7 a8 a9 a10 a11 a12 a13 a14 a15 a16 a17 a18 => (hfr x9 a6 a7 a8 a9 a10 a11 a12 a13 a14 a15 a16 a17 a18).trans (hF x9 a0 a1 a2 a3 a4 a5)
              refine lv_aload_n hx hb dX8_row_111 rfl (lv_at hl 3 rfl) ?_
              refine qh_get hx hb hH f_51 (by omega) h_0 rfl dX8_row_112 ?_
              refine qh_get hx hb hH f_108 (by omega) h_40 rfl dX8_row_115 ?_
              exact hret dX8_row_118 hH (by rw [hD, Ej, Ea, Em, ← e1, ← e2]; exact ⟨_, _, _, rfl, ⟨_, _, _, _, _, _, _, _, _, _, _, _, _, _, _, _, h_0, ((hF 1 (by decide) (by decide) (by decide) (by decide) (by decide) (by decide) (by decide) (by decide) (by decide) (by decide) (by decide) (by decide) (by decide) (by decide) (by decide) (by decide) (by decide) (by decide) (by decide)).trans b_1), h_2, h_3, h_4, h_5, h_6, h_7, h_8, h_9, ((hF 10 (by decide) (by decide) (by decide) (by decide) (by decide) (by decide) (by decide) (by decide) (by decide) (by decide) (by decide) (by decide) (by decide) (by decide) (by decide) (by decide) (by decide) (by decide) (by decide)).trans b_10), ((hF 11 (by decide) (by decide) (by decide) (by decide) (by decide) (by decide) (by decide) (by decide) (by decide) (by decide) (by decide) (by decide) (by decide) (by decide) (by decide) (by decide) (by decide) (by decide) (by decide)).trans b_11), ((hF 12 (by decide) (by decide) (by decide) (by decide) (by decide) (by decide) (by decide) (by decide) (by decide) (by decide) (by decide) (by decide) (by decide) (by decide) (by decide) (by decide) (by decide) (by decide) (by decide)).trans b_12), h_13, ((hF 14 (by decide) (by decide) (by decide) (by decide) (by decide) (by decide) (by decide) (by decide) (by decide) (by decide) (by decide) (by decide) (by decide) (by decide) (by decide) (by decide) (by decide) (by decide) (by decide)).trans b_14), ((hF 39 (by decide) (by decide) (by decide) (by decide) (by decide) (by decide) (by decide) (by decide) (by decide) (by decide) (by decide) (by decide) (by decide) (by decide) (by decide) (by decide) (by decide) (by decide) (by decide)).trans b_39), h_40, h_41, h_42, h_43, h_44, h_45, ((hF 46 (by decide) (by decide) (by decide) (by decide) (by decide) (by decide) (by decide) (by decide) (by decide) (by decide) (by decide) (by decide) (by decide) (by decide) (by decide) (by decide) (by decide) (by decide) (by decide)).trans b_46), ((hF 47 (by decide) (by decide) (by decide) (by decide) (by decide) (by decide) (by decide) (by decide) (by decide) (by decide) (by decide) (by decide) (by decide) (by decide) (by decide) (by decide) (by decide) (by decide) (by decide)).trans b_47), ((hF 48 (by decide) (by decide) (by decide) (by decide) (by decide) (by decide) (by decide) (by decide) (by decide) (by decide) (by decide) (by decide) (by decide) (by decide) (by decide) (by decide) (by decide) (by decide) (by decide)).trans b_48), ((hF 49 (by decide) (by decide) (by decide) (by decide) (by decide) (by decide) (by decide) (by decide) (by decide) (by decide) (by decide) (by decide) (by decide) (by decide) (by decide) (by decide) (by decide) (by decide) (by decide)).trans b_49), h_50, h_51, h_52, ((hF 53 (by decide) (by decide) (by decide) (by decide) (by decide) (by decide) (by decide) (by decide) (by decide) (by decide) (by decide) (by decide) (by decide) (by decide) (by decide) (by decide) (by decide) (by decide) (by decide)).trans b_53), ((hF 54 (by decide) (by decide) (by decide) (by decide) (by decide) (by decide) (by decide) (by decide) (by decide) (by decide) (by decide) (by decide) (by decide) (by decide) (by decide) (by decide) (by decide) (by decide) (by decide)).trans b_54), (fun t ht => (hF (15 + t) (by omega) (by omega) (by omega) (by omega) (by omega) (by omega) (by omega) (by omega) (by omega) (by omega) (by omega) (by omega) (by omega) (by omega) (by omega) (by omega) (by omega) (by omega) (by omega)).trans (hacts t ht)), (fun k hk => ⟨(hF (55 + 2 * k) (by omega) (by omega) (by omega) (by omega) (by omega) (by omega) (by omega) (by omega) (by omega) (by omega) (by omega) (by omega) (by omega) (by omega) (by omega) (by omega) (by omega) (by omega) (by omega)).trans (hsh k hk).1, (hF (56 + 2 * k) (by omega) (by omega) (by omega) (by omega) (by omega) (by omega) (by omega) (by omega) (by omega) (by omega) (by omega) (by omega) (by omega) (by omega) (by omega) (by omega) (by omega) (by omega) (by omega)).trans (hsh k hk).2⟩)⟩, h1tc, fun t ht => by rw [nmT, if_pos ht, hdg t ht], hkk, (fun x9 h9 => hF x9 (by omega) (by omega) (by omega) (by omega) (by omega) (by omega) (by omega) (by omega) (by omega) (by omega) (by omega) (by omega) (by omega) (by omega) (by omega) (by omega) (by omega) (by omega) (by omega))⟩)
            · obtain ⟨v, hv⟩ := enc_some c_98
              have hD : rowD x y q u hr la lg sc = some (-100 - enc (ffR (sc j) a m1), 0) := by rw [rowD, if_pos c_9, if_pos c_18, Ej, if_pos c_42, if_pos c_54, if_pos c_71, Ea, Em, hv]; rfl
              refine lv_bipush (v := (-100)) hx hb dX8_row_101 (by decide) ?_
              refine lv_iload hx hb dX8_row_103 (lv_at hl 0 rfl) ?_
              refine lv_isub hx hb dX8_row_105 ?_
              exact hret dX8_row_106 hH (by rw [hD]; exact ⟨rfl, ⟨_, _, _, _, _, _, _, _, _, _, _, _, _, _, _, _, h_0, ((hF 1 (by decide) (by decide) (by decide) (by decide) (by decide) (by decide)).trans b_1), h_2, h_3, h_4, h_5, h_6, ((hF 7 (by decide) (by decide) (by decide) (by decide) (by decide) (by decide)).trans b_7), ((hF 8 (by decide) (by decide) (by decide) (by decide) (by decide) (by decide)).trans b_8), ((hF 9 (by decide) (by decide) (by decide) (by decide) (by decide) (by decide)).trans b_9), ((hF 10 (by decide) (by decide) (by decide) (by decide) (by decide) (by decide)).trans b_10), ((hF 11 (by decide) (by decide) (by decide) (by decide) (by decide) (by decide)).trans b_11), ((hF 12 (by decide) (by decide) (by decide) (by decide) (by decide) (by decide)).trans b_12), ((hF 13 (by decide) (by decide) (by decide) (by decide) (by decide) (by decide)).trans b_13), ((hF 14 (by decide) (by decide) (by decide) (by decide) (by decide) (by decide)).trans b_14), ((hF 39 (by decide) (by decide) (by decide) (by decide) (by decide) (by decide)).trans b_39), ((hF 40 (by decide) (by decide) (by decide) (by decide) (by decide) (by decide)).trans b_40), ((hF 41 (by decide) (by decide) (by decide) (by decide) (by decide) (by decide)).trans b_41), ((hF 42 (by decide) (by decide) (by decide) (by decide) (by decide) (by decide)).trans b_42), ((hF 43 (by decide) (by decide) (by decide) (by decide) (by decide) (by decide)).trans b_43), ((hF 44 (by decide) (by decide) (by decide) (by decide) (by decide) (by decide)).trans b_44), ((hF 45 (by decide) (by decide) (by decide) (by decide) (by decide) (by decide)).trans b_45), ((hF 46 (by decide) (by decide) (by decide) (by decide) (by decide) (by decide)).trans b_46), ((hF 47 (by decide) (by decide) (by decide) (by decide) (by decide) (by decide)).trans b_47), ((hF 48 (by decide) (by decide) (by decide) (by decide) (by decide) (by decide)).trans b_48), ((hF 49 (by decide) (by decide) (by decide) (by decide) (by decide) (by decide)).trans b_49), ((hF 50 (by decide) (by decide) (by decide) (by decide) (by decide) (by decide)).trans b_50), ((hF 51 (by decide) (by decide) (by decide) (by decide) (by decide) (by decide)).trans b_51), ((hF 52 (by decide) (by decide) (by decide) (by decide) (by decide) (by decide)).trans b_52), ((hF 53 (by decide) (by decide) (by decide) (by decide) (by decide) (by decide)).trans b_53), ((hF 54 (by decide) (by decide) (by decide) (by decide) (by decide) (by decide)).trans b_54), (fun t ht => (hF (15 + t) (by omega) (by omega) (by omega) (by omega) (by omega) (by omega)).trans (hacts t ht)), (fun k hk => ⟨(hF (55 + 2 * k) (by omega) (by omega) (by omega) (by omega) (by omega) (by omega)).trans (hsh k hk).1, (hF (56 + 2 * k) (by omega) (by omega) (by omega) (by omega) (by omega) (by omega)).trans (hsh k hk).2⟩)⟩, (fun x9 h9 => hF x9 (by omega) (by omega) (by omega) (by omega) (by omega) (by omega))⟩)
          · have c_71 := bI_eq.mp c_71
            have hD : rowD x y q u hr la lg sc = some (-10 - 3, 3) := by rw [rowD, if_pos c_9, if_pos c_18, Ej, if_pos c_42, if_pos c_54, if_neg c_71]
            refine lv_aload_n hx hb dX8_row_74 rfl (lv_at hl 2 rfl) ?_
            refine lv_iconst (v := 3) hx hb dX8_row_75 (by decide) ?_
            refine qh_runV (As := [.int 3]) (rest := []) (C := RX8) ⟨hx, hb, hml, hown, hts⟩ hK hH (c_X8_failed l G z M E_1 tr 0 (hM) h_0 3) (cwV 1 hts gX8_row_X8_failed rfl rfl rfl (by decide +kernel) (by rw [hRf, hRl]; exact ⟨Nat.le_of_ble_eq_true rfl, Nat.le_of_ble_eq_true rfl⟩)) (by omega) h_0 rfl rfl hl.1 rfl (Nat.le_of_ble_eq_true rfl) dX8_row_76 ⟨Nat.zero_le _, Nat.zero_le _⟩ (qh_kki fun r_76 E_8 H locs hpost hH => ?_)
            obtain ⟨rfl, h_0, hfr⟩ := hpost
            have hF : ∀ x9, x9 ≠ 0 → E_8 x9 = E x9 := fun x9 a0 => (hfr x9 a0).trans (hF x9 a0)
            exact hret dX8_row_79 hH (by rw [hD]; exact ⟨rfl, ⟨_, _, _, _, _, _, _, _, _, _, _, _, _, _, _, _, h_0, ((hF 1 (by decide)).trans b_1), ((hF 2 (by decide)).trans b_2), ((hF 3 (by decide)).trans b_3), ((hF 4 (by decide)).trans b_4), ((hF 5 (by decide)).trans b_5), ((hF 6 (by decide)).trans b_6), ((hF 7 (by decide)).trans b_7), ((hF 8 (by decide)).trans b_8), ((hF 9 (by decide)).trans b_9), ((hF 10 (by decide)).trans b_10), ((hF 11 (by decide)).trans b_11), ((hF 12 (by decide)).trans b_12), ((hF 13 (by decide)).trans b_13), ((hF 14 (by decide)).trans b_14), ((hF 39 (by decide)).trans b_39), ((hF 40 (by decide)).trans b_40), ((hF 41 (by decide)).trans b_41), ((hF 42 (by decide)).trans b_42), ((hF 43 (by decide)).trans b_43), ((hF 44 (by decide)).trans b_44), ((hF 45 (by decide)).trans b_45), ((hF 46 (by decide)).trans b_46), ((hF 47 (by decide)).trans b_47), ((hF 48 (by decide)).trans b_48), ((hF 49 (by decide)).trans b_49), ((hF 50 (by decide)).trans b_50), ((hF 51 (by decide)).trans b_51), ((hF 52 (by decide)).trans b_52), ((hF 53 (by decide)).trans b_53), ((hF 54 (by decide)).trans b_54), (fun t ht => (hF (15 + t) (by omega)).trans (hacts t ht)), (fun k hk => ⟨(hF (55 + 2 * k) (by omega)).trans (hsh k hk).1, (hF (56 + 2 * k) (by omega)).trans (hsh k hk).2⟩)⟩, (fun x9 h9 => hF x9 (by omega))⟩)
        · have hD : rowD x y q u hr la lg sc = some (-10 - 4, 4) := by rw [rowD, if_pos c_9, if_pos c_18, Ej, if_pos c_42, if_neg c_54]
          refine lv_aload_n hx hb dX8_row_57 rfl (lv_at hl 2 rfl) ?_
          refine lv_iconst (v := 4) hx hb dX8_row_58 (by decide) ?_
          refine qh_runV (As := [.int 4]) (rest := []) (C := RX8) ⟨hx, hb, hml, hown, hts⟩ hK hH (c_X8_failed l G z M E_1 tr 0 (hM) h_0 4) (cwV 1 hts gX8_row_X8_failed rfl rfl rfl (by decide +kernel) (by rw [hRf, hRl]; exact ⟨Nat.le_of_ble_eq_true rfl, Nat.le_of_ble_eq_true rfl⟩)) (by omega) h_0 rfl rfl hl.1 rfl (Nat.le_of_ble_eq_true rfl) dX8_row_59 ⟨Nat.zero_le _, Nat.zero_le _⟩ (qh_kki fun r_59 E_9 H locs hpost hH => ?_)
          obtain ⟨rfl, h_0, hfr⟩ := hpost
          have hF : ∀ x9, x9 ≠ 0 → E_9 x9 = E x9 := fun x9 a0 => (hfr x9 a0).trans (hF x9 a0)
          exact hret dX8_row_62 hH (by rw [hD]; exact ⟨rfl, ⟨_, _, _, _, _, _, _, _, _, _, _, _, _, _, _, _, h_0, ((hF 1 (by decide)).trans b_1), ((hF 2 (by decide)).trans b_2), ((hF 3 (by decide)).trans b_3), ((hF 4 (by decide)).trans b_4), ((hF 5 (by decide)).trans b_5), ((hF 6 (by decide)).trans b_6), ((hF 7 (by decide)).trans b_7), ((hF 8 (by decide)).trans b_8), ((hF 9 (by decide)).trans b_9), ((hF 10 (by decide)).trans b_10), ((hF 11 (by decide)).trans b_11), ((hF 12 (by decide)).trans b_12), ((hF 13 (by decide)).trans b_13), ((hF 14 (by decide)).trans b_14), ((hF 39 (by decide)).trans b_39), ((hF 40 (by decide)).trans b_40), ((hF 41 (by decide)).trans b_41), ((hF 42 (by decide)).trans b_42), ((hF 43 (by decide)).trans b_43), ((hF 44 (by decide)).trans b_44), ((hF 45 (by decide)).trans b_45), ((hF 46 (by decide)).trans b_46), ((hF 47 (by decide)).trans b_47), ((hF 48 (by decide)).trans b_48), ((hF 49 (by decide)).trans b_49), ((hF 50 (by decide)).trans b_50), ((hF 51 (by decide)).trans b_51), ((hF 52 (by decide)).trans b_52), ((hF 53 (by decide)).trans b_53), ((hF 54 (by decide)).trans b_54), (fun t ht => (hF (15 + t) (by omega)).trans (hacts t ht)), (fun k hk => ⟨(hF (55 + 2 * k) (by omega)).trans (hsh k hk).1, (hF (56 + 2 * k) (by omega)).trans (hsh k hk).2⟩)⟩, (fun x9 h9 => hF x9 (by omega))⟩)
      · have hD : rowD x y q u hr la lg sc = some (-10 - takF (hr j) (la j) y, takF (hr j) (la j) y) := by rw [rowD, if_pos c_9, if_pos c_18, Ej, if_neg c_42]
        refine lv_aload_n hx hb dX8_row_45 rfl (lv_at hl 2 rfl) ?_
        refine lv_iload hx hb dX8_row_46 (lv_at hl 0 rfl) ?_
        refine qh_runV (As := [.int (takF (hr j) (la j) y)]) (rest := []) (C := RX8) ⟨hx, hb, hml, hown, hts⟩ hK hH (c_X8_failed l G z M E_1 tr 0 (hM) h_0 (takF (hr j) (la j) y)) (cwV 1 hts gX8_row_X8_failed rfl rfl rfl (by decide +kernel) (by rw [hRf, hRl]; exact ⟨Nat.le_of_ble_eq_true rfl, Nat.le_of_ble_eq_true rfl⟩)) (by omega) h_0 rfl rfl hl.1 rfl (Nat.le_of_ble_eq_true rfl) dX8_row_48 ⟨Nat.zero_le _, Nat.zero_le _⟩ (qh_kki fun r_48 E_10 H locs hpost hH => ?_)
        obtain ⟨rfl, h_0, hfr⟩ := hpost
        have hF : ∀ x9, x9 ≠ 0 → E_10 x9 = E x9 := fun x9 a0 => (hfr x9 a0).trans (hF x9 a0)
        exact hret dX8_row_51 hH (by rw [hD]; exact ⟨rfl, ⟨_, _, _, _, _, _, _, _, _, _, _, _, _, _, _, _, h_0, ((hF 1 (by decide)).trans b_1), ((hF 2 (by decide)).trans b_2), ((hF 3 (by decide)).trans b_3), ((hF 4 (by decide)).trans b_4), ((hF 5 (by decide)).trans b_5), ((hF 6 (by decide)).trans b_6), ((hF 7 (by decide)).trans b_7), ((hF 8 (by decide)).trans b_8), ((hF 9 (by decide)).trans b_9), ((hF 10 (by decide)).trans b_10), ((hF 11 (by decide)).trans b_11), ((hF 12 (by decide)).trans b_12), ((hF 13 (by decide)).trans b_13), ((hF 14 (by decide)).trans b_14), ((hF 39 (by decide)).trans b_39), ((hF 40 (by decide)).trans b_40), ((hF 41 (by decide)).trans b_41), ((hF 42 (by decide)).trans b_42), ((hF 43 (by decide)).trans b_43), ((hF 44 (by decide)).trans b_44), ((hF 45 (by decide)).trans b_45), ((hF 46 (by decide)).trans b_46), ((hF 47 (by decide)).trans b_47), ((hF 48 (by decide)).trans b_48), ((hF 49 (by decide)).trans b_49), ((hF 50 (by decide)).trans b_50), ((hF 51 (by decide)).trans b_51), ((hF 52 (by decide)).trans b_52), ((hF 53 (by decide)).trans b_53), ((hF 54 (by decide)).trans b_54), (fun t ht => (hF (15 + t) (by omega)).trans (hacts t ht)), (fun k hk => ⟨(hF (55 + 2 * k) (by omega)).trans (hsh k hk).1, (hF (56 + 2 * k) (by omega)).trans (hsh k hk).2⟩)⟩, (fun x9 h9 => hF x9 (by omega))⟩)
    · have c_18 := bI_eq.mp c_18
      have hD : rowD x y q u hr la lg sc = some (-2, 0) := by rw [rowD, if_pos c_9, if_neg c_18]
      refine lv_bipush (v := (-2)) hx hb dX8_row_21 (by decide) ?_
      exact hret dX8_row_23 hH (by rw [hD]; exact ⟨rfl, ⟨_, _, _, _, _, _, _, _, _, _, _, _, _, _, _, _, h_0, ((hF 1 (by decide)).trans b_1), ((hF 2 (by decide)).trans b_2), ((hF 3 (by decide)).trans b_3), ((hF 4 (by decide)).trans b_4), ((hF 5 (by decide)).trans b_5), ((hF 6 (by decide)).trans b_6), ((hF 7 (by decide)).trans b_7), ((hF 8 (by decide)).trans b_8), ((hF 9 (by decide)).trans b_9), ((hF 10 (by decide)).trans b_10), ((hF 11 (by decide)).trans b_11), ((hF 12 (by decide)).trans b_12), ((hF 13 (by decide)).trans b_13), ((hF 14 (by decide)).trans b_14), ((hF 39 (by decide)).trans b_39), ((hF 40 (by decide)).trans b_40), ((hF 41 (by decide)).trans b_41), ((hF 42 (by decide)).trans b_42), ((hF 43 (by decide)).trans b_43), ((hF 44 (by decide)).trans b_44), ((hF 45 (by decide)).trans b_45), ((hF 46 (by decide)).trans b_46), ((hF 47 (by decide)).trans b_47), ((hF 48 (by decide)).trans b_48), ((hF 49 (by decide)).trans b_49), ((hF 50 (by decide)).trans b_50), ((hF 51 (by decide)).trans b_51), ((hF 52 (by decide)).trans b_52), ((hF 53 (by decide)).trans b_53), ((hF 54 (by decide)).trans b_54), (fun t ht => (hF (15 + t) (by omega)).trans (hacts t ht)), (fun k hk => ⟨(hF (55 + 2 * k) (by omega)).trans (hsh k hk).1, (hF (56 + 2 * k) (by omega)).trans (hsh k hk).2⟩)⟩, (fun x9 h9 => hF x9 (by omega))⟩)
  · have c_9 := bI_eq.mp c_9
    have hD : rowD x y q u hr la lg sc = some (-1, 0) := by rw [rowD, if_neg c_9]
    refine lv_iconst (v := (-1)) hx hb dX8_row_12 (by decide) ?_
    exact hret dX8_row_13 hH (by rw [hD]; exact ⟨rfl, ⟨_, _, _, _, _, _, _, _, _, _, _, _, _, _, _, _, h_0, ((hF 1 (by decide)).trans b_1), ((hF 2 (by decide)).trans b_2), ((hF 3 (by decide)).trans b_3), ((hF 4 (by decide)).trans b_4), ((hF 5 (by decide)).trans b_5), ((hF 6 (by decide)).trans b_6), ((hF 7 (by decide)).trans b_7), ((hF 8 (by decide)).trans b_8), ((hF 9 (by decide)).trans b_9), ((hF 10 (by decide)).trans b_10), ((hF 11 (by decide)).trans b_11), ((hF 12 (by decide)).trans b_12), ((hF 13 (by decide)).trans b_13), ((hF 14 (by decide)).trans b_14), ((hF 39 (by decide)).trans b_39), ((hF 40 (by decide)).trans b_40), ((hF 41 (by decide)).trans b_41), ((hF 42 (by decide)).trans b_42), ((hF 43 (by decide)).trans b_43), ((hF 44 (by decide)).trans b_44), ((hF 45 (by decide)).trans b_45), ((hF 46 (by decide)).trans b_46), ((hF 47 (by decide)).trans b_47), ((hF 48 (by decide)).trans b_48), ((hF 49 (by decide)).trans b_49), ((hF 50 (by decide)).trans b_50), ((hF 51 (by decide)).trans b_51), ((hF 52 (by decide)).trans b_52), ((hF 53 (by decide)).trans b_53), ((hF 54 (by decide)).trans b_54), (fun t ht => (hF (15 + t) (by omega)).trans (hacts t ht)), (fun k hk => ⟨(hF (55 + 2 * k) (by omega)).trans (hsh k hk).1, (hF (56 + 2 * k) (by omega)).trans (hsh k hk).2⟩)⟩, (fun x9 h9 => hF x9 (by omega))⟩)
