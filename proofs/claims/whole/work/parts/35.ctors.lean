set_option maxHeartbeats 1000000 in
set_option maxRecDepth 100000 in
theorem ce_X0_init (l : Launch) (G : qh_G) (z M : Nat) (E : Nat → va_E) (i : Nat) (hi : i < M) (b_i : E i = .inr (0, [.int 0, .int 0, .int 0, .long 0])) : Met l yX0_init wsX0_init (qe_R 1 0 0) (qe_Pre G z M E [.ref (z + i)]) (qe_Q G z M (fun E' => E' i = .inr (0, [.int 0, .int 0, .int 0, .long 0]) ∧ ∀ x9, x9 ≠ i → E' x9 = E x9)) 0 0 (fun q => z ≤ q) := by
  refine qe_met (cc := cX0_init) (maxL := 1) (by decide) rfl (Nat.le_of_ble_eq_true rfl) ?_
  intro pZ eZ sZ mZ aZ bZ tZ cZ RR QQ ls hx hb hml hown hin hts hRf hRl hRc hRs hH hsz hK hN hl hret
  have hown : sZ.vm.findClass RX0 = some mZ.cls := hown
  have hl : lv_has ls 1 [(0, .ref (z + i))] := hl
  have in_X0 : ∀ w ∈ wsX00, w ∈ wsX0_init := fun w h => List.mem_cons_of_mem _ (List.mem_append_right _ h)
  have w_9 : qh_W G sZ mZ aZ 9 0 0 .int := qh_W.of hts in_X0 tyX0 tyX0_ok nmX0 hown hK rfl 0 (by decide) (by decide +kernel) rfl (by decide +kernel)
  have w_15 : qh_W G sZ mZ aZ 15 0 1 .int := qh_W.of hts in_X0 tyX0 tyX0_ok nmX0 hown hK rfl 1 (by decide) (by decide +kernel) rfl (by decide +kernel)
  have w_18 : qh_W G sZ mZ aZ 18 0 2 .int := qh_W.of hts in_X0 tyX0 tyX0_ok nmX0 hown hK rfl 2 (by decide) (by decide +kernel) rfl (by decide +kernel)
  have w_21 : qh_W G sZ mZ aZ 21 0 3 .long := qh_W.of hts in_X0 tyX0 tyX0_ok nmX0 hown hK rfl 3 (by decide) (by decide +kernel) rfl (by decide +kernel)
  refine lv_aload_n hx hb dX0_init_0 rfl (lv_at hl 0 rfl) ?_
  refine W.objInit hx hb hown (hts (.methodLink RX0 3 objectInit) (by decide +kernel)) (hts (.instanceMethod objectInit) (by decide +kernel)) (hts (.code objectInit ⟨#[0xb1]⟩ 1 none) (by decide +kernel)) rfl (hl.1.trans hml.symm) rfl dX0_init_1 (by rw [hRf]; exact Nat.le_of_ble_eq_true rfl) (by rw [hRl]; exact Nat.le_of_ble_eq_true rfl) ?_
  show W pZ l eZ RR sZ mZ aZ bZ tZ cZ _ _ _ _ QQ (F0 mZ 4 ls [])
  refine lv_aload_n hx hb dX0_init_4 rfl (lv_at hl 0 rfl) ?_
  refine lv_iconst (v := 0) hx hb dX0_init_5 (by decide) ?_
  refine qh_put (fs' := [.int 0, .int 0, .int 0, .long 0]) hx hb hH w_9 (by omega) b_i rfl rfl (Nat.le_of_ble_eq_true rfl) rfl dX0_init_6 (fun E_1 H locs h1 hfr1 hH hz => ?_)
  have hsz := hz.trans hsz
  refine lv_aload_n hx hb dX0_init_9 rfl (lv_at hl 0 rfl) ?_
  refine lv_iconst (v := 0) hx hb dX0_init_10 (by decide) ?_
  refine qh_put (fs' := [.int 0, .int 0, .int 0, .long 0]) hx hb hH w_15 (by omega) h1 rfl rfl (Nat.le_of_ble_eq_true rfl) rfl dX0_init_11 (fun E_2 H locs h2 hfr2 hH hz => ?_)
  have hsz := hz.trans hsz
  refine lv_aload_n hx hb dX0_init_14 rfl (lv_at hl 0 rfl) ?_
  refine lv_iconst (v := 0) hx hb dX0_init_15 (by decide) ?_
  refine qh_put (fs' := [.int 0, .int 0, .int 0, .long 0]) hx hb hH w_18 (by omega) h2 rfl rfl (Nat.le_of_ble_eq_true rfl) rfl dX0_init_16 (fun E_3 H locs h3 hfr3 hH hz => ?_)
  have hsz := hz.trans hsz
  refine lv_aload_n hx hb dX0_init_19 rfl (lv_at hl 0 rfl) ?_
  refine lv_lconst (v := 0) hx hb dX0_init_20 (by decide) ?_
  refine qh_put (fs' := [.int 0, .int 0, .int 0, .long 0]) hx hb hH w_21 (by omega) h3 rfl rfl (Nat.le_of_ble_eq_true rfl) rfl dX0_init_21 (fun E_4 H locs h4 hfr4 hH hz => ?_)
  have hsz := hz.trans hsz
  exact hret dX0_init_24 hH hsz ⟨h4, (fun x9 a0 => ((((hfr4 x9 a0)).trans (hfr3 x9 a0)).trans (hfr2 x9 a0)).trans (hfr1 x9 a0))⟩

set_option maxHeartbeats 1000000 in
set_option maxRecDepth 100000 in
theorem ce_X1_init (l : Launch) (G : qh_G) (z M : Nat) (E : Nat → va_E) (i : Nat) (hi : i < M) (b_i : E i = .inr (1, [.int 0, .null, .null])) : Met l yX1_init wsX1_init (qe_R 1 2 6) (qe_Pre G z M E [.ref (z + i)]) (qe_Q G z (M + 2) (fun E' => E' i = .inr (1, [.int 0, .ref (z + M), .ref (z + (M + 1))]) ∧ E' M = qa_I G 3 (fun _ => 0) ∧ E' (M + 1) = qa_I G 3 (fun _ => 0) ∧ ∀ x9, x9 ≠ i → x9 ≠ M → x9 ≠ M + 1 → E' x9 = E x9)) 2 6 (fun q => z ≤ q) := by
  refine qe_met (cc := cX1_init) (maxL := 1) (by decide) rfl (Nat.le_of_ble_eq_true rfl) ?_
  intro pZ eZ sZ mZ aZ bZ tZ cZ RR QQ ls hx hb hml hown hin hts hRf hRl hRc hRs hH hsz hK hN hl hret
  have hown : sZ.vm.findClass RX1 = some mZ.cls := hown
  have hl : lv_has ls 1 [(0, .ref (z + i))] := hl
  have in_X1 : ∀ w ∈ wsX10, w ∈ wsX1_init := fun w h => List.mem_cons_of_mem _ (List.mem_append_right _ h)
  have w_9 : qh_W G sZ mZ aZ 9 1 0 .int := qh_W.of hts in_X1 tyX1 tyX1_ok nmX1 hown hK rfl 0 (by decide) (by decide +kernel) rfl (by decide +kernel)
  refine lv_aload_n hx hb dX1_init_0 rfl (lv_at hl 0 rfl) ?_
  refine W.objInit hx hb hown (hts (.methodLink RX1 3 objectInit) (by decide +kernel)) (hts (.instanceMethod objectInit) (by decide +kernel)) (hts (.code objectInit ⟨#[0xb1]⟩ 1 none) (by decide +kernel)) rfl (hl.1.trans hml.symm) rfl dX1_init_1 (by rw [hRf]; exact Nat.le_of_ble_eq_true rfl) (by rw [hRl]; exact Nat.le_of_ble_eq_true rfl) ?_
  show W pZ l eZ RR sZ mZ aZ bZ tZ cZ _ _ _ _ QQ (F0 mZ 4 ls [])
  refine lv_aload_n hx hb dX1_init_4 rfl (lv_at hl 0 rfl) ?_
  refine lv_iconst (v := 0) hx hb dX1_init_5 (by decide) ?_
  refine qh_put (fs' := [.int 0, .null, .null]) hx hb hH w_9 (by omega) b_i rfl rfl (Nat.le_of_ble_eq_true rfl) rfl dX1_init_6 (fun E_1 H locs h1 hfr1 hH hz => ?_)
  have hsz := hz.trans hsz
  refine lv_aload_n hx hb dX1_init_9 rfl (lv_at hl 0 rfl) ?_
  refine lv_iconst (v := 3) hx hb dX1_init_10 (by decide) ?_
  refine qe_newI (N := 3) hx hb (hts (.arrayClass .int) (by decide +kernel)) hK hH hsz rfl (by decide) (by rw [hRc]; omega) (by rw [hRs]; omega) dX1_init_11 (fun E_2 H h2 hfr2 hH hsz => ?_)
  refine qe_putF (ci := 1) (C := RX1) (T := TX1) (N := 3) (ty := (.array .int)) (fs' := [.int 0, .ref (z + M), .null]) hx hb hts in_X1 tyX1 tyX1_ok nmX1 hown hK hH (by omega) ((hfr2 i (by omega)).trans h1) rfl 1 (by decide) (by decide +kernel) rfl hin rfl (by decide +kernel) rfl rfl (Nat.le_of_ble_eq_true rfl) rfl dX1_init_13 (fun E_3 H locs h3 hfr3 hH hz => ?_)
  have hsz := hz.trans hsz
  refine lv_aload_n hx hb dX1_init_16 rfl (lv_at hl 0 rfl) ?_
  refine lv_iconst (v := 3) hx hb dX1_init_17 (by decide) ?_
  refine qe_newI (N := 3) hx hb (hts (.arrayClass .int) (by decide +kernel)) hK hH hsz rfl (by decide) (by rw [hRc]; omega) (by rw [hRs]; omega) dX1_init_18 (fun E_4 H h4 hfr4 hH hsz => ?_)
  refine qe_putF (ci := 1) (C := RX1) (T := TX1) (N := 3) (ty := (.array .int)) (fs' := [.int 0, .ref (z + M), .ref (z + (M + 1))]) hx hb hts in_X1 tyX1 tyX1_ok nmX1 hown hK hH (by omega) ((hfr4 i (by omega)).trans h3) rfl 2 (by decide) (by decide +kernel) rfl hin rfl (by decide +kernel) rfl rfl (Nat.le_of_ble_eq_true rfl) rfl dX1_init_20 (fun E_5 H locs h5 hfr5 hH hz => ?_)
  have hsz := hz.trans hsz
  exact hret dX1_init_23 hH hsz ⟨h5, ((hfr5 M (by omega)).trans ((hfr4 M (by omega)).trans ((hfr3 M (by omega)).trans h2))), ((hfr5 (M + 1) (by omega)).trans h4), (fun x9 a0 a1 a2 => (((((hfr5 x9 a0)).trans (hfr4 x9 a2)).trans (hfr3 x9 a0)).trans (hfr2 x9 a1)).trans (hfr1 x9 a0))⟩

set_option maxHeartbeats 1000000 in
set_option maxRecDepth 100000 in
theorem ce_X3_init (l : Launch) (G : qh_G) (z M : Nat) (E : Nat → va_E) (i : Nat) (hi : i < M) (b_i : E i = .inr (3, [.int 0, .null, .null])) : Met l yX3_init wsX3_init (qe_R 1 2 32) (qe_Pre G z M E [.ref (z + i)]) (qe_Q G z (M + 2) (fun E' => E' i = .inr (3, [.int 0, .ref (z + M), .ref (z + (M + 1))]) ∧ E' M = qa_J G 16 (fun _ => 0) ∧ E' (M + 1) = qa_J G 16 (fun _ => 0) ∧ ∀ x9, x9 ≠ i → x9 ≠ M → x9 ≠ M + 1 → E' x9 = E x9)) 2 32 (fun q => z ≤ q) := by
  refine qe_met (cc := cX3_init) (maxL := 1) (by decide) rfl (Nat.le_of_ble_eq_true rfl) ?_
  intro pZ eZ sZ mZ aZ bZ tZ cZ RR QQ ls hx hb hml hown hin hts hRf hRl hRc hRs hH hsz hK hN hl hret
  have hown : sZ.vm.findClass RX3 = some mZ.cls := hown
  have hl : lv_has ls 1 [(0, .ref (z + i))] := hl
  have in_X3 : ∀ w ∈ wsX30, w ∈ wsX3_init := fun w h => List.mem_cons_of_mem _ (List.mem_append_right _ h)
  have w_9 : qh_W G sZ mZ aZ 9 3 0 .int := qh_W.of hts in_X3 tyX3 tyX3_ok nmX3 hown hK rfl 0 (by decide) (by decide +kernel) rfl (by decide +kernel)
  refine lv_aload_n hx hb dX3_init_0 rfl (lv_at hl 0 rfl) ?_
  refine W.objInit hx hb hown (hts (.methodLink RX3 3 objectInit) (by decide +kernel)) (hts (.instanceMethod objectInit) (by decide +kernel)) (hts (.code objectInit ⟨#[0xb1]⟩ 1 none) (by decide +kernel)) rfl (hl.1.trans hml.symm) rfl dX3_init_1 (by rw [hRf]; exact Nat.le_of_ble_eq_true rfl) (by rw [hRl]; exact Nat.le_of_ble_eq_true rfl) ?_
  show W pZ l eZ RR sZ mZ aZ bZ tZ cZ _ _ _ _ QQ (F0 mZ 4 ls [])
  refine lv_aload_n hx hb dX3_init_4 rfl (lv_at hl 0 rfl) ?_
  refine lv_iconst (v := 0) hx hb dX3_init_5 (by decide) ?_
  refine qh_put (fs' := [.int 0, .null, .null]) hx hb hH w_9 (by omega) b_i rfl rfl (Nat.le_of_ble_eq_true rfl) rfl dX3_init_6 (fun E_1 H locs h1 hfr1 hH hz => ?_)
  have hsz := hz.trans hsz
  refine lv_aload_n hx hb dX3_init_9 rfl (lv_at hl 0 rfl) ?_
  refine lv_bipush (v := 16) hx hb dX3_init_10 (by decide) ?_
  refine qe_newJ (N := 16) hx hb (hts (.arrayClass .long) (by decide +kernel)) hK hH hsz rfl (by decide) (by rw [hRc]; omega) (by rw [hRs]; omega) dX3_init_12 (fun E_2 H h2 hfr2 hH hsz => ?_)
  refine qe_putF (ci := 3) (C := RX3) (T := TX3) (N := 3) (ty := (.array .long)) (fs' := [.int 0, .ref (z + M), .null]) hx hb hts in_X3 tyX3 tyX3_ok nmX3 hown hK hH (by omega) ((hfr2 i (by omega)).trans h1) rfl 1 (by decide) (by decide +kernel) rfl hin rfl (by decide +kernel) rfl rfl (Nat.le_of_ble_eq_true rfl) rfl dX3_init_14 (fun E_3 H locs h3 hfr3 hH hz => ?_)
  have hsz := hz.trans hsz
  refine lv_aload_n hx hb dX3_init_17 rfl (lv_at hl 0 rfl) ?_
  refine lv_bipush (v := 16) hx hb dX3_init_18 (by decide) ?_
  refine qe_newJ (N := 16) hx hb (hts (.arrayClass .long) (by decide +kernel)) hK hH hsz rfl (by decide) (by rw [hRc]; omega) (by rw [hRs]; omega) dX3_init_20 (fun E_4 H h4 hfr4 hH hsz => ?_)
  refine qe_putF (ci := 3) (C := RX3) (T := TX3) (N := 3) (ty := (.array .long)) (fs' := [.int 0, .ref (z + M), .ref (z + (M + 1))]) hx hb hts in_X3 tyX3 tyX3_ok nmX3 hown hK hH (by omega) ((hfr4 i (by omega)).trans h3) rfl 2 (by decide) (by decide +kernel) rfl hin rfl (by decide +kernel) rfl rfl (Nat.le_of_ble_eq_true rfl) rfl dX3_init_22 (fun E_5 H locs h5 hfr5 hH hz => ?_)
  have hsz := hz.trans hsz
  exact hret dX3_init_25 hH hsz ⟨h5, ((hfr5 M (by omega)).trans ((hfr4 M (by omega)).trans ((hfr3 M (by omega)).trans h2))), ((hfr5 (M + 1) (by omega)).trans h4), (fun x9 a0 a1 a2 => (((((hfr5 x9 a0)).trans (hfr4 x9 a2)).trans (hfr3 x9 a0)).trans (hfr2 x9 a1)).trans (hfr1 x9 a0))⟩

set_option maxHeartbeats 1000000 in
set_option maxRecDepth 100000 in
theorem ce_X4_init (l : Launch) (G : qh_G) (z M : Nat) (E : Nat → va_E) (i : Nat) (hi : i < M) (b_i : E i = .inr (4, [.int 0, .null, .null])) : Met l yX4_init wsX4_init (qe_R 1 2 16) (qe_Pre G z M E [.ref (z + i)]) (qe_Q G z (M + 2) (fun E' => E' i = .inr (4, [.int 0, .ref (z + M), .ref (z + (M + 1))]) ∧ E' M = qa_I G 8 (fun _ => 0) ∧ E' (M + 1) = qa_J G 8 (fun _ => 0) ∧ ∀ x9, x9 ≠ i → x9 ≠ M → x9 ≠ M + 1 → E' x9 = E x9)) 2 16 (fun q => z ≤ q) := by
  refine qe_met (cc := cX4_init) (maxL := 1) (by decide) rfl (Nat.le_of_ble_eq_true rfl) ?_
  intro pZ eZ sZ mZ aZ bZ tZ cZ RR QQ ls hx hb hml hown hin hts hRf hRl hRc hRs hH hsz hK hN hl hret
  have hown : sZ.vm.findClass RX4 = some mZ.cls := hown
  have hl : lv_has ls 1 [(0, .ref (z + i))] := hl
  have in_X4 : ∀ w ∈ wsX40, w ∈ wsX4_init := fun w h => List.mem_cons_of_mem _ (List.mem_append_right _ h)
  have w_9 : qh_W G sZ mZ aZ 9 4 0 .int := qh_W.of hts in_X4 tyX4 tyX4_ok nmX4 hown hK rfl 0 (by decide) (by decide +kernel) rfl (by decide +kernel)
  refine lv_aload_n hx hb dX4_init_0 rfl (lv_at hl 0 rfl) ?_
  refine W.objInit hx hb hown (hts (.methodLink RX4 3 objectInit) (by decide +kernel)) (hts (.instanceMethod objectInit) (by decide +kernel)) (hts (.code objectInit ⟨#[0xb1]⟩ 1 none) (by decide +kernel)) rfl (hl.1.trans hml.symm) rfl dX4_init_1 (by rw [hRf]; exact Nat.le_of_ble_eq_true rfl) (by rw [hRl]; exact Nat.le_of_ble_eq_true rfl) ?_
  show W pZ l eZ RR sZ mZ aZ bZ tZ cZ _ _ _ _ QQ (F0 mZ 4 ls [])
  refine lv_aload_n hx hb dX4_init_4 rfl (lv_at hl 0 rfl) ?_
  refine lv_iconst (v := 0) hx hb dX4_init_5 (by decide) ?_
  refine qh_put (fs' := [.int 0, .null, .null]) hx hb hH w_9 (by omega) b_i rfl rfl (Nat.le_of_ble_eq_true rfl) rfl dX4_init_6 (fun E_1 H locs h1 hfr1 hH hz => ?_)
  have hsz := hz.trans hsz
  refine lv_aload_n hx hb dX4_init_9 rfl (lv_at hl 0 rfl) ?_
  refine lv_bipush (v := 8) hx hb dX4_init_10 (by decide) ?_
  refine qe_newI (N := 8) hx hb (hts (.arrayClass .int) (by decide +kernel)) hK hH hsz rfl (by decide) (by rw [hRc]; omega) (by rw [hRs]; omega) dX4_init_12 (fun E_2 H h2 hfr2 hH hsz => ?_)
  refine qe_putF (ci := 4) (C := RX4) (T := TX4) (N := 3) (ty := (.array .int)) (fs' := [.int 0, .ref (z + M), .null]) hx hb hts in_X4 tyX4 tyX4_ok nmX4 hown hK hH (by omega) ((hfr2 i (by omega)).trans h1) rfl 1 (by decide) (by decide +kernel) rfl hin rfl (by decide +kernel) rfl rfl (Nat.le_of_ble_eq_true rfl) rfl dX4_init_14 (fun E_3 H locs h3 hfr3 hH hz => ?_)
  have hsz := hz.trans hsz
  refine lv_aload_n hx hb dX4_init_17 rfl (lv_at hl 0 rfl) ?_
  refine lv_bipush (v := 8) hx hb dX4_init_18 (by decide) ?_
  refine qe_newJ (N := 8) hx hb (hts (.arrayClass .long) (by decide +kernel)) hK hH hsz rfl (by decide) (by rw [hRc]; omega) (by rw [hRs]; omega) dX4_init_20 (fun E_4 H h4 hfr4 hH hsz => ?_)
  refine qe_putF (ci := 4) (C := RX4) (T := TX4) (N := 3) (ty := (.array .long)) (fs' := [.int 0, .ref (z + M), .ref (z + (M + 1))]) hx hb hts in_X4 tyX4 tyX4_ok nmX4 hown hK hH (by omega) ((hfr4 i (by omega)).trans h3) rfl 2 (by decide) (by decide +kernel) rfl hin rfl (by decide +kernel) rfl rfl (Nat.le_of_ble_eq_true rfl) rfl dX4_init_22 (fun E_5 H locs h5 hfr5 hH hz => ?_)
  have hsz := hz.trans hsz
  exact hret dX4_init_25 hH hsz ⟨h5, ((hfr5 M (by omega)).trans ((hfr4 M (by omega)).trans ((hfr3 M (by omega)).trans h2))), ((hfr5 (M + 1) (by omega)).trans h4), (fun x9 a0 a1 a2 => (((((hfr5 x9 a0)).trans (hfr4 x9 a2)).trans (hfr3 x9 a0)).trans (hfr2 x9 a1)).trans (hfr1 x9 a0))⟩

set_option maxHeartbeats 1000000 in
set_option maxRecDepth 100000 in
theorem ce_X5_init (l : Launch) (G : qh_G) (z M : Nat) (E : Nat → va_E) (i : Nat) (hi : i < M) (b_i : E i = .inr (5, [.int 0, .int 0, .int 0, .null])) : Met l yX5_init wsX5_init (qe_R 1 1 60) (qe_Pre G z M E [.ref (z + i)]) (qe_Q G z (M + 1) (fun E' => E' i = .inr (5, [.int 0, .int 0, .int 0, .ref (z + M)]) ∧ E' M = qa_I G 60 (fun _ => 0) ∧ ∀ x9, x9 ≠ i → x9 ≠ M → E' x9 = E x9)) 1 60 (fun q => z ≤ q) := by
  refine qe_met (cc := cX5_init) (maxL := 1) (by decide) rfl (Nat.le_of_ble_eq_true rfl) ?_
  intro pZ eZ sZ mZ aZ bZ tZ cZ RR QQ ls hx hb hml hown hin hts hRf hRl hRc hRs hH hsz hK hN hl hret
  have hown : sZ.vm.findClass RX5 = some mZ.cls := hown
  have hl : lv_has ls 1 [(0, .ref (z + i))] := hl
  have in_X5 : ∀ w ∈ wsX50, w ∈ wsX5_init := fun w h => List.mem_cons_of_mem _ (List.mem_append_right _ h)
  have w_9 : qh_W G sZ mZ aZ 9 5 0 .boolean := qh_W.of hts in_X5 tyX5 tyX5_ok nmX5 hown hK rfl 0 (by decide) (by decide +kernel) rfl (by decide +kernel)
  have w_15 : qh_W G sZ mZ aZ 15 5 1 .int := qh_W.of hts in_X5 tyX5 tyX5_ok nmX5 hown hK rfl 1 (by decide) (by decide +kernel) rfl (by decide +kernel)
  have w_19 : qh_W G sZ mZ aZ 19 5 2 .int := qh_W.of hts in_X5 tyX5 tyX5_ok nmX5 hown hK rfl 2 (by decide) (by decide +kernel) rfl (by decide +kernel)
  refine lv_aload_n hx hb dX5_init_0 rfl (lv_at hl 0 rfl) ?_
  refine W.objInit hx hb hown (hts (.methodLink RX5 3 objectInit) (by decide +kernel)) (hts (.instanceMethod objectInit) (by decide +kernel)) (hts (.code objectInit ⟨#[0xb1]⟩ 1 none) (by decide +kernel)) rfl (hl.1.trans hml.symm) rfl dX5_init_1 (by rw [hRf]; exact Nat.le_of_ble_eq_true rfl) (by rw [hRl]; exact Nat.le_of_ble_eq_true rfl) ?_
  show W pZ l eZ RR sZ mZ aZ bZ tZ cZ _ _ _ _ QQ (F0 mZ 4 ls [])
  refine lv_aload_n hx hb dX5_init_4 rfl (lv_at hl 0 rfl) ?_
  refine lv_iconst (v := 0) hx hb dX5_init_5 (by decide) ?_
  refine qh_put (fs' := [.int 0, .int 0, .int 0, .null]) hx hb hH w_9 (by omega) b_i rfl rfl (Nat.le_of_ble_eq_true rfl) rfl dX5_init_6 (fun E_1 H locs h1 hfr1 hH hz => ?_)
  have hsz := hz.trans hsz
  refine lv_aload_n hx hb dX5_init_9 rfl (lv_at hl 0 rfl) ?_
  refine lv_iconst (v := 0) hx hb dX5_init_10 (by decide) ?_
  refine qh_put (fs' := [.int 0, .int 0, .int 0, .null]) hx hb hH w_15 (by omega) h1 rfl rfl (Nat.le_of_ble_eq_true rfl) rfl dX5_init_11 (fun E_2 H locs h2 hfr2 hH hz => ?_)
  have hsz := hz.trans hsz
  refine lv_aload_n hx hb dX5_init_14 rfl (lv_at hl 0 rfl) ?_
  refine lv_iconst (v := 0) hx hb dX5_init_15 (by decide) ?_
  refine qh_put (fs' := [.int 0, .int 0, .int 0, .null]) hx hb hH w_19 (by omega) h2 rfl rfl (Nat.le_of_ble_eq_true rfl) rfl dX5_init_16 (fun E_3 H locs h3 hfr3 hH hz => ?_)
  have hsz := hz.trans hsz
  refine lv_aload_n hx hb dX5_init_19 rfl (lv_at hl 0 rfl) ?_
  refine lv_bipush (v := 60) hx hb dX5_init_20 (by decide) ?_
  refine qe_newI (N := 60) hx hb (hts (.arrayClass .int) (by decide +kernel)) hK hH hsz rfl (by decide) (by rw [hRc]; omega) (by rw [hRs]; omega) dX5_init_22 (fun E_4 H h4 hfr4 hH hsz => ?_)
  refine qe_putF (ci := 5) (C := RX5) (T := TX5) (N := 4) (ty := (.array .int)) (fs' := [.int 0, .int 0, .int 0, .ref (z + M)]) hx hb hts in_X5 tyX5 tyX5_ok nmX5 hown hK hH (by omega) ((hfr4 i (by omega)).trans h3) rfl 3 (by decide) (by decide +kernel) rfl hin rfl (by decide +kernel) rfl rfl (Nat.le_of_ble_eq_true rfl) rfl dX5_init_24 (fun E_5 H locs h5 hfr5 hH hz => ?_)
  have hsz := hz.trans hsz
  exact hret dX5_init_27 hH hsz ⟨h5, ((hfr5 M (by omega)).trans h4), (fun x9 a0 a1 => (((((hfr5 x9 a0)).trans (hfr4 x9 a1)).trans (hfr3 x9 a0)).trans (hfr2 x9 a0)).trans (hfr1 x9 a0))⟩
