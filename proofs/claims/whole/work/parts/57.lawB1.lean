set_option maxHeartbeats 1000000 in
set_option maxRecDepth 100000 in
theorem lc_ofSpan {p : Program} {l : Launch} {e : Env} {s : State} {m : MethodId} {below : List Frame} {meth : Method} {c : Code} {b L i : Nat} {xs : Nat → Int32} {G : qh_G} {z : Nat} {E : Nat → va_E} {H : Heap} {locs : List Loc} {Q : State → Prop} {ls : Array Slot} (C : LC p s m c b L xs G z) (hL : L ≤ 3072) (hi : i + 6 ≤ L) (hI : IV G z E) (hH : qh_H G z 84 E s.heap H locs) (hl : lv_has ls 4 [(0, .ref b), (1, .ref (z + 0)), (2, .ref (z + 63)), (3, .int (nI i))])
    (kk : ∀ (E' : Nat → va_E) (H' : Heap) (locs' : List Loc) (ls' : Array Slot), IV G z E' → qh_H G z 84 E' s.heap H' locs' → lv_has ls' 4 [(0, .ref b), (1, .ref (z + 0)), (2, .ref (z + 63)), (3, .int (nI i))] → W p l e room_1 s m #[Value.ref b] below meth c H' locs' 84 1198 Q (F0 m 1357 ls' [])) : W p l e room_1 s m #[Value.ref b] below meth c H locs 84 1198 Q (F0 m 677 ls []) := by
  obtain ⟨hx, hb, hml, hown, hts, hK, hX0, hbl, rfl⟩ := C
  obtain ⟨tr, lf, n, f, g, bf, m2, kd, pa, ln, ts, ga, gb, va, rn, cn, vs, hr, la, lg, sc, mf, mg, mb, mk, mp, so, sg, ce, lq, hX, hM, h81, hR⟩ := hI
  have hbA : ¬ (s.heap.size ≤ b) := Nat.not_le.mpr hbl
  refine lv_aload_n hx hb dL_law_677 rfl (lv_at hl 1 rfl) ?_
  refine lv_aload_n hx hb dL_law_678 rfl (lv_at hl 0 rfl) ?_
  refine lv_iload_n hx hb dL_law_679 rfl (lv_at hl 3 rfl) ?_
  refine lv_iconst (v := 1) hx hb dL_law_680 (by decide) ?_
  refine lv_iadd hx hb dL_law_681 ?_
  refine qh_topi (y := nI (i + 1)) (nI_add i 1) ?_
  refine va_sld hx hb hX0 hbl hbA hH.2 (vp_in_nI (show i + 1 < L by omega) (by omega)) dL_law_682 ?_
  refine qh_topi (y := xs (i + 1)) (by rw [nI_clamp (show i + 1 < 2 ^ 31 by omega)]) ?_
  refine lv_aload_n hx hb dL_law_683 rfl (lv_at hl 0 rfl) ?_
  refine lv_iload_n hx hb dL_law_684 rfl (lv_at hl 3 rfl) ?_
  refine lv_iconst (v := 2) hx hb dL_law_685 (by decide) ?_
  refine lv_iadd hx hb dL_law_686 ?_
  refine qh_topi (y := nI (i + 2)) (nI_add i 2) ?_
  refine va_sld hx hb hX0 hbl hbA hH.2 (vp_in_nI (show i + 2 < L by omega) (by omega)) dL_law_687 ?_
  refine qh_topi (y := xs (i + 2)) (by rw [nI_clamp (show i + 2 < 2 ^ 31 by omega)]) ?_
  obtain ⟨cv1, hroot1⟩ := XE_root hX
  refine qh_runV (As := [.int (xs (i + 1)), .int (xs (i + 2))]) (rest := []) (C := RX8) ⟨hx, hb, hml, hown, hts⟩ hK hH (c_X8_ofSpan l G s.heap.size 84 E tr lf n f g bf m2 kd pa ln ts ga gb va rn cn vs hr la lg sc (by decide) hX hR.1 (xs (i + 1)) (xs (i + 2))) (cwV 2 hts gL_law_X8_ofSpan rfl rfl rfl (by decide +kernel) ⟨Nat.le_of_ble_eq_true rfl, Nat.le_of_ble_eq_true rfl⟩) (by decide) hroot1 rfl rfl hl.1 rfl (Nat.le_of_ble_eq_true rfl) dL_law_688 ⟨Nat.le_of_ble_eq_true rfl, Nat.le_of_ble_eq_true rfl⟩ (qh_kkl fun r1 E1 H locs hp1 hH => ?_)
  have hM1 := ME_cong (E1 := E) (E2 := E1) (fr_ofSpan hp1) hM
  refine lv_aload_n hx hb dL_law_691 rfl (lv_at hl 2 rfl) ?_
  refine lv_aload_n hx hb dL_law_692 rfl (lv_at hl 0 rfl) ?_
  refine lv_iload_n hx hb dL_law_693 rfl (lv_at hl 3 rfl) ?_
  refine lv_iconst (v := 1) hx hb dL_law_694 (by decide) ?_
  refine lv_iadd hx hb dL_law_695 ?_
  refine qh_topi (y := nI (i + 1)) (nI_add i 1) ?_
  refine va_sld hx hb hX0 hbl hbA hH.2 (vp_in_nI (show i + 1 < L by omega) (by omega)) dL_law_696 ?_
  refine qh_topi (y := xs (i + 1)) (by rw [nI_clamp (show i + 1 < 2 ^ 31 by omega)]) ?_
  refine lv_aload_n hx hb dL_law_697 rfl (lv_at hl 0 rfl) ?_
  refine lv_iload_n hx hb dL_law_698 rfl (lv_at hl 3 rfl) ?_
  refine lv_iconst (v := 2) hx hb dL_law_699 (by decide) ?_
  refine lv_iadd hx hb dL_law_700 ?_
  refine qh_topi (y := nI (i + 2)) (nI_add i 2) ?_
  refine va_sld hx hb hX0 hbl hbA hH.2 (vp_in_nI (show i + 2 < L by omega) (by omega)) dL_law_701 ?_
  refine qh_topi (y := xs (i + 2)) (by rw [nI_clamp (show i + 2 < 2 ^ 31 by omega)]) ?_
  obtain ⟨cv2, hroot2⟩ := ME_root hM1
  refine qh_runV (As := [.int (xs (i + 1)), .int (xs (i + 2))]) (rest := [.long r1]) (C := RX9) ⟨hx, hb, hml, hown, hts⟩ hK hH (c_X9_ofSpan l G s.heap.size 84 E1 tr lf n mf mg mb m2 mk mp ln ts ga gb va rn cn vs so sg ce (by decide) hM1 hR.2.1 (xs (i + 1)) (xs (i + 2))) (cwV 2 hts gL_law_X9_ofSpan rfl rfl rfl (by decide +kernel) ⟨Nat.le_of_ble_eq_true rfl, Nat.le_of_ble_eq_true rfl⟩) (by decide) hroot2 rfl rfl hl.1 rfl (Nat.le_of_ble_eq_true rfl) dL_law_702 ⟨Nat.le_of_ble_eq_true rfl, Nat.le_of_ble_eq_true rfl⟩ (qh_kkl fun r2 E2 H locs hp2 hH => ?_)
  obtain ⟨heq, hI2⟩ := st_ofSpan hX hM h81 hR hp1 hp2
  refine W.lcmp hx hb dL_law_705 ?_
  exact lv_if_eq (tgt := 1357) hx hb dL_law_706 (by decide) (fun _ => kk _ _ _ _ hI2 hH hl) (fun c9 => absurd ((lg_cmp_eq _ _).mpr heq) c9)

set_option maxHeartbeats 1000000 in
set_option maxRecDepth 100000 in
theorem lc_looks {p : Program} {l : Launch} {e : Env} {s : State} {m : MethodId} {below : List Frame} {meth : Method} {c : Code} {b L i : Nat} {xs : Nat → Int32} {G : qh_G} {z : Nat} {E : Nat → va_E} {H : Heap} {locs : List Loc} {Q : State → Prop} {ls : Array Slot} (C : LC p s m c b L xs G z) (hL : L ≤ 3072) (hi : i + 6 ≤ L) (hI : IV G z E) (hH : qh_H G z 84 E s.heap H locs) (hl : lv_has ls 4 [(0, .ref b), (1, .ref (z + 0)), (2, .ref (z + 63)), (3, .int (nI i))])
    (kk : ∀ (E' : Nat → va_E) (H' : Heap) (locs' : List Loc) (ls' : Array Slot), IV G z E' → qh_H G z 84 E' s.heap H' locs' → lv_has ls' 4 [(0, .ref b), (1, .ref (z + 0)), (2, .ref (z + 63)), (3, .int (nI i))] → W p l e room_1 s m #[Value.ref b] below meth c H' locs' 84 1198 Q (F0 m 1357 ls' [])) : W p l e room_1 s m #[Value.ref b] below meth c H locs 84 1198 Q (F0 m 711 ls []) := by
  obtain ⟨hx, hb, hml, hown, hts, hK, hX0, hbl, rfl⟩ := C
  obtain ⟨tr, lf, n, f, g, bf, m2, kd, pa, ln, ts, ga, gb, va, rn, cn, vs, hr, la, lg, sc, mf, mg, mb, mk, mp, so, sg, ce, lq, hX, hM, h81, hR⟩ := hI
  have hbA : ¬ (s.heap.size ≤ b) := Nat.not_le.mpr hbl
  refine lv_aload_n hx hb dL_law_711 rfl (lv_at hl 1 rfl) ?_
  refine lv_aload_n hx hb dL_law_712 rfl (lv_at hl 0 rfl) ?_
  refine lv_iload_n hx hb dL_law_713 rfl (lv_at hl 3 rfl) ?_
  refine lv_iconst (v := 1) hx hb dL_law_714 (by decide) ?_
  refine lv_iadd hx hb dL_law_715 ?_
  refine qh_topi (y := nI (i + 1)) (nI_add i 1) ?_
  refine va_sld hx hb hX0 hbl hbA hH.2 (vp_in_nI (show i + 1 < L by omega) (by omega)) dL_law_716 ?_
  refine qh_topi (y := xs (i + 1)) (by rw [nI_clamp (show i + 1 < 2 ^ 31 by omega)]) ?_
  refine lv_aload_n hx hb dL_law_717 rfl (lv_at hl 0 rfl) ?_
  refine lv_iload_n hx hb dL_law_718 rfl (lv_at hl 3 rfl) ?_
  refine lv_iconst (v := 2) hx hb dL_law_719 (by decide) ?_
  refine lv_iadd hx hb dL_law_720 ?_
  refine qh_topi (y := nI (i + 2)) (nI_add i 2) ?_
  refine va_sld hx hb hX0 hbl hbA hH.2 (vp_in_nI (show i + 2 < L by omega) (by omega)) dL_law_721 ?_
  refine qh_topi (y := xs (i + 2)) (by rw [nI_clamp (show i + 2 < 2 ^ 31 by omega)]) ?_
  refine lv_aload_n hx hb dL_law_722 rfl (lv_at hl 0 rfl) ?_
  refine lv_iload_n hx hb dL_law_723 rfl (lv_at hl 3 rfl) ?_
  refine lv_iconst (v := 3) hx hb dL_law_724 (by decide) ?_
  refine lv_iadd hx hb dL_law_725 ?_
  refine qh_topi (y := nI (i + 3)) (nI_add i 3) ?_
  refine va_sld hx hb hX0 hbl hbA hH.2 (vp_in_nI (show i + 3 < L by omega) (by omega)) dL_law_726 ?_
  refine qh_topi (y := xs (i + 3)) (by rw [nI_clamp (show i + 3 < 2 ^ 31 by omega)]) ?_
  refine lv_i2l (v := (xs (i + 3)).toInt64) hx hb dL_law_727 rfl ?_
  refine lv_bipush (v := 32) hx hb dL_law_728 (by decide) ?_
  refine lv_lshl (v := (((xs (i + 3)).toInt64) <<< ((32 : Int32).toInt64 &&& 63))) hx hb dL_law_730 rfl ?_
  refine lv_aload_n hx hb dL_law_731 rfl (lv_at hl 0 rfl) ?_
  refine lv_iload_n hx hb dL_law_732 rfl (lv_at hl 3 rfl) ?_
  refine lv_iconst (v := 4) hx hb dL_law_733 (by decide) ?_
  refine lv_iadd hx hb dL_law_734 ?_
  refine qh_topi (y := nI (i + 4)) (nI_add i 4) ?_
  refine va_sld hx hb hX0 hbl hbA hH.2 (vp_in_nI (show i + 4 < L by omega) (by omega)) dL_law_735 ?_
  refine qh_topi (y := xs (i + 4)) (by rw [nI_clamp (show i + 4 < 2 ^ 31 by omega)]) ?_
  refine lv_i2l (v := (xs (i + 4)).toInt64) hx hb dL_law_736 rfl ?_
  refine lv_ldc2 hx hb hown (hts (.constantLong RL 28 (4294967295)) (by decide +kernel)) dL_law_737 ?_
  refine lv_land hx hb dL_law_740 ?_
  refine lv_lor hx hb dL_law_741 ?_
  obtain ⟨cv1, hroot1⟩ := XE_root hX
  refine qh_runV (As := [.int (xs (i + 1)), .int (xs (i + 2)), .long ((((xs (i + 3)).toInt64) <<< ((32 : Int32).toInt64 &&& 63)) ||| (((xs (i + 4)).toInt64) &&& 4294967295))]) (rest := []) (C := RX8) ⟨hx, hb, hml, hown, hts⟩ hK hH (c_X8_looks l G s.heap.size 84 E tr lf n f g bf m2 kd pa ln ts ga gb va rn cn vs hr la lg sc (by decide) hX hR.1 (xs (i + 1)) (xs (i + 2)) ((((xs (i + 3)).toInt64) <<< ((32 : Int32).toInt64 &&& 63)) ||| (((xs (i + 4)).toInt64) &&& 4294967295))) (cwV 3 hts gL_law_X8_looks rfl rfl rfl (by decide +kernel) ⟨Nat.le_of_ble_eq_true rfl, Nat.le_of_ble_eq_true rfl⟩) (by decide) hroot1 rfl rfl hl.1 rfl (Nat.le_of_ble_eq_true rfl) dL_law_742 ⟨Nat.le_of_ble_eq_true rfl, Nat.le_of_ble_eq_true rfl⟩ (qh_kki fun r1 E1 H locs hp1 hH => ?_)
  have hM1 := ME_cong (E1 := E) (E2 := E1) (fr_looks hp1) hM
  have h81b := (fr_looks hp1 81 (by decide)).trans h81
  refine lv_aload_n hx hb dL_law_745 rfl (lv_at hl 2 rfl) ?_
  refine lv_aload_n hx hb dL_law_746 rfl (lv_at hl 0 rfl) ?_
  refine lv_iload_n hx hb dL_law_747 rfl (lv_at hl 3 rfl) ?_
  refine lv_iconst (v := 1) hx hb dL_law_748 (by decide) ?_
  refine lv_iadd hx hb dL_law_749 ?_
  refine qh_topi (y := nI (i + 1)) (nI_add i 1) ?_
  refine va_sld hx hb hX0 hbl hbA hH.2 (vp_in_nI (show i + 1 < L by omega) (by omega)) dL_law_750 ?_
  refine qh_topi (y := xs (i + 1)) (by rw [nI_clamp (show i + 1 < 2 ^ 31 by omega)]) ?_
  refine lv_aload_n hx hb dL_law_751 rfl (lv_at hl 0 rfl) ?_
  refine lv_iload_n hx hb dL_law_752 rfl (lv_at hl 3 rfl) ?_
  refine lv_iconst (v := 2) hx hb dL_law_753 (by decide) ?_
  refine lv_iadd hx hb dL_law_754 ?_
  refine qh_topi (y := nI (i + 2)) (nI_add i 2) ?_
  refine va_sld hx hb hX0 hbl hbA hH.2 (vp_in_nI (show i + 2 < L by omega) (by omega)) dL_law_755 ?_
  refine qh_topi (y := xs (i + 2)) (by rw [nI_clamp (show i + 2 < 2 ^ 31 by omega)]) ?_
  refine lv_aload_n hx hb dL_law_756 rfl (lv_at hl 0 rfl) ?_
  refine lv_iload_n hx hb dL_law_757 rfl (lv_at hl 3 rfl) ?_
  refine lv_iconst (v := 3) hx hb dL_law_758 (by decide) ?_
  refine lv_iadd hx hb dL_law_759 ?_
  refine qh_topi (y := nI (i + 3)) (nI_add i 3) ?_
  refine va_sld hx hb hX0 hbl hbA hH.2 (vp_in_nI (show i + 3 < L by omega) (by omega)) dL_law_760 ?_
  refine qh_topi (y := xs (i + 3)) (by rw [nI_clamp (show i + 3 < 2 ^ 31 by omega)]) ?_
  refine lv_i2l (v := (xs (i + 3)).toInt64) hx hb dL_law_761 rfl ?_
  refine lv_bipush (v := 32) hx hb dL_law_762 (by decide) ?_
  refine lv_lshl (v := (((xs (i + 3)).toInt64) <<< ((32 : Int32).toInt64 &&& 63))) hx hb dL_law_764 rfl ?_
  refine lv_aload_n hx hb dL_law_765 rfl (lv_at hl 0 rfl) ?_
  refine lv_iload_n hx hb dL_law_766 rfl (lv_at hl 3 rfl) ?_
  refine lv_iconst (v := 4) hx hb dL_law_767 (by decide) ?_
  refine lv_iadd hx hb dL_law_768 ?_
  refine qh_topi (y := nI (i + 4)) (nI_add i 4) ?_
  refine va_sld hx hb hX0 hbl hbA hH.2 (vp_in_nI (show i + 4 < L by omega) (by omega)) dL_law_769 ?_
  refine qh_topi (y := xs (i + 4)) (by rw [nI_clamp (show i + 4 < 2 ^ 31 by omega)]) ?_
  refine lv_i2l (v := (xs (i + 4)).toInt64) hx hb dL_law_770 rfl ?_
  refine lv_ldc2 hx hb hown (hts (.constantLong RL 28 (4294967295)) (by decide +kernel)) dL_law_771 ?_
  refine lv_land hx hb dL_law_774 ?_
  refine lv_lor hx hb dL_law_775 ?_
  obtain ⟨cv2, hroot2⟩ := ME_root hM1
  refine qh_runV (As := [.int (xs (i + 1)), .int (xs (i + 2)), .long ((((xs (i + 3)).toInt64) <<< ((32 : Int32).toInt64 &&& 63)) ||| (((xs (i + 4)).toInt64) &&& 4294967295))]) (rest := [.int r1]) (C := RX9) ⟨hx, hb, hml, hown, hts⟩ hK hH (c_X9_looks l G s.heap.size 84 E1 tr lf n mf mg mb m2 mk mp ln ts ga gb va rn cn vs so sg ce (by decide) hM1 hR.2.1 (xs (i + 1)) (xs (i + 2)) ((((xs (i + 3)).toInt64) <<< ((32 : Int32).toInt64 &&& 63)) ||| (((xs (i + 4)).toInt64) &&& 4294967295)) lq h81b) (cwV 3 hts gL_law_X9_looks rfl rfl rfl (by decide +kernel) ⟨Nat.le_of_ble_eq_true rfl, Nat.le_of_ble_eq_true rfl⟩) (by decide) hroot2 rfl rfl hl.1 rfl (Nat.le_of_ble_eq_true rfl) dL_law_776 ⟨Nat.le_of_ble_eq_true rfl, Nat.le_of_ble_eq_true rfl⟩ (qh_kki fun r2 E2 H locs hp2 hH => ?_)
  obtain ⟨heq, hI2⟩ := st_looks hX hM h81 hR hp1 hp2
  exact lv_icmp_eq (tgt := 1357) hx hb dL_law_779 (by decide) (fun _ => kk _ _ _ _ hI2 hH hl) (fun c9 => absurd heq c9)

set_option maxHeartbeats 1000000 in
set_option maxRecDepth 100000 in
theorem lc_unlike {p : Program} {l : Launch} {e : Env} {s : State} {m : MethodId} {below : List Frame} {meth : Method} {c : Code} {b L i : Nat} {xs : Nat → Int32} {G : qh_G} {z : Nat} {E : Nat → va_E} {H : Heap} {locs : List Loc} {Q : State → Prop} {ls : Array Slot} (C : LC p s m c b L xs G z) (hL : L ≤ 3072) (hi : i + 6 ≤ L) (hI : IV G z E) (hH : qh_H G z 84 E s.heap H locs) (hl : lv_has ls 4 [(0, .ref b), (1, .ref (z + 0)), (2, .ref (z + 63)), (3, .int (nI i))])
    (kk : ∀ (E' : Nat → va_E) (H' : Heap) (locs' : List Loc) (ls' : Array Slot), IV G z E' → qh_H G z 84 E' s.heap H' locs' → lv_has ls' 4 [(0, .ref b), (1, .ref (z + 0)), (2, .ref (z + 63)), (3, .int (nI i))] → W p l e room_1 s m #[Value.ref b] below meth c H' locs' 84 1198 Q (F0 m 1357 ls' [])) : W p l e room_1 s m #[Value.ref b] below meth c H locs 84 1198 Q (F0 m 784 ls []) := by
  obtain ⟨hx, hb, hml, hown, hts, hK, hX0, hbl, rfl⟩ := C
  obtain ⟨tr, lf, n, f, g, bf, m2, kd, pa, ln, ts, ga, gb, va, rn, cn, vs, hr, la, lg, sc, mf, mg, mb, mk, mp, so, sg, ce, lq, hX, hM, h81, hR⟩ := hI
  have hbA : ¬ (s.heap.size ≤ b) := Nat.not_le.mpr hbl
  refine lv_aload_n hx hb dL_law_784 rfl (lv_at hl 1 rfl) ?_
  obtain ⟨cv1, hroot1⟩ := XE_root hX
  refine qh_runV (As := []) (rest := []) (C := RX8) ⟨hx, hb, hml, hown, hts⟩ hK hH (c_X8_unlike l G s.heap.size 84 E tr lf n f g bf m2 kd pa ln ts ga gb va rn cn vs hr la lg sc (by decide) hX hR.1 ) (cwV 0 hts gL_law_X8_unlike rfl rfl rfl (by decide +kernel) ⟨Nat.le_of_ble_eq_true rfl, Nat.le_of_ble_eq_true rfl⟩) (by decide) hroot1 rfl rfl hl.1 rfl (Nat.le_of_ble_eq_true rfl) dL_law_785 ⟨Nat.le_of_ble_eq_true rfl, Nat.le_of_ble_eq_true rfl⟩ (qh_kki fun r1 E1 H locs hp1 hH => ?_)
  have hM1 := ME_cong (E1 := E) (E2 := E1) (fr_unlike hp1) hM
  refine lv_aload_n hx hb dL_law_788 rfl (lv_at hl 2 rfl) ?_
  obtain ⟨cv2, hroot2⟩ := ME_root hM1
  refine qh_runV (As := []) (rest := [.int r1]) (C := RX9) ⟨hx, hb, hml, hown, hts⟩ hK hH (c_X9_unlike l G s.heap.size 84 E1 tr lf n mf mg mb m2 mk mp ln ts ga gb va rn cn vs so sg ce (by decide) hM1 hR.2.1 ) (cwV 0 hts gL_law_X9_unlike rfl rfl rfl (by decide +kernel) ⟨Nat.le_of_ble_eq_true rfl, Nat.le_of_ble_eq_true rfl⟩) (by decide) hroot2 rfl rfl hl.1 rfl (Nat.le_of_ble_eq_true rfl) dL_law_789 ⟨Nat.le_of_ble_eq_true rfl, Nat.le_of_ble_eq_true rfl⟩ (qh_kki fun r2 E2 H locs hp2 hH => ?_)
  obtain ⟨heq, hI2⟩ := st_unlike hX hM h81 hR hp1 hp2
  exact lv_icmp_eq (tgt := 1357) hx hb dL_law_792 (by decide) (fun _ => kk _ _ _ _ hI2 hH hl) (fun c9 => absurd heq c9)

set_option maxHeartbeats 1000000 in
set_option maxRecDepth 100000 in
theorem lc_reading {p : Program} {l : Launch} {e : Env} {s : State} {m : MethodId} {below : List Frame} {meth : Method} {c : Code} {b L i : Nat} {xs : Nat → Int32} {G : qh_G} {z : Nat} {E : Nat → va_E} {H : Heap} {locs : List Loc} {Q : State → Prop} {ls : Array Slot} (C : LC p s m c b L xs G z) (hL : L ≤ 3072) (hi : i + 6 ≤ L) (hI : IV G z E) (hH : qh_H G z 84 E s.heap H locs) (hl : lv_has ls 4 [(0, .ref b), (1, .ref (z + 0)), (2, .ref (z + 63)), (3, .int (nI i))])
    (kk : ∀ (E' : Nat → va_E) (H' : Heap) (locs' : List Loc) (ls' : Array Slot), IV G z E' → qh_H G z 84 E' s.heap H' locs' → lv_has ls' 4 [(0, .ref b), (1, .ref (z + 0)), (2, .ref (z + 63)), (3, .int (nI i))] → W p l e room_1 s m #[Value.ref b] below meth c H' locs' 84 1198 Q (F0 m 1357 ls' [])) : W p l e room_1 s m #[Value.ref b] below meth c H locs 84 1198 Q (F0 m 797 ls []) := by
  obtain ⟨hx, hb, hml, hown, hts, hK, hX0, hbl, rfl⟩ := C
  obtain ⟨tr, lf, n, f, g, bf, m2, kd, pa, ln, ts, ga, gb, va, rn, cn, vs, hr, la, lg, sc, mf, mg, mb, mk, mp, so, sg, ce, lq, hX, hM, h81, hR⟩ := hI
  have hbA : ¬ (s.heap.size ≤ b) := Nat.not_le.mpr hbl
  refine lv_aload_n hx hb dL_law_797 rfl (lv_at hl 1 rfl) ?_
  refine lv_aload_n hx hb dL_law_798 rfl (lv_at hl 0 rfl) ?_
  refine lv_iload_n hx hb dL_law_799 rfl (lv_at hl 3 rfl) ?_
  refine lv_iconst (v := 1) hx hb dL_law_800 (by decide) ?_
  refine lv_iadd hx hb dL_law_801 ?_
  refine qh_topi (y := nI (i + 1)) (nI_add i 1) ?_
  refine va_sld hx hb hX0 hbl hbA hH.2 (vp_in_nI (show i + 1 < L by omega) (by omega)) dL_law_802 ?_
  refine qh_topi (y := xs (i + 1)) (by rw [nI_clamp (show i + 1 < 2 ^ 31 by omega)]) ?_
  refine lv_aload_n hx hb dL_law_803 rfl (lv_at hl 0 rfl) ?_
  refine lv_iload_n hx hb dL_law_804 rfl (lv_at hl 3 rfl) ?_
  refine lv_iconst (v := 2) hx hb dL_law_805 (by decide) ?_
  refine lv_iadd hx hb dL_law_806 ?_
  refine qh_topi (y := nI (i + 2)) (nI_add i 2) ?_
  refine va_sld hx hb hX0 hbl hbA hH.2 (vp_in_nI (show i + 2 < L by omega) (by omega)) dL_law_807 ?_
  refine qh_topi (y := xs (i + 2)) (by rw [nI_clamp (show i + 2 < 2 ^ 31 by omega)]) ?_
  refine lv_i2l (v := (xs (i + 2)).toInt64) hx hb dL_law_808 rfl ?_
  refine lv_bipush (v := 32) hx hb dL_law_809 (by decide) ?_
  refine lv_lshl (v := (((xs (i + 2)).toInt64) <<< ((32 : Int32).toInt64 &&& 63))) hx hb dL_law_811 rfl ?_
  refine lv_aload_n hx hb dL_law_812 rfl (lv_at hl 0 rfl) ?_
  refine lv_iload_n hx hb dL_law_813 rfl (lv_at hl 3 rfl) ?_
  refine lv_iconst (v := 3) hx hb dL_law_814 (by decide) ?_
  refine lv_iadd hx hb dL_law_815 ?_
  refine qh_topi (y := nI (i + 3)) (nI_add i 3) ?_
  refine va_sld hx hb hX0 hbl hbA hH.2 (vp_in_nI (show i + 3 < L by omega) (by omega)) dL_law_816 ?_
  refine qh_topi (y := xs (i + 3)) (by rw [nI_clamp (show i + 3 < 2 ^ 31 by omega)]) ?_
  refine lv_i2l (v := (xs (i + 3)).toInt64) hx hb dL_law_817 rfl ?_
  refine lv_ldc2 hx hb hown (hts (.constantLong RL 28 (4294967295)) (by decide +kernel)) dL_law_818 ?_
  refine lv_land hx hb dL_law_821 ?_
  refine lv_lor hx hb dL_law_822 ?_
  obtain ⟨cv1, hroot1⟩ := XE_root hX
  refine qh_runV (As := [.int (xs (i + 1)), .long ((((xs (i + 2)).toInt64) <<< ((32 : Int32).toInt64 &&& 63)) ||| (((xs (i + 3)).toInt64) &&& 4294967295))]) (rest := []) (C := RX8) ⟨hx, hb, hml, hown, hts⟩ hK hH (c_X8_reading l G s.heap.size 84 E tr lf n f g bf m2 kd pa ln ts ga gb va rn cn vs hr la lg sc (by decide) hX hR.1 (xs (i + 1)) ((((xs (i + 2)).toInt64) <<< ((32 : Int32).toInt64 &&& 63)) ||| (((xs (i + 3)).toInt64) &&& 4294967295))) (cwV 2 hts gL_law_X8_reading rfl rfl rfl (by decide +kernel) ⟨Nat.le_of_ble_eq_true rfl, Nat.le_of_ble_eq_true rfl⟩) (by decide) hroot1 rfl rfl hl.1 rfl (Nat.le_of_ble_eq_true rfl) dL_law_823 ⟨Nat.le_of_ble_eq_true rfl, Nat.le_of_ble_eq_true rfl⟩ (qh_kki fun r1 E1 H locs hp1 hH => ?_)
  have hM1 := ME_cong (E1 := E) (E2 := E1) (fr_reading hp1) hM
  refine lv_aload_n hx hb dL_law_826 rfl (lv_at hl 2 rfl) ?_
  refine lv_aload_n hx hb dL_law_827 rfl (lv_at hl 0 rfl) ?_
  refine lv_iload_n hx hb dL_law_828 rfl (lv_at hl 3 rfl) ?_
  refine lv_iconst (v := 1) hx hb dL_law_829 (by decide) ?_
  refine lv_iadd hx hb dL_law_830 ?_
  refine qh_topi (y := nI (i + 1)) (nI_add i 1) ?_
  refine va_sld hx hb hX0 hbl hbA hH.2 (vp_in_nI (show i + 1 < L by omega) (by omega)) dL_law_831 ?_
  refine qh_topi (y := xs (i + 1)) (by rw [nI_clamp (show i + 1 < 2 ^ 31 by omega)]) ?_
  refine lv_aload_n hx hb dL_law_832 rfl (lv_at hl 0 rfl) ?_
  refine lv_iload_n hx hb dL_law_833 rfl (lv_at hl 3 rfl) ?_
  refine lv_iconst (v := 2) hx hb dL_law_834 (by decide) ?_
  refine lv_iadd hx hb dL_law_835 ?_
  refine qh_topi (y := nI (i + 2)) (nI_add i 2) ?_
  refine va_sld hx hb hX0 hbl hbA hH.2 (vp_in_nI (show i + 2 < L by omega) (by omega)) dL_law_836 ?_
  refine qh_topi (y := xs (i + 2)) (by rw [nI_clamp (show i + 2 < 2 ^ 31 by omega)]) ?_
  refine lv_i2l (v := (xs (i + 2)).toInt64) hx hb dL_law_837 rfl ?_
  refine lv_bipush (v := 32) hx hb dL_law_838 (by decide) ?_
  refine lv_lshl (v := (((xs (i + 2)).toInt64) <<< ((32 : Int32).toInt64 &&& 63))) hx hb dL_law_840 rfl ?_
  refine lv_aload_n hx hb dL_law_841 rfl (lv_at hl 0 rfl) ?_
  refine lv_iload_n hx hb dL_law_842 rfl (lv_at hl 3 rfl) ?_
  refine lv_iconst (v := 3) hx hb dL_law_843 (by decide) ?_
  refine lv_iadd hx hb dL_law_844 ?_
  refine qh_topi (y := nI (i + 3)) (nI_add i 3) ?_
  refine va_sld hx hb hX0 hbl hbA hH.2 (vp_in_nI (show i + 3 < L by omega) (by omega)) dL_law_845 ?_
  refine qh_topi (y := xs (i + 3)) (by rw [nI_clamp (show i + 3 < 2 ^ 31 by omega)]) ?_
  refine lv_i2l (v := (xs (i + 3)).toInt64) hx hb dL_law_846 rfl ?_
  refine lv_ldc2 hx hb hown (hts (.constantLong RL 28 (4294967295)) (by decide +kernel)) dL_law_847 ?_
  refine lv_land hx hb dL_law_850 ?_
  refine lv_lor hx hb dL_law_851 ?_
  obtain ⟨cv2, hroot2⟩ := ME_root hM1
  refine qh_runV (As := [.int (xs (i + 1)), .long ((((xs (i + 2)).toInt64) <<< ((32 : Int32).toInt64 &&& 63)) ||| (((xs (i + 3)).toInt64) &&& 4294967295))]) (rest := [.int r1]) (C := RX9) ⟨hx, hb, hml, hown, hts⟩ hK hH (c_X9_reading l G s.heap.size 84 E1 tr lf n mf mg mb m2 mk mp ln ts ga gb va rn cn vs so sg ce (by decide) hM1 hR.2.1 (xs (i + 1)) ((((xs (i + 2)).toInt64) <<< ((32 : Int32).toInt64 &&& 63)) ||| (((xs (i + 3)).toInt64) &&& 4294967295))) (cwV 2 hts gL_law_X9_reading rfl rfl rfl (by decide +kernel) ⟨Nat.le_of_ble_eq_true rfl, Nat.le_of_ble_eq_true rfl⟩) (by decide) hroot2 rfl rfl hl.1 rfl (Nat.le_of_ble_eq_true rfl) dL_law_852 ⟨Nat.le_of_ble_eq_true rfl, Nat.le_of_ble_eq_true rfl⟩ (qh_kki fun r2 E2 H locs hp2 hH => ?_)
  obtain ⟨heq, hI2⟩ := st_reading hX hM h81 hR hp1 hp2
  exact lv_icmp_eq (tgt := 1357) hx hb dL_law_855 (by decide) (fun _ => kk _ _ _ _ hI2 hH hl) (fun c9 => absurd heq c9)

set_option maxHeartbeats 1000000 in
set_option maxRecDepth 100000 in
theorem lc_back {p : Program} {l : Launch} {e : Env} {s : State} {m : MethodId} {below : List Frame} {meth : Method} {c : Code} {b L i : Nat} {xs : Nat → Int32} {G : qh_G} {z : Nat} {E : Nat → va_E} {H : Heap} {locs : List Loc} {Q : State → Prop} {ls : Array Slot} (C : LC p s m c b L xs G z) (hL : L ≤ 3072) (hi : i + 6 ≤ L) (hI : IV G z E) (hH : qh_H G z 84 E s.heap H locs) (hl : lv_has ls 4 [(0, .ref b), (1, .ref (z + 0)), (2, .ref (z + 63)), (3, .int (nI i))])
    (kk : ∀ (E' : Nat → va_E) (H' : Heap) (locs' : List Loc) (ls' : Array Slot), IV G z E' → qh_H G z 84 E' s.heap H' locs' → lv_has ls' 4 [(0, .ref b), (1, .ref (z + 0)), (2, .ref (z + 63)), (3, .int (nI i))] → W p l e room_1 s m #[Value.ref b] below meth c H' locs' 84 1198 Q (F0 m 1357 ls' [])) : W p l e room_1 s m #[Value.ref b] below meth c H locs 84 1198 Q (F0 m 860 ls []) := by
  obtain ⟨hx, hb, hml, hown, hts, hK, hX0, hbl, rfl⟩ := C
  obtain ⟨tr, lf, n, f, g, bf, m2, kd, pa, ln, ts, ga, gb, va, rn, cn, vs, hr, la, lg, sc, mf, mg, mb, mk, mp, so, sg, ce, lq, hX, hM, h81, hR⟩ := hI
  have hbA : ¬ (s.heap.size ≤ b) := Nat.not_le.mpr hbl
  refine lv_aload_n hx hb dL_law_860 rfl (lv_at hl 1 rfl) ?_
  refine lv_aload_n hx hb dL_law_861 rfl (lv_at hl 0 rfl) ?_
  refine lv_iload_n hx hb dL_law_862 rfl (lv_at hl 3 rfl) ?_
  refine lv_iconst (v := 1) hx hb dL_law_863 (by decide) ?_
  refine lv_iadd hx hb dL_law_864 ?_
  refine qh_topi (y := nI (i + 1)) (nI_add i 1) ?_
  refine va_sld hx hb hX0 hbl hbA hH.2 (vp_in_nI (show i + 1 < L by omega) (by omega)) dL_law_865 ?_
  refine qh_topi (y := xs (i + 1)) (by rw [nI_clamp (show i + 1 < 2 ^ 31 by omega)]) ?_
  obtain ⟨cv1, hroot1⟩ := XE_root hX
  refine qh_runV (As := [.int (xs (i + 1))]) (rest := []) (C := RX8) ⟨hx, hb, hml, hown, hts⟩ hK hH (c_X8_back l G s.heap.size 84 E tr lf n f g bf m2 kd pa ln ts ga gb va rn cn vs hr la lg sc (by decide) hX hR.1 (xs (i + 1))) (cwV 1 hts gL_law_X8_back rfl rfl rfl (by decide +kernel) ⟨Nat.le_of_ble_eq_true rfl, Nat.le_of_ble_eq_true rfl⟩) (by decide) hroot1 rfl rfl hl.1 rfl (Nat.le_of_ble_eq_true rfl) dL_law_866 ⟨Nat.le_of_ble_eq_true rfl, Nat.le_of_ble_eq_true rfl⟩ (qh_kki fun r1 E1 H locs hp1 hH => ?_)
  have hM1 := ME_cong (E1 := E) (E2 := E1) (fr_back hp1) hM
  refine lv_aload_n hx hb dL_law_869 rfl (lv_at hl 2 rfl) ?_
  refine lv_aload_n hx hb dL_law_870 rfl (lv_at hl 0 rfl) ?_
  refine lv_iload_n hx hb dL_law_871 rfl (lv_at hl 3 rfl) ?_
  refine lv_iconst (v := 1) hx hb dL_law_872 (by decide) ?_
  refine lv_iadd hx hb dL_law_873 ?_
  refine qh_topi (y := nI (i + 1)) (nI_add i 1) ?_
  refine va_sld hx hb hX0 hbl hbA hH.2 (vp_in_nI (show i + 1 < L by omega) (by omega)) dL_law_874 ?_
  refine qh_topi (y := xs (i + 1)) (by rw [nI_clamp (show i + 1 < 2 ^ 31 by omega)]) ?_
  obtain ⟨cv2, hroot2⟩ := ME_root hM1
  refine qh_runV (As := [.int (xs (i + 1))]) (rest := [.int r1]) (C := RX9) ⟨hx, hb, hml, hown, hts⟩ hK hH (c_X9_back l G s.heap.size 84 E1 tr lf n mf mg mb m2 mk mp ln ts ga gb va rn cn vs so sg ce (by decide) hM1 hR.2.1 (xs (i + 1))) (cwV 1 hts gL_law_X9_back rfl rfl rfl (by decide +kernel) ⟨Nat.le_of_ble_eq_true rfl, Nat.le_of_ble_eq_true rfl⟩) (by decide) hroot2 rfl rfl hl.1 rfl (Nat.le_of_ble_eq_true rfl) dL_law_875 ⟨Nat.le_of_ble_eq_true rfl, Nat.le_of_ble_eq_true rfl⟩ (qh_kki fun r2 E2 H locs hp2 hH => ?_)
  obtain ⟨heq, hI2⟩ := st_back hX hM h81 hR hp1 hp2
  exact lv_icmp_eq (tgt := 1357) hx hb dL_law_878 (by decide) (fun _ => kk _ _ _ _ hI2 hH hl) (fun c9 => absurd heq c9)

set_option maxHeartbeats 1000000 in
set_option maxRecDepth 100000 in
theorem lc_kinds {p : Program} {l : Launch} {e : Env} {s : State} {m : MethodId} {below : List Frame} {meth : Method} {c : Code} {b L i : Nat} {xs : Nat → Int32} {G : qh_G} {z : Nat} {E : Nat → va_E} {H : Heap} {locs : List Loc} {Q : State → Prop} {ls : Array Slot} (C : LC p s m c b L xs G z) (hL : L ≤ 3072) (hi : i + 6 ≤ L) (hI : IV G z E) (hH : qh_H G z 84 E s.heap H locs) (hl : lv_has ls 4 [(0, .ref b), (1, .ref (z + 0)), (2, .ref (z + 63)), (3, .int (nI i))])
    (kk : ∀ (E' : Nat → va_E) (H' : Heap) (locs' : List Loc) (ls' : Array Slot), IV G z E' → qh_H G z 84 E' s.heap H' locs' → lv_has ls' 4 [(0, .ref b), (1, .ref (z + 0)), (2, .ref (z + 63)), (3, .int (nI i))] → W p l e room_1 s m #[Value.ref b] below meth c H' locs' 84 1198 Q (F0 m 1357 ls' [])) : W p l e room_1 s m #[Value.ref b] below meth c H locs 84 1198 Q (F0 m 883 ls []) := by
  obtain ⟨hx, hb, hml, hown, hts, hK, hX0, hbl, rfl⟩ := C
  obtain ⟨tr, lf, n, f, g, bf, m2, kd, pa, ln, ts, ga, gb, va, rn, cn, vs, hr, la, lg, sc, mf, mg, mb, mk, mp, so, sg, ce, lq, hX, hM, h81, hR⟩ := hI
  have hbA : ¬ (s.heap.size ≤ b) := Nat.not_le.mpr hbl
  refine lv_aload_n hx hb dL_law_883 rfl (lv_at hl 1 rfl) ?_
  refine lv_aload_n hx hb dL_law_884 rfl (lv_at hl 0 rfl) ?_
  refine lv_iload_n hx hb dL_law_885 rfl (lv_at hl 3 rfl) ?_
  refine lv_iconst (v := 1) hx hb dL_law_886 (by decide) ?_
  refine lv_iadd hx hb dL_law_887 ?_
  refine qh_topi (y := nI (i + 1)) (nI_add i 1) ?_
  refine va_sld hx hb hX0 hbl hbA hH.2 (vp_in_nI (show i + 1 < L by omega) (by omega)) dL_law_888 ?_
  refine qh_topi (y := xs (i + 1)) (by rw [nI_clamp (show i + 1 < 2 ^ 31 by omega)]) ?_
  obtain ⟨cv1, hroot1⟩ := XE_root hX
  refine qh_runV (As := [.int (xs (i + 1))]) (rest := []) (C := RX8) ⟨hx, hb, hml, hown, hts⟩ hK hH (c_X8_kinds l G s.heap.size 84 E tr lf n f g bf m2 kd pa ln ts ga gb va rn cn vs hr la lg sc (by decide) hX hR.1 (xs (i + 1))) (cwV 1 hts gL_law_X8_kinds rfl rfl rfl (by decide +kernel) ⟨Nat.le_of_ble_eq_true rfl, Nat.le_of_ble_eq_true rfl⟩) (by decide) hroot1 rfl rfl hl.1 rfl (Nat.le_of_ble_eq_true rfl) dL_law_889 ⟨Nat.le_of_ble_eq_true rfl, Nat.le_of_ble_eq_true rfl⟩ (qh_kki fun r1 E1 H locs hp1 hH => ?_)
  have hM1 := ME_cong (E1 := E) (E2 := E1) (fr_kinds hp1) hM
  refine lv_aload_n hx hb dL_law_892 rfl (lv_at hl 2 rfl) ?_
  refine lv_aload_n hx hb dL_law_893 rfl (lv_at hl 0 rfl) ?_
  refine lv_iload_n hx hb dL_law_894 rfl (lv_at hl 3 rfl) ?_
  refine lv_iconst (v := 1) hx hb dL_law_895 (by decide) ?_
  refine lv_iadd hx hb dL_law_896 ?_
  refine qh_topi (y := nI (i + 1)) (nI_add i 1) ?_
  refine va_sld hx hb hX0 hbl hbA hH.2 (vp_in_nI (show i + 1 < L by omega) (by omega)) dL_law_897 ?_
  refine qh_topi (y := xs (i + 1)) (by rw [nI_clamp (show i + 1 < 2 ^ 31 by omega)]) ?_
  obtain ⟨cv2, hroot2⟩ := ME_root hM1
  refine qh_runV (As := [.int (xs (i + 1))]) (rest := [.int r1]) (C := RX9) ⟨hx, hb, hml, hown, hts⟩ hK hH (c_X9_kinds l G s.heap.size 84 E1 tr lf n mf mg mb m2 mk mp ln ts ga gb va rn cn vs so sg ce (by decide) hM1 hR.2.1 (xs (i + 1))) (cwV 1 hts gL_law_X9_kinds rfl rfl rfl (by decide +kernel) ⟨Nat.le_of_ble_eq_true rfl, Nat.le_of_ble_eq_true rfl⟩) (by decide) hroot2 rfl rfl hl.1 rfl (Nat.le_of_ble_eq_true rfl) dL_law_898 ⟨Nat.le_of_ble_eq_true rfl, Nat.le_of_ble_eq_true rfl⟩ (qh_kki fun r2 E2 H locs hp2 hH => ?_)
  obtain ⟨heq, hI2⟩ := st_kinds hX hM h81 hR hp1 hp2
  exact lv_icmp_eq (tgt := 1357) hx hb dL_law_901 (by decide) (fun _ => kk _ _ _ _ hI2 hH hl) (fun c9 => absurd heq c9)

set_option maxHeartbeats 1000000 in
set_option maxRecDepth 100000 in
theorem lc_paces {p : Program} {l : Launch} {e : Env} {s : State} {m : MethodId} {below : List Frame} {meth : Method} {c : Code} {b L i : Nat} {xs : Nat → Int32} {G : qh_G} {z : Nat} {E : Nat → va_E} {H : Heap} {locs : List Loc} {Q : State → Prop} {ls : Array Slot} (C : LC p s m c b L xs G z) (hL : L ≤ 3072) (hi : i + 6 ≤ L) (hI : IV G z E) (hH : qh_H G z 84 E s.heap H locs) (hl : lv_has ls 4 [(0, .ref b), (1, .ref (z + 0)), (2, .ref (z + 63)), (3, .int (nI i))])
    (kk : ∀ (E' : Nat → va_E) (H' : Heap) (locs' : List Loc) (ls' : Array Slot), IV G z E' → qh_H G z 84 E' s.heap H' locs' → lv_has ls' 4 [(0, .ref b), (1, .ref (z + 0)), (2, .ref (z + 63)), (3, .int (nI i))] → W p l e room_1 s m #[Value.ref b] below meth c H' locs' 84 1198 Q (F0 m 1357 ls' [])) : W p l e room_1 s m #[Value.ref b] below meth c H locs 84 1198 Q (F0 m 906 ls []) := by
  obtain ⟨hx, hb, hml, hown, hts, hK, hX0, hbl, rfl⟩ := C
  obtain ⟨tr, lf, n, f, g, bf, m2, kd, pa, ln, ts, ga, gb, va, rn, cn, vs, hr, la, lg, sc, mf, mg, mb, mk, mp, so, sg, ce, lq, hX, hM, h81, hR⟩ := hI
  have hbA : ¬ (s.heap.size ≤ b) := Nat.not_le.mpr hbl
  refine lv_aload_n hx hb dL_law_906 rfl (lv_at hl 1 rfl) ?_
  refine lv_aload_n hx hb dL_law_907 rfl (lv_at hl 0 rfl) ?_
  refine lv_iload_n hx hb dL_law_908 rfl (lv_at hl 3 rfl) ?_
  refine lv_iconst (v := 1) hx hb dL_law_909 (by decide) ?_
  refine lv_iadd hx hb dL_law_910 ?_
  refine qh_topi (y := nI (i + 1)) (nI_add i 1) ?_
  refine va_sld hx hb hX0 hbl hbA hH.2 (vp_in_nI (show i + 1 < L by omega) (by omega)) dL_law_911 ?_
  refine qh_topi (y := xs (i + 1)) (by rw [nI_clamp (show i + 1 < 2 ^ 31 by omega)]) ?_
  obtain ⟨cv1, hroot1⟩ := XE_root hX
  refine qh_runV (As := [.int (xs (i + 1))]) (rest := []) (C := RX8) ⟨hx, hb, hml, hown, hts⟩ hK hH (c_X8_paces l G s.heap.size 84 E tr lf n f g bf m2 kd pa ln ts ga gb va rn cn vs hr la lg sc (by decide) hX hR.1 (xs (i + 1))) (cwV 1 hts gL_law_X8_paces rfl rfl rfl (by decide +kernel) ⟨Nat.le_of_ble_eq_true rfl, Nat.le_of_ble_eq_true rfl⟩) (by decide) hroot1 rfl rfl hl.1 rfl (Nat.le_of_ble_eq_true rfl) dL_law_912 ⟨Nat.le_of_ble_eq_true rfl, Nat.le_of_ble_eq_true rfl⟩ (qh_kki fun r1 E1 H locs hp1 hH => ?_)
  have hM1 := ME_cong (E1 := E) (E2 := E1) (fr_paces hp1) hM
  refine lv_aload_n hx hb dL_law_915 rfl (lv_at hl 2 rfl) ?_
  refine lv_aload_n hx hb dL_law_916 rfl (lv_at hl 0 rfl) ?_
  refine lv_iload_n hx hb dL_law_917 rfl (lv_at hl 3 rfl) ?_
  refine lv_iconst (v := 1) hx hb dL_law_918 (by decide) ?_
  refine lv_iadd hx hb dL_law_919 ?_
  refine qh_topi (y := nI (i + 1)) (nI_add i 1) ?_
  refine va_sld hx hb hX0 hbl hbA hH.2 (vp_in_nI (show i + 1 < L by omega) (by omega)) dL_law_920 ?_
  refine qh_topi (y := xs (i + 1)) (by rw [nI_clamp (show i + 1 < 2 ^ 31 by omega)]) ?_
  obtain ⟨cv2, hroot2⟩ := ME_root hM1
  refine qh_runV (As := [.int (xs (i + 1))]) (rest := [.int r1]) (C := RX9) ⟨hx, hb, hml, hown, hts⟩ hK hH (c_X9_paces l G s.heap.size 84 E1 tr lf n mf mg mb m2 mk mp ln ts ga gb va rn cn vs so sg ce (by decide) hM1 hR.2.1 (xs (i + 1))) (cwV 1 hts gL_law_X9_paces rfl rfl rfl (by decide +kernel) ⟨Nat.le_of_ble_eq_true rfl, Nat.le_of_ble_eq_true rfl⟩) (by decide) hroot2 rfl rfl hl.1 rfl (Nat.le_of_ble_eq_true rfl) dL_law_921 ⟨Nat.le_of_ble_eq_true rfl, Nat.le_of_ble_eq_true rfl⟩ (qh_kki fun r2 E2 H locs hp2 hH => ?_)
  obtain ⟨heq, hI2⟩ := st_paces hX hM h81 hR hp1 hp2
  exact lv_icmp_eq (tgt := 1357) hx hb dL_law_924 (by decide) (fun _ => kk _ _ _ _ hI2 hH hl) (fun c9 => absurd heq c9)

set_option maxHeartbeats 1000000 in
set_option maxRecDepth 100000 in
theorem lc_odds {p : Program} {l : Launch} {e : Env} {s : State} {m : MethodId} {below : List Frame} {meth : Method} {c : Code} {b L i : Nat} {xs : Nat → Int32} {G : qh_G} {z : Nat} {E : Nat → va_E} {H : Heap} {locs : List Loc} {Q : State → Prop} {ls : Array Slot} (C : LC p s m c b L xs G z) (hL : L ≤ 3072) (hi : i + 6 ≤ L) (hI : IV G z E) (hH : qh_H G z 84 E s.heap H locs) (hl : lv_has ls 4 [(0, .ref b), (1, .ref (z + 0)), (2, .ref (z + 63)), (3, .int (nI i))])
    (kk : ∀ (E' : Nat → va_E) (H' : Heap) (locs' : List Loc) (ls' : Array Slot), IV G z E' → qh_H G z 84 E' s.heap H' locs' → lv_has ls' 4 [(0, .ref b), (1, .ref (z + 0)), (2, .ref (z + 63)), (3, .int (nI i))] → W p l e room_1 s m #[Value.ref b] below meth c H' locs' 84 1198 Q (F0 m 1357 ls' [])) : W p l e room_1 s m #[Value.ref b] below meth c H locs 84 1198 Q (F0 m 929 ls []) := by
  obtain ⟨hx, hb, hml, hown, hts, hK, hX0, hbl, rfl⟩ := C
  obtain ⟨tr, lf, n, f, g, bf, m2, kd, pa, ln, ts, ga, gb, va, rn, cn, vs, hr, la, lg, sc, mf, mg, mb, mk, mp, so, sg, ce, lq, hX, hM, h81, hR⟩ := hI
  have hbA : ¬ (s.heap.size ≤ b) := Nat.not_le.mpr hbl
  refine lv_aload_n hx hb dL_law_929 rfl (lv_at hl 1 rfl) ?_
  refine lv_aload_n hx hb dL_law_930 rfl (lv_at hl 0 rfl) ?_
  refine lv_iload_n hx hb dL_law_931 rfl (lv_at hl 3 rfl) ?_
  refine lv_iconst (v := 1) hx hb dL_law_932 (by decide) ?_
  refine lv_iadd hx hb dL_law_933 ?_
  refine qh_topi (y := nI (i + 1)) (nI_add i 1) ?_
  refine va_sld hx hb hX0 hbl hbA hH.2 (vp_in_nI (show i + 1 < L by omega) (by omega)) dL_law_934 ?_
  refine qh_topi (y := xs (i + 1)) (by rw [nI_clamp (show i + 1 < 2 ^ 31 by omega)]) ?_
  refine lv_aload_n hx hb dL_law_935 rfl (lv_at hl 0 rfl) ?_
  refine lv_iload_n hx hb dL_law_936 rfl (lv_at hl 3 rfl) ?_
  refine lv_iconst (v := 2) hx hb dL_law_937 (by decide) ?_
  refine lv_iadd hx hb dL_law_938 ?_
  refine qh_topi (y := nI (i + 2)) (nI_add i 2) ?_
  refine va_sld hx hb hX0 hbl hbA hH.2 (vp_in_nI (show i + 2 < L by omega) (by omega)) dL_law_939 ?_
  refine qh_topi (y := xs (i + 2)) (by rw [nI_clamp (show i + 2 < 2 ^ 31 by omega)]) ?_
  refine lv_aload_n hx hb dL_law_940 rfl (lv_at hl 0 rfl) ?_
  refine lv_iload_n hx hb dL_law_941 rfl (lv_at hl 3 rfl) ?_
  refine lv_iconst (v := 3) hx hb dL_law_942 (by decide) ?_
  refine lv_iadd hx hb dL_law_943 ?_
  refine qh_topi (y := nI (i + 3)) (nI_add i 3) ?_
  refine va_sld hx hb hX0 hbl hbA hH.2 (vp_in_nI (show i + 3 < L by omega) (by omega)) dL_law_944 ?_
  refine qh_topi (y := xs (i + 3)) (by rw [nI_clamp (show i + 3 < 2 ^ 31 by omega)]) ?_
  refine lv_i2l (v := (xs (i + 3)).toInt64) hx hb dL_law_945 rfl ?_
  refine lv_bipush (v := 32) hx hb dL_law_946 (by decide) ?_
  refine lv_lshl (v := (((xs (i + 3)).toInt64) <<< ((32 : Int32).toInt64 &&& 63))) hx hb dL_law_948 rfl ?_
  refine lv_aload_n hx hb dL_law_949 rfl (lv_at hl 0 rfl) ?_
  refine lv_iload_n hx hb dL_law_950 rfl (lv_at hl 3 rfl) ?_
  refine lv_iconst (v := 4) hx hb dL_law_951 (by decide) ?_
  refine lv_iadd hx hb dL_law_952 ?_
  refine qh_topi (y := nI (i + 4)) (nI_add i 4) ?_
  refine va_sld hx hb hX0 hbl hbA hH.2 (vp_in_nI (show i + 4 < L by omega) (by omega)) dL_law_953 ?_
  refine qh_topi (y := xs (i + 4)) (by rw [nI_clamp (show i + 4 < 2 ^ 31 by omega)]) ?_
  refine lv_i2l (v := (xs (i + 4)).toInt64) hx hb dL_law_954 rfl ?_
  refine lv_ldc2 hx hb hown (hts (.constantLong RL 28 (4294967295)) (by decide +kernel)) dL_law_955 ?_
  refine lv_land hx hb dL_law_958 ?_
  refine lv_lor hx hb dL_law_959 ?_
  refine lv_aload_n hx hb dL_law_960 rfl (lv_at hl 0 rfl) ?_
  refine lv_iload_n hx hb dL_law_961 rfl (lv_at hl 3 rfl) ?_
  refine lv_iconst (v := 5) hx hb dL_law_962 (by decide) ?_
  refine lv_iadd hx hb dL_law_963 ?_
  refine qh_topi (y := nI (i + 5)) (nI_add i 5) ?_
  refine va_sld hx hb hX0 hbl hbA hH.2 (vp_in_nI (show i + 5 < L by omega) (by omega)) dL_law_964 ?_
  refine qh_topi (y := xs (i + 5)) (by rw [nI_clamp (show i + 5 < 2 ^ 31 by omega)]) ?_
  obtain ⟨cv1, hroot1⟩ := XE_root hX
  refine qh_runV (As := [.int (xs (i + 1)), .int (xs (i + 2)), .long ((((xs (i + 3)).toInt64) <<< ((32 : Int32).toInt64 &&& 63)) ||| (((xs (i + 4)).toInt64) &&& 4294967295)), .int (xs (i + 5))]) (rest := []) (C := RX8) ⟨hx, hb, hml, hown, hts⟩ hK hH (c_X8_odds l G s.heap.size 84 E tr lf n f g bf m2 kd pa ln ts ga gb va rn cn vs hr la lg sc (by decide) hX hR.1 (xs (i + 1)) (xs (i + 2)) ((((xs (i + 3)).toInt64) <<< ((32 : Int32).toInt64 &&& 63)) ||| (((xs (i + 4)).toInt64) &&& 4294967295)) (xs (i + 5))) (cwV 4 hts gL_law_X8_odds rfl rfl rfl (by decide +kernel) ⟨Nat.le_of_ble_eq_true rfl, Nat.le_of_ble_eq_true rfl⟩) (by decide) hroot1 rfl rfl hl.1 rfl (Nat.le_of_ble_eq_true rfl) dL_law_965 ⟨Nat.le_of_ble_eq_true rfl, Nat.le_of_ble_eq_true rfl⟩ (qh_kkl fun r1 E1 H locs hp1 hH => ?_)
  have hM1 := ME_cong (E1 := E) (E2 := E1) (fr_odds hp1) hM
  refine lv_aload_n hx hb dL_law_968 rfl (lv_at hl 2 rfl) ?_
  refine lv_aload_n hx hb dL_law_969 rfl (lv_at hl 0 rfl) ?_
  refine lv_iload_n hx hb dL_law_970 rfl (lv_at hl 3 rfl) ?_
  refine lv_iconst (v := 1) hx hb dL_law_971 (by decide) ?_
  refine lv_iadd hx hb dL_law_972 ?_
  refine qh_topi (y := nI (i + 1)) (nI_add i 1) ?_
  refine va_sld hx hb hX0 hbl hbA hH.2 (vp_in_nI (show i + 1 < L by omega) (by omega)) dL_law_973 ?_
  refine qh_topi (y := xs (i + 1)) (by rw [nI_clamp (show i + 1 < 2 ^ 31 by omega)]) ?_
  refine lv_aload_n hx hb dL_law_974 rfl (lv_at hl 0 rfl) ?_
  refine lv_iload_n hx hb dL_law_975 rfl (lv_at hl 3 rfl) ?_
  refine lv_iconst (v := 2) hx hb dL_law_976 (by decide) ?_
  refine lv_iadd hx hb dL_law_977 ?_
  refine qh_topi (y := nI (i + 2)) (nI_add i 2) ?_
  refine va_sld hx hb hX0 hbl hbA hH.2 (vp_in_nI (show i + 2 < L by omega) (by omega)) dL_law_978 ?_
  refine qh_topi (y := xs (i + 2)) (by rw [nI_clamp (show i + 2 < 2 ^ 31 by omega)]) ?_
  refine lv_aload_n hx hb dL_law_979 rfl (lv_at hl 0 rfl) ?_
  refine lv_iload_n hx hb dL_law_980 rfl (lv_at hl 3 rfl) ?_
  refine lv_iconst (v := 3) hx hb dL_law_981 (by decide) ?_
  refine lv_iadd hx hb dL_law_982 ?_
  refine qh_topi (y := nI (i + 3)) (nI_add i 3) ?_
  refine va_sld hx hb hX0 hbl hbA hH.2 (vp_in_nI (show i + 3 < L by omega) (by omega)) dL_law_983 ?_
  refine qh_topi (y := xs (i + 3)) (by rw [nI_clamp (show i + 3 < 2 ^ 31 by omega)]) ?_
  refine lv_i2l (v := (xs (i + 3)).toInt64) hx hb dL_law_984 rfl ?_
  refine lv_bipush (v := 32) hx hb dL_law_985 (by decide) ?_
  refine lv_lshl (v := (((xs (i + 3)).toInt64) <<< ((32 : Int32).toInt64 &&& 63))) hx hb dL_law_987 rfl ?_
  refine lv_aload_n hx hb dL_law_988 rfl (lv_at hl 0 rfl) ?_
  refine lv_iload_n hx hb dL_law_989 rfl (lv_at hl 3 rfl) ?_
  refine lv_iconst (v := 4) hx hb dL_law_990 (by decide) ?_
  refine lv_iadd hx hb dL_law_991 ?_
  refine qh_topi (y := nI (i + 4)) (nI_add i 4) ?_
  refine va_sld hx hb hX0 hbl hbA hH.2 (vp_in_nI (show i + 4 < L by omega) (by omega)) dL_law_992 ?_
  refine qh_topi (y := xs (i + 4)) (by rw [nI_clamp (show i + 4 < 2 ^ 31 by omega)]) ?_
  refine lv_i2l (v := (xs (i + 4)).toInt64) hx hb dL_law_993 rfl ?_
  refine lv_ldc2 hx hb hown (hts (.constantLong RL 28 (4294967295)) (by decide +kernel)) dL_law_994 ?_
  refine lv_land hx hb dL_law_997 ?_
  refine lv_lor hx hb dL_law_998 ?_
  refine lv_aload_n hx hb dL_law_999 rfl (lv_at hl 0 rfl) ?_
  refine lv_iload_n hx hb dL_law_1000 rfl (lv_at hl 3 rfl) ?_
  refine lv_iconst (v := 5) hx hb dL_law_1001 (by decide) ?_
  refine lv_iadd hx hb dL_law_1002 ?_
  refine qh_topi (y := nI (i + 5)) (nI_add i 5) ?_
  refine va_sld hx hb hX0 hbl hbA hH.2 (vp_in_nI (show i + 5 < L by omega) (by omega)) dL_law_1003 ?_
  refine qh_topi (y := xs (i + 5)) (by rw [nI_clamp (show i + 5 < 2 ^ 31 by omega)]) ?_
  obtain ⟨cv2, hroot2⟩ := ME_root hM1
  refine qh_runV (As := [.int (xs (i + 1)), .int (xs (i + 2)), .long ((((xs (i + 3)).toInt64) <<< ((32 : Int32).toInt64 &&& 63)) ||| (((xs (i + 4)).toInt64) &&& 4294967295)), .int (xs (i + 5))]) (rest := [.long r1]) (C := RX9) ⟨hx, hb, hml, hown, hts⟩ hK hH (c_X9_odds l G s.heap.size 84 E1 tr lf n mf mg mb m2 mk mp ln ts ga gb va rn cn vs so sg ce (by decide) hM1 hR.2.1 (xs (i + 1)) (xs (i + 2)) ((((xs (i + 3)).toInt64) <<< ((32 : Int32).toInt64 &&& 63)) ||| (((xs (i + 4)).toInt64) &&& 4294967295)) (xs (i + 5))) (cwV 4 hts gL_law_X9_odds rfl rfl rfl (by decide +kernel) ⟨Nat.le_of_ble_eq_true rfl, Nat.le_of_ble_eq_true rfl⟩) (by decide) hroot2 rfl rfl hl.1 rfl (Nat.le_of_ble_eq_true rfl) dL_law_1004 ⟨Nat.le_of_ble_eq_true rfl, Nat.le_of_ble_eq_true rfl⟩ (qh_kkl fun r2 E2 H locs hp2 hH => ?_)
  obtain ⟨heq, hI2⟩ := st_odds hX hM h81 hR hp1 hp2
  refine W.lcmp hx hb dL_law_1007 ?_
  exact lv_if_eq (tgt := 1357) hx hb dL_law_1008 (by decide) (fun _ => kk _ _ _ _ hI2 hH hl) (fun c9 => absurd ((lg_cmp_eq _ _).mpr heq) c9)

set_option maxHeartbeats 1000000 in
set_option maxRecDepth 100000 in
theorem lc_sheet {p : Program} {l : Launch} {e : Env} {s : State} {m : MethodId} {below : List Frame} {meth : Method} {c : Code} {b L i : Nat} {xs : Nat → Int32} {G : qh_G} {z : Nat} {E : Nat → va_E} {H : Heap} {locs : List Loc} {Q : State → Prop} {ls : Array Slot} (C : LC p s m c b L xs G z) (hL : L ≤ 3072) (hi : i + 6 ≤ L) (hI : IV G z E) (hH : qh_H G z 84 E s.heap H locs) (hl : lv_has ls 4 [(0, .ref b), (1, .ref (z + 0)), (2, .ref (z + 63)), (3, .int (nI i))])
    (kk : ∀ (E' : Nat → va_E) (H' : Heap) (locs' : List Loc) (ls' : Array Slot), IV G z E' → qh_H G z 84 E' s.heap H' locs' → lv_has ls' 4 [(0, .ref b), (1, .ref (z + 0)), (2, .ref (z + 63)), (3, .int (nI i))] → W p l e room_1 s m #[Value.ref b] below meth c H' locs' 84 1198 Q (F0 m 1357 ls' [])) : W p l e room_1 s m #[Value.ref b] below meth c H locs 84 1198 Q (F0 m 1013 ls []) := by
  obtain ⟨hx, hb, hml, hown, hts, hK, hX0, hbl, rfl⟩ := C
  obtain ⟨tr, lf, n, f, g, bf, m2, kd, pa, ln, ts, ga, gb, va, rn, cn, vs, hr, la, lg, sc, mf, mg, mb, mk, mp, so, sg, ce, lq, hX, hM, h81, hR⟩ := hI
  have hbA : ¬ (s.heap.size ≤ b) := Nat.not_le.mpr hbl
  refine lv_aload_n hx hb dL_law_1013 rfl (lv_at hl 1 rfl) ?_
  refine lv_aload_n hx hb dL_law_1014 rfl (lv_at hl 0 rfl) ?_
  refine lv_iload_n hx hb dL_law_1015 rfl (lv_at hl 3 rfl) ?_
  refine lv_iconst (v := 1) hx hb dL_law_1016 (by decide) ?_
  refine lv_iadd hx hb dL_law_1017 ?_
  refine qh_topi (y := nI (i + 1)) (nI_add i 1) ?_
  refine va_sld hx hb hX0 hbl hbA hH.2 (vp_in_nI (show i + 1 < L by omega) (by omega)) dL_law_1018 ?_
  refine qh_topi (y := xs (i + 1)) (by rw [nI_clamp (show i + 1 < 2 ^ 31 by omega)]) ?_
  refine lv_aload_n hx hb dL_law_1019 rfl (lv_at hl 0 rfl) ?_
  refine lv_iload_n hx hb dL_law_1020 rfl (lv_at hl 3 rfl) ?_
  refine lv_iconst (v := 2) hx hb dL_law_1021 (by decide) ?_
  refine lv_iadd hx hb dL_law_1022 ?_
  refine qh_topi (y := nI (i + 2)) (nI_add i 2) ?_
  refine va_sld hx hb hX0 hbl hbA hH.2 (vp_in_nI (show i + 2 < L by omega) (by omega)) dL_law_1023 ?_
  refine qh_topi (y := xs (i + 2)) (by rw [nI_clamp (show i + 2 < 2 ^ 31 by omega)]) ?_
  refine lv_aload_n hx hb dL_law_1024 rfl (lv_at hl 0 rfl) ?_
  refine lv_iload_n hx hb dL_law_1025 rfl (lv_at hl 3 rfl) ?_
  refine lv_iconst (v := 3) hx hb dL_law_1026 (by decide) ?_
  refine lv_iadd hx hb dL_law_1027 ?_
  refine qh_topi (y := nI (i + 3)) (nI_add i 3) ?_
  refine va_sld hx hb hX0 hbl hbA hH.2 (vp_in_nI (show i + 3 < L by omega) (by omega)) dL_law_1028 ?_
  refine qh_topi (y := xs (i + 3)) (by rw [nI_clamp (show i + 3 < 2 ^ 31 by omega)]) ?_
  obtain ⟨cv1, hroot1⟩ := XE_root hX
  refine qh_runV (As := [.int (xs (i + 1)), .int (xs (i + 2)), .int (xs (i + 3))]) (rest := []) (C := RX8) ⟨hx, hb, hml, hown, hts⟩ hK hH (c_X8_sheet l G s.heap.size 84 E tr lf n f g bf m2 kd pa ln ts ga gb va rn cn vs hr la lg sc (by decide) hX hR.1 (xs (i + 1)) (xs (i + 2)) (xs (i + 3))) (cwV 3 hts gL_law_X8_sheet rfl rfl rfl (by decide +kernel) ⟨Nat.le_of_ble_eq_true rfl, Nat.le_of_ble_eq_true rfl⟩) (by decide) hroot1 rfl rfl hl.1 rfl (Nat.le_of_ble_eq_true rfl) dL_law_1029 ⟨Nat.le_of_ble_eq_true rfl, Nat.le_of_ble_eq_true rfl⟩ (qh_kki fun r1 E1 H locs hp1 hH => ?_)
  have hM1 := ME_cong (E1 := E) (E2 := E1) (fr_sheet hp1) hM
  refine lv_aload_n hx hb dL_law_1032 rfl (lv_at hl 2 rfl) ?_
  refine lv_aload_n hx hb dL_law_1033 rfl (lv_at hl 0 rfl) ?_
  refine lv_iload_n hx hb dL_law_1034 rfl (lv_at hl 3 rfl) ?_
  refine lv_iconst (v := 1) hx hb dL_law_1035 (by decide) ?_
  refine lv_iadd hx hb dL_law_1036 ?_
  refine qh_topi (y := nI (i + 1)) (nI_add i 1) ?_
  refine va_sld hx hb hX0 hbl hbA hH.2 (vp_in_nI (show i + 1 < L by omega) (by omega)) dL_law_1037 ?_
  refine qh_topi (y := xs (i + 1)) (by rw [nI_clamp (show i + 1 < 2 ^ 31 by omega)]) ?_
  refine lv_aload_n hx hb dL_law_1038 rfl (lv_at hl 0 rfl) ?_
  refine lv_iload_n hx hb dL_law_1039 rfl (lv_at hl 3 rfl) ?_
  refine lv_iconst (v := 2) hx hb dL_law_1040 (by decide) ?_
  refine lv_iadd hx hb dL_law_1041 ?_
  refine qh_topi (y := nI (i + 2)) (nI_add i 2) ?_
  refine va_sld hx hb hX0 hbl hbA hH.2 (vp_in_nI (show i + 2 < L by omega) (by omega)) dL_law_1042 ?_
  refine qh_topi (y := xs (i + 2)) (by rw [nI_clamp (show i + 2 < 2 ^ 31 by omega)]) ?_
  refine lv_aload_n hx hb dL_law_1043 rfl (lv_at hl 0 rfl) ?_
  refine lv_iload_n hx hb dL_law_1044 rfl (lv_at hl 3 rfl) ?_
  refine lv_iconst (v := 3) hx hb dL_law_1045 (by decide) ?_
  refine lv_iadd hx hb dL_law_1046 ?_
  refine qh_topi (y := nI (i + 3)) (nI_add i 3) ?_
  refine va_sld hx hb hX0 hbl hbA hH.2 (vp_in_nI (show i + 3 < L by omega) (by omega)) dL_law_1047 ?_
  refine qh_topi (y := xs (i + 3)) (by rw [nI_clamp (show i + 3 < 2 ^ 31 by omega)]) ?_
  obtain ⟨cv2, hroot2⟩ := ME_root hM1
  refine qh_runV (As := [.int (xs (i + 1)), .int (xs (i + 2)), .int (xs (i + 3))]) (rest := [.int r1]) (C := RX9) ⟨hx, hb, hml, hown, hts⟩ hK hH (c_X9_sheet l G s.heap.size 84 E1 tr lf n mf mg mb m2 mk mp ln ts ga gb va rn cn vs so sg ce (by decide) hM1 hR.2.1 (xs (i + 1)) (xs (i + 2)) (xs (i + 3))) (cwV 3 hts gL_law_X9_sheet rfl rfl rfl (by decide +kernel) ⟨Nat.le_of_ble_eq_true rfl, Nat.le_of_ble_eq_true rfl⟩) (by decide) hroot2 rfl rfl hl.1 rfl (Nat.le_of_ble_eq_true rfl) dL_law_1048 ⟨Nat.le_of_ble_eq_true rfl, Nat.le_of_ble_eq_true rfl⟩ (qh_kki fun r2 E2 H locs hp2 hH => ?_)
  obtain ⟨heq, hI2⟩ := st_sheet hX hM h81 hR hp1 hp2
  exact lv_icmp_eq (tgt := 1357) hx hb dL_law_1051 (by decide) (fun _ => kk _ _ _ _ hI2 hH hl) (fun c9 => absurd heq c9)

set_option maxHeartbeats 1000000 in
set_option maxRecDepth 100000 in
theorem lc_lose {p : Program} {l : Launch} {e : Env} {s : State} {m : MethodId} {below : List Frame} {meth : Method} {c : Code} {b L i : Nat} {xs : Nat → Int32} {G : qh_G} {z : Nat} {E : Nat → va_E} {H : Heap} {locs : List Loc} {Q : State → Prop} {ls : Array Slot} (C : LC p s m c b L xs G z) (hL : L ≤ 3072) (hi : i + 6 ≤ L) (hI : IV G z E) (hH : qh_H G z 84 E s.heap H locs) (hl : lv_has ls 4 [(0, .ref b), (1, .ref (z + 0)), (2, .ref (z + 63)), (3, .int (nI i))])
    (kk : ∀ (E' : Nat → va_E) (H' : Heap) (locs' : List Loc) (ls' : Array Slot), IV G z E' → qh_H G z 84 E' s.heap H' locs' → lv_has ls' 4 [(0, .ref b), (1, .ref (z + 0)), (2, .ref (z + 63)), (3, .int (nI i))] → W p l e room_1 s m #[Value.ref b] below meth c H' locs' 84 1198 Q (F0 m 1357 ls' [])) : W p l e room_1 s m #[Value.ref b] below meth c H locs 84 1198 Q (F0 m 1056 ls []) := by
  obtain ⟨hx, hb, hml, hown, hts, hK, hX0, hbl, rfl⟩ := C
  obtain ⟨tr, lf, n, f, g, bf, m2, kd, pa, ln, ts, ga, gb, va, rn, cn, vs, hr, la, lg, sc, mf, mg, mb, mk, mp, so, sg, ce, lq, hX, hM, h81, hR⟩ := hI
  have hbA : ¬ (s.heap.size ≤ b) := Nat.not_le.mpr hbl
  refine lv_aload_n hx hb dL_law_1056 rfl (lv_at hl 1 rfl) ?_
  refine lv_aload_n hx hb dL_law_1057 rfl (lv_at hl 0 rfl) ?_
  refine lv_iload_n hx hb dL_law_1058 rfl (lv_at hl 3 rfl) ?_
  refine lv_iconst (v := 1) hx hb dL_law_1059 (by decide) ?_
  refine lv_iadd hx hb dL_law_1060 ?_
  refine qh_topi (y := nI (i + 1)) (nI_add i 1) ?_
  refine va_sld hx hb hX0 hbl hbA hH.2 (vp_in_nI (show i + 1 < L by omega) (by omega)) dL_law_1061 ?_
  refine qh_topi (y := xs (i + 1)) (by rw [nI_clamp (show i + 1 < 2 ^ 31 by omega)]) ?_
  obtain ⟨cv1, hroot1⟩ := XE_root hX
  refine qh_runV (As := [.int (xs (i + 1))]) (rest := []) (C := RX8) ⟨hx, hb, hml, hown, hts⟩ hK hH (c_X8_lose l G s.heap.size 84 E tr lf n f g bf m2 kd pa ln ts ga gb va rn cn vs hr la lg sc (by decide) hX hR.1 (xs (i + 1))) (cwV 1 hts gL_law_X8_lose rfl rfl rfl (by decide +kernel) ⟨Nat.le_of_ble_eq_true rfl, Nat.le_of_ble_eq_true rfl⟩) (by decide) hroot1 rfl rfl hl.1 rfl (Nat.le_of_ble_eq_true rfl) dL_law_1062 ⟨Nat.le_of_ble_eq_true rfl, Nat.le_of_ble_eq_true rfl⟩ (qh_kki fun r1 E1 H locs hp1 hH => ?_)
  have hM1 := ME_cong (E1 := E) (E2 := E1) (fr_lose hp1) hM
  refine lv_aload_n hx hb dL_law_1065 rfl (lv_at hl 2 rfl) ?_
  refine lv_aload_n hx hb dL_law_1066 rfl (lv_at hl 0 rfl) ?_
  refine lv_iload_n hx hb dL_law_1067 rfl (lv_at hl 3 rfl) ?_
  refine lv_iconst (v := 1) hx hb dL_law_1068 (by decide) ?_
  refine lv_iadd hx hb dL_law_1069 ?_
  refine qh_topi (y := nI (i + 1)) (nI_add i 1) ?_
  refine va_sld hx hb hX0 hbl hbA hH.2 (vp_in_nI (show i + 1 < L by omega) (by omega)) dL_law_1070 ?_
  refine qh_topi (y := xs (i + 1)) (by rw [nI_clamp (show i + 1 < 2 ^ 31 by omega)]) ?_
  obtain ⟨cv2, hroot2⟩ := ME_root hM1
  refine qh_runV (As := [.int (xs (i + 1))]) (rest := [.int r1]) (C := RX9) ⟨hx, hb, hml, hown, hts⟩ hK hH (c_X9_lose l G s.heap.size 84 E1 tr lf n mf mg mb m2 mk mp ln ts ga gb va rn cn vs so sg ce (by decide) hM1 hR.2.1 (xs (i + 1))) (cwV 1 hts gL_law_X9_lose rfl rfl rfl (by decide +kernel) ⟨Nat.le_of_ble_eq_true rfl, Nat.le_of_ble_eq_true rfl⟩) (by decide) hroot2 rfl rfl hl.1 rfl (Nat.le_of_ble_eq_true rfl) dL_law_1071 ⟨Nat.le_of_ble_eq_true rfl, Nat.le_of_ble_eq_true rfl⟩ (qh_kki fun r2 E2 H locs hp2 hH => ?_)
  obtain ⟨heq, hI2⟩ := st_lose hX hM h81 hR hp1 hp2
  exact lv_icmp_eq (tgt := 1357) hx hb dL_law_1074 (by decide) (fun _ => kk _ _ _ _ hI2 hH hl) (fun c9 => absurd heq c9)
