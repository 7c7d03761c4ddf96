set_option maxHeartbeats 1000000 in
set_option maxRecDepth 100000 in
theorem lc_put {p : Program} {l : Launch} {e : Env} {s : State} {m : MethodId} {below : List Frame} {meth : Method} {c : Code} {b L i : Nat} {xs : Nat → Int32} {G : qh_G} {z : Nat} {E : Nat → va_E} {H : Heap} {locs : List Loc} {Q : State → Prop} {ls : Array Slot} (C : LC p s m c b L xs G z) (hL : L ≤ 3072) (hi : i + 6 ≤ L) (hI : IV G z E) (hH : qh_H G z 84 E s.heap H locs) (hl : lv_has ls 4 [(0, .ref b), (1, .ref (z + 0)), (2, .ref (z + 63)), (3, .int (nI i))])
    (kk : ∀ (E' : Nat → va_E) (H' : Heap) (locs' : List Loc) (ls' : Array Slot), IV G z E' → qh_H G z 84 E' s.heap H' locs' → lv_has ls' 4 [(0, .ref b), (1, .ref (z + 0)), (2, .ref (z + 63)), (3, .int (nI i))] → W p l e room_1 s m #[Value.ref b] below meth c H' locs' 84 1198 Q (F0 m 1357 ls' [])) : W p l e room_1 s m #[Value.ref b] below meth c H locs 84 1198 Q (F0 m 1079 ls []) := by
  obtain ⟨hx, hb, hml, hown, hts, hK, hX0, hbl, rfl⟩ := C
  obtain ⟨tr, lf, n, f, g, bf, m2, kd, pa, ln, ts, ga, gb, va, rn, cn, vs, hr, la, lg, sc, mf, mg, mb, mk, mp, so, sg, ce, lq, hX, hM, h81, hR⟩ := hI
  have hbA : ¬ (s.heap.size ≤ b) := Nat.not_le.mpr hbl
  refine lv_aload_n hx hb dL_law_1079 rfl (lv_at hl 1 rfl) ?_
  refine lv_aload_n hx hb dL_law_1080 rfl (lv_at hl 0 rfl) ?_
  refine lv_iload_n hx hb dL_law_1081 rfl (lv_at hl 3 rfl) ?_
  refine lv_iconst (v := 1) hx hb dL_law_1082 (by decide) ?_
  refine lv_iadd hx hb dL_law_1083 ?_
  refine qh_topi (y := nI (i + 1)) (nI_add i 1) ?_
  refine va_sld hx hb hX0 hbl hbA hH.2 (vp_in_nI (show i + 1 < L by omega) (by omega)) dL_law_1084 ?_
  refine qh_topi (y := xs (i + 1)) (by rw [nI_clamp (show i + 1 < 2 ^ 31 by omega)]) ?_
  refine lv_aload_n hx hb dL_law_1085 rfl (lv_at hl 0 rfl) ?_
  refine lv_iload_n hx hb dL_law_1086 rfl (lv_at hl 3 rfl) ?_
  refine lv_iconst (v := 2) hx hb dL_law_1087 (by decide) ?_
  refine lv_iadd hx hb dL_law_1088 ?_
  refine qh_topi (y := nI (i + 2)) (nI_add i 2) ?_
  refine va_sld hx hb hX0 hbl hbA hH.2 (vp_in_nI (show i + 2 < L by omega) (by omega)) dL_law_1089 ?_
  refine qh_topi (y := xs (i + 2)) (by rw [nI_clamp (show i + 2 < 2 ^ 31 by omega)]) ?_
  refine lv_aload_n hx hb dL_law_1090 rfl (lv_at hl 0 rfl) ?_
  refine lv_iload_n hx hb dL_law_1091 rfl (lv_at hl 3 rfl) ?_
  refine lv_iconst (v := 3) hx hb dL_law_1092 (by decide) ?_
  refine lv_iadd hx hb dL_law_1093 ?_
  refine qh_topi (y := nI (i + 3)) (nI_add i 3) ?_
  refine va_sld hx hb hX0 hbl hbA hH.2 (vp_in_nI (show i + 3 < L by omega) (by omega)) dL_law_1094 ?_
  refine qh_topi (y := xs (i + 3)) (by rw [nI_clamp (show i + 3 < 2 ^ 31 by omega)]) ?_
  obtain ⟨cv1, hroot1⟩ := XE_root hX
  refine qh_runV (As := [.int (xs (i + 1)), .int (xs (i + 2)), .int (xs (i + 3))]) (rest := []) (C := RX8) ⟨hx, hb, hml, hown, hts⟩ hK hH (c_X8_put l G s.heap.size 84 E tr lf n f g bf m2 kd pa ln ts ga gb va rn cn vs hr la lg sc (by decide) hX hR.1 (xs (i + 1)) (xs (i + 2)) (xs (i + 3))) (cwV 3 hts gL_law_X8_put rfl rfl rfl (by decide +kernel) ⟨Nat.le_of_ble_eq_true rfl, Nat.le_of_ble_eq_true rfl⟩) (by decide) hroot1 rfl rfl hl.1 rfl (Nat.le_of_ble_eq_true rfl) dL_law_1095 ⟨Nat.le_of_ble_eq_true rfl, Nat.le_of_ble_eq_true rfl⟩ (qh_kki fun r1 E1 H locs hp1 hH => ?_)
  have hM1 := ME_cong (E1 := E) (E2 := E1) (fr_put hp1) hM
  refine lv_aload_n hx hb dL_law_1098 rfl (lv_at hl 2 rfl) ?_
  refine lv_aload_n hx hb dL_law_1099 rfl (lv_at hl 0 rfl) ?_
  refine lv_iload_n hx hb dL_law_1100 rfl (lv_at hl 3 rfl) ?_
  refine lv_iconst (v := 1) hx hb dL_law_1101 (by decide) ?_
  refine lv_iadd hx hb dL_law_1102 ?_
  refine qh_topi (y := nI (i + 1)) (nI_add i 1) ?_
  refine va_sld hx hb hX0 hbl hbA hH.2 (vp_in_nI (show i + 1 < L by omega) (by omega)) dL_law_1103 ?_
  refine qh_topi (y := xs (i + 1)) (by rw [nI_clamp (show i + 1 < 2 ^ 31 by omega)]) ?_
  refine lv_aload_n hx hb dL_law_1104 rfl (lv_at hl 0 rfl) ?_
  refine lv_iload_n hx hb dL_law_1105 rfl (lv_at hl 3 rfl) ?_
  refine lv_iconst (v := 2) hx hb dL_law_1106 (by decide) ?_
  refine lv_iadd hx hb dL_law_1107 ?_
  refine qh_topi (y := nI (i + 2)) (nI_add i 2) ?_
  refine va_sld hx hb hX0 hbl hbA hH.2 (vp_in_nI (show i + 2 < L by omega) (by omega)) dL_law_1108 ?_
  refine qh_topi (y := xs (i + 2)) (by rw [nI_clamp (show i + 2 < 2 ^ 31 by omega)]) ?_
  refine lv_aload_n hx hb dL_law_1109 rfl (lv_at hl 0 rfl) ?_
  refine lv_iload_n hx hb dL_law_1110 rfl (lv_at hl 3 rfl) ?_
  refine lv_iconst (v := 3) hx hb dL_law_1111 (by decide) ?_
  refine lv_iadd hx hb dL_law_1112 ?_
  refine qh_topi (y := nI (i + 3)) (nI_add i 3) ?_
  refine va_sld hx hb hX0 hbl hbA hH.2 (vp_in_nI (show i + 3 < L by omega) (by omega)) dL_law_1113 ?_
  refine qh_topi (y := xs (i + 3)) (by rw [nI_clamp (show i + 3 < 2 ^ 31 by omega)]) ?_
  obtain ⟨cv2, hroot2⟩ := ME_root hM1
  refine qh_runV (As := [.int (xs (i + 1)), .int (xs (i + 2)), .int (xs (i + 3))]) (rest := [.int r1]) (C := RX9) ⟨hx, hb, hml, hown, hts⟩ hK hH (c_X9_put l G s.heap.size 84 E1 tr lf n mf mg mb m2 mk mp ln ts ga gb va rn cn vs so sg ce (by decide) hM1 hR.2.1 (xs (i + 1)) (xs (i + 2)) (xs (i + 3))) (cwV 3 hts gL_law_X9_put rfl rfl rfl (by decide +kernel) ⟨Nat.le_of_ble_eq_true rfl, Nat.le_of_ble_eq_true rfl⟩) (by decide) hroot2 rfl rfl hl.1 rfl (Nat.le_of_ble_eq_true rfl) dL_law_1114 ⟨Nat.le_of_ble_eq_true rfl, Nat.le_of_ble_eq_true rfl⟩ (qh_kki fun r2 E2 H locs hp2 hH => ?_)
  obtain ⟨heq, hI2⟩ := st_put hX hM h81 hR hp1 hp2
  exact lv_icmp_eq (tgt := 1357) hx hb dL_law_1117 (by decide) (fun _ => kk _ _ _ _ hI2 hH hl) (fun c9 => absurd heq c9)

set_option maxHeartbeats 1000000 in
set_option maxRecDepth 100000 in
theorem lc_cell {p : Program} {l : Launch} {e : Env} {s : State} {m : MethodId} {below : List Frame} {meth : Method} {c : Code} {b L i : Nat} {xs : Nat → Int32} {G : qh_G} {z : Nat} {E : Nat → va_E} {H : Heap} {locs : List Loc} {Q : State → Prop} {ls : Array Slot} (C : LC p s m c b L xs G z) (hL : L ≤ 3072) (hi : i + 6 ≤ L) (hI : IV G z E) (hH : qh_H G z 84 E s.heap H locs) (hl : lv_has ls 4 [(0, .ref b), (1, .ref (z + 0)), (2, .ref (z + 63)), (3, .int (nI i))])
    (kk : ∀ (E' : Nat → va_E) (H' : Heap) (locs' : List Loc) (ls' : Array Slot), IV G z E' → qh_H G z 84 E' s.heap H' locs' → lv_has ls' 4 [(0, .ref b), (1, .ref (z + 0)), (2, .ref (z + 63)), (3, .int (nI i))] → W p l e room_1 s m #[Value.ref b] below meth c H' locs' 84 1198 Q (F0 m 1357 ls' [])) : W p l e room_1 s m #[Value.ref b] below meth c H locs 84 1198 Q (F0 m 1122 ls []) := by
  obtain ⟨hx, hb, hml, hown, hts, hK, hX0, hbl, rfl⟩ := C
  obtain ⟨tr, lf, n, f, g, bf, m2, kd, pa, ln, ts, ga, gb, va, rn, cn, vs, hr, la, lg, sc, mf, mg, mb, mk, mp, so, sg, ce, lq, hX, hM, h81, hR⟩ := hI
  have hbA : ¬ (s.heap.size ≤ b) := Nat.not_le.mpr hbl
  refine lv_aload_n hx hb dL_law_1122 rfl (lv_at hl 1 rfl) ?_
  refine lv_aload_n hx hb dL_law_1123 rfl (lv_at hl 0 rfl) ?_
  refine lv_iload_n hx hb dL_law_1124 rfl (lv_at hl 3 rfl) ?_
  refine lv_iconst (v := 1) hx hb dL_law_1125 (by decide) ?_
  refine lv_iadd hx hb dL_law_1126 ?_
  refine qh_topi (y := nI (i + 1)) (nI_add i 1) ?_
  refine va_sld hx hb hX0 hbl hbA hH.2 (vp_in_nI (show i + 1 < L by omega) (by omega)) dL_law_1127 ?_
  refine qh_topi (y := xs (i + 1)) (by rw [nI_clamp (show i + 1 < 2 ^ 31 by omega)]) ?_
  refine lv_aload_n hx hb dL_law_1128 rfl (lv_at hl 0 rfl) ?_
  refine lv_iload_n hx hb dL_law_1129 rfl (lv_at hl 3 rfl) ?_
  refine lv_iconst (v := 2) hx hb dL_law_1130 (by decide) ?_
  refine lv_iadd hx hb dL_law_1131 ?_
  refine qh_topi (y := nI (i + 2)) (nI_add i 2) ?_
  refine va_sld hx hb hX0 hbl hbA hH.2 (vp_in_nI (show i + 2 < L by omega) (by omega)) dL_law_1132 ?_
  refine qh_topi (y := xs (i + 2)) (by rw [nI_clamp (show i + 2 < 2 ^ 31 by omega)]) ?_
  refine lv_aload_n hx hb dL_law_1133 rfl (lv_at hl 0 rfl) ?_
  refine lv_iload_n hx hb dL_law_1134 rfl (lv_at hl 3 rfl) ?_
  refine lv_iconst (v := 3) hx hb dL_law_1135 (by decide) ?_
  refine lv_iadd hx hb dL_law_1136 ?_
  refine qh_topi (y := nI (i + 3)) (nI_add i 3) ?_
  refine va_sld hx hb hX0 hbl hbA hH.2 (vp_in_nI (show i + 3 < L by omega) (by omega)) dL_law_1137 ?_
  refine qh_topi (y := xs (i + 3)) (by rw [nI_clamp (show i + 3 < 2 ^ 31 by omega)]) ?_
  obtain ⟨cv1, hroot1⟩ := XE_root hX
  refine qh_runV (As := [.int (xs (i + 1)), .int (xs (i + 2)), .int (xs (i + 3))]) (rest := []) (C := RX8) ⟨hx, hb, hml, hown, hts⟩ hK hH (c_X8_cell l G s.heap.size 84 E tr lf n f g bf m2 kd pa ln ts ga gb va rn cn vs hr la lg sc (by decide) hX hR.1 (xs (i + 1)) (xs (i + 2)) (xs (i + 3))) (cwV 3 hts gL_law_X8_cell rfl rfl rfl (by decide +kernel) ⟨Nat.le_of_ble_eq_true rfl, Nat.le_of_ble_eq_true rfl⟩) (by decide) hroot1 rfl rfl hl.1 rfl (Nat.le_of_ble_eq_true rfl) dL_law_1138 ⟨Nat.le_of_ble_eq_true rfl, Nat.le_of_ble_eq_true rfl⟩ (qh_kkl fun r1 E1 H locs hp1 hH => ?_)
  have hM1 := ME_cong (E1 := E) (E2 := E1) (fr_cell hp1) hM
  refine lv_aload_n hx hb dL_law_1141 rfl (lv_at hl 2 rfl) ?_
  refine lv_aload_n hx hb dL_law_1142 rfl (lv_at hl 0 rfl) ?_
  refine lv_iload_n hx hb dL_law_1143 rfl (lv_at hl 3 rfl) ?_
  refine lv_iconst (v := 1) hx hb dL_law_1144 (by decide) ?_
  refine lv_iadd hx hb dL_law_1145 ?_
  refine qh_topi (y := nI (i + 1)) (nI_add i 1) ?_
  refine va_sld hx hb hX0 hbl hbA hH.2 (vp_in_nI (show i + 1 < L by omega) (by omega)) dL_law_1146 ?_
  refine qh_topi (y := xs (i + 1)) (by rw [nI_clamp (show i + 1 < 2 ^ 31 by omega)]) ?_
  refine lv_aload_n hx hb dL_law_1147 rfl (lv_at hl 0 rfl) ?_
  refine lv_iload_n hx hb dL_law_1148 rfl (lv_at hl 3 rfl) ?_
  refine lv_iconst (v := 2) hx hb dL_law_1149 (by decide) ?_
  refine lv_iadd hx hb dL_law_1150 ?_
  refine qh_topi (y := nI (i + 2)) (nI_add i 2) ?_
  refine va_sld hx hb hX0 hbl hbA hH.2 (vp_in_nI (show i + 2 < L by omega) (by omega)) dL_law_1151 ?_
  refine qh_topi (y := xs (i + 2)) (by rw [nI_clamp (show i + 2 < 2 ^ 31 by omega)]) ?_
  refine lv_aload_n hx hb dL_law_1152 rfl (lv_at hl 0 rfl) ?_
  refine lv_iload_n hx hb dL_law_1153 rfl (lv_at hl 3 rfl) ?_
  refine lv_iconst (v := 3) hx hb dL_law_1154 (by decide) ?_
  refine lv_iadd hx hb dL_law_1155 ?_
  refine qh_topi (y := nI (i + 3)) (nI_add i 3) ?_
  refine va_sld hx hb hX0 hbl hbA hH.2 (vp_in_nI (show i + 3 < L by omega) (by omega)) dL_law_1156 ?_
  refine qh_topi (y := xs (i + 3)) (by rw [nI_clamp (show i + 3 < 2 ^ 31 by omega)]) ?_
  obtain ⟨cv2, hroot2⟩ := ME_root hM1
  refine qh_runV (As := [.int (xs (i + 1)), .int (xs (i + 2)), .int (xs (i + 3))]) (rest := [.long r1]) (C := RX9) ⟨hx, hb, hml, hown, hts⟩ hK hH (c_X9_cell l G s.heap.size 84 E1 tr lf n mf mg mb m2 mk mp ln ts ga gb va rn cn vs so sg ce (by decide) hM1 hR.2.1 (xs (i + 1)) (xs (i + 2)) (xs (i + 3))) (cwV 3 hts gL_law_X9_cell rfl rfl rfl (by decide +kernel) ⟨Nat.le_of_ble_eq_true rfl, Nat.le_of_ble_eq_true rfl⟩) (by decide) hroot2 rfl rfl hl.1 rfl (Nat.le_of_ble_eq_true rfl) dL_law_1157 ⟨Nat.le_of_ble_eq_true rfl, Nat.le_of_ble_eq_true rfl⟩ (qh_kkl fun r2 E2 H locs hp2 hH => ?_)
  obtain ⟨heq, hI2⟩ := st_cell hX hM h81 hR hp1 hp2
  refine W.lcmp hx hb dL_law_1160 ?_
  exact lv_if_eq (tgt := 1357) hx hb dL_law_1161 (by decide) (fun _ => kk _ _ _ _ hI2 hH hl) (fun c9 => absurd ((lg_cmp_eq _ _).mpr heq) c9)

set_option maxHeartbeats 1000000 in
set_option maxRecDepth 100000 in
theorem lc_copy {p : Program} {l : Launch} {e : Env} {s : State} {m : MethodId} {below : List Frame} {meth : Method} {c : Code} {b L i : Nat} {xs : Nat → Int32} {G : qh_G} {z : Nat} {E : Nat → va_E} {H : Heap} {locs : List Loc} {Q : State → Prop} {ls : Array Slot} (C : LC p s m c b L xs G z) (hL : L ≤ 3072) (hi : i + 6 ≤ L) (hI : IV G z E) (hH : qh_H G z 84 E s.heap H locs) (hl : lv_has ls 4 [(0, .ref b), (1, .ref (z + 0)), (2, .ref (z + 63)), (3, .int (nI i))])
    (kk : ∀ (E' : Nat → va_E) (H' : Heap) (locs' : List Loc) (ls' : Array Slot), IV G z E' → qh_H G z 84 E' s.heap H' locs' → lv_has ls' 4 [(0, .ref b), (1, .ref (z + 0)), (2, .ref (z + 63)), (3, .int (nI i))] → W p l e room_1 s m #[Value.ref b] below meth c H' locs' 84 1198 Q (F0 m 1357 ls' [])) : W p l e room_1 s m #[Value.ref b] below meth c H locs 84 1198 Q (F0 m 1166 ls []) := by
  obtain ⟨hx, hb, hml, hown, hts, hK, hX0, hbl, rfl⟩ := C
  obtain ⟨tr, lf, n, f, g, bf, m2, kd, pa, ln, ts, ga, gb, va, rn, cn, vs, hr, la, lg, sc, mf, mg, mb, mk, mp, so, sg, ce, lq, hX, hM, h81, hR⟩ := hI
  have hbA : ¬ (s.heap.size ≤ b) := Nat.not_le.mpr hbl
  refine lv_aload_n hx hb dL_law_1166 rfl (lv_at hl 1 rfl) ?_
  refine lv_aload_n hx hb dL_law_1167 rfl (lv_at hl 0 rfl) ?_
  refine lv_iload_n hx hb dL_law_1168 rfl (lv_at hl 3 rfl) ?_
  refine lv_iconst (v := 1) hx hb dL_law_1169 (by decide) ?_
  refine lv_iadd hx hb dL_law_1170 ?_
  refine qh_topi (y := nI (i + 1)) (nI_add i 1) ?_
  refine va_sld hx hb hX0 hbl hbA hH.2 (vp_in_nI (show i + 1 < L by omega) (by omega)) dL_law_1171 ?_
  refine qh_topi (y := xs (i + 1)) (by rw [nI_clamp (show i + 1 < 2 ^ 31 by omega)]) ?_
  refine lv_aload_n hx hb dL_law_1172 rfl (lv_at hl 0 rfl) ?_
  refine lv_iload_n hx hb dL_law_1173 rfl (lv_at hl 3 rfl) ?_
  refine lv_iconst (v := 2) hx hb dL_law_1174 (by decide) ?_
  refine lv_iadd hx hb dL_law_1175 ?_
  refine qh_topi (y := nI (i + 2)) (nI_add i 2) ?_
  refine va_sld hx hb hX0 hbl hbA hH.2 (vp_in_nI (show i + 2 < L by omega) (by omega)) dL_law_1176 ?_
  refine qh_topi (y := xs (i + 2)) (by rw [nI_clamp (show i + 2 < 2 ^ 31 by omega)]) ?_
  refine lv_aload_n hx hb dL_law_1177 rfl (lv_at hl 0 rfl) ?_
  refine lv_iload_n hx hb dL_law_1178 rfl (lv_at hl 3 rfl) ?_
  refine lv_iconst (v := 3) hx hb dL_law_1179 (by decide) ?_
  refine lv_iadd hx hb dL_law_1180 ?_
  refine qh_topi (y := nI (i + 3)) (nI_add i 3) ?_
  refine va_sld hx hb hX0 hbl hbA hH.2 (vp_in_nI (show i + 3 < L by omega) (by omega)) dL_law_1181 ?_
  refine qh_topi (y := xs (i + 3)) (by rw [nI_clamp (show i + 3 < 2 ^ 31 by omega)]) ?_
  refine lv_aload_n hx hb dL_law_1182 rfl (lv_at hl 0 rfl) ?_
  refine lv_iload_n hx hb dL_law_1183 rfl (lv_at hl 3 rfl) ?_
  refine lv_iconst (v := 4) hx hb dL_law_1184 (by decide) ?_
  refine lv_iadd hx hb dL_law_1185 ?_
  refine qh_topi (y := nI (i + 4)) (nI_add i 4) ?_
  refine va_sld hx hb hX0 hbl hbA hH.2 (vp_in_nI (show i + 4 < L by omega) (by omega)) dL_law_1186 ?_
  refine qh_topi (y := xs (i + 4)) (by rw [nI_clamp (show i + 4 < 2 ^ 31 by omega)]) ?_
  refine lv_aload_n hx hb dL_law_1187 rfl (lv_at hl 0 rfl) ?_
  refine lv_iload_n hx hb dL_law_1188 rfl (lv_at hl 3 rfl) ?_
  refine lv_iconst (v := 5) hx hb dL_law_1189 (by decide) ?_
  refine lv_iadd hx hb dL_law_1190 ?_
  refine qh_topi (y := nI (i + 5)) (nI_add i 5) ?_
  refine va_sld hx hb hX0 hbl hbA hH.2 (vp_in_nI (show i + 5 < L by omega) (by omega)) dL_law_1191 ?_
  refine qh_topi (y := xs (i + 5)) (by rw [nI_clamp (show i + 5 < 2 ^ 31 by omega)]) ?_
  obtain ⟨cv1, hroot1⟩ := XE_root hX
  refine qh_runV (As := [.int (xs (i + 1)), .int (xs (i + 2)), .int (xs (i + 3)), .int (xs (i + 4)), .int (xs (i + 5))]) (rest := []) (C := RX8) ⟨hx, hb, hml, hown, hts⟩ hK hH (c_X8_copy l G s.heap.size 84 E tr lf n f g bf m2 kd pa ln ts ga gb va rn cn vs hr la lg sc (by decide) hX hR.1 (xs (i + 1)) (xs (i + 2)) (xs (i + 3)) (xs (i + 4)) (xs (i + 5))) (cwV 5 hts gL_law_X8_copy rfl rfl rfl (by decide +kernel) ⟨Nat.le_of_ble_eq_true rfl, Nat.le_of_ble_eq_true rfl⟩) (by decide) hroot1 rfl rfl hl.1 rfl (Nat.le_of_ble_eq_true rfl) dL_law_1192 ⟨Nat.le_of_ble_eq_true rfl, Nat.le_of_ble_eq_true rfl⟩ (qh_kki fun r1 E1 H locs hp1 hH => ?_)
  have hM1 := ME_cong (E1 := E) (E2 := E1) (fr_copy hp1) hM
  refine lv_aload_n hx hb dL_law_1195 rfl (lv_at hl 2 rfl) ?_
  refine lv_aload_n hx hb dL_law_1196 rfl (lv_at hl 0 rfl) ?_
  refine lv_iload_n hx hb dL_law_1197 rfl (lv_at hl 3 rfl) ?_
  refine lv_iconst (v := 1) hx hb dL_law_1198 (by decide) ?_
  refine lv_iadd hx hb dL_law_1199 ?_
  refine qh_topi (y := nI (i + 1)) (nI_add i 1) ?_
  refine va_sld hx hb hX0 hbl hbA hH.2 (vp_in_nI (show i + 1 < L by omega) (by omega)) dL_law_1200 ?_
  refine qh_topi (y := xs (i + 1)) (by rw [nI_clamp (show i + 1 < 2 ^ 31 by omega)]) ?_
  refine lv_aload_n hx hb dL_law_1201 rfl (lv_at hl 0 rfl) ?_
  refine lv_iload_n hx hb dL_law_1202 rfl (lv_at hl 3 rfl) ?_
  refine lv_iconst (v := 2) hx hb dL_law_1203 (by decide) ?_
  refine lv_iadd hx hb dL_law_1204 ?_
  refine qh_topi (y := nI (i + 2)) (nI_add i 2) ?_
  refine va_sld hx hb hX0 hbl hbA hH.2 (vp_in_nI (show i + 2 < L by omega) (by omega)) dL_law_1205 ?_
  refine qh_topi (y := xs (i + 2)) (by rw [nI_clamp (show i + 2 < 2 ^ 31 by omega)]) ?_
  refine lv_aload_n hx hb dL_law_1206 rfl (lv_at hl 0 rfl) ?_
  refine lv_iload_n hx hb dL_law_1207 rfl (lv_at hl 3 rfl) ?_
  refine lv_iconst (v := 3) hx hb dL_law_1208 (by decide) ?_
  refine lv_iadd hx hb dL_law_1209 ?_
  refine qh_topi (y := nI (i + 3)) (nI_add i 3) ?_
  refine va_sld hx hb hX0 hbl hbA hH.2 (vp_in_nI (show i + 3 < L by omega) (by omega)) dL_law_1210 ?_
  refine qh_topi (y := xs (i + 3)) (by rw [nI_clamp (show i + 3 < 2 ^ 31 by omega)]) ?_
  refine lv_aload_n hx hb dL_law_1211 rfl (lv_at hl 0 rfl) ?_
  refine lv_iload_n hx hb dL_law_1212 rfl (lv_at hl 3 rfl) ?_
  refine lv_iconst (v := 4) hx hb dL_law_1213 (by decide) ?_
  refine lv_iadd hx hb dL_law_1214 ?_
  refine qh_topi (y := nI (i + 4)) (nI_add i 4) ?_
  refine va_sld hx hb hX0 hbl hbA hH.2 (vp_in_nI (show i + 4 < L by omega) (by omega)) dL_law_1215 ?_
  refine qh_topi (y := xs (i + 4)) (by rw [nI_clamp (show i + 4 < 2 ^ 31 by omega)]) ?_
  refine lv_aload_n hx hb dL_law_1216 rfl (lv_at hl 0 rfl) ?_
  refine lv_iload_n hx hb dL_law_1217 rfl (lv_at hl 3 rfl) ?_
  refine lv_iconst (v := 5) hx hb dL_law_1218 (by decide) ?_
  refine lv_iadd hx hb dL_law_1219 ?_
  refine qh_topi (y := nI (i + 5)) (nI_add i 5) ?_
  refine va_sld hx hb hX0 hbl hbA hH.2 (vp_in_nI (show i + 5 < L by omega) (by omega)) dL_law_1220 ?_
  refine qh_topi (y := xs (i + 5)) (by rw [nI_clamp (show i + 5 < 2 ^ 31 by omega)]) ?_
  obtain ⟨cv2, hroot2⟩ := ME_root hM1
  refine qh_runV (As := [.int (xs (i + 1)), .int (xs (i + 2)), .int (xs (i + 3)), .int (xs (i + 4)), .int (xs (i + 5))]) (rest := [.int r1]) (C := RX9) ⟨hx, hb, hml, hown, hts⟩ hK hH (c_X9_copy l G s.heap.size 84 E1 tr lf n mf mg mb m2 mk mp ln ts ga gb va rn cn vs so sg ce (by decide) hM1 hR.2.1 (xs (i + 1)) (xs (i + 2)) (xs (i + 3)) (xs (i + 4)) (xs (i + 5))) (cwV 5 hts gL_law_X9_copy rfl rfl rfl (by decide +kernel) ⟨Nat.le_of_ble_eq_true rfl, Nat.le_of_ble_eq_true rfl⟩) (by decide) hroot2 rfl rfl hl.1 rfl (Nat.le_of_ble_eq_true rfl) dL_law_1221 ⟨Nat.le_of_ble_eq_true rfl, Nat.le_of_ble_eq_true rfl⟩ (qh_kki fun r2 E2 H locs hp2 hH => ?_)
  obtain ⟨heq, hI2⟩ := st_copy hX hM h81 hR hp1 hp2
  exact lv_icmp_eq (tgt := 1357) hx hb dL_law_1224 (by decide) (fun _ => kk _ _ _ _ hI2 hH hl) (fun c9 => absurd heq c9)

set_option maxHeartbeats 1000000 in
set_option maxRecDepth 100000 in
theorem lc_tell {p : Program} {l : Launch} {e : Env} {s : State} {m : MethodId} {below : List Frame} {meth : Method} {c : Code} {b L i : Nat} {xs : Nat → Int32} {G : qh_G} {z : Nat} {E : Nat → va_E} {H : Heap} {locs : List Loc} {Q : State → Prop} {ls : Array Slot} (C : LC p s m c b L xs G z) (hL : L ≤ 3072) (hi : i + 6 ≤ L) (hI : IV G z E) (hH : qh_H G z 84 E s.heap H locs) (hl : lv_has ls 4 [(0, .ref b), (1, .ref (z + 0)), (2, .ref (z + 63)), (3, .int (nI i))])
    (kk : ∀ (E' : Nat → va_E) (H' : Heap) (locs' : List Loc) (ls' : Array Slot), IV G z E' → qh_H G z 84 E' s.heap H' locs' → lv_has ls' 4 [(0, .ref b), (1, .ref (z + 0)), (2, .ref (z + 63)), (3, .int (nI i))] → W p l e room_1 s m #[Value.ref b] below meth c H' locs' 84 1198 Q (F0 m 1357 ls' [])) : W p l e room_1 s m #[Value.ref b] below meth c H locs 84 1198 Q (F0 m 1229 ls []) := by
  obtain ⟨hx, hb, hml, hown, hts, hK, hX0, hbl, rfl⟩ := C
  obtain ⟨tr, lf, n, f, g, bf, m2, kd, pa, ln, ts, ga, gb, va, rn, cn, vs, hr, la, lg, sc, mf, mg, mb, mk, mp, so, sg, ce, lq, hX, hM, h81, hR⟩ := hI
  have hbA : ¬ (s.heap.size ≤ b) := Nat.not_le.mpr hbl
  refine lv_aload_n hx hb dL_law_1229 rfl (lv_at hl 1 rfl) ?_
  refine lv_aload_n hx hb dL_law_1230 rfl (lv_at hl 0 rfl) ?_
  refine lv_iload_n hx hb dL_law_1231 rfl (lv_at hl 3 rfl) ?_
  refine lv_iconst (v := 1) hx hb dL_law_1232 (by decide) ?_
  refine lv_iadd hx hb dL_law_1233 ?_
  refine qh_topi (y := nI (i + 1)) (nI_add i 1) ?_
  refine va_sld hx hb hX0 hbl hbA hH.2 (vp_in_nI (show i + 1 < L by omega) (by omega)) dL_law_1234 ?_
  refine qh_topi (y := xs (i + 1)) (by rw [nI_clamp (show i + 1 < 2 ^ 31 by omega)]) ?_
  obtain ⟨cv1, hroot1⟩ := XE_root hX
  refine qh_runV (As := [.int (xs (i + 1))]) (rest := []) (C := RX8) ⟨hx, hb, hml, hown, hts⟩ hK hH (c_X8_tell l G s.heap.size 84 E tr lf n f g bf m2 kd pa ln ts ga gb va rn cn vs hr la lg sc (by decide) hX hR.1 (xs (i + 1))) (cwV 1 hts gL_law_X8_tell rfl rfl rfl (by decide +kernel) ⟨Nat.le_of_ble_eq_true rfl, Nat.le_of_ble_eq_true rfl⟩) (by decide) hroot1 rfl rfl hl.1 rfl (Nat.le_of_ble_eq_true rfl) dL_law_1235 ⟨Nat.le_of_ble_eq_true rfl, Nat.le_of_ble_eq_true rfl⟩ (qh_kki fun r1 E1 H locs hp1 hH => ?_)
  have hM1 := ME_cong (E1 := E) (E2 := E1) (fr_tell hp1) hM
  refine lv_aload_n hx hb dL_law_1238 rfl (lv_at hl 2 rfl) ?_
  refine lv_aload_n hx hb dL_law_1239 rfl (lv_at hl 0 rfl) ?_
  refine lv_iload_n hx hb dL_law_1240 rfl (lv_at hl 3 rfl) ?_
  refine lv_iconst (v := 1) hx hb dL_law_1241 (by decide) ?_
  refine lv_iadd hx hb dL_law_1242 ?_
  refine qh_topi (y := nI (i + 1)) (nI_add i 1) ?_
  refine va_sld hx hb hX0 hbl hbA hH.2 (vp_in_nI (show i + 1 < L by omega) (by omega)) dL_law_1243 ?_
  refine qh_topi (y := xs (i + 1)) (by rw [nI_clamp (show i + 1 < 2 ^ 31 by omega)]) ?_
  obtain ⟨cv2, hroot2⟩ := ME_root hM1
  refine qh_runV (As := [.int (xs (i + 1))]) (rest := [.int r1]) (C := RX9) ⟨hx, hb, hml, hown, hts⟩ hK hH (c_X9_tell l G s.heap.size 84 E1 tr lf n mf mg mb m2 mk mp ln ts ga gb va rn cn vs so sg ce (by decide) hM1 hR.2.1 (xs (i + 1))) (cwV 1 hts gL_law_X9_tell rfl rfl rfl (by decide +kernel) ⟨Nat.le_of_ble_eq_true rfl, Nat.le_of_ble_eq_true rfl⟩) (by decide) hroot2 rfl rfl hl.1 rfl (Nat.le_of_ble_eq_true rfl) dL_law_1244 ⟨Nat.le_of_ble_eq_true rfl, Nat.le_of_ble_eq_true rfl⟩ (qh_kki fun r2 E2 H locs hp2 hH => ?_)
  obtain ⟨heq, hI2⟩ := st_tell hX hM h81 hR hp1 hp2
  exact lv_icmp_eq (tgt := 1357) hx hb dL_law_1247 (by decide) (fun _ => kk _ _ _ _ hI2 hH hl) (fun c9 => absurd heq c9)

set_option maxHeartbeats 1000000 in
set_option maxRecDepth 100000 in
theorem lc_cheer {p : Program} {l : Launch} {e : Env} {s : State} {m : MethodId} {below : List Frame} {meth : Method} {c : Code} {b L i : Nat} {xs : Nat → Int32} {G : qh_G} {z : Nat} {E : Nat → va_E} {H : Heap} {locs : List Loc} {Q : State → Prop} {ls : Array Slot} (C : LC p s m c b L xs G z) (hL : L ≤ 3072) (hi : i + 6 ≤ L) (hI : IV G z E) (hH : qh_H G z 84 E s.heap H locs) (hl : lv_has ls 4 [(0, .ref b), (1, .ref (z + 0)), (2, .ref (z + 63)), (3, .int (nI i))])
    (kk : ∀ (E' : Nat → va_E) (H' : Heap) (locs' : List Loc) (ls' : Array Slot), IV G z E' → qh_H G z 84 E' s.heap H' locs' → lv_has ls' 4 [(0, .ref b), (1, .ref (z + 0)), (2, .ref (z + 63)), (3, .int (nI i))] → W p l e room_1 s m #[Value.ref b] below meth c H' locs' 84 1198 Q (F0 m 1357 ls' [])) : W p l e room_1 s m #[Value.ref b] below meth c H locs 84 1198 Q (F0 m 1252 ls []) := by
  obtain ⟨hx, hb, hml, hown, hts, hK, hX0, hbl, rfl⟩ := C
  obtain ⟨tr, lf, n, f, g, bf, m2, kd, pa, ln, ts, ga, gb, va, rn, cn, vs, hr, la, lg, sc, mf, mg, mb, mk, mp, so, sg, ce, lq, hX, hM, h81, hR⟩ := hI
  have hbA : ¬ (s.heap.size ≤ b) := Nat.not_le.mpr hbl
  refine lv_aload_n hx hb dL_law_1252 rfl (lv_at hl 1 rfl) ?_
  refine lv_aload_n hx hb dL_law_1253 rfl (lv_at hl 0 rfl) ?_
  refine lv_iload_n hx hb dL_law_1254 rfl (lv_at hl 3 rfl) ?_
  refine lv_iconst (v := 1) hx hb dL_law_1255 (by decide) ?_
  refine lv_iadd hx hb dL_law_1256 ?_
  refine qh_topi (y := nI (i + 1)) (nI_add i 1) ?_
  refine va_sld hx hb hX0 hbl hbA hH.2 (vp_in_nI (show i + 1 < L by omega) (by omega)) dL_law_1257 ?_
  refine qh_topi (y := xs (i + 1)) (by rw [nI_clamp (show i + 1 < 2 ^ 31 by omega)]) ?_
  obtain ⟨cv1, hroot1⟩ := XE_root hX
  refine qh_runV (As := [.int (xs (i + 1))]) (rest := []) (C := RX8) ⟨hx, hb, hml, hown, hts⟩ hK hH (c_X8_cheer l G s.heap.size 84 E tr lf n f g bf m2 kd pa ln ts ga gb va rn cn vs hr la lg sc (by decide) hX hR.1 (xs (i + 1))) (cwV 1 hts gL_law_X8_cheer rfl rfl rfl (by decide +kernel) ⟨Nat.le_of_ble_eq_true rfl, Nat.le_of_ble_eq_true rfl⟩) (by decide) hroot1 rfl rfl hl.1 rfl (Nat.le_of_ble_eq_true rfl) dL_law_1258 ⟨Nat.le_of_ble_eq_true rfl, Nat.le_of_ble_eq_true rfl⟩ (qh_kki fun r1 E1 H locs hp1 hH => ?_)
  have hM1 := ME_cong (E1 := E) (E2 := E1) (fr_cheer hp1) hM
  refine lv_aload_n hx hb dL_law_1261 rfl (lv_at hl 2 rfl) ?_
  refine lv_aload_n hx hb dL_law_1262 rfl (lv_at hl 0 rfl) ?_
  refine lv_iload_n hx hb dL_law_1263 rfl (lv_at hl 3 rfl) ?_
  refine lv_iconst (v := 1) hx hb dL_law_1264 (by decide) ?_
  refine lv_iadd hx hb dL_law_1265 ?_
  refine qh_topi (y := nI (i + 1)) (nI_add i 1) ?_
  refine va_sld hx hb hX0 hbl hbA hH.2 (vp_in_nI (show i + 1 < L by omega) (by omega)) dL_law_1266 ?_
  refine qh_topi (y := xs (i + 1)) (by rw [nI_clamp (show i + 1 < 2 ^ 31 by omega)]) ?_
  obtain ⟨cv2, hroot2⟩ := ME_root hM1
  refine qh_runV (As := [.int (xs (i + 1))]) (rest := [.int r1]) (C := RX9) ⟨hx, hb, hml, hown, hts⟩ hK hH (c_X9_cheer l G s.heap.size 84 E1 tr lf n mf mg mb m2 mk mp ln ts ga gb va rn cn vs so sg ce (by decide) hM1 hR.2.1 (xs (i + 1))) (cwV 1 hts gL_law_X9_cheer rfl rfl rfl (by decide +kernel) ⟨Nat.le_of_ble_eq_true rfl, Nat.le_of_ble_eq_true rfl⟩) (by decide) hroot2 rfl rfl hl.1 rfl (Nat.le_of_ble_eq_true rfl) dL_law_1267 ⟨Nat.le_of_ble_eq_true rfl, Nat.le_of_ble_eq_true rfl⟩ (qh_kki fun r2 E2 H locs hp2 hH => ?_)
  obtain ⟨heq, hI2⟩ := st_cheer hX hM h81 hR hp1 hp2
  exact lv_icmp_eq (tgt := 1357) hx hb dL_law_1270 (by decide) (fun _ => kk _ _ _ _ hI2 hH hl) (fun c9 => absurd heq c9)

set_option maxHeartbeats 1000000 in
set_option maxRecDepth 100000 in
theorem lc_as {p : Program} {l : Launch} {e : Env} {s : State} {m : MethodId} {below : List Frame} {meth : Method} {c : Code} {b L i : Nat} {xs : Nat → Int32} {G : qh_G} {z : Nat} {E : Nat → va_E} {H : Heap} {locs : List Loc} {Q : State → Prop} {ls : Array Slot} (C : LC p s m c b L xs G z) (hL : L ≤ 3072) (hi : i + 6 ≤ L) (hI : IV G z E) (hH : qh_H G z 84 E s.heap H locs) (hl : lv_has ls 4 [(0, .ref b), (1, .ref (z + 0)), (2, .ref (z + 63)), (3, .int (nI i))])
    (kk : ∀ (E' : Nat → va_E) (H' : Heap) (locs' : List Loc) (ls' : Array Slot), IV G z E' → qh_H G z 84 E' s.heap H' locs' → lv_has ls' 4 [(0, .ref b), (1, .ref (z + 0)), (2, .ref (z + 63)), (3, .int (nI i))] → W p l e room_1 s m #[Value.ref b] below meth c H' locs' 84 1198 Q (F0 m 1357 ls' [])) : W p l e room_1 s m #[Value.ref b] below meth c H locs 84 1198 Q (F0 m 1275 ls []) := by
  obtain ⟨hx, hb, hml, hown, hts, hK, hX0, hbl, rfl⟩ := C
  obtain ⟨tr, lf, n, f, g, bf, m2, kd, pa, ln, ts, ga, gb, va, rn, cn, vs, hr, la, lg, sc, mf, mg, mb, mk, mp, so, sg, ce, lq, hX, hM, h81, hR⟩ := hI
  have hbA : ¬ (s.heap.size ≤ b) := Nat.not_le.mpr hbl
  refine lv_aload_n hx hb dL_law_1275 rfl (lv_at hl 1 rfl) ?_
  refine lv_aload_n hx hb dL_law_1276 rfl (lv_at hl 0 rfl) ?_
  refine lv_iload_n hx hb dL_law_1277 rfl (lv_at hl 3 rfl) ?_
  refine lv_iconst (v := 1) hx hb dL_law_1278 (by decide) ?_
  refine lv_iadd hx hb dL_law_1279 ?_
  refine qh_topi (y := nI (i + 1)) (nI_add i 1) ?_
  refine va_sld hx hb hX0 hbl hbA hH.2 (vp_in_nI (show i + 1 < L by omega) (by omega)) dL_law_1280 ?_
  refine qh_topi (y := xs (i + 1)) (by rw [nI_clamp (show i + 1 < 2 ^ 31 by omega)]) ?_
  refine lv_aload_n hx hb dL_law_1281 rfl (lv_at hl 0 rfl) ?_
  refine lv_iload_n hx hb dL_law_1282 rfl (lv_at hl 3 rfl) ?_
  refine lv_iconst (v := 2) hx hb dL_law_1283 (by decide) ?_
  refine lv_iadd hx hb dL_law_1284 ?_
  refine qh_topi (y := nI (i + 2)) (nI_add i 2) ?_
  refine va_sld hx hb hX0 hbl hbA hH.2 (vp_in_nI (show i + 2 < L by omega) (by omega)) dL_law_1285 ?_
  refine qh_topi (y := xs (i + 2)) (by rw [nI_clamp (show i + 2 < 2 ^ 31 by omega)]) ?_
  obtain ⟨cv1, hroot1⟩ := XE_root hX
  refine qh_runV (As := [.int (xs (i + 1)), .int (xs (i + 2))]) (rest := []) (C := RX8) ⟨hx, hb, hml, hown, hts⟩ hK hH (c_X8_as l G s.heap.size 84 E tr lf n f g bf m2 kd pa ln ts ga gb va rn cn vs hr la lg sc (by decide) hX hR.1 (xs (i + 1)) (xs (i + 2))) (cwV 2 hts gL_law_X8_as rfl rfl rfl (by decide +kernel) ⟨Nat.le_of_ble_eq_true rfl, Nat.le_of_ble_eq_true rfl⟩) (by decide) hroot1 rfl rfl hl.1 rfl (Nat.le_of_ble_eq_true rfl) dL_law_1286 ⟨Nat.le_of_ble_eq_true rfl, Nat.le_of_ble_eq_true rfl⟩ (qh_kki fun r1 E1 H locs hp1 hH => ?_)
  have hM1 := ME_cong (E1 := E) (E2 := E1) (fr_as hp1) hM
  refine lv_aload_n hx hb dL_law_1289 rfl (lv_at hl 2 rfl) ?_
  refine lv_aload_n hx hb dL_law_1290 rfl (lv_at hl 0 rfl) ?_
  refine lv_iload_n hx hb dL_law_1291 rfl (lv_at hl 3 rfl) ?_
  refine lv_iconst (v := 1) hx hb dL_law_1292 (by decide) ?_
  refine lv_iadd hx hb dL_law_1293 ?_
  refine qh_topi (y := nI (i + 1)) (nI_add i 1) ?_
  refine va_sld hx hb hX0 hbl hbA hH.2 (vp_in_nI (show i + 1 < L by omega) (by omega)) dL_law_1294 ?_
  refine qh_topi (y := xs (i + 1)) (by rw [nI_clamp (show i + 1 < 2 ^ 31 by omega)]) ?_
  refine lv_aload_n hx hb dL_law_1295 rfl (lv_at hl 0 rfl) ?_
  refine lv_iload_n hx hb dL_law_1296 rfl (lv_at hl 3 rfl) ?_
  refine lv_iconst (v := 2) hx hb dL_law_1297 (by decide) ?_
  refine lv_iadd hx hb dL_law_1298 ?_
  refine qh_topi (y := nI (i + 2)) (nI_add i 2) ?_
  refine va_sld hx hb hX0 hbl hbA hH.2 (vp_in_nI (show i + 2 < L by omega) (by omega)) dL_law_1299 ?_
  refine qh_topi (y := xs (i + 2)) (by rw [nI_clamp (show i + 2 < 2 ^ 31 by omega)]) ?_
  obtain ⟨cv2, hroot2⟩ := ME_root hM1
  refine qh_runV (As := [.int (xs (i + 1)), .int (xs (i + 2))]) (rest := [.int r1]) (C := RX9) ⟨hx, hb, hml, hown, hts⟩ hK hH (c_X9_as l G s.heap.size 84 E1 tr lf n mf mg mb m2 mk mp ln ts ga gb va rn cn vs so sg ce (by decide) hM1 hR.2.1 (xs (i + 1)) (xs (i + 2))) (cwV 2 hts gL_law_X9_as rfl rfl rfl (by decide +kernel) ⟨Nat.le_of_ble_eq_true rfl, Nat.le_of_ble_eq_true rfl⟩) (by decide) hroot2 rfl rfl hl.1 rfl (Nat.le_of_ble_eq_true rfl) dL_law_1300 ⟨Nat.le_of_ble_eq_true rfl, Nat.le_of_ble_eq_true rfl⟩ (qh_kki fun r2 E2 H locs hp2 hH => ?_)
  obtain ⟨heq, hI2⟩ := st_as hX hM h81 hR hp1 hp2
  exact lv_icmp_eq (tgt := 1357) hx hb dL_law_1303 (by decide) (fun _ => kk _ _ _ _ hI2 hH hl) (fun c9 => absurd heq c9)

set_option maxHeartbeats 1000000 in
set_option maxRecDepth 100000 in
theorem lc_trace {p : Program} {l : Launch} {e : Env} {s : State} {m : MethodId} {below : List Frame} {meth : Method} {c : Code} {b L i : Nat} {xs : Nat → Int32} {G : qh_G} {z : Nat} {E : Nat → va_E} {H : Heap} {locs : List Loc} {Q : State → Prop} {ls : Array Slot} (C : LC p s m c b L xs G z) (hL : L ≤ 3072) (hi : i + 6 ≤ L) (hI : IV G z E) (hH : qh_H G z 84 E s.heap H locs) (hl : lv_has ls 4 [(0, .ref b), (1, .ref (z + 0)), (2, .ref (z + 63)), (3, .int (nI i))])
    (kk : ∀ (E' : Nat → va_E) (H' : Heap) (locs' : List Loc) (ls' : Array Slot), IV G z E' → qh_H G z 84 E' s.heap H' locs' → lv_has ls' 4 [(0, .ref b), (1, .ref (z + 0)), (2, .ref (z + 63)), (3, .int (nI i))] → W p l e room_1 s m #[Value.ref b] below meth c H' locs' 84 1198 Q (F0 m 1357 ls' [])) : W p l e room_1 s m #[Value.ref b] below meth c H locs 84 1198 Q (F0 m 1308 ls []) := by
  obtain ⟨hx, hb, hml, hown, hts, hK, hX0, hbl, rfl⟩ := C
  obtain ⟨tr, lf, n, f, g, bf, m2, kd, pa, ln, ts, ga, gb, va, rn, cn, vs, hr, la, lg, sc, mf, mg, mb, mk, mp, so, sg, ce, lq, hX, hM, h81, hR⟩ := hI
  have hbA : ¬ (s.heap.size ≤ b) := Nat.not_le.mpr hbl
  refine lv_aload_n hx hb dL_law_1308 rfl (lv_at hl 1 rfl) ?_
  obtain ⟨cv1, hroot1⟩ := XE_root hX
  refine qh_runV (As := []) (rest := []) (C := RX8) ⟨hx, hb, hml, hown, hts⟩ hK hH (c_X8_trace l G s.heap.size 84 E tr lf n f g bf m2 kd pa ln ts ga gb va rn cn vs hr la lg sc (by decide) hX hR.1 ) (cwV 0 hts gL_law_X8_trace rfl rfl rfl (by decide +kernel) ⟨Nat.le_of_ble_eq_true rfl, Nat.le_of_ble_eq_true rfl⟩) (by decide) hroot1 rfl rfl hl.1 rfl (Nat.le_of_ble_eq_true rfl) dL_law_1309 ⟨Nat.le_of_ble_eq_true rfl, Nat.le_of_ble_eq_true rfl⟩ (qh_kki fun r1 E1 H locs hp1 hH => ?_)
  have hM1 := ME_cong (E1 := E) (E2 := E1) (fr_trace hp1) hM
  refine lv_aload_n hx hb dL_law_1312 rfl (lv_at hl 2 rfl) ?_
  obtain ⟨cv2, hroot2⟩ := ME_root hM1
  refine qh_runV (As := []) (rest := [.int r1]) (C := RX9) ⟨hx, hb, hml, hown, hts⟩ hK hH (c_X9_trace l G s.heap.size 84 E1 tr lf n mf mg mb m2 mk mp ln ts ga gb va rn cn vs so sg ce (by decide) hM1 hR.2.1 ) (cwV 0 hts gL_law_X9_trace rfl rfl rfl (by decide +kernel) ⟨Nat.le_of_ble_eq_true rfl, Nat.le_of_ble_eq_true rfl⟩) (by decide) hroot2 rfl rfl hl.1 rfl (Nat.le_of_ble_eq_true rfl) dL_law_1313 ⟨Nat.le_of_ble_eq_true rfl, Nat.le_of_ble_eq_true rfl⟩ (qh_kki fun r2 E2 H locs hp2 hH => ?_)
  obtain ⟨heq, hI2⟩ := st_trace hX hM h81 hR hp1 hp2
  exact lv_icmp_eq (tgt := 1357) hx hb dL_law_1316 (by decide) (fun _ => kk _ _ _ _ hI2 hH hl) (fun c9 => absurd heq c9)

set_option maxHeartbeats 1000000 in
set_option maxRecDepth 100000 in
theorem lc_fault {p : Program} {l : Launch} {e : Env} {s : State} {m : MethodId} {below : List Frame} {meth : Method} {c : Code} {b L i : Nat} {xs : Nat → Int32} {G : qh_G} {z : Nat} {E : Nat → va_E} {H : Heap} {locs : List Loc} {Q : State → Prop} {ls : Array Slot} (C : LC p s m c b L xs G z) (hL : L ≤ 3072) (hi : i + 6 ≤ L) (hI : IV G z E) (hH : qh_H G z 84 E s.heap H locs) (hl : lv_has ls 4 [(0, .ref b), (1, .ref (z + 0)), (2, .ref (z + 63)), (3, .int (nI i))])
    (kk : ∀ (E' : Nat → va_E) (H' : Heap) (locs' : List Loc) (ls' : Array Slot), IV G z E' → qh_H G z 84 E' s.heap H' locs' → lv_has ls' 4 [(0, .ref b), (1, .ref (z + 0)), (2, .ref (z + 63)), (3, .int (nI i))] → W p l e room_1 s m #[Value.ref b] below meth c H' locs' 84 1198 Q (F0 m 1357 ls' [])) : W p l e room_1 s m #[Value.ref b] below meth c H locs 84 1198 Q (F0 m 1321 ls []) := by
  obtain ⟨hx, hb, hml, hown, hts, hK, hX0, hbl, rfl⟩ := C
  obtain ⟨tr, lf, n, f, g, bf, m2, kd, pa, ln, ts, ga, gb, va, rn, cn, vs, hr, la, lg, sc, mf, mg, mb, mk, mp, so, sg, ce, lq, hX, hM, h81, hR⟩ := hI
  have hbA : ¬ (s.heap.size ≤ b) := Nat.not_le.mpr hbl
  refine lv_aload_n hx hb dL_law_1321 rfl (lv_at hl 1 rfl) ?_
  obtain ⟨cv1, hroot1⟩ := XE_root hX
  refine qh_runV (As := []) (rest := []) (C := RX8) ⟨hx, hb, hml, hown, hts⟩ hK hH (c_X8_fault l G s.heap.size 84 E tr lf n f g bf m2 kd pa ln ts ga gb va rn cn vs hr la lg sc (by decide) hX hR.1 ) (cwV 0 hts gL_law_X8_fault rfl rfl rfl (by decide +kernel) ⟨Nat.le_of_ble_eq_true rfl, Nat.le_of_ble_eq_true rfl⟩) (by decide) hroot1 rfl rfl hl.1 rfl (Nat.le_of_ble_eq_true rfl) dL_law_1322 ⟨Nat.le_of_ble_eq_true rfl, Nat.le_of_ble_eq_true rfl⟩ (qh_kki fun r1 E1 H locs hp1 hH => ?_)
  have hM1 := ME_cong (E1 := E) (E2 := E1) (fr_fault hp1) hM
  refine lv_aload_n hx hb dL_law_1325 rfl (lv_at hl 2 rfl) ?_
  obtain ⟨cv2, hroot2⟩ := ME_root hM1
  refine qh_runV (As := []) (rest := [.int r1]) (C := RX9) ⟨hx, hb, hml, hown, hts⟩ hK hH (c_X9_fault l G s.heap.size 84 E1 tr lf n mf mg mb m2 mk mp ln ts ga gb va rn cn vs so sg ce (by decide) hM1 hR.2.1 ) (cwV 0 hts gL_law_X9_fault rfl rfl rfl (by decide +kernel) ⟨Nat.le_of_ble_eq_true rfl, Nat.le_of_ble_eq_true rfl⟩) (by decide) hroot2 rfl rfl hl.1 rfl (Nat.le_of_ble_eq_true rfl) dL_law_1326 ⟨Nat.le_of_ble_eq_true rfl, Nat.le_of_ble_eq_true rfl⟩ (qh_kki fun r2 E2 H locs hp2 hH => ?_)
  obtain ⟨heq, hI2⟩ := st_fault hX hM h81 hR hp1 hp2
  exact lv_icmp_eq (tgt := 1357) hx hb dL_law_1329 (by decide) (fun _ => kk _ _ _ _ hI2 hH hl) (fun c9 => absurd heq c9)

set_option maxHeartbeats 1000000 in
set_option maxRecDepth 100000 in
theorem lc_many {p : Program} {l : Launch} {e : Env} {s : State} {m : MethodId} {below : List Frame} {meth : Method} {c : Code} {b L i : Nat} {xs : Nat → Int32} {G : qh_G} {z : Nat} {E : Nat → va_E} {H : Heap} {locs : List Loc} {Q : State → Prop} {ls : Array Slot} (C : LC p s m c b L xs G z) (hL : L ≤ 3072) (hi : i + 6 ≤ L) (hI : IV G z E) (hH : qh_H G z 84 E s.heap H locs) (hl : lv_has ls 4 [(0, .ref b), (1, .ref (z + 0)), (2, .ref (z + 63)), (3, .int (nI i))])
    (kk : ∀ (E' : Nat → va_E) (H' : Heap) (locs' : List Loc) (ls' : Array Slot), IV G z E' → qh_H G z 84 E' s.heap H' locs' → lv_has ls' 4 [(0, .ref b), (1, .ref (z + 0)), (2, .ref (z + 63)), (3, .int (nI i))] → W p l e room_1 s m #[Value.ref b] below meth c H' locs' 84 1198 Q (F0 m 1357 ls' [])) : W p l e room_1 s m #[Value.ref b] below meth c H locs 84 1198 Q (F0 m 1334 ls []) := by
  obtain ⟨hx, hb, hml, hown, hts, hK, hX0, hbl, rfl⟩ := C
  obtain ⟨tr, lf, n, f, g, bf, m2, kd, pa, ln, ts, ga, gb, va, rn, cn, vs, hr, la, lg, sc, mf, mg, mb, mk, mp, so, sg, ce, lq, hX, hM, h81, hR⟩ := hI
  have hbA : ¬ (s.heap.size ≤ b) := Nat.not_le.mpr hbl
  refine lv_aload_n hx hb dL_law_1334 rfl (lv_at hl 1 rfl) ?_
  refine lv_aload_n hx hb dL_law_1335 rfl (lv_at hl 0 rfl) ?_
  refine lv_iload_n hx hb dL_law_1336 rfl (lv_at hl 3 rfl) ?_
  refine lv_iconst (v := 1) hx hb dL_law_1337 (by decide) ?_
  refine lv_iadd hx hb dL_law_1338 ?_
  refine qh_topi (y := nI (i + 1)) (nI_add i 1) ?_
  refine va_sld hx hb hX0 hbl hbA hH.2 (vp_in_nI (show i + 1 < L by omega) (by omega)) dL_law_1339 ?_
  refine qh_topi (y := xs (i + 1)) (by rw [nI_clamp (show i + 1 < 2 ^ 31 by omega)]) ?_
  obtain ⟨cv1, hroot1⟩ := XE_root hX
  refine qh_runV (As := [.int (xs (i + 1))]) (rest := []) (C := RX8) ⟨hx, hb, hml, hown, hts⟩ hK hH (c_X8_many l G s.heap.size 84 E tr lf n f g bf m2 kd pa ln ts ga gb va rn cn vs hr la lg sc (by decide) hX hR.1 (xs (i + 1))) (cwV 1 hts gL_law_X8_many rfl rfl rfl (by decide +kernel) ⟨Nat.le_of_ble_eq_true rfl, Nat.le_of_ble_eq_true rfl⟩) (by decide) hroot1 rfl rfl hl.1 rfl (Nat.le_of_ble_eq_true rfl) dL_law_1340 ⟨Nat.le_of_ble_eq_true rfl, Nat.le_of_ble_eq_true rfl⟩ (qh_kki fun r1 E1 H locs hp1 hH => ?_)
  have hM1 := ME_cong (E1 := E) (E2 := E1) (fr_many hp1) hM
  refine lv_aload_n hx hb dL_law_1343 rfl (lv_at hl 2 rfl) ?_
  refine lv_aload_n hx hb dL_law_1344 rfl (lv_at hl 0 rfl) ?_
  refine lv_iload_n hx hb dL_law_1345 rfl (lv_at hl 3 rfl) ?_
  refine lv_iconst (v := 1) hx hb dL_law_1346 (by decide) ?_
  refine lv_iadd hx hb dL_law_1347 ?_
  refine qh_topi (y := nI (i + 1)) (nI_add i 1) ?_
  refine va_sld hx hb hX0 hbl hbA hH.2 (vp_in_nI (show i + 1 < L by omega) (by omega)) dL_law_1348 ?_
  refine qh_topi (y := xs (i + 1)) (by rw [nI_clamp (show i + 1 < 2 ^ 31 by omega)]) ?_
  obtain ⟨cv2, hroot2⟩ := ME_root hM1
  refine qh_runV (As := [.int (xs (i + 1))]) (rest := [.int r1]) (C := RX9) ⟨hx, hb, hml, hown, hts⟩ hK hH (c_X9_many l G s.heap.size 84 E1 tr lf n mf mg mb m2 mk mp ln ts ga gb va rn cn vs so sg ce (by decide) hM1 hR.2.1 (xs (i + 1))) (cwV 1 hts gL_law_X9_many rfl rfl rfl (by decide +kernel) ⟨Nat.le_of_ble_eq_true rfl, Nat.le_of_ble_eq_true rfl⟩) (by decide) hroot2 rfl rfl hl.1 rfl (Nat.le_of_ble_eq_true rfl) dL_law_1349 ⟨Nat.le_of_ble_eq_true rfl, Nat.le_of_ble_eq_true rfl⟩ (qh_kki fun r2 E2 H locs hp2 hH => ?_)
  obtain ⟨heq, hI2⟩ := st_many hX hM h81 hR hp1 hp2
  exact lv_icmp_eq (tgt := 1357) hx hb dL_law_1352 (by decide) (fun _ => kk _ _ _ _ hI2 hH hl) (fun c9 => absurd heq c9)
