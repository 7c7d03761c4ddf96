set_option maxHeartbeats 1000000 in
set_option maxRecDepth 100000 in
theorem lc_row {p : Program} {l : Launch} {e : Env} {s : State} {m : MethodId} {below : List Frame} {meth : Method} {c : Code} {b L i : Nat} {xs : Nat → Int32} {G : qh_G} {z : Nat} {E : Nat → va_E} {H : Heap} {locs : List Loc} {Q : State → Prop} {ls : Array Slot} (C : LC p s m c b L xs G z) (hL : L ≤ 3072) (hi : i + 6 ≤ L) (hI : IV G z E) (hH : qh_H G z 84 E s.heap H locs) (hl : lv_has ls 4 [(0, .ref b), (1, .ref (z + 0)), (2, .ref (z + 63)), (3, .int (nI i))])
    (kk : ∀ (E' : Nat → va_E) (H' : Heap) (locs' : List Loc) (ls' : Array Slot), IV G z E' → qh_H G z 84 E' s.heap H' locs' → lv_has ls' 4 [(0, .ref b), (1, .ref (z + 0)), (2, .ref (z + 63)), (3, .int (nI i))] → W p l e room_1 s m #[Value.ref b] below meth c H' locs' 84 1198 Q (F0 m 1357 ls' [])) : W p l e room_1 s m #[Value.ref b] below meth c H locs 84 1198 Q (F0 m 164 ls []) := by
  obtain ⟨hx, hb, hml, hown, hts, hK, hX0, hbl, rfl⟩ := C
  obtain ⟨tr, lf, n, f, g, bf, m2, kd, pa, ln, ts, ga, gb, va, rn, cn, vs, hr, la, lg, sc, mf, mg, mb, mk, mp, so, sg, ce, lq, hX, hM, h81, hR⟩ := hI
  have hbA : ¬ (s.heap.size ≤ b) := Nat.not_le.mpr hbl
  refine lv_aload_n hx hb dL_law_164 rfl (lv_at hl 1 rfl) ?_
  refine lv_aload_n hx hb dL_law_165 rfl (lv_at hl 0 rfl) ?_
  refine lv_iload_n hx hb dL_law_166 rfl (lv_at hl 3 rfl) ?_
  refine lv_iconst (v := 1) hx hb dL_law_167 (by decide) ?_
  refine lv_iadd hx hb dL_law_168 ?_
  refine qh_topi (y := nI (i + 1)) (nI_add i 1) ?_
  refine va_sld hx hb hX0 hbl hbA hH.2 (vp_in_nI (show i + 1 < L by omega) (by omega)) dL_law_169 ?_
  refine qh_topi (y := xs (i + 1)) (by rw [nI_clamp (show i + 1 < 2 ^ 31 by omega)]) ?_
  refine lv_aload_n hx hb dL_law_170 rfl (lv_at hl 0 rfl) ?_
  refine lv_iload_n hx hb dL_law_171 rfl (lv_at hl 3 rfl) ?_
  refine lv_iconst (v := 2) hx hb dL_law_172 (by decide) ?_
  refine lv_iadd hx hb dL_law_173 ?_
  refine qh_topi (y := nI (i + 2)) (nI_add i 2) ?_
  refine va_sld hx hb hX0 hbl hbA hH.2 (vp_in_nI (show i + 2 < L by omega) (by omega)) dL_law_174 ?_
  refine qh_topi (y := xs (i + 2)) (by rw [nI_clamp (show i + 2 < 2 ^ 31 by omega)]) ?_
  refine lv_aload_n hx hb dL_law_175 rfl (lv_at hl 0 rfl) ?_
  refine lv_iload_n hx hb dL_law_176 rfl (lv_at hl 3 rfl) ?_
  refine lv_iconst (v := 3) hx hb dL_law_177 (by decide) ?_
  refine lv_iadd hx hb dL_law_178 ?_
  refine qh_topi (y := nI (i + 3)) (nI_add i 3) ?_
  refine va_sld hx hb hX0 hbl hbA hH.2 (vp_in_nI (show i + 3 < L by omega) (by omega)) dL_law_179 ?_
  refine qh_topi (y := xs (i + 3)) (by rw [nI_clamp (show i + 3 < 2 ^ 31 by omega)]) ?_
  refine lv_aload_n hx hb dL_law_180 rfl (lv_at hl 0 rfl) ?_
  refine lv_iload_n hx hb dL_law_181 rfl (lv_at hl 3 rfl) ?_
  refine lv_iconst (v := 4) hx hb dL_law_182 (by decide) ?_
  refine lv_iadd hx hb dL_law_183 ?_
  refine qh_topi (y := nI (i + 4)) (nI_add i 4) ?_
  refine va_sld hx hb hX0 hbl hbA hH.2 (vp_in_nI (show i + 4 < L by omega) (by omega)) dL_law_184 ?_
  refine qh_topi (y := xs (i + 4)) (by rw [nI_clamp (show i + 4 < 2 ^ 31 by omega)]) ?_
  obtain ⟨cv1, hroot1⟩ := XE_root hX
  refine qh_runV (As := [.int (xs (i + 1)), .int (xs (i + 2)), .int (xs (i + 3)), .int (xs (i + 4))]) (rest := []) (C := RX8) ⟨hx, hb, hml, hown, hts⟩ hK hH (c_X8_row l G s.heap.size 84 E tr lf n f g bf m2 kd pa ln ts ga gb va rn cn vs hr la lg sc (by decide) hX hR.1 (xs (i + 1)) (xs (i + 2)) (xs (i + 3)) (xs (i + 4))) (cwV 4 hts gL_law_X8_row rfl rfl rfl (by decide +kernel) ⟨Nat.le_of_ble_eq_true rfl, Nat.le_of_ble_eq_true rfl⟩) (by decide) hroot1 rfl rfl hl.1 rfl (Nat.le_of_ble_eq_true rfl) dL_law_185 ⟨Nat.le_of_ble_eq_true rfl, Nat.le_of_ble_eq_true rfl⟩ (qh_kki fun r1 E1 H locs hp1 hH => ?_)
  have hM1 := ME_cong (E1 := E) (E2 := E1) (fr_row hp1) hM
  refine lv_aload_n hx hb dL_law_188 rfl (lv_at hl 2 rfl) ?_
  refine lv_aload_n hx hb dL_law_189 rfl (lv_at hl 0 rfl) ?_
  refine lv_iload_n hx hb dL_law_190 rfl (lv_at hl 3 rfl) ?_
  refine lv_iconst (v := 1) hx hb dL_law_191 (by decide) ?_
  refine lv_iadd hx hb dL_law_192 ?_
  refine qh_topi (y := nI (i + 1)) (nI_add i 1) ?_
  refine va_sld hx hb hX0 hbl hbA hH.2 (vp_in_nI (show i + 1 < L by omega) (by omega)) dL_law_193 ?_
  refine qh_topi (y := xs (i + 1)) (by rw [nI_clamp (show i + 1 < 2 ^ 31 by omega)]) ?_
  refine lv_aload_n hx hb dL_law_194 rfl (lv_at hl 0 rfl) ?_
  refine lv_iload_n hx hb dL_law_195 rfl (lv_at hl 3 rfl) ?_
  refine lv_iconst (v := 2) hx hb dL_law_196 (by decide) ?_
  refine lv_iadd hx hb dL_law_197 ?_
  refine qh_topi (y := nI (i + 2)) (nI_add i 2) ?_
  refine va_sld hx hb hX0 hbl hbA hH.2 (vp_in_nI (show i + 2 < L by omega) (by omega)) dL_law_198 ?_
  refine qh_topi (y := xs (i + 2)) (by rw [nI_clamp (show i + 2 < 2 ^ 31 by omega)]) ?_
  refine lv_aload_n hx hb dL_law_199 rfl (lv_at hl 0 rfl) ?_
  refine lv_iload_n hx hb dL_law_200 rfl (lv_at hl 3 rfl) ?_
  refine lv_iconst (v := 3) hx hb dL_law_201 (by decide) ?_
  refine lv_iadd hx hb dL_law_202 ?_
  refine qh_topi (y := nI (i + 3)) (nI_add i 3) ?_
  refine va_sld hx hb hX0 hbl hbA hH.2 (vp_in_nI (show i + 3 < L by omega) (by omega)) dL_law_203 ?_
  refine qh_topi (y := xs (i + 3)) (by rw [nI_clamp (show i + 3 < 2 ^ 31 by omega)]) ?_
  refine lv_aload_n hx hb dL_law_204 rfl (lv_at hl 0 rfl) ?_
  refine lv_iload_n hx hb dL_law_205 rfl (lv_at hl 3 rfl) ?_
  refine lv_iconst (v := 4) hx hb dL_law_206 (by decide) ?_
  refine lv_iadd hx hb dL_law_207 ?_
  refine qh_topi (y := nI (i + 4)) (nI_add i 4) ?_
  refine va_sld hx hb hX0 hbl hbA hH.2 (vp_in_nI (show i + 4 < L by omega) (by omega)) dL_law_208 ?_
  refine qh_topi (y := xs (i + 4)) (by rw [nI_clamp (show i + 4 < 2 ^ 31 by omega)]) ?_
  obtain ⟨cv2, hroot2⟩ := ME_root hM1
  refine qh_runV (As := [.int (xs (i + 1)), .int (xs (i + 2)), .int (xs (i + 3)), .int (xs (i + 4))]) (rest := [.int r1]) (C := RX9) ⟨hx, hb, hml, hown, hts⟩ hK hH (c_X9_row l G s.heap.size 84 E1 tr lf n mf mg mb m2 mk mp ln ts ga gb va rn cn vs so sg ce (by decide) hM1 hR.2.1 (xs (i + 1)) (xs (i + 2)) (xs (i + 3)) (xs (i + 4))) (cwV 4 hts gL_law_X9_row rfl rfl rfl (by decide +kernel) ⟨Nat.le_of_ble_eq_true rfl, Nat.le_of_ble_eq_true rfl⟩) (by decide) hroot2 rfl rfl hl.1 rfl (Nat.le_of_ble_eq_true rfl) dL_law_209 ⟨Nat.le_of_ble_eq_true rfl, Nat.le_of_ble_eq_true rfl⟩ (qh_kki fun r2 E2 H locs hp2 hH => ?_)
  obtain ⟨heq, hI2⟩ := st_row hX hM h81 hR hp1 hp2
  exact lv_icmp_eq (tgt := 1357) hx hb dL_law_212 (by decide) (fun _ => kk _ _ _ _ hI2 hH hl) (fun c9 => absurd heq c9)

set_option maxHeartbeats 1000000 in
set_option maxRecDepth 100000 in
theorem lc_ofHelper {p : Program} {l : Launch} {e : Env} {s : State} {m : MethodId} {below : List Frame} {meth : Method} {c : Code} {b L i : Nat} {xs : Nat → Int32} {G : qh_G} {z : Nat} {E : Nat → va_E} {H : Heap} {locs : List Loc} {Q : State → Prop} {ls : Array Slot} (C : LC p s m c b L xs G z) (hL : L ≤ 3072) (hi : i + 6 ≤ L) (hI : IV G z E) (hH : qh_H G z 84 E s.heap H locs) (hl : lv_has ls 4 [(0, .ref b), (1, .ref (z + 0)), (2, .ref (z + 63)), (3, .int (nI i))])
    (kk : ∀ (E' : Nat → va_E) (H' : Heap) (locs' : List Loc) (ls' : Array Slot), IV G z E' → qh_H G z 84 E' s.heap H' locs' → lv_has ls' 4 [(0, .ref b), (1, .ref (z + 0)), (2, .ref (z + 63)), (3, .int (nI i))] → W p l e room_1 s m #[Value.ref b] below meth c H' locs' 84 1198 Q (F0 m 1357 ls' [])) : W p l e room_1 s m #[Value.ref b] below meth c H locs 84 1198 Q (F0 m 217 ls []) := by
  obtain ⟨hx, hb, hml, hown, hts, hK, hX0, hbl, rfl⟩ := C
  obtain ⟨tr, lf, n, f, g, bf, m2, kd, pa, ln, ts, ga, gb, va, rn, cn, vs, hr, la, lg, sc, mf, mg, mb, mk, mp, so, sg, ce, lq, hX, hM, h81, hR⟩ := hI
  have hbA : ¬ (s.heap.size ≤ b) := Nat.not_le.mpr hbl
  refine lv_aload_n hx hb dL_law_217 rfl (lv_at hl 1 rfl) ?_
  refine lv_aload_n hx hb dL_law_218 rfl (lv_at hl 0 rfl) ?_
  refine lv_iload_n hx hb dL_law_219 rfl (lv_at hl 3 rfl) ?_
  refine lv_iconst (v := 1) hx hb dL_law_220 (by decide) ?_
  refine lv_iadd hx hb dL_law_221 ?_
  refine qh_topi (y := nI (i + 1)) (nI_add i 1) ?_
  refine va_sld hx hb hX0 hbl hbA hH.2 (vp_in_nI (show i + 1 < L by omega) (by omega)) dL_law_222 ?_
  refine qh_topi (y := xs (i + 1)) (by rw [nI_clamp (show i + 1 < 2 ^ 31 by omega)]) ?_
  refine lv_aload_n hx hb dL_law_223 rfl (lv_at hl 0 rfl) ?_
  refine lv_iload_n hx hb dL_law_224 rfl (lv_at hl 3 rfl) ?_
  refine lv_iconst (v := 2) hx hb dL_law_225 (by decide) ?_
  refine lv_iadd hx hb dL_law_226 ?_
  refine qh_topi (y := nI (i + 2)) (nI_add i 2) ?_
  refine va_sld hx hb hX0 hbl hbA hH.2 (vp_in_nI (show i + 2 < L by omega) (by omega)) dL_law_227 ?_
  refine qh_topi (y := xs (i + 2)) (by rw [nI_clamp (show i + 2 < 2 ^ 31 by omega)]) ?_
  obtain ⟨cv1, hroot1⟩ := XE_root hX
  refine qh_runV (As := [.int (xs (i + 1)), .int (xs (i + 2))]) (rest := []) (C := RX8) ⟨hx, hb, hml, hown, hts⟩ hK hH (c_X8_ofHelper l G s.heap.size 84 E tr lf n f g bf m2 kd pa ln ts ga gb va rn cn vs hr la lg sc (by decide) hX hR.1 (xs (i + 1)) (xs (i + 2))) (cwV 2 hts gL_law_X8_ofHelper rfl rfl rfl (by decide +kernel) ⟨Nat.le_of_ble_eq_true rfl, Nat.le_of_ble_eq_true rfl⟩) (by decide) hroot1 rfl rfl hl.1 rfl (Nat.le_of_ble_eq_true rfl) dL_law_228 ⟨Nat.le_of_ble_eq_true rfl, Nat.le_of_ble_eq_true rfl⟩ (qh_kki fun r1 E1 H locs hp1 hH => ?_)
  have hM1 := ME_cong (E1 := E) (E2 := E1) (fr_ofHelper hp1) hM
  refine lv_aload_n hx hb dL_law_231 rfl (lv_at hl 2 rfl) ?_
  refine lv_aload_n hx hb dL_law_232 rfl (lv_at hl 0 rfl) ?_
  refine lv_iload_n hx hb dL_law_233 rfl (lv_at hl 3 rfl) ?_
  refine lv_iconst (v := 1) hx hb dL_law_234 (by decide) ?_
  refine lv_iadd hx hb dL_law_235 ?_
  refine qh_topi (y := nI (i + 1)) (nI_add i 1) ?_
  refine va_sld hx hb hX0 hbl hbA hH.2 (vp_in_nI (show i + 1 < L by omega) (by omega)) dL_law_236 ?_
  refine qh_topi (y := xs (i + 1)) (by rw [nI_clamp (show i + 1 < 2 ^ 31 by omega)]) ?_
  refine lv_aload_n hx hb dL_law_237 rfl (lv_at hl 0 rfl) ?_
  refine lv_iload_n hx hb dL_law_238 rfl (lv_at hl 3 rfl) ?_
  refine lv_iconst (v := 2) hx hb dL_law_239 (by decide) ?_
  refine lv_iadd hx hb dL_law_240 ?_
  refine qh_topi (y := nI (i + 2)) (nI_add i 2) ?_
  refine va_sld hx hb hX0 hbl hbA hH.2 (vp_in_nI (show i + 2 < L by omega) (by omega)) dL_law_241 ?_
  refine qh_topi (y := xs (i + 2)) (by rw [nI_clamp (show i + 2 < 2 ^ 31 by omega)]) ?_
  obtain ⟨cv2, hroot2⟩ := ME_root hM1
  refine qh_runV (As := [.int (xs (i + 1)), .int (xs (i + 2))]) (rest := [.int r1]) (C := RX9) ⟨hx, hb, hml, hown, hts⟩ hK hH (c_X9_ofHelper l G s.heap.size 84 E1 tr lf n mf mg mb m2 mk mp ln ts ga gb va rn cn vs so sg ce (by decide) hM1 hR.2.1 (xs (i + 1)) (xs (i + 2))) (cwV 2 hts gL_law_X9_ofHelper rfl rfl rfl (by decide +kernel) ⟨Nat.le_of_ble_eq_true rfl, Nat.le_of_ble_eq_true rfl⟩) (by decide) hroot2 rfl rfl hl.1 rfl (Nat.le_of_ble_eq_true rfl) dL_law_242 ⟨Nat.le_of_ble_eq_true rfl, Nat.le_of_ble_eq_true rfl⟩ (qh_kki fun r2 E2 H locs hp2 hH => ?_)
  obtain ⟨heq, hI2⟩ := st_ofHelper hX hM h81 hR hp1 hp2
  exact lv_icmp_eq (tgt := 1357) hx hb dL_law_245 (by decide) (fun _ => kk _ _ _ _ hI2 hH hl) (fun c9 => absurd heq c9)

set_option maxHeartbeats 1000000 in
set_option maxRecDepth 100000 in
theorem lc_at {p : Program} {l : Launch} {e : Env} {s : State} {m : MethodId} {below : List Frame} {meth : Method} {c : Code} {b L i : Nat} {xs : Nat → Int32} {G : qh_G} {z : Nat} {E : Nat → va_E} {H : Heap} {locs : List Loc} {Q : State → Prop} {ls : Array Slot} (C : LC p s m c b L xs G z) (hL : L ≤ 3072) (hi : i + 6 ≤ L) (hI : IV G z E) (hH : qh_H G z 84 E s.heap H locs) (hl : lv_has ls 4 [(0, .ref b), (1, .ref (z + 0)), (2, .ref (z + 63)), (3, .int (nI i))])
    (kk : ∀ (E' : Nat → va_E) (H' : Heap) (locs' : List Loc) (ls' : Array Slot), IV G z E' → qh_H G z 84 E' s.heap H' locs' → lv_has ls' 4 [(0, .ref b), (1, .ref (z + 0)), (2, .ref (z + 63)), (3, .int (nI i))] → W p l e room_1 s m #[Value.ref b] below meth c H' locs' 84 1198 Q (F0 m 1357 ls' [])) : W p l e room_1 s m #[Value.ref b] below meth c H locs 84 1198 Q (F0 m 250 ls []) := by
  obtain ⟨hx, hb, hml, hown, hts, hK, hX0, hbl, rfl⟩ := C
  obtain ⟨tr, lf, n, f, g, bf, m2, kd, pa, ln, ts, ga, gb, va, rn, cn, vs, hr, la, lg, sc, mf, mg, mb, mk, mp, so, sg, ce, lq, hX, hM, h81, hR⟩ := hI
  have hbA : ¬ (s.heap.size ≤ b) := Nat.not_le.mpr hbl
  refine lv_aload_n hx hb dL_law_250 rfl (lv_at hl 1 rfl) ?_
  refine lv_aload_n hx hb dL_law_251 rfl (lv_at hl 0 rfl) ?_
  refine lv_iload_n hx hb dL_law_252 rfl (lv_at hl 3 rfl) ?_
  refine lv_iconst (v := 1) hx hb dL_law_253 (by decide) ?_
  refine lv_iadd hx hb dL_law_254 ?_
  refine qh_topi (y := nI (i + 1)) (nI_add i 1) ?_
  refine va_sld hx hb hX0 hbl hbA hH.2 (vp_in_nI (show i + 1 < L by omega) (by omega)) dL_law_255 ?_
  refine qh_topi (y := xs (i + 1)) (by rw [nI_clamp (show i + 1 < 2 ^ 31 by omega)]) ?_
  refine lv_aload_n hx hb dL_law_256 rfl (lv_at hl 0 rfl) ?_
  refine lv_iload_n hx hb dL_law_257 rfl (lv_at hl 3 rfl) ?_
  refine lv_iconst (v := 2) hx hb dL_law_258 (by decide) ?_
  refine lv_iadd hx hb dL_law_259 ?_
  refine qh_topi (y := nI (i + 2)) (nI_add i 2) ?_
  refine va_sld hx hb hX0 hbl hbA hH.2 (vp_in_nI (show i + 2 < L by omega) (by omega)) dL_law_260 ?_
  refine qh_topi (y := xs (i + 2)) (by rw [nI_clamp (show i + 2 < 2 ^ 31 by omega)]) ?_
  obtain ⟨cv1, hroot1⟩ := XE_root hX
  refine qh_runV (As := [.int (xs (i + 1)), .int (xs (i + 2))]) (rest := []) (C := RX8) ⟨hx, hb, hml, hown, hts⟩ hK hH (c_X8_at l G s.heap.size 84 E tr lf n f g bf m2 kd pa ln ts ga gb va rn cn vs hr la lg sc (by decide) hX hR.1 (xs (i + 1)) (xs (i + 2))) (cwV 2 hts gL_law_X8_at rfl rfl rfl (by decide +kernel) ⟨Nat.le_of_ble_eq_true rfl, Nat.le_of_ble_eq_true rfl⟩) (by decide) hroot1 rfl rfl hl.1 rfl (Nat.le_of_ble_eq_true rfl) dL_law_261 ⟨Nat.le_of_ble_eq_true rfl, Nat.le_of_ble_eq_true rfl⟩ (qh_kkl fun r1 E1 H locs hp1 hH => ?_)
  have hM1 := ME_cong (E1 := E) (E2 := E1) (fr_at hp1) hM
  refine lv_aload_n hx hb dL_law_264 rfl (lv_at hl 2 rfl) ?_
  refine lv_aload_n hx hb dL_law_265 rfl (lv_at hl 0 rfl) ?_
  refine lv_iload_n hx hb dL_law_266 rfl (lv_at hl 3 rfl) ?_
  refine lv_iconst (v := 1) hx hb dL_law_267 (by decide) ?_
  refine lv_iadd hx hb dL_law_268 ?_
  refine qh_topi (y := nI (i + 1)) (nI_add i 1) ?_
  refine va_sld hx hb hX0 hbl hbA hH.2 (vp_in_nI (show i + 1 < L by omega) (by omega)) dL_law_269 ?_
  refine qh_topi (y := xs (i + 1)) (by rw [nI_clamp (show i + 1 < 2 ^ 31 by omega)]) ?_
  refine lv_aload_n hx hb dL_law_270 rfl (lv_at hl 0 rfl) ?_
  refine lv_iload_n hx hb dL_law_271 rfl (lv_at hl 3 rfl) ?_
  refine lv_iconst (v := 2) hx hb dL_law_272 (by decide) ?_
  refine lv_iadd hx hb dL_law_273 ?_
  refine qh_topi (y := nI (i + 2)) (nI_add i 2) ?_
  refine va_sld hx hb hX0 hbl hbA hH.2 (vp_in_nI (show i + 2 < L by omega) (by omega)) dL_law_274 ?_
  refine qh_topi (y := xs (i + 2)) (by rw [nI_clamp (show i + 2 < 2 ^ 31 by omega)]) ?_
  obtain ⟨cv2, hroot2⟩ := ME_root hM1
  refine qh_runV (As := [.int (xs (i + 1)), .int (xs (i + 2))]) (rest := [.long r1]) (C := RX9) ⟨hx, hb, hml, hown, hts⟩ hK hH (c_X9_at l G s.heap.size 84 E1 tr lf n mf mg mb m2 mk mp ln ts ga gb va rn cn vs so sg ce (by decide) hM1 hR.2.1 (xs (i + 1)) (xs (i + 2))) (cwV 2 hts gL_law_X9_at rfl rfl rfl (by decide +kernel) ⟨Nat.le_of_ble_eq_true rfl, Nat.le_of_ble_eq_true rfl⟩) (by decide) hroot2 rfl rfl hl.1 rfl (Nat.le_of_ble_eq_true rfl) dL_law_275 ⟨Nat.le_of_ble_eq_true rfl, Nat.le_of_ble_eq_true rfl⟩ (qh_kkl fun r2 E2 H locs hp2 hH => ?_)
  obtain ⟨heq, hI2⟩ := st_at hX hM h81 hR hp1 hp2
  refine W.lcmp hx hb dL_law_278 ?_
  exact lv_if_eq (tgt := 1357) hx hb dL_law_279 (by decide) (fun _ => kk _ _ _ _ hI2 hH hl) (fun c9 => absurd ((lg_cmp_eq _ _).mpr heq) c9)

set_option maxHeartbeats 1000000 in
set_option maxRecDepth 100000 in
theorem lc_add {p : Program} {l : Launch} {e : Env} {s : State} {m : MethodId} {below : List Frame} {meth : Method} {c : Code} {b L i : Nat} {xs : Nat → Int32} {G : qh_G} {z : Nat} {E : Nat → va_E} {H : Heap} {locs : List Loc} {Q : State → Prop} {ls : Array Slot} (C : LC p s m c b L xs G z) (hL : L ≤ 3072) (hi : i + 6 ≤ L) (hI : IV G z E) (hH : qh_H G z 84 E s.heap H locs) (hl : lv_has ls 4 [(0, .ref b), (1, .ref (z + 0)), (2, .ref (z + 63)), (3, .int (nI i))])
    (kk : ∀ (E' : Nat → va_E) (H' : Heap) (locs' : List Loc) (ls' : Array Slot), IV G z E' → qh_H G z 84 E' s.heap H' locs' → lv_has ls' 4 [(0, .ref b), (1, .ref (z + 0)), (2, .ref (z + 63)), (3, .int (nI i))] → W p l e room_1 s m #[Value.ref b] below meth c H' locs' 84 1198 Q (F0 m 1357 ls' [])) : W p l e room_1 s m #[Value.ref b] below meth c H locs 84 1198 Q (F0 m 284 ls []) := by
  obtain ⟨hx, hb, hml, hown, hts, hK, hX0, hbl, rfl⟩ := C
  obtain ⟨tr, lf, n, f, g, bf, m2, kd, pa, ln, ts, ga, gb, va, rn, cn, vs, hr, la, lg, sc, mf, mg, mb, mk, mp, so, sg, ce, lq, hX, hM, h81, hR⟩ := hI
  have hbA : ¬ (s.heap.size ≤ b) := Nat.not_le.mpr hbl
  refine lv_aload_n hx hb dL_law_284 rfl (lv_at hl 1 rfl) ?_
  refine lv_aload_n hx hb dL_law_285 rfl (lv_at hl 0 rfl) ?_
  refine lv_iload_n hx hb dL_law_286 rfl (lv_at hl 3 rfl) ?_
  refine lv_iconst (v := 1) hx hb dL_law_287 (by decide) ?_
  refine lv_iadd hx hb dL_law_288 ?_
  refine qh_topi (y := nI (i + 1)) (nI_add i 1) ?_
  refine va_sld hx hb hX0 hbl hbA hH.2 (vp_in_nI (show i + 1 < L by omega) (by omega)) dL_law_289 ?_
  refine qh_topi (y := xs (i + 1)) (by rw [nI_clamp (show i + 1 < 2 ^ 31 by omega)]) ?_
  refine lv_aload_n hx hb dL_law_290 rfl (lv_at hl 0 rfl) ?_
  refine lv_iload_n hx hb dL_law_291 rfl (lv_at hl 3 rfl) ?_
  refine lv_iconst (v := 2) hx hb dL_law_292 (by decide) ?_
  refine lv_iadd hx hb dL_law_293 ?_
  refine qh_topi (y := nI (i + 2)) (nI_add i 2) ?_
  refine va_sld hx hb hX0 hbl hbA hH.2 (vp_in_nI (show i + 2 < L by omega) (by omega)) dL_law_294 ?_
  refine qh_topi (y := xs (i + 2)) (by rw [nI_clamp (show i + 2 < 2 ^ 31 by omega)]) ?_
  refine lv_aload_n hx hb dL_law_295 rfl (lv_at hl 0 rfl) ?_
  refine lv_iload_n hx hb dL_law_296 rfl (lv_at hl 3 rfl) ?_
  refine lv_iconst (v := 3) hx hb dL_law_297 (by decide) ?_
  refine lv_iadd hx hb dL_law_298 ?_
  refine qh_topi (y := nI (i + 3)) (nI_add i 3) ?_
  refine va_sld hx hb hX0 hbl hbA hH.2 (vp_in_nI (show i + 3 < L by omega) (by omega)) dL_law_299 ?_
  refine qh_topi (y := xs (i + 3)) (by rw [nI_clamp (show i + 3 < 2 ^ 31 by omega)]) ?_
  refine lv_i2l (v := (xs (i + 3)).toInt64) hx hb dL_law_300 rfl ?_
  refine lv_bipush (v := 32) hx hb dL_law_301 (by decide) ?_
  refine lv_lshl (v := (((xs (i + 3)).toInt64) <<< ((32 : Int32).toInt64 &&& 63))) hx hb dL_law_303 rfl ?_
  refine lv_aload_n hx hb dL_law_304 rfl (lv_at hl 0 rfl) ?_
  refine lv_iload_n hx hb dL_law_305 rfl (lv_at hl 3 rfl) ?_
  refine lv_iconst (v := 4) hx hb dL_law_306 (by decide) ?_
  refine lv_iadd hx hb dL_law_307 ?_
  refine qh_topi (y := nI (i + 4)) (nI_add i 4) ?_
  refine va_sld hx hb hX0 hbl hbA hH.2 (vp_in_nI (show i + 4 < L by omega) (by omega)) dL_law_308 ?_
  refine qh_topi (y := xs (i + 4)) (by rw [nI_clamp (show i + 4 < 2 ^ 31 by omega)]) ?_
  refine lv_i2l (v := (xs (i + 4)).toInt64) hx hb dL_law_309 rfl ?_
  refine lv_ldc2 hx hb hown (hts (.constantLong RL 28 (4294967295)) (by decide +kernel)) dL_law_310 ?_
  refine lv_land hx hb dL_law_313 ?_
  refine lv_lor hx hb dL_law_314 ?_
  obtain ⟨cv1, hroot1⟩ := XE_root hX
  refine qh_runV (As := [.int (xs (i + 1)), .int (xs (i + 2)), .long ((((xs (i + 3)).toInt64) <<< ((32 : Int32).toInt64 &&& 63)) ||| (((xs (i + 4)).toInt64) &&& 4294967295))]) (rest := []) (C := RX8) ⟨hx, hb, hml, hown, hts⟩ hK hH (c_X8_add l G s.heap.size 84 E tr lf n f g bf m2 kd pa ln ts ga gb va rn cn vs hr la lg sc (by decide) hX hR.1 (xs (i + 1)) (xs (i + 2)) ((((xs (i + 3)).toInt64) <<< ((32 : Int32).toInt64 &&& 63)) ||| (((xs (i + 4)).toInt64) &&& 4294967295))) (cwV 3 hts gL_law_X8_add rfl rfl rfl (by decide +kernel) ⟨Nat.le_of_ble_eq_true rfl, Nat.le_of_ble_eq_true rfl⟩) (by decide) hroot1 rfl rfl hl.1 rfl (Nat.le_of_ble_eq_true rfl) dL_law_315 ⟨Nat.le_of_ble_eq_true rfl, Nat.le_of_ble_eq_true rfl⟩ (qh_kki fun r1 E1 H locs hp1 hH => ?_)
  have hM1 := ME_cong (E1 := E) (E2 := E1) (fr_add hp1) hM
  refine lv_aload_n hx hb dL_law_318 rfl (lv_at hl 2 rfl) ?_
  refine lv_aload_n hx hb dL_law_319 rfl (lv_at hl 0 rfl) ?_
  refine lv_iload_n hx hb dL_law_320 rfl (lv_at hl 3 rfl) ?_
  refine lv_iconst (v := 1) hx hb dL_law_321 (by decide) ?_
  refine lv_iadd hx hb dL_law_322 ?_
  refine qh_topi (y := nI (i + 1)) (nI_add i 1) ?_
  refine va_sld hx hb hX0 hbl hbA hH.2 (vp_in_nI (show i + 1 < L by omega) (by omega)) dL_law_323 ?_
  refine qh_topi (y := xs (i + 1)) (by rw [nI_clamp (show i + 1 < 2 ^ 31 by omega)]) ?_
  refine lv_aload_n hx hb dL_law_324 rfl (lv_at hl 0 rfl) ?_
  refine lv_iload_n hx hb dL_law_325 rfl (lv_at hl 3 rfl) ?_
  refine lv_iconst (v := 2) hx hb dL_law_326 (by decide) ?_
  refine lv_iadd hx hb dL_law_327 ?_
  refine qh_topi (y := nI (i + 2)) (nI_add i 2) ?_
  refine va_sld hx hb hX0 hbl hbA hH.2 (vp_in_nI (show i + 2 < L by omega) (by omega)) dL_law_328 ?_
  refine qh_topi (y := xs (i + 2)) (by rw [nI_clamp (show i + 2 < 2 ^ 31 by omega)]) ?_
  refine lv_aload_n hx hb dL_law_329 rfl (lv_at hl 0 rfl) ?_
  refine lv_iload_n hx hb dL_law_330 rfl (lv_at hl 3 rfl) ?_
  refine lv_iconst (v := 3) hx hb dL_law_331 (by decide) ?_
  refine lv_iadd hx hb dL_law_332 ?_
  refine qh_topi (y := nI (i + 3)) (nI_add i 3) ?_
  refine va_sld hx hb hX0 hbl hbA hH.2 (vp_in_nI (show i + 3 < L by omega) (by omega)) dL_law_333 ?_
  refine qh_topi (y := xs (i + 3)) (by rw [nI_clamp (show i + 3 < 2 ^ 31 by omega)]) ?_
  refine lv_i2l (v := (xs (i + 3)).toInt64) hx hb dL_law_334 rfl ?_
  refine lv_bipush (v := 32) hx hb dL_law_335 (by decide) ?_
  refine lv_lshl (v := (((xs (i + 3)).toInt64) <<< ((32 : Int32).toInt64 &&& 63))) hx hb dL_law_337 rfl ?_
  refine lv_aload_n hx hb dL_law_338 rfl (lv_at hl 0 rfl) ?_
  refine lv_iload_n hx hb dL_law_339 rfl (lv_at hl 3 rfl) ?_
  refine lv_iconst (v := 4) hx hb dL_law_340 (by decide) ?_
  refine lv_iadd hx hb dL_law_341 ?_
  refine qh_topi (y := nI (i + 4)) (nI_add i 4) ?_
  refine va_sld hx hb hX0 hbl hbA hH.2 (vp_in_nI (show i + 4 < L by omega) (by omega)) dL_law_342 ?_
  refine qh_topi (y := xs (i + 4)) (by rw [nI_clamp (show i + 4 < 2 ^ 31 by omega)]) ?_
  refine lv_i2l (v := (xs (i + 4)).toInt64) hx hb dL_law_343 rfl ?_
  refine lv_ldc2 hx hb hown (hts (.constantLong RL 28 (4294967295)) (by decide +kernel)) dL_law_344 ?_
  refine lv_land hx hb dL_law_347 ?_
  refine lv_lor hx hb dL_law_348 ?_
  obtain ⟨cv2, hroot2⟩ := ME_root hM1
  refine qh_runV (As := [.int (xs (i + 1)), .int (xs (i + 2)), .long ((((xs (i + 3)).toInt64) <<< ((32 : Int32).toInt64 &&& 63)) ||| (((xs (i + 4)).toInt64) &&& 4294967295))]) (rest := [.int r1]) (C := RX9) ⟨hx, hb, hml, hown, hts⟩ hK hH (c_X9_add l G s.heap.size 84 E1 tr lf n mf mg mb m2 mk mp ln ts ga gb va rn cn vs so sg ce (by decide) hM1 hR.2.1 (xs (i + 1)) (xs (i + 2)) ((((xs (i + 3)).toInt64) <<< ((32 : Int32).toInt64 &&& 63)) ||| (((xs (i + 4)).toInt64) &&& 4294967295))) (cwV 3 hts gL_law_X9_add rfl rfl rfl (by decide +kernel) ⟨Nat.le_of_ble_eq_true rfl, Nat.le_of_ble_eq_true rfl⟩) (by decide) hroot2 rfl rfl hl.1 rfl (Nat.le_of_ble_eq_true rfl) dL_law_349 ⟨Nat.le_of_ble_eq_true rfl, Nat.le_of_ble_eq_true rfl⟩ (qh_kki fun r2 E2 H locs hp2 hH => ?_)
  obtain ⟨heq, hI2⟩ := st_add hX hM h81 hR hp1 hp2
  exact lv_icmp_eq (tgt := 1357) hx hb dL_law_352 (by decide) (fun _ => kk _ _ _ _ hI2 hH hl) (fun c9 => absurd heq c9)

set_option maxHeartbeats 1000000 in
set_option maxRecDepth 100000 in
theorem lc_cap {p : Program} {l : Launch} {e : Env} {s : State} {m : MethodId} {below : List Frame} {meth : Method} {c : Code} {b L i : Nat} {xs : Nat → Int32} {G : qh_G} {z : Nat} {E : Nat → va_E} {H : Heap} {locs : List Loc} {Q : State → Prop} {ls : Array Slot} (C : LC p s m c b L xs G z) (hL : L ≤ 3072) (hi : i + 6 ≤ L) (hI : IV G z E) (hH : qh_H G z 84 E s.heap H locs) (hl : lv_has ls 4 [(0, .ref b), (1, .ref (z + 0)), (2, .ref (z + 63)), (3, .int (nI i))])
    (kk : ∀ (E' : Nat → va_E) (H' : Heap) (locs' : List Loc) (ls' : Array Slot), IV G z E' → qh_H G z 84 E' s.heap H' locs' → lv_has ls' 4 [(0, .ref b), (1, .ref (z + 0)), (2, .ref (z + 63)), (3, .int (nI i))] → W p l e room_1 s m #[Value.ref b] below meth c H' locs' 84 1198 Q (F0 m 1357 ls' [])) : W p l e room_1 s m #[Value.ref b] below meth c H locs 84 1198 Q (F0 m 357 ls []) := by
  obtain ⟨hx, hb, hml, hown, hts, hK, hX0, hbl, rfl⟩ := C
  obtain ⟨tr, lf, n, f, g, bf, m2, kd, pa, ln, ts, ga, gb, va, rn, cn, vs, hr, la, lg, sc, mf, mg, mb, mk, mp, so, sg, ce, lq, hX, hM, h81, hR⟩ := hI
  have hbA : ¬ (s.heap.size ≤ b) := Nat.not_le.mpr hbl
  refine lv_aload_n hx hb dL_law_357 rfl (lv_at hl 1 rfl) ?_
  refine lv_aload_n hx hb dL_law_358 rfl (lv_at hl 0 rfl) ?_
  refine lv_iload_n hx hb dL_law_359 rfl (lv_at hl 3 rfl) ?_
  refine lv_iconst (v := 1) hx hb dL_law_360 (by decide) ?_
  refine lv_iadd hx hb dL_law_361 ?_
  refine qh_topi (y := nI (i + 1)) (nI_add i 1) ?_
  refine va_sld hx hb hX0 hbl hbA hH.2 (vp_in_nI (show i + 1 < L by omega) (by omega)) dL_law_362 ?_
  refine qh_topi (y := xs (i + 1)) (by rw [nI_clamp (show i + 1 < 2 ^ 31 by omega)]) ?_
  refine lv_aload_n hx hb dL_law_363 rfl (lv_at hl 0 rfl) ?_
  refine lv_iload_n hx hb dL_law_364 rfl (lv_at hl 3 rfl) ?_
  refine lv_iconst (v := 2) hx hb dL_law_365 (by decide) ?_
  refine lv_iadd hx hb dL_law_366 ?_
  refine qh_topi (y := nI (i + 2)) (nI_add i 2) ?_
  refine va_sld hx hb hX0 hbl hbA hH.2 (vp_in_nI (show i + 2 < L by omega) (by omega)) dL_law_367 ?_
  refine qh_topi (y := xs (i + 2)) (by rw [nI_clamp (show i + 2 < 2 ^ 31 by omega)]) ?_
  refine lv_aload_n hx hb dL_law_368 rfl (lv_at hl 0 rfl) ?_
  refine lv_iload_n hx hb dL_law_369 rfl (lv_at hl 3 rfl) ?_
  refine lv_iconst (v := 3) hx hb dL_law_370 (by decide) ?_
  refine lv_iadd hx hb dL_law_371 ?_
  refine qh_topi (y := nI (i + 3)) (nI_add i 3) ?_
  refine va_sld hx hb hX0 hbl hbA hH.2 (vp_in_nI (show i + 3 < L by omega) (by omega)) dL_law_372 ?_
  refine qh_topi (y := xs (i + 3)) (by rw [nI_clamp (show i + 3 < 2 ^ 31 by omega)]) ?_
  refine lv_i2l (v := (xs (i + 3)).toInt64) hx hb dL_law_373 rfl ?_
  refine lv_bipush (v := 32) hx hb dL_law_374 (by decide) ?_
  refine lv_lshl (v := (((xs (i + 3)).toInt64) <<< ((32 : Int32).toInt64 &&& 63))) hx hb dL_law_376 rfl ?_
  refine lv_aload_n hx hb dL_law_377 rfl (lv_at hl 0 rfl) ?_
  refine lv_iload_n hx hb dL_law_378 rfl (lv_at hl 3 rfl) ?_
  refine lv_iconst (v := 4) hx hb dL_law_379 (by decide) ?_
  refine lv_iadd hx hb dL_law_380 ?_
  refine qh_topi (y := nI (i + 4)) (nI_add i 4) ?_
  refine va_sld hx hb hX0 hbl hbA hH.2 (vp_in_nI (show i + 4 < L by omega) (by omega)) dL_law_381 ?_
  refine qh_topi (y := xs (i + 4)) (by rw [nI_clamp (show i + 4 < 2 ^ 31 by omega)]) ?_
  refine lv_i2l (v := (xs (i + 4)).toInt64) hx hb dL_law_382 rfl ?_
  refine lv_ldc2 hx hb hown (hts (.constantLong RL 28 (4294967295)) (by decide +kernel)) dL_law_383 ?_
  refine lv_land hx hb dL_law_386 ?_
  refine lv_lor hx hb dL_law_387 ?_
  obtain ⟨cv1, hroot1⟩ := XE_root hX
  refine qh_runV (As := [.int (xs (i + 1)), .int (xs (i + 2)), .long ((((xs (i + 3)).toInt64) <<< ((32 : Int32).toInt64 &&& 63)) ||| (((xs (i + 4)).toInt64) &&& 4294967295))]) (rest := []) (C := RX8) ⟨hx, hb, hml, hown, hts⟩ hK hH (c_X8_cap l G s.heap.size 84 E tr lf n f g bf m2 kd pa ln ts ga gb va rn cn vs hr la lg sc (by decide) hX hR.1 (xs (i + 1)) (xs (i + 2)) ((((xs (i + 3)).toInt64) <<< ((32 : Int32).toInt64 &&& 63)) ||| (((xs (i + 4)).toInt64) &&& 4294967295))) (cwV 3 hts gL_law_X8_cap rfl rfl rfl (by decide +kernel) ⟨Nat.le_of_ble_eq_true rfl, Nat.le_of_ble_eq_true rfl⟩) (by decide) hroot1 rfl rfl hl.1 rfl (Nat.le_of_ble_eq_true rfl) dL_law_388 ⟨Nat.le_of_ble_eq_true rfl, Nat.le_of_ble_eq_true rfl⟩ (qh_kki fun r1 E1 H locs hp1 hH => ?_)
  have hM1 := ME_cong (E1 := E) (E2 := E1) (fr_cap hp1) hM
  refine lv_aload_n hx hb dL_law_391 rfl (lv_at hl 2 rfl) ?_
  refine lv_aload_n hx hb dL_law_392 rfl (lv_at hl 0 rfl) ?_
  refine lv_iload_n hx hb dL_law_393 rfl (lv_at hl 3 rfl) ?_
  refine lv_iconst (v := 1) hx hb dL_law_394 (by decide) ?_
  refine lv_iadd hx hb dL_law_395 ?_
  refine qh_topi (y := nI (i + 1)) (nI_add i 1) ?_
  refine va_sld hx hb hX0 hbl hbA hH.2 (vp_in_nI (show i + 1 < L by omega) (by omega)) dL_law_396 ?_
  refine qh_topi (y := xs (i + 1)) (by rw [nI_clamp (show i + 1 < 2 ^ 31 by omega)]) ?_
  refine lv_aload_n hx hb dL_law_397 rfl (lv_at hl 0 rfl) ?_
  refine lv_iload_n hx hb dL_law_398 rfl (lv_at hl 3 rfl) ?_
  refine lv_iconst (v := 2) hx hb dL_law_399 (by decide) ?_
  refine lv_iadd hx hb dL_law_400 ?_
  refine qh_topi (y := nI (i + 2)) (nI_add i 2) ?_
  refine va_sld hx hb hX0 hbl hbA hH.2 (vp_in_nI (show i + 2 < L by omega) (by omega)) dL_law_401 ?_
  refine qh_topi (y := xs (i + 2)) (by rw [nI_clamp (show i + 2 < 2 ^ 31 by omega)]) ?_
  refine lv_aload_n hx hb dL_law_402 rfl (lv_at hl 0 rfl) ?_
  refine lv_iload_n hx hb dL_law_403 rfl (lv_at hl 3 rfl) ?_
  refine lv_iconst (v := 3) hx hb dL_law_404 (by decide) ?_
  refine lv_iadd hx hb dL_law_405 ?_
  refine qh_topi (y := nI (i + 3)) (nI_add i 3) ?_
  refine va_sld hx hb hX0 hbl hbA hH.2 (vp_in_nI (show i + 3 < L by omega) (by omega)) dL_law_406 ?_
  refine qh_topi (y := xs (i + 3)) (by rw [nI_clamp (show i + 3 < 2 ^ 31 by omega)]) ?_
  refine lv_i2l (v := (xs (i + 3)).toInt64) hx hb dL_law_407 rfl ?_
  refine lv_bipush (v := 32) hx hb dL_law_408 (by decide) ?_
  refine lv_lshl (v := (((xs (i + 3)).toInt64) <<< ((32 : Int32).toInt64 &&& 63))) hx hb dL_law_410 rfl ?_
  refine lv_aload_n hx hb dL_law_411 rfl (lv_at hl 0 rfl) ?_
  refine lv_iload_n hx hb dL_law_412 rfl (lv_at hl 3 rfl) ?_
  refine lv_iconst (v := 4) hx hb dL_law_413 (by decide) ?_
  refine lv_iadd hx hb dL_law_414 ?_
  refine qh_topi (y := nI (i + 4)) (nI_add i 4) ?_
  refine va_sld hx hb hX0 hbl hbA hH.2 (vp_in_nI (show i + 4 < L by omega) (by omega)) dL_law_415 ?_
  refine qh_topi (y := xs (i + 4)) (by rw [nI_clamp (show i + 4 < 2 ^ 31 by omega)]) ?_
  refine lv_i2l (v := (xs (i + 4)).toInt64) hx hb dL_law_416 rfl ?_
  refine lv_ldc2 hx hb hown (hts (.constantLong RL 28 (4294967295)) (by decide +kernel)) dL_law_417 ?_
  refine lv_land hx hb dL_law_420 ?_
  refine lv_lor hx hb dL_law_421 ?_
  obtain ⟨cv2, hroot2⟩ := ME_root hM1
  refine qh_runV (As := [.int (xs (i + 1)), .int (xs (i + 2)), .long ((((xs (i + 3)).toInt64) <<< ((32 : Int32).toInt64 &&& 63)) ||| (((xs (i + 4)).toInt64) &&& 4294967295))]) (rest := [.int r1]) (C := RX9) ⟨hx, hb, hml, hown, hts⟩ hK hH (c_X9_cap l G s.heap.size 84 E1 tr lf n mf mg mb m2 mk mp ln ts ga gb va rn cn vs so sg ce (by decide) hM1 hR.2.1 (xs (i + 1)) (xs (i + 2)) ((((xs (i + 3)).toInt64) <<< ((32 : Int32).toInt64 &&& 63)) ||| (((xs (i + 4)).toInt64) &&& 4294967295))) (cwV 3 hts gL_law_X9_cap rfl rfl rfl (by decide +kernel) ⟨Nat.le_of_ble_eq_true rfl, Nat.le_of_ble_eq_true rfl⟩) (by decide) hroot2 rfl rfl hl.1 rfl (Nat.le_of_ble_eq_true rfl) dL_law_422 ⟨Nat.le_of_ble_eq_true rfl, Nat.le_of_ble_eq_true rfl⟩ (qh_kki fun r2 E2 H locs hp2 hH => ?_)
  obtain ⟨heq, hI2⟩ := st_cap hX hM h81 hR hp1 hp2
  exact lv_icmp_eq (tgt := 1357) hx hb dL_law_425 (by decide) (fun _ => kk _ _ _ _ hI2 hH hl) (fun c9 => absurd heq c9)

set_option maxHeartbeats 1000000 in
set_option maxRecDepth 100000 in
theorem lc_floor {p : Program} {l : Launch} {e : Env} {s : State} {m : MethodId} {below : List Frame} {meth : Method} {c : Code} {b L i : Nat} {xs : Nat → Int32} {G : qh_G} {z : Nat} {E : Nat → va_E} {H : Heap} {locs : List Loc} {Q : State → Prop} {ls : Array Slot} (C : LC p s m c b L xs G z) (hL : L ≤ 3072) (hi : i + 6 ≤ L) (hI : IV G z E) (hH : qh_H G z 84 E s.heap H locs) (hl : lv_has ls 4 [(0, .ref b), (1, .ref (z + 0)), (2, .ref (z + 63)), (3, .int (nI i))])
    (kk : ∀ (E' : Nat → va_E) (H' : Heap) (locs' : List Loc) (ls' : Array Slot), IV G z E' → qh_H G z 84 E' s.heap H' locs' → lv_has ls' 4 [(0, .ref b), (1, .ref (z + 0)), (2, .ref (z + 63)), (3, .int (nI i))] → W p l e room_1 s m #[Value.ref b] below meth c H' locs' 84 1198 Q (F0 m 1357 ls' [])) : W p l e room_1 s m #[Value.ref b] below meth c H locs 84 1198 Q (F0 m 430 ls []) := by
  obtain ⟨hx, hb, hml, hown, hts, hK, hX0, hbl, rfl⟩ := C
  obtain ⟨tr, lf, n, f, g, bf, m2, kd, pa, ln, ts, ga, gb, va, rn, cn, vs, hr, la, lg, sc, mf, mg, mb, mk, mp, so, sg, ce, lq, hX, hM, h81, hR⟩ := hI
  have hbA : ¬ (s.heap.size ≤ b) := Nat.not_le.mpr hbl
  refine lv_aload_n hx hb dL_law_430 rfl (lv_at hl 1 rfl) ?_
  refine lv_aload_n hx hb dL_law_431 rfl (lv_at hl 0 rfl) ?_
  refine lv_iload_n hx hb dL_law_432 rfl (lv_at hl 3 rfl) ?_
  refine lv_iconst (v := 1) hx hb dL_law_433 (by decide) ?_
  refine lv_iadd hx hb dL_law_434 ?_
  refine qh_topi (y := nI (i + 1)) (nI_add i 1) ?_
  refine va_sld hx hb hX0 hbl hbA hH.2 (vp_in_nI (show i + 1 < L by omega) (by omega)) dL_law_435 ?_
  refine qh_topi (y := xs (i + 1)) (by rw [nI_clamp (show i + 1 < 2 ^ 31 by omega)]) ?_
  refine lv_aload_n hx hb dL_law_436 rfl (lv_at hl 0 rfl) ?_
  refine lv_iload_n hx hb dL_law_437 rfl (lv_at hl 3 rfl) ?_
  refine lv_iconst (v := 2) hx hb dL_law_438 (by decide) ?_
  refine lv_iadd hx hb dL_law_439 ?_
  refine qh_topi (y := nI (i + 2)) (nI_add i 2) ?_
  refine va_sld hx hb hX0 hbl hbA hH.2 (vp_in_nI (show i + 2 < L by omega) (by omega)) dL_law_440 ?_
  refine qh_topi (y := xs (i + 2)) (by rw [nI_clamp (show i + 2 < 2 ^ 31 by omega)]) ?_
  refine lv_aload_n hx hb dL_law_441 rfl (lv_at hl 0 rfl) ?_
  refine lv_iload_n hx hb dL_law_442 rfl (lv_at hl 3 rfl) ?_
  refine lv_iconst (v := 3) hx hb dL_law_443 (by decide) ?_
  refine lv_iadd hx hb dL_law_444 ?_
  refine qh_topi (y := nI (i + 3)) (nI_add i 3) ?_
  refine va_sld hx hb hX0 hbl hbA hH.2 (vp_in_nI (show i + 3 < L by omega) (by omega)) dL_law_445 ?_
  refine qh_topi (y := xs (i + 3)) (by rw [nI_clamp (show i + 3 < 2 ^ 31 by omega)]) ?_
  refine lv_i2l (v := (xs (i + 3)).toInt64) hx hb dL_law_446 rfl ?_
  refine lv_bipush (v := 32) hx hb dL_law_447 (by decide) ?_
  refine lv_lshl (v := (((xs (i + 3)).toInt64) <<< ((32 : Int32).toInt64 &&& 63))) hx hb dL_law_449 rfl ?_
  refine lv_aload_n hx hb dL_law_450 rfl (lv_at hl 0 rfl) ?_
  refine lv_iload_n hx hb dL_law_451 rfl (lv_at hl 3 rfl) ?_
  refine lv_iconst (v := 4) hx hb dL_law_452 (by decide) ?_
  refine lv_iadd hx hb dL_law_453 ?_
  refine qh_topi (y := nI (i + 4)) (nI_add i 4) ?_
  refine va_sld hx hb hX0 hbl hbA hH.2 (vp_in_nI (show i + 4 < L by omega) (by omega)) dL_law_454 ?_
  refine qh_topi (y := xs (i + 4)) (by rw [nI_clamp (show i + 4 < 2 ^ 31 by omega)]) ?_
  refine lv_i2l (v := (xs (i + 4)).toInt64) hx hb dL_law_455 rfl ?_
  refine lv_ldc2 hx hb hown (hts (.constantLong RL 28 (4294967295)) (by decide +kernel)) dL_law_456 ?_
  refine lv_land hx hb dL_law_459 ?_
  refine lv_lor hx hb dL_law_460 ?_
  obtain ⟨cv1, hroot1⟩ := XE_root hX
  refine qh_runV (As := [.int (xs (i + 1)), .int (xs (i + 2)), .long ((((xs (i + 3)).toInt64) <<< ((32 : Int32).toInt64 &&& 63)) ||| (((xs (i + 4)).toInt64) &&& 4294967295))]) (rest := []) (C := RX8) ⟨hx, hb, hml, hown, hts⟩ hK hH (c_X8_floor l G s.heap.size 84 E tr lf n f g bf m2 kd pa ln ts ga gb va rn cn vs hr la lg sc (by decide) hX hR.1 (xs (i + 1)) (xs (i + 2)) ((((xs (i + 3)).toInt64) <<< ((32 : Int32).toInt64 &&& 63)) ||| (((xs (i + 4)).toInt64) &&& 4294967295))) (cwV 3 hts gL_law_X8_floor rfl rfl rfl (by decide +kernel) ⟨Nat.le_of_ble_eq_true rfl, Nat.le_of_ble_eq_true rfl⟩) (by decide) hroot1 rfl rfl hl.1 rfl (Nat.le_of_ble_eq_true rfl) dL_law_461 ⟨Nat.le_of_ble_eq_true rfl, Nat.le_of_ble_eq_true rfl⟩ (qh_kki fun r1 E1 H locs hp1 hH => ?_)
  have hM1 := ME_cong (E1 := E) (E2 := E1) (fr_floor hp1) hM
  refine lv_aload_n hx hb dL_law_464 rfl (lv_at hl 2 rfl) ?_
  refine lv_aload_n hx hb dL_law_465 rfl (lv_at hl 0 rfl) ?_
  refine lv_iload_n hx hb dL_law_466 rfl (lv_at hl 3 rfl) ?_
  refine lv_iconst (v := 1) hx hb dL_law_467 (by decide) ?_
  refine lv_iadd hx hb dL_law_468 ?_
  refine qh_topi (y := nI (i + 1)) (nI_add i 1) ?_
  refine va_sld hx hb hX0 hbl hbA hH.2 (vp_in_nI (show i + 1 < L by omega) (by omega)) dL_law_469 ?_
  refine qh_topi (y := xs (i + 1)) (by rw [nI_clamp (show i + 1 < 2 ^ 31 by omega)]) ?_
  refine lv_aload_n hx hb dL_law_470 rfl (lv_at hl 0 rfl) ?_
  refine lv_iload_n hx hb dL_law_471 rfl (lv_at hl 3 rfl) ?_
  refine lv_iconst (v := 2) hx hb dL_law_472 (by decide) ?_
  refine lv_iadd hx hb dL_law_473 ?_
  refine qh_topi (y := nI (i + 2)) (nI_add i 2) ?_
  refine va_sld hx hb hX0 hbl hbA hH.2 (vp_in_nI (show i + 2 < L by omega) (by omega)) dL_law_474 ?_
  refine qh_topi (y := xs (i + 2)) (by rw [nI_clamp (show i + 2 < 2 ^ 31 by omega)]) ?_
  refine lv_aload_n hx hb dL_law_475 rfl (lv_at hl 0 rfl) ?_
  refine lv_iload_n hx hb dL_law_476 rfl (lv_at hl 3 rfl) ?_
  refine lv_iconst (v := 3) hx hb dL_law_477 (by decide) ?_
  refine lv_iadd hx hb dL_law_478 ?_
  refine qh_topi (y := nI (i + 3)) (nI_add i 3) ?_
  refine va_sld hx hb hX0 hbl hbA hH.2 (vp_in_nI (show i + 3 < L by omega) (by omega)) dL_law_479 ?_
  refine qh_topi (y := xs (i + 3)) (by rw [nI_clamp (show i + 3 < 2 ^ 31 by omega)]) ?_
  refine lv_i2l (v := (xs (i + 3)).toInt64) hx hb dL_law_480 rfl ?_
  refine lv_bipush (v := 32) hx hb dL_law_481 (by decide) ?_
  refine lv_lshl (v := (((xs (i + 3)).toInt64) <<< ((32 : Int32).toInt64 &&& 63))) hx hb dL_law_483 rfl ?_
  refine lv_aload_n hx hb dL_law_484 rfl (lv_at hl 0 rfl) ?_
  refine lv_iload_n hx hb dL_law_485 rfl (lv_at hl 3 rfl) ?_
  refine lv_iconst (v := 4) hx hb dL_law_486 (by decide) ?_
  refine lv_iadd hx hb dL_law_487 ?_
  refine qh_topi (y := nI (i + 4)) (nI_add i 4) ?_
  refine va_sld hx hb hX0 hbl hbA hH.2 (vp_in_nI (show i + 4 < L by omega) (by omega)) dL_law_488 ?_
  refine qh_topi (y := xs (i + 4)) (by rw [nI_clamp (show i + 4 < 2 ^ 31 by omega)]) ?_
  refine lv_i2l (v := (xs (i + 4)).toInt64) hx hb dL_law_489 rfl ?_
  refine lv_ldc2 hx hb hown (hts (.constantLong RL 28 (4294967295)) (by decide +kernel)) dL_law_490 ?_
  refine lv_land hx hb dL_law_493 ?_
  refine lv_lor hx hb dL_law_494 ?_
  obtain ⟨cv2, hroot2⟩ := ME_root hM1
  refine qh_runV (As := [.int (xs (i + 1)), .int (xs (i + 2)), .long ((((xs (i + 3)).toInt64) <<< ((32 : Int32).toInt64 &&& 63)) ||| (((xs (i + 4)).toInt64) &&& 4294967295))]) (rest := [.int r1]) (C := RX9) ⟨hx, hb, hml, hown, hts⟩ hK hH (c_X9_floor l G s.heap.size 84 E1 tr lf n mf mg mb m2 mk mp ln ts ga gb va rn cn vs so sg ce (by decide) hM1 hR.2.1 (xs (i + 1)) (xs (i + 2)) ((((xs (i + 3)).toInt64) <<< ((32 : Int32).toInt64 &&& 63)) ||| (((xs (i + 4)).toInt64) &&& 4294967295))) (cwV 3 hts gL_law_X9_floor rfl rfl rfl (by decide +kernel) ⟨Nat.le_of_ble_eq_true rfl, Nat.le_of_ble_eq_true rfl⟩) (by decide) hroot2 rfl rfl hl.1 rfl (Nat.le_of_ble_eq_true rfl) dL_law_495 ⟨Nat.le_of_ble_eq_true rfl, Nat.le_of_ble_eq_true rfl⟩ (qh_kki fun r2 E2 H locs hp2 hH => ?_)
  obtain ⟨heq, hI2⟩ := st_floor hX hM h81 hR hp1 hp2
  exact lv_icmp_eq (tgt := 1357) hx hb dL_law_498 (by decide) (fun _ => kk _ _ _ _ hI2 hH hl) (fun c9 => absurd heq c9)

set_option maxHeartbeats 1000000 in
set_option maxRecDepth 100000 in
theorem lc_help {p : Program} {l : Launch} {e : Env} {s : State} {m : MethodId} {below : List Frame} {meth : Method} {c : Code} {b L i : Nat} {xs : Nat → Int32} {G : qh_G} {z : Nat} {E : Nat → va_E} {H : Heap} {locs : List Loc} {Q : State → Prop} {ls : Array Slot} (C : LC p s m c b L xs G z) (hL : L ≤ 3072) (hi : i + 6 ≤ L) (hI : IV G z E) (hH : qh_H G z 84 E s.heap H locs) (hl : lv_has ls 4 [(0, .ref b), (1, .ref (z + 0)), (2, .ref (z + 63)), (3, .int (nI i))])
    (kk : ∀ (E' : Nat → va_E) (H' : Heap) (locs' : List Loc) (ls' : Array Slot), IV G z E' → qh_H G z 84 E' s.heap H' locs' → lv_has ls' 4 [(0, .ref b), (1, .ref (z + 0)), (2, .ref (z + 63)), (3, .int (nI i))] → W p l e room_1 s m #[Value.ref b] below meth c H' locs' 84 1198 Q (F0 m 1357 ls' [])) : W p l e room_1 s m #[Value.ref b] below meth c H locs 84 1198 Q (F0 m 503 ls []) := by
  obtain ⟨hx, hb, hml, hown, hts, hK, hX0, hbl, rfl⟩ := C
  obtain ⟨tr, lf, n, f, g, bf, m2, kd, pa, ln, ts, ga, gb, va, rn, cn, vs, hr, la, lg, sc, mf, mg, mb, mk, mp, so, sg, ce, lq, hX, hM, h81, hR⟩ := hI
  have hbA : ¬ (s.heap.size ≤ b) := Nat.not_le.mpr hbl
  refine lv_aload_n hx hb dL_law_503 rfl (lv_at hl 1 rfl) ?_
  refine lv_aload_n hx hb dL_law_504 rfl (lv_at hl 0 rfl) ?_
  refine lv_iload_n hx hb dL_law_505 rfl (lv_at hl 3 rfl) ?_
  refine lv_iconst (v := 1) hx hb dL_law_506 (by decide) ?_
  refine lv_iadd hx hb dL_law_507 ?_
  refine qh_topi (y := nI (i + 1)) (nI_add i 1) ?_
  refine va_sld hx hb hX0 hbl hbA hH.2 (vp_in_nI (show i + 1 < L by omega) (by omega)) dL_law_508 ?_
  refine qh_topi (y := xs (i + 1)) (by rw [nI_clamp (show i + 1 < 2 ^ 31 by omega)]) ?_
  refine lv_aload_n hx hb dL_law_509 rfl (lv_at hl 0 rfl) ?_
  refine lv_iload_n hx hb dL_law_510 rfl (lv_at hl 3 rfl) ?_
  refine lv_iconst (v := 2) hx hb dL_law_511 (by decide) ?_
  refine lv_iadd hx hb dL_law_512 ?_
  refine qh_topi (y := nI (i + 2)) (nI_add i 2) ?_
  refine va_sld hx hb hX0 hbl hbA hH.2 (vp_in_nI (show i + 2 < L by omega) (by omega)) dL_law_513 ?_
  refine qh_topi (y := xs (i + 2)) (by rw [nI_clamp (show i + 2 < 2 ^ 31 by omega)]) ?_
  refine lv_aload_n hx hb dL_law_514 rfl (lv_at hl 0 rfl) ?_
  refine lv_iload_n hx hb dL_law_515 rfl (lv_at hl 3 rfl) ?_
  refine lv_iconst (v := 3) hx hb dL_law_516 (by decide) ?_
  refine lv_iadd hx hb dL_law_517 ?_
  refine qh_topi (y := nI (i + 3)) (nI_add i 3) ?_
  refine va_sld hx hb hX0 hbl hbA hH.2 (vp_in_nI (show i + 3 < L by omega) (by omega)) dL_law_518 ?_
  refine qh_topi (y := xs (i + 3)) (by rw [nI_clamp (show i + 3 < 2 ^ 31 by omega)]) ?_
  refine lv_aload_n hx hb dL_law_519 rfl (lv_at hl 0 rfl) ?_
  refine lv_iload_n hx hb dL_law_520 rfl (lv_at hl 3 rfl) ?_
  refine lv_iconst (v := 4) hx hb dL_law_521 (by decide) ?_
  refine lv_iadd hx hb dL_law_522 ?_
  refine qh_topi (y := nI (i + 4)) (nI_add i 4) ?_
  refine va_sld hx hb hX0 hbl hbA hH.2 (vp_in_nI (show i + 4 < L by omega) (by omega)) dL_law_523 ?_
  refine qh_topi (y := xs (i + 4)) (by rw [nI_clamp (show i + 4 < 2 ^ 31 by omega)]) ?_
  obtain ⟨cv1, hroot1⟩ := XE_root hX
  refine qh_runV (As := [.int (xs (i + 1)), .int (xs (i + 2)), .int (xs (i + 3)), .int (xs (i + 4))]) (rest := []) (C := RX8) ⟨hx, hb, hml, hown, hts⟩ hK hH (c_X8_help l G s.heap.size 84 E tr lf n f g bf m2 kd pa ln ts ga gb va rn cn vs hr la lg sc (by decide) hX hR.1 (xs (i + 1)) (xs (i + 2)) (xs (i + 3)) (xs (i + 4))) (cwV 4 hts gL_law_X8_help rfl rfl rfl (by decide +kernel) ⟨Nat.le_of_ble_eq_true rfl, Nat.le_of_ble_eq_true rfl⟩) (by decide) hroot1 rfl rfl hl.1 rfl (Nat.le_of_ble_eq_true rfl) dL_law_524 ⟨Nat.le_of_ble_eq_true rfl, Nat.le_of_ble_eq_true rfl⟩ (qh_kki fun r1 E1 H locs hp1 hH => ?_)
  have hM1 := ME_cong (E1 := E) (E2 := E1) (fr_help hp1) hM
  refine lv_aload_n hx hb dL_law_527 rfl (lv_at hl 2 rfl) ?_
  refine lv_aload_n hx hb dL_law_528 rfl (lv_at hl 0 rfl) ?_
  refine lv_iload_n hx hb dL_law_529 rfl (lv_at hl 3 rfl) ?_
  refine lv_iconst (v := 1) hx hb dL_law_530 (by decide) ?_
  refine lv_iadd hx hb dL_law_531 ?_
  refine qh_topi (y := nI (i + 1)) (nI_add i 1) ?_
  refine va_sld hx hb hX0 hbl hbA hH.2 (vp_in_nI (show i + 1 < L by omega) (by omega)) dL_law_532 ?_
  refine qh_topi (y := xs (i + 1)) (by rw [nI_clamp (show i + 1 < 2 ^ 31 by omega)]) ?_
  refine lv_aload_n hx hb dL_law_533 rfl (lv_at hl 0 rfl) ?_
  refine lv_iload_n hx hb dL_law_534 rfl (lv_at hl 3 rfl) ?_
  refine lv_iconst (v := 2) hx hb dL_law_535 (by decide) ?_
  refine lv_iadd hx hb dL_law_536 ?_
  refine qh_topi (y := nI (i + 2)) (nI_add i 2) ?_
  refine va_sld hx hb hX0 hbl hbA hH.2 (vp_in_nI (show i + 2 < L by omega) (by omega)) dL_law_537 ?_
  refine qh_topi (y := xs (i + 2)) (by rw [nI_clamp (show i + 2 < 2 ^ 31 by omega)]) ?_
  refine lv_aload_n hx hb dL_law_538 rfl (lv_at hl 0 rfl) ?_
  refine lv_iload_n hx hb dL_law_539 rfl (lv_at hl 3 rfl) ?_
  refine lv_iconst (v := 3) hx hb dL_law_540 (by decide) ?_
  refine lv_iadd hx hb dL_law_541 ?_
  refine qh_topi (y := nI (i + 3)) (nI_add i 3) ?_
  refine va_sld hx hb hX0 hbl hbA hH.2 (vp_in_nI (show i + 3 < L by omega) (by omega)) dL_law_542 ?_
  refine qh_topi (y := xs (i + 3)) (by rw [nI_clamp (show i + 3 < 2 ^ 31 by omega)]) ?_
  refine lv_aload_n hx hb dL_law_543 rfl (lv_at hl 0 rfl) ?_
  refine lv_iload_n hx hb dL_law_544 rfl (lv_at hl 3 rfl) ?_
  refine lv_iconst (v := 4) hx hb dL_law_545 (by decide) ?_
  refine lv_iadd hx hb dL_law_546 ?_
  refine qh_topi (y := nI (i + 4)) (nI_add i 4) ?_
  refine va_sld hx hb hX0 hbl hbA hH.2 (vp_in_nI (show i + 4 < L by omega) (by omega)) dL_law_547 ?_
  refine qh_topi (y := xs (i + 4)) (by rw [nI_clamp (show i + 4 < 2 ^ 31 by omega)]) ?_
  obtain ⟨cv2, hroot2⟩ := ME_root hM1
  refine qh_runV (As := [.int (xs (i + 1)), .int (xs (i + 2)), .int (xs (i + 3)), .int (xs (i + 4))]) (rest := [.int r1]) (C := RX9) ⟨hx, hb, hml, hown, hts⟩ hK hH (c_X9_help l G s.heap.size 84 E1 tr lf n mf mg mb m2 mk mp ln ts ga gb va rn cn vs so sg ce (by decide) hM1 hR.2.1 (xs (i + 1)) (xs (i + 2)) (xs (i + 3)) (xs (i + 4))) (cwV 4 hts gL_law_X9_help rfl rfl rfl (by decide +kernel) ⟨Nat.le_of_ble_eq_true rfl, Nat.le_of_ble_eq_true rfl⟩) (by decide) hroot2 rfl rfl hl.1 rfl (Nat.le_of_ble_eq_true rfl) dL_law_548 ⟨Nat.le_of_ble_eq_true rfl, Nat.le_of_ble_eq_true rfl⟩ (qh_kki fun r2 E2 H locs hp2 hH => ?_)
  obtain ⟨heq, hI2⟩ := st_help hX hM h81 hR hp1 hp2
  exact lv_icmp_eq (tgt := 1357) hx hb dL_law_551 (by decide) (fun _ => kk _ _ _ _ hI2 hH hl) (fun c9 => absurd heq c9)

set_option maxHeartbeats 1000000 in
set_option maxRecDepth 100000 in
theorem lc_fresh {p : Program} {l : Launch} {e : Env} {s : State} {m : MethodId} {below : List Frame} {meth : Method} {c : Code} {b L i : Nat} {xs : Nat → Int32} {G : qh_G} {z : Nat} {E : Nat → va_E} {H : Heap} {locs : List Loc} {Q : State → Prop} {ls : Array Slot} (C : LC p s m c b L xs G z) (hL : L ≤ 3072) (hi : i + 6 ≤ L) (hI : IV G z E) (hH : qh_H G z 84 E s.heap H locs) (hl : lv_has ls 4 [(0, .ref b), (1, .ref (z + 0)), (2, .ref (z + 63)), (3, .int (nI i))])
    (kk : ∀ (E' : Nat → va_E) (H' : Heap) (locs' : List Loc) (ls' : Array Slot), IV G z E' → qh_H G z 84 E' s.heap H' locs' → lv_has ls' 4 [(0, .ref b), (1, .ref (z + 0)), (2, .ref (z + 63)), (3, .int (nI i))] → W p l e room_1 s m #[Value.ref b] below meth c H' locs' 84 1198 Q (F0 m 1357 ls' [])) : W p l e room_1 s m #[Value.ref b] below meth c H locs 84 1198 Q (F0 m 556 ls []) := by
  obtain ⟨hx, hb, hml, hown, hts, hK, hX0, hbl, rfl⟩ := C
  obtain ⟨tr, lf, n, f, g, bf, m2, kd, pa, ln, ts, ga, gb, va, rn, cn, vs, hr, la, lg, sc, mf, mg, mb, mk, mp, so, sg, ce, lq, hX, hM, h81, hR⟩ := hI
  have hbA : ¬ (s.heap.size ≤ b) := Nat.not_le.mpr hbl
  refine lv_aload_n hx hb dL_law_556 rfl (lv_at hl 1 rfl) ?_
  obtain ⟨cv1, hroot1⟩ := XE_root hX
  refine qh_runV (As := []) (rest := []) (C := RX8) ⟨hx, hb, hml, hown, hts⟩ hK hH (c_X8_fresh l G s.heap.size 84 E tr lf n f g bf m2 kd pa ln ts ga gb va rn cn vs hr la lg sc (by decide) hX hR.1 ) (cwV 0 hts gL_law_X8_fresh rfl rfl rfl (by decide +kernel) ⟨Nat.le_of_ble_eq_true rfl, Nat.le_of_ble_eq_true rfl⟩) (by decide) hroot1 rfl rfl hl.1 rfl (Nat.le_of_ble_eq_true rfl) dL_law_557 ⟨Nat.le_of_ble_eq_true rfl, Nat.le_of_ble_eq_true rfl⟩ (qh_kki fun r1 E1 H locs hp1 hH => ?_)
  have hM1 := ME_cong (E1 := E) (E2 := E1) (fr_fresh hp1) hM
  refine lv_aload_n hx hb dL_law_560 rfl (lv_at hl 2 rfl) ?_
  obtain ⟨cv2, hroot2⟩ := ME_root hM1
  refine qh_runV (As := []) (rest := [.int r1]) (C := RX9) ⟨hx, hb, hml, hown, hts⟩ hK hH (c_X9_fresh l G s.heap.size 84 E1 tr lf n mf mg mb m2 mk mp ln ts ga gb va rn cn vs so sg ce (by decide) hM1 hR.2.1 ) (cwV 0 hts gL_law_X9_fresh rfl rfl rfl (by decide +kernel) ⟨Nat.le_of_ble_eq_true rfl, Nat.le_of_ble_eq_true rfl⟩) (by decide) hroot2 rfl rfl hl.1 rfl (Nat.le_of_ble_eq_true rfl) dL_law_561 ⟨Nat.le_of_ble_eq_true rfl, Nat.le_of_ble_eq_true rfl⟩ (qh_kki fun r2 E2 H locs hp2 hH => ?_)
  obtain ⟨heq, hI2⟩ := st_fresh hX hM h81 hR hp1 hp2
  exact lv_icmp_eq (tgt := 1357) hx hb dL_law_564 (by decide) (fun _ => kk _ _ _ _ hI2 hH hl) (fun c9 => absurd heq c9)

set_option maxHeartbeats 1000000 in
set_option maxRecDepth 100000 in
theorem lc_day {p : Program} {l : Launch} {e : Env} {s : State} {m : MethodId} {below : List Frame} {meth : Method} {c : Code} {b L i : Nat} {xs : Nat → Int32} {G : qh_G} {z : Nat} {E : Nat → va_E} {H : Heap} {locs : List Loc} {Q : State → Prop} {ls : Array Slot} (C : LC p s m c b L xs G z) (hL : L ≤ 3072) (hi : i + 6 ≤ L) (hI : IV G z E) (hH : qh_H G z 84 E s.heap H locs) (hl : lv_has ls 4 [(0, .ref b), (1, .ref (z + 0)), (2, .ref (z + 63)), (3, .int (nI i))])
    (kk : ∀ (E' : Nat → va_E) (H' : Heap) (locs' : List Loc) (ls' : Array Slot), IV G z E' → qh_H G z 84 E' s.heap H' locs' → lv_has ls' 4 [(0, .ref b), (1, .ref (z + 0)), (2, .ref (z + 63)), (3, .int (nI i))] → W p l e room_1 s m #[Value.ref b] below meth c H' locs' 84 1198 Q (F0 m 1357 ls' [])) : W p l e room_1 s m #[Value.ref b] below meth c H locs 84 1198 Q (F0 m 569 ls []) := by
  obtain ⟨hx, hb, hml, hown, hts, hK, hX0, hbl, rfl⟩ := C
  obtain ⟨tr, lf, n, f, g, bf, m2, kd, pa, ln, ts, ga, gb, va, rn, cn, vs, hr, la, lg, sc, mf, mg, mb, mk, mp, so, sg, ce, lq, hX, hM, h81, hR⟩ := hI
  have hbA : ¬ (s.heap.size ≤ b) := Nat.not_le.mpr hbl
  refine lv_aload_n hx hb dL_law_569 rfl (lv_at hl 1 rfl) ?_
  refine lv_aload_n hx hb dL_law_570 rfl (lv_at hl 0 rfl) ?_
  refine lv_iload_n hx hb dL_law_571 rfl (lv_at hl 3 rfl) ?_
  refine lv_iconst (v := 1) hx hb dL_law_572 (by decide) ?_
  refine lv_iadd hx hb dL_law_573 ?_
  refine qh_topi (y := nI (i + 1)) (nI_add i 1) ?_
  refine va_sld hx hb hX0 hbl hbA hH.2 (vp_in_nI (show i + 1 < L by omega) (by omega)) dL_law_574 ?_
  refine qh_topi (y := xs (i + 1)) (by rw [nI_clamp (show i + 1 < 2 ^ 31 by omega)]) ?_
  refine lv_aload_n hx hb dL_law_575 rfl (lv_at hl 0 rfl) ?_
  refine lv_iload_n hx hb dL_law_576 rfl (lv_at hl 3 rfl) ?_
  refine lv_iconst (v := 2) hx hb dL_law_577 (by decide) ?_
  refine lv_iadd hx hb dL_law_578 ?_
  refine qh_topi (y := nI (i + 2)) (nI_add i 2) ?_
  refine va_sld hx hb hX0 hbl hbA hH.2 (vp_in_nI (show i + 2 < L by omega) (by omega)) dL_law_579 ?_
  refine qh_topi (y := xs (i + 2)) (by rw [nI_clamp (show i + 2 < 2 ^ 31 by omega)]) ?_
  refine lv_aload_n hx hb dL_law_580 rfl (lv_at hl 0 rfl) ?_
  refine lv_iload_n hx hb dL_law_581 rfl (lv_at hl 3 rfl) ?_
  refine lv_iconst (v := 3) hx hb dL_law_582 (by decide) ?_
  refine lv_iadd hx hb dL_law_583 ?_
  refine qh_topi (y := nI (i + 3)) (nI_add i 3) ?_
  refine va_sld hx hb hX0 hbl hbA hH.2 (vp_in_nI (show i + 3 < L by omega) (by omega)) dL_law_584 ?_
  refine qh_topi (y := xs (i + 3)) (by rw [nI_clamp (show i + 3 < 2 ^ 31 by omega)]) ?_
  refine lv_aload_n hx hb dL_law_585 rfl (lv_at hl 0 rfl) ?_
  refine lv_iload_n hx hb dL_law_586 rfl (lv_at hl 3 rfl) ?_
  refine lv_iconst (v := 4) hx hb dL_law_587 (by decide) ?_
  refine lv_iadd hx hb dL_law_588 ?_
  refine qh_topi (y := nI (i + 4)) (nI_add i 4) ?_
  refine va_sld hx hb hX0 hbl hbA hH.2 (vp_in_nI (show i + 4 < L by omega) (by omega)) dL_law_589 ?_
  refine qh_topi (y := xs (i + 4)) (by rw [nI_clamp (show i + 4 < 2 ^ 31 by omega)]) ?_
  refine lv_aload_n hx hb dL_law_590 rfl (lv_at hl 0 rfl) ?_
  refine lv_iload_n hx hb dL_law_591 rfl (lv_at hl 3 rfl) ?_
  refine lv_iconst (v := 5) hx hb dL_law_592 (by decide) ?_
  refine lv_iadd hx hb dL_law_593 ?_
  refine qh_topi (y := nI (i + 5)) (nI_add i 5) ?_
  refine va_sld hx hb hX0 hbl hbA hH.2 (vp_in_nI (show i + 5 < L by omega) (by omega)) dL_law_594 ?_
  refine qh_topi (y := xs (i + 5)) (by rw [nI_clamp (show i + 5 < 2 ^ 31 by omega)]) ?_
  obtain ⟨cv1, hroot1⟩ := XE_root hX
  refine qh_runV (As := [.int (xs (i + 1)), .int (xs (i + 2)), .int (xs (i + 3)), .int (xs (i + 4)), .int (xs (i + 5))]) (rest := []) (C := RX8) ⟨hx, hb, hml, hown, hts⟩ hK hH (c_X8_day l G s.heap.size 84 E tr lf n f g bf m2 kd pa ln ts ga gb va rn cn vs hr la lg sc (by decide) hX hR.1 (xs (i + 1)) (xs (i + 2)) (xs (i + 3)) (xs (i + 4)) (xs (i + 5))) (cwV 5 hts gL_law_X8_day rfl rfl rfl (by decide +kernel) ⟨Nat.le_of_ble_eq_true rfl, Nat.le_of_ble_eq_true rfl⟩) (by decide) hroot1 rfl rfl hl.1 rfl (Nat.le_of_ble_eq_true rfl) dL_law_595 ⟨Nat.le_of_ble_eq_true rfl, Nat.le_of_ble_eq_true rfl⟩ (qh_kkl fun r1 E1 H locs hp1 hH => ?_)
  have hM1 := ME_cong (E1 := E) (E2 := E1) (fr_day hp1) hM
  refine lv_aload_n hx hb dL_law_598 rfl (lv_at hl 2 rfl) ?_
  refine lv_aload_n hx hb dL_law_599 rfl (lv_at hl 0 rfl) ?_
  refine lv_iload_n hx hb dL_law_600 rfl (lv_at hl 3 rfl) ?_
  refine lv_iconst (v := 1) hx hb dL_law_601 (by decide) ?_
  refine lv_iadd hx hb dL_law_602 ?_
  refine qh_topi (y := nI (i + 1)) (nI_add i 1) ?_
  refine va_sld hx hb hX0 hbl hbA hH.2 (vp_in_nI (show i + 1 < L by omega) (by omega)) dL_law_603 ?_
  refine qh_topi (y := xs (i + 1)) (by rw [nI_clamp (show i + 1 < 2 ^ 31 by omega)]) ?_
  refine lv_aload_n hx hb dL_law_604 rfl (lv_at hl 0 rfl) ?_
  refine lv_iload_n hx hb dL_law_605 rfl (lv_at hl 3 rfl) ?_
  refine lv_iconst (v := 2) hx hb dL_law_606 (by decide) ?_
  refine lv_iadd hx hb dL_law_607 ?_
  refine qh_topi (y := nI (i + 2)) (nI_add i 2) ?_
  refine va_sld hx hb hX0 hbl hbA hH.2 (vp_in_nI (show i + 2 < L by omega) (by omega)) dL_law_608 ?_
  refine qh_topi (y := xs (i + 2)) (by rw [nI_clamp (show i + 2 < 2 ^ 31 by omega)]) ?_
  refine lv_aload_n hx hb dL_law_609 rfl (lv_at hl 0 rfl) ?_
  refine lv_iload_n hx hb dL_law_610 rfl (lv_at hl 3 rfl) ?_
  refine lv_iconst (v := 3) hx hb dL_law_611 (by decide) ?_
  refine lv_iadd hx hb dL_law_612 ?_
  refine qh_topi (y := nI (i + 3)) (nI_add i 3) ?_
  refine va_sld hx hb hX0 hbl hbA hH.2 (vp_in_nI (show i + 3 < L by omega) (by omega)) dL_law_613 ?_
  refine qh_topi (y := xs (i + 3)) (by rw [nI_clamp (show i + 3 < 2 ^ 31 by omega)]) ?_
  refine lv_aload_n hx hb dL_law_614 rfl (lv_at hl 0 rfl) ?_
  refine lv_iload_n hx hb dL_law_615 rfl (lv_at hl 3 rfl) ?_
  refine lv_iconst (v := 4) hx hb dL_law_616 (by decide) ?_
  refine lv_iadd hx hb dL_law_617 ?_
  refine qh_topi (y := nI (i + 4)) (nI_add i 4) ?_
  refine va_sld hx hb hX0 hbl hbA hH.2 (vp_in_nI (show i + 4 < L by omega) (by omega)) dL_law_618 ?_
  refine qh_topi (y := xs (i + 4)) (by rw [nI_clamp (show i + 4 < 2 ^ 31 by omega)]) ?_
  refine lv_aload_n hx hb dL_law_619 rfl (lv_at hl 0 rfl) ?_
  refine lv_iload_n hx hb dL_law_620 rfl (lv_at hl 3 rfl) ?_
  refine lv_iconst (v := 5) hx hb dL_law_621 (by decide) ?_
  refine lv_iadd hx hb dL_law_622 ?_
  refine qh_topi (y := nI (i + 5)) (nI_add i 5) ?_
  refine va_sld hx hb hX0 hbl hbA hH.2 (vp_in_nI (show i + 5 < L by omega) (by omega)) dL_law_623 ?_
  refine qh_topi (y := xs (i + 5)) (by rw [nI_clamp (show i + 5 < 2 ^ 31 by omega)]) ?_
  obtain ⟨cv2, hroot2⟩ := ME_root hM1
  refine qh_runV (As := [.int (xs (i + 1)), .int (xs (i + 2)), .int (xs (i + 3)), .int (xs (i + 4)), .int (xs (i + 5))]) (rest := [.long r1]) (C := RX9) ⟨hx, hb, hml, hown, hts⟩ hK hH (c_X9_day l G s.heap.size 84 E1 tr lf n mf mg mb m2 mk mp ln ts ga gb va rn cn vs so sg ce (by decide) hM1 hR.2.1 (xs (i + 1)) (xs (i + 2)) (xs (i + 3)) (xs (i + 4)) (xs (i + 5))) (cwV 5 hts gL_law_X9_day rfl rfl rfl (by decide +kernel) ⟨Nat.le_of_ble_eq_true rfl, Nat.le_of_ble_eq_true rfl⟩) (by decide) hroot2 rfl rfl hl.1 rfl (Nat.le_of_ble_eq_true rfl) dL_law_624 ⟨Nat.le_of_ble_eq_true rfl, Nat.le_of_ble_eq_true rfl⟩ (qh_kkl fun r2 E2 H locs hp2 hH => ?_)
  obtain ⟨heq, hI2⟩ := st_day hX hM h81 hR hp1 hp2
  refine W.lcmp hx hb dL_law_627 ?_
  exact lv_if_eq (tgt := 1357) hx hb dL_law_628 (by decide) (fun _ => kk _ _ _ _ hI2 hH hl) (fun c9 => absurd ((lg_cmp_eq _ _).mpr heq) c9)

set_option maxHeartbeats 1000000 in
set_option maxRecDepth 100000 in
theorem lc_ask {p : Program} {l : Launch} {e : Env} {s : State} {m : MethodId} {below : List Frame} {meth : Method} {c : Code} {b L i : Nat} {xs : Nat → Int32} {G : qh_G} {z : Nat} {E : Nat → va_E} {H : Heap} {locs : List Loc} {Q : State → Prop} {ls : Array Slot} (C : LC p s m c b L xs G z) (hL : L ≤ 3072) (hi : i + 6 ≤ L) (hI : IV G z E) (hH : qh_H G z 84 E s.heap H locs) (hl : lv_has ls 4 [(0, .ref b), (1, .ref (z + 0)), (2, .ref (z + 63)), (3, .int (nI i))])
    (kk : ∀ (E' : Nat → va_E) (H' : Heap) (locs' : List Loc) (ls' : Array Slot), IV G z E' → qh_H G z 84 E' s.heap H' locs' → lv_has ls' 4 [(0, .ref b), (1, .ref (z + 0)), (2, .ref (z + 63)), (3, .int (nI i))] → W p l e room_1 s m #[Value.ref b] below meth c H' locs' 84 1198 Q (F0 m 1357 ls' [])) : W p l e room_1 s m #[Value.ref b] below meth c H locs 84 1198 Q (F0 m 633 ls []) := by
  obtain ⟨hx, hb, hml, hown, hts, hK, hX0, hbl, rfl⟩ := C
  obtain ⟨tr, lf, n, f, g, bf, m2, kd, pa, ln, ts, ga, gb, va, rn, cn, vs, hr, la, lg, sc, mf, mg, mb, mk, mp, so, sg, ce, lq, hX, hM, h81, hR⟩ := hI
  have hbA : ¬ (s.heap.size ≤ b) := Nat.not_le.mpr hbl
  refine lv_aload_n hx hb dL_law_633 rfl (lv_at hl 1 rfl) ?_
  refine lv_aload_n hx hb dL_law_634 rfl (lv_at hl 0 rfl) ?_
  refine lv_iload_n hx hb dL_law_635 rfl (lv_at hl 3 rfl) ?_
  refine lv_iconst (v := 1) hx hb dL_law_636 (by decide) ?_
  refine lv_iadd hx hb dL_law_637 ?_
  refine qh_topi (y := nI (i + 1)) (nI_add i 1) ?_
  refine va_sld hx hb hX0 hbl hbA hH.2 (vp_in_nI (show i + 1 < L by omega) (by omega)) dL_law_638 ?_
  refine qh_topi (y := xs (i + 1)) (by rw [nI_clamp (show i + 1 < 2 ^ 31 by omega)]) ?_
  refine lv_aload_n hx hb dL_law_639 rfl (lv_at hl 0 rfl) ?_
  refine lv_iload_n hx hb dL_law_640 rfl (lv_at hl 3 rfl) ?_
  refine lv_iconst (v := 2) hx hb dL_law_641 (by decide) ?_
  refine lv_iadd hx hb dL_law_642 ?_
  refine qh_topi (y := nI (i + 2)) (nI_add i 2) ?_
  refine va_sld hx hb hX0 hbl hbA hH.2 (vp_in_nI (show i + 2 < L by omega) (by omega)) dL_law_643 ?_
  refine qh_topi (y := xs (i + 2)) (by rw [nI_clamp (show i + 2 < 2 ^ 31 by omega)]) ?_
  refine lv_aload_n hx hb dL_law_644 rfl (lv_at hl 0 rfl) ?_
  refine lv_iload_n hx hb dL_law_645 rfl (lv_at hl 3 rfl) ?_
  refine lv_iconst (v := 3) hx hb dL_law_646 (by decide) ?_
  refine lv_iadd hx hb dL_law_647 ?_
  refine qh_topi (y := nI (i + 3)) (nI_add i 3) ?_
  refine va_sld hx hb hX0 hbl hbA hH.2 (vp_in_nI (show i + 3 < L by omega) (by omega)) dL_law_648 ?_
  refine qh_topi (y := xs (i + 3)) (by rw [nI_clamp (show i + 3 < 2 ^ 31 by omega)]) ?_
  obtain ⟨cv1, hroot1⟩ := XE_root hX
  refine qh_runV (As := [.int (xs (i + 1)), .int (xs (i + 2)), .int (xs (i + 3))]) (rest := []) (C := RX8) ⟨hx, hb, hml, hown, hts⟩ hK hH (c_X8_ask l G s.heap.size 84 E tr lf n f g bf m2 kd pa ln ts ga gb va rn cn vs hr la lg sc (by decide) hX hR.1 (xs (i + 1)) (xs (i + 2)) (xs (i + 3))) (cwV 3 hts gL_law_X8_ask rfl rfl rfl (by decide +kernel) ⟨Nat.le_of_ble_eq_true rfl, Nat.le_of_ble_eq_true rfl⟩) (by decide) hroot1 rfl rfl hl.1 rfl (Nat.le_of_ble_eq_true rfl) dL_law_649 ⟨Nat.le_of_ble_eq_true rfl, Nat.le_of_ble_eq_true rfl⟩ (qh_kkl fun r1 E1 H locs hp1 hH => ?_)
  have hM1 := ME_cong (E1 := E) (E2 := E1) (fr_ask hp1) hM
  refine lv_aload_n hx hb dL_law_652 rfl (lv_at hl 2 rfl) ?_
  refine lv_aload_n hx hb dL_law_653 rfl (lv_at hl 0 rfl) ?_
  refine lv_iload_n hx hb dL_law_654 rfl (lv_at hl 3 rfl) ?_
  refine lv_iconst (v := 1) hx hb dL_law_655 (by decide) ?_
  refine lv_iadd hx hb dL_law_656 ?_
  refine qh_topi (y := nI (i + 1)) (nI_add i 1) ?_
  refine va_sld hx hb hX0 hbl hbA hH.2 (vp_in_nI (show i + 1 < L by omega) (by omega)) dL_law_657 ?_
  refine qh_topi (y := xs (i + 1)) (by rw [nI_clamp (show i + 1 < 2 ^ 31 by omega)]) ?_
  refine lv_aload_n hx hb dL_law_658 rfl (lv_at hl 0 rfl) ?_
  refine lv_iload_n hx hb dL_law_659 rfl (lv_at hl 3 rfl) ?_
  refine lv_iconst (v := 2) hx hb dL_law_660 (by decide) ?_
  refine lv_iadd hx hb dL_law_661 ?_
  refine qh_topi (y := nI (i + 2)) (nI_add i 2) ?_
  refine va_sld hx hb hX0 hbl hbA hH.2 (vp_in_nI (show i + 2 < L by omega) (by omega)) dL_law_662 ?_
  refine qh_topi (y := xs (i + 2)) (by rw [nI_clamp (show i + 2 < 2 ^ 31 by omega)]) ?_
  refine lv_aload_n hx hb dL_law_663 rfl (lv_at hl 0 rfl) ?_
  refine lv_iload_n hx hb dL_law_664 rfl (lv_at hl 3 rfl) ?_
  refine lv_iconst (v := 3) hx hb dL_law_665 (by decide) ?_
  refine lv_iadd hx hb dL_law_666 ?_
  refine qh_topi (y := nI (i + 3)) (nI_add i 3) ?_
  refine va_sld hx hb hX0 hbl hbA hH.2 (vp_in_nI (show i + 3 < L by omega) (by omega)) dL_law_667 ?_
  refine qh_topi (y := xs (i + 3)) (by rw [nI_clamp (show i + 3 < 2 ^ 31 by omega)]) ?_
  obtain ⟨cv2, hroot2⟩ := ME_root hM1
  refine qh_runV (As := [.int (xs (i + 1)), .int (xs (i + 2)), .int (xs (i + 3))]) (rest := [.long r1]) (C := RX9) ⟨hx, hb, hml, hown, hts⟩ hK hH (c_X9_ask l G s.heap.size 84 E1 tr lf n mf mg mb m2 mk mp ln ts ga gb va rn cn vs so sg ce (by decide) hM1 hR.2.1 (xs (i + 1)) (xs (i + 2)) (xs (i + 3))) (cwV 3 hts gL_law_X9_ask rfl rfl rfl (by decide +kernel) ⟨Nat.le_of_ble_eq_true rfl, Nat.le_of_ble_eq_true rfl⟩) (by decide) hroot2 rfl rfl hl.1 rfl (Nat.le_of_ble_eq_true rfl) dL_law_668 ⟨Nat.le_of_ble_eq_true rfl, Nat.le_of_ble_eq_true rfl⟩ (qh_kkl fun r2 E2 H locs hp2 hH => ?_)
  obtain ⟨heq, hI2⟩ := st_ask hX hM h81 hR hp1 hp2
  refine W.lcmp hx hb dL_law_671 ?_
  exact lv_if_eq (tgt := 1357) hx hb dL_law_672 (by decide) (fun _ => kk _ _ _ _ hI2 hH hl) (fun c9 => absurd ((lg_cmp_eq _ _).mpr heq) c9)
