theorem cmp_6 {L i : Nat} (hL : L ≤ 3072) (hi : i ≤ L) : nI L - 6 < nI i ↔ L < i + 6 := by
  have h1 := pk_sub_toInt (a := L) (b := 6) (by omega) (by decide)
  have h1 : (nI L - 6).toInt = (L : Int) - 6 := h1
  rw [i32_lt, h1, nI_toInt (by omega)]
  omega
set_option maxHeartbeats 4000000 in
set_option maxRecDepth 100000 in
theorem lw_loop {p : Program} {l : Launch} {e : Env} {s : State} {m : MethodId} {below : List Frame} {meth : Method} {c : Code} {b L : Nat} {xs : Nat → Int32} {G : qh_G} {z : Nat} {Q : State → Prop} (C : LC p s m c b L xs G z) (hL : L ≤ 3072)
    (hend : ∀ {H : Heap} {locs : List Loc} {ls : Array Slot}, (∀ q ∈ locs, s.heap.size ≤ q.base) → W p l e room_1 s m #[Value.ref b] below meth c H locs 84 1198 Q (F0 m 1364 ls [.int 1])) : ∀ (fu i : Nat), L - i < fu → i ≤ L → ∀ (E : Nat → va_E) (H : Heap) (locs : List Loc) (ls : Array Slot), IV G z E → qh_H G z 84 E s.heap H locs → lv_has ls 4 [(0, .ref b), (1, .ref (z + 0)), (2, .ref (z + 63)), (3, .int (nI i))] → W p l e room_1 s m #[Value.ref b] below meth c H locs 84 1198 Q (F0 m 18 ls []) := by
  intro fu
  induction fu with
  | zero =>
    intro i h
    exact absurd h (by omega)
  | succ fu ih =>
    intro i hfu hi E H locs ls hI hH hl
    obtain ⟨hx, hb, hml, hown, hts, hK, hX0, hbl, hz⟩ := id C
    have hbA : ¬ (z ≤ b) := by omega
    refine lv_iload_n hx hb dL_law_18 rfl (lv_at hl 3 rfl) ?_
    refine lv_aload_n hx hb dL_law_19 rfl (lv_at hl 0 rfl) ?_
    refine va_slen hx hb hX0 hbl hbA hH.2 dL_law_20 ?_
    refine lv_bipush (v := 6) hx hb dL_law_21 (by decide) ?_
    refine lv_isub hx hb dL_law_23 ?_
    refine lv_icmp_gt (tgt := 1363) hx hb dL_law_24 (by decide) (fun c_24 => ?_) (fun c_24 => ?_)
    · refine lv_iconst (v := 1) hx hb dL_law_1363 (by decide) ?_
      exact hend (fun q hq => by rw [hz]; exact hH.2.2.2 q hq)
    · have hi6 : i + 6 ≤ L := by
        have := (not_congr (cmp_6 hL hi)).mp c_24
        omega
      have kk : ∀ (E' : Nat → va_E) (H' : Heap) (locs' : List Loc) (ls' : Array Slot), IV G z E' → qh_H G z 84 E' s.heap H' locs' → lv_has ls' 4 [(0, .ref b), (1, .ref (z + 0)), (2, .ref (z + 63)), (3, .int (nI i))] → W p l e room_1 s m #[Value.ref b] below meth c H' locs' 84 1198 Q (F0 m 1357 ls' []) := by
        intro E H locs ls hI hH hl
        refine lv_iinc (v := nI (i + 6)) (lv' := [(3, .int (nI (i + 6))), (0, .ref b), (1, .ref (z + 0)), (2, .ref (z + 63))]) hx hb dL_law_1357 hl (k := 3) rfl (qn_inc6 i) (by decide) rfl (fun ls hl => ?_)
        refine lv_goto (tgt := 18) hx hb dL_law_1360 (by decide) ?_
        exact ih (i + 6) (by omega) hi6 E H locs ls hI hH (lv_sub hl [1, 2, 3, 0] rfl)
      refine lv_aload_n hx hb dL_law_27 rfl (lv_at hl 0 rfl) ?_
      refine lv_iload_n hx hb dL_law_28 rfl (lv_at hl 3 rfl) ?_
      refine va_sld hx hb hX0 hbl hbA hH.2 (vp_in_nI (show i < L by omega) (by omega)) dL_law_29 ?_
      refine lv_bipush (v := 31) hx hb dL_law_30 (by decide) ?_
      refine lv_iand hx hb dL_law_32 ?_
      obtain ⟨t, ht, et⟩ := pk_andE (xs (nI i).toNatClampNeg) (m := 31) 5 (by decide)
      refine qh_topi (y := nI t) et ?_
      have ht : t < 32 := ht
      rcases (show t = 0 ∨ t = 1 ∨ t = 2 ∨ t = 3 ∨ t = 4 ∨ t = 5 ∨ t = 6 ∨ t = 7 ∨ t = 8 ∨ t = 9 ∨ t = 10 ∨ t = 11 ∨ t = 12 ∨ t = 13 ∨ t = 14 ∨ t = 15 ∨ t = 16 ∨ t = 17 ∨ t = 18 ∨ t = 19 ∨ t = 20 ∨ t = 21 ∨ t = 22 ∨ t = 23 ∨ t = 24 ∨ t = 25 ∨ t = 26 ∨ t = 27 ∨ t = 28 ∨ 28 < t by omega) with rfl | rfl | rfl | rfl | rfl | rfl | rfl | rfl | rfl | rfl | rfl | rfl | rfl | rfl | rfl | rfl | rfl | rfl | rfl | rfl | rfl | rfl | rfl | rfl | rfl | rfl | rfl | rfl | rfl | h28
      · refine lv_tableIn (tgt := 164) (off := 131) hx hb dL_law_33 (by decide) (by decide) (by decide) (by decide) ?_
        exact lc_row C hL hi6 hI hH hl kk
      · refine lv_tableIn (tgt := 217) (off := 184) hx hb dL_law_33 (by decide) (by decide) (by decide) (by decide) ?_
        exact lc_ofHelper C hL hi6 hI hH hl kk
      · refine lv_tableIn (tgt := 250) (off := 217) hx hb dL_law_33 (by decide) (by decide) (by decide) (by decide) ?_
        exact lc_at C hL hi6 hI hH hl kk
      · refine lv_tableIn (tgt := 284) (off := 251) hx hb dL_law_33 (by decide) (by decide) (by decide) (by decide) ?_
        exact lc_add C hL hi6 hI hH hl kk
      · refine lv_tableIn (tgt := 357) (off := 324) hx hb dL_law_33 (by decide) (by decide) (by decide) (by decide) ?_
        exact lc_cap C hL hi6 hI hH hl kk
      · refine lv_tableIn (tgt := 430) (off := 397) hx hb dL_law_33 (by decide) (by decide) (by decide) (by decide) ?_
        exact lc_floor C hL hi6 hI hH hl kk
      · refine lv_tableIn (tgt := 503) (off := 470) hx hb dL_law_33 (by decide) (by decide) (by decide) (by decide) ?_
        exact lc_help C hL hi6 hI hH hl kk
      · refine lv_tableIn (tgt := 556) (off := 523) hx hb dL_law_33 (by decide) (by decide) (by decide) (by decide) ?_
        exact lc_fresh C hL hi6 hI hH hl kk
      · refine lv_tableIn (tgt := 569) (off := 536) hx hb dL_law_33 (by decide) (by decide) (by decide) (by decide) ?_
        exact lc_day C hL hi6 hI hH hl kk
      · refine lv_tableIn (tgt := 633) (off := 600) hx hb dL_law_33 (by decide) (by decide) (by decide) (by decide) ?_
        exact lc_ask C hL hi6 hI hH hl kk
      · refine lv_tableIn (tgt := 677) (off := 644) hx hb dL_law_33 (by decide) (by decide) (by decide) (by decide) ?_
        exact lc_ofSpan C hL hi6 hI hH hl kk
      · refine lv_tableIn (tgt := 711) (off := 678) hx hb dL_law_33 (by decide) (by decide) (by decide) (by decide) ?_
        exact lc_looks C hL hi6 hI hH hl kk
      · refine lv_tableIn (tgt := 784) (off := 751) hx hb dL_law_33 (by decide) (by decide) (by decide) (by decide) ?_
        exact lc_unlike C hL hi6 hI hH hl kk
      · refine lv_tableIn (tgt := 797) (off := 764) hx hb dL_law_33 (by decide) (by decide) (by decide) (by decide) ?_
        exact lc_reading C hL hi6 hI hH hl kk
      · refine lv_tableIn (tgt := 860) (off := 827) hx hb dL_law_33 (by decide) (by decide) (by decide) (by decide) ?_
        exact lc_back C hL hi6 hI hH hl kk
      · refine lv_tableIn (tgt := 883) (off := 850) hx hb dL_law_33 (by decide) (by decide) (by decide) (by decide) ?_
        exact lc_kinds C hL hi6 hI hH hl kk
      · refine lv_tableIn (tgt := 906) (off := 873) hx hb dL_law_33 (by decide) (by decide) (by decide) (by decide) ?_
        exact lc_paces C hL hi6 hI hH hl kk
      · refine lv_tableIn (tgt := 929) (off := 896) hx hb dL_law_33 (by decide) (by decide) (by decide) (by decide) ?_
        exact lc_odds C hL hi6 hI hH hl kk
      · refine lv_tableIn (tgt := 1013) (off := 980) hx hb dL_law_33 (by decide) (by decide) (by decide) (by decide) ?_
        exact lc_sheet C hL hi6 hI hH hl kk
      · refine lv_tableIn (tgt := 1056) (off := 1023) hx hb dL_law_33 (by decide) (by decide) (by decide) (by decide) ?_
        exact lc_lose C hL hi6 hI hH hl kk
      · refine lv_tableIn (tgt := 1079) (off := 1046) hx hb dL_law_33 (by decide) (by decide) (by decide) (by decide) ?_
        exact lc_put C hL hi6 hI hH hl kk
      · refine lv_tableIn (tgt := 1122) (off := 1089) hx hb dL_law_33 (by decide) (by decide) (by decide) (by decide) ?_
        exact lc_cell C hL hi6 hI hH hl kk
      · refine lv_tableIn (tgt := 1166) (off := 1133) hx hb dL_law_33 (by decide) (by decide) (by decide) (by decide) ?_
        exact lc_copy C hL hi6 hI hH hl kk
      · refine lv_tableIn (tgt := 1229) (off := 1196) hx hb dL_law_33 (by decide) (by decide) (by decide) (by decide) ?_
        exact lc_tell C hL hi6 hI hH hl kk
      · refine lv_tableIn (tgt := 1252) (off := 1219) hx hb dL_law_33 (by decide) (by decide) (by decide) (by decide) ?_
        exact lc_cheer C hL hi6 hI hH hl kk
      · refine lv_tableIn (tgt := 1275) (off := 1242) hx hb dL_law_33 (by decide) (by decide) (by decide) (by decide) ?_
        exact lc_as C hL hi6 hI hH hl kk
      · refine lv_tableIn (tgt := 1308) (off := 1275) hx hb dL_law_33 (by decide) (by decide) (by decide) (by decide) ?_
        exact lc_trace C hL hi6 hI hH hl kk
      · refine lv_tableIn (tgt := 1321) (off := 1288) hx hb dL_law_33 (by decide) (by decide) (by decide) (by decide) ?_
        exact lc_fault C hL hi6 hI hH hl kk
      · refine lv_tableIn (tgt := 1334) (off := 1301) hx hb dL_law_33 (by decide) (by decide) (by decide) (by decide) ?_
        exact lc_many C hL hi6 hI hH hl kk
      · refine lv_tableOut (tgt := 1357) hx hb dL_law_33 (Or.inr (by rw [nI_toInt (by omega)]; omega)) (by decide) ?_
        exact kk E H locs ls hI hH hl
def so0 : Nat → Int32 := upd (upd (upd (upd (fun _ => 0) 0 (-9)) 1 (-9)) 2 (-9)) 3 (-9)
/-- both sides as they are made -/
theorem IV_0 {G : qh_G} {z : Nat} {E : Nat → va_E} (hX : XE G z E 0 0 0 (fun _ => 0) (fun _ => 0) (fun _ => 0) 0 (fun _ => 0) (fun _ => 0) 0 (fun _ => 0) (fun _ => 0) (fun _ => 0) (fun _ => 0) 0 (fun _ => 0) (fun _ => 0) (fun _ => 0) (fun _ => 0) (fun _ => 0) (fun _ _ => 0)) (m_63 : E 63 = .inr (9, [.int 0, .int 0, .ref (z + 64), .ref (z + 65), .ref (z + 66), .int 0, .int 0, .ref (z + 67), .ref (z + 68), .ref (z + 69), .ref (z + 70), .ref (z + 71), .int 0, .ref (z + 72), .ref (z + 73), .ref (z + 74), .ref (z + 75), .int 0, .int 0, .int 0, .ref (z + 76), .ref (z + 77), .ref (z + 78), .ref (z + 79), .ref (z + 80), .int 0, .int 0, .ref (z + 81), .int 0, .ref (z + 82), .ref (z + 83)])) (m_64 : E 64 = qa_I G 4 so0) (m_65 : E 65 = qa_I G 4 (fun _ => 0)) (m_66 : E 66 = qa_I G 240 (fun _ => 0)) (m_67 : E 67 = qa_J G 16 (fun _ => 0)) (m_68 : E 68 = qa_J G 16 (fun _ => 0)) (m_69 : E 69 = qa_J G 16 (fun _ => 0)) (m_70 : E 70 = qa_I G 3 (fun _ => 0)) (m_71 : E 71 = qa_I G 3 (fun _ => 0)) (m_72 : E 72 = qa_I G 24 (fun _ => 0)) (m_73 : E 73 = qa_I G 24 (fun _ => 0)) (m_74 : E 74 = qa_I G 24 (fun _ => 0)) (m_75 : E 75 = qa_J G 24 (fun _ => 0)) (m_76 : E 76 = qa_I G 16 (fun _ => 0)) (m_77 : E 77 = qa_I G 3 (fun _ => 0)) (m_78 : E 78 = qa_I G 3 (fun _ => 0)) (m_79 : E 79 = qa_J G 16 (fun _ => 0)) (m_80 : E 80 = qa_J G 16 (fun _ => 0)) (m_81 : E 81 = qa_I G 64 (fun _ => 0)) (m_82 : E 82 = qa_I G 8 (fun _ => 0)) (m_83 : E 83 = qa_J G 8 (fun _ => 0)) : IV G z E := by
  refine ⟨0, 0, 0, (fun _ => 0), (fun _ => 0), (fun _ => 0), 0, (fun _ => 0), (fun _ => 0), 0, (fun _ => 0), (fun _ => 0), (fun _ => 0), (fun _ => 0), 0, (fun _ => 0), (fun _ => 0), (fun _ => 0), (fun _ => 0), (fun _ => 0), (fun _ _ => 0), (fun _ => 0), (fun _ => 0), (fun _ => 0), (fun _ => 0), (fun _ => 0), so0, (fun _ => 0), (fun _ => 0), (fun _ => 0), hX, ⟨_, _, _, _, _, _, _, _, _, _, m_63, m_64, m_65, m_66, m_67, m_68, m_69, m_70, m_71, m_72, m_73, m_74, m_75, m_76, m_77, m_78, m_79, m_80, m_82, m_83⟩, m_81, ⟨⟨⟨by decide, by decide, by decide, by decide⟩, fun t ht => absurd ht (Nat.not_lt_zero t), fun t ht => absurd ht (Nat.not_lt_zero t), fun k hk => Nat.zero_le 60, fun k hk => Or.inl rfl⟩, ⟨⟨by decide, by decide, by decide, by decide⟩, fun t ht => absurd ht (Nat.not_lt_zero t), fun t ht => absurd ht (Nat.not_lt_zero t), fun t ht => absurd ht (Nat.not_lt_zero t), fun t ht => absurd ht (Nat.not_lt_zero t), fun t ht => absurd ht (Nat.not_lt_zero t), fun k hk => Or.inl ?_⟩, fun k hk => absurd hk (Nat.not_lt_zero k), fun k hk => absurd hk (Nat.not_lt_zero k), fun k hk => ⟨?_, fun h => absurd (show (0 : Int32) = 1 from h) (by decide)⟩⟩⟩
  · rcases (show k = 0 ∨ k = 1 ∨ k = 2 ∨ k = 3 by omega) with rfl | rfl | rfl | rfl <;> rfl
  · rcases (show k = 0 ∨ k = 1 ∨ k = 2 ∨ k = 3 by omega) with rfl | rfl | rfl | rfl <;> rfl
