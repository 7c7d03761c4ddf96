/-- what holds of both sides' numbers at any time -/
def RQ (n : Nat) (m2 : Nat) (ln : Nat) (rn : Nat) (f : Nat → Int64) (g : Nat → Int64) (bf : Nat → Int64) (kd : Nat → Int32) (pa : Nat → Int32) (ts : Nat → Int32) (ga : Nat → Nat) (gb : Nat → Nat) (va : Nat → Int64) (cn : Nat → Nat) (hr : Nat → Int32) (la : Nat → Int32) (lg : Nat → Nat) (sc : Nat → Nat → Int32) (mf : Nat → Int64) (mg : Nat → Int64) (mb : Nat → Int64) (mk : Nat → Int32) (mp : Nat → Int32) (so : Nat → Int32) (sg : Nat → Int32) (ce : Nat → Int32) : Prop := XW n m2 ln rn ga gb cn lg hr ∧ MW n m2 ln rn ga gb cn ts va mk so sg ∧ (∀ k, k < n → mf k = f k ∧ mg k = g k ∧ mb k = bf k) ∧ (∀ j, j < m2 → mk j = kd j ∧ mp j = pa j) ∧ SR hr la lg sc so sg ce
/-- both sides in one heap -/
def IV (G : qh_G) (z : Nat) (E : Nat → va_E) : Prop := ∃ (tr : Int32) (lf : Int32) (n : Nat) (f : Nat → Int64) (g : Nat → Int64) (bf : Nat → Int64) (m2 : Nat) (kd : Nat → Int32) (pa : Nat → Int32) (ln : Nat) (ts : Nat → Int32) (ga : Nat → Nat) (gb : Nat → Nat) (va : Nat → Int64) (rn : Nat) (cn : Nat → Nat) (vs : Nat → Int64) (hr : Nat → Int32) (la : Nat → Int32) (lg : Nat → Nat) (sc : Nat → Nat → Int32) (mf : Nat → Int64) (mg : Nat → Int64) (mb : Nat → Int64) (mk : Nat → Int32) (mp : Nat → Int32) (so : Nat → Int32) (sg : Nat → Int32) (ce : Nat → Int32) (lq : Nat → Int32), XE G z E tr lf n f g bf m2 kd pa ln ts ga gb va rn cn vs hr la lg sc ∧ ME G z E tr lf n mf mg mb m2 mk mp ln ts ga gb va rn cn vs so sg ce ∧ E 81 = qa_I G 64 lq ∧ RQ n m2 ln rn f g bf kd pa ts ga gb va cn hr la lg sc mf mg mb mk mp so sg ce
section RLS
variable {G : qh_G} {z : Nat} {E E1 E2 : Nat → va_E} {tr : Int32} {lf : Int32} {n : Nat} {f : Nat → Int64} {g : Nat → Int64} {bf : Nat → Int64} {m2 : Nat} {kd : Nat → Int32} {pa : Nat → Int32} {ln : Nat} {ts : Nat → Int32} {ga : Nat → Nat} {gb : Nat → Nat} {va : Nat → Int64} {rn : Nat} {cn : Nat → Nat} {vs : Nat → Int64} {hr : Nat → Int32} {la : Nat → Int32} {lg : Nat → Nat} {sc : Nat → Nat → Int32} {mf : Nat → Int64} {mg : Nat → Int64} {mb : Nat → Int64} {mk : Nat → Int32} {mp : Nat → Int32} {so : Nat → Int32} {sg : Nat → Int32} {ce : Nat → Int32} {lq : Nat → Int32}
theorem XE_cong (hE : ∀ x, x < 63 → E2 x = E1 x) (h : XE G z E1 tr lf n f g bf m2 kd pa ln ts ga gb va rn cn vs hr la lg sc) : XE G z E2 tr lf n f g bf m2 kd pa ln ts ga gb va rn cn vs hr la lg sc := by
  obtain ⟨tc, dg, hn0, tk, tp, gn, gk, gp, t0, a0, b0, v0, bg, tn, tf, tg, b_0, b_1, b_2, b_3, b_4, b_5, b_6, b_7, b_8, b_9, b_10, b_11, b_12, b_13, b_14, b_39, b_40, b_41, b_42, b_43, b_44, b_45, b_46, b_47, b_48, b_49, b_50, b_51, b_52, b_53, b_54, hacts, hsh⟩ := h
  exact ⟨_, _, _, _, _, _, _, _, _, _, _, _, _, _, _, _, (hE 0 (by decide)).trans b_0, (hE 1 (by decide)).trans b_1, (hE 2 (by decide)).trans b_2, (hE 3 (by decide)).trans b_3, (hE 4 (by decide)).trans b_4, (hE 5 (by decide)).trans b_5, (hE 6 (by decide)).trans b_6, (hE 7 (by decide)).trans b_7, (hE 8 (by decide)).trans b_8, (hE 9 (by decide)).trans b_9, (hE 10 (by decide)).trans b_10, (hE 11 (by decide)).trans b_11, (hE 12 (by decide)).trans b_12, (hE 13 (by decide)).trans b_13, (hE 14 (by decide)).trans b_14, (hE 39 (by decide)).trans b_39, (hE 40 (by decide)).trans b_40, (hE 41 (by decide)).trans b_41, (hE 42 (by decide)).trans b_42, (hE 43 (by decide)).trans b_43, (hE 44 (by decide)).trans b_44, (hE 45 (by decide)).trans b_45, (hE 46 (by decide)).trans b_46, (hE 47 (by decide)).trans b_47, (hE 48 (by decide)).trans b_48, (hE 49 (by decide)).trans b_49, (hE 50 (by decide)).trans b_50, (hE 51 (by decide)).trans b_51, (hE 52 (by decide)).trans b_52, (hE 53 (by decide)).trans b_53, (hE 54 (by decide)).trans b_54, fun t ht => (hE (15 + t) (by omega)).trans (hacts t ht), fun k hk => ⟨(hE (55 + 2 * k) (by omega)).trans (hsh k hk).1, (hE (56 + 2 * k) (by omega)).trans (hsh k hk).2⟩⟩
theorem ME_cong (hE : ∀ x, 63 ≤ x → E2 x = E1 x) (h : ME G z E1 tr lf n mf mg mb m2 mk mp ln ts ga gb va rn cn vs so sg ce) : ME G z E2 tr lf n mf mg mb m2 mk mp ln ts ga gb va rn cn vs so sg ce := by
  obtain ⟨pt, rm, rh, sf, sl, r1, r2, r3, k1, k2, b_63, b_64, b_65, b_66, b_67, b_68, b_69, b_70, b_71, b_72, b_73, b_74, b_75, b_76, b_77, b_78, b_79, b_80, b_82, b_83⟩ := h
  exact ⟨_, _, _, _, _, _, _, _, _, _, (hE 63 (by decide)).trans b_63, (hE 64 (by decide)).trans b_64, (hE 65 (by decide)).trans b_65, (hE 66 (by decide)).trans b_66, (hE 67 (by decide)).trans b_67, (hE 68 (by decide)).trans b_68, (hE 69 (by decide)).trans b_69, (hE 70 (by decide)).trans b_70, (hE 71 (by decide)).trans b_71, (hE 72 (by decide)).trans b_72, (hE 73 (by decide)).trans b_73, (hE 74 (by decide)).trans b_74, (hE 75 (by decide)).trans b_75, (hE 76 (by decide)).trans b_76, (hE 77 (by decide)).trans b_77, (hE 78 (by decide)).trans b_78, (hE 79 (by decide)).trans b_79, (hE 80 (by decide)).trans b_80, (hE 82 (by decide)).trans b_82, (hE 83 (by decide)).trans b_83⟩
theorem IV_mk (hX : XE G z E1 tr lf n f g bf m2 kd pa ln ts ga gb va rn cn vs hr la lg sc) (hE : ∀ x, x < 63 → E2 x = E1 x) (hM : ME G z E2 tr lf n mf mg mb m2 mk mp ln ts ga gb va rn cn vs so sg ce) (h81 : E2 81 = qa_I G 64 lq) (hR : RQ n m2 ln rn f g bf kd pa ts ga gb va cn hr la lg sc mf mg mb mk mp so sg ce) : IV G z E2 := ⟨_, _, _, _, _, _, _, _, _, _, _, _, _, _, _, _, _, _, _, _, _, _, _, _, _, _, _, _, _, _, XE_cong hE hX, hM, h81, hR⟩
theorem rdgD_none {x : Int32} {v : Int64} (hn : n ≤ 16) (h : rdgD n rn x v = none) : rn < 8 ∧ x.toNatClampNeg < n ∧ True := by
  unfold rdgD at h
  by_cases c : ¬ x < 0 ∧ x < nI n
  · rw [if_pos c] at h
    obtain ⟨j, hj, e⟩ := nI_of_in (by omega) c
    have e2 : x.toNatClampNeg = j := by rw [e]; exact nI_clamp (by omega)
    by_cases c2 : ¬ v < -1000000000000000 ∧ ¬ 1000000000000000 < v
    · rw [if_pos c2] at h
      by_cases c3 : rn < 8
      · exact ⟨c3, by omega, trivial⟩
      · rw [if_neg c3] at h; cases h
    · rw [if_neg c2] at h; cases h
  · rw [if_neg c] at h; cases h
theorem helD_none {x y q w : Int32} (h : helD n m2 ln x y q w = none) : (¬ x < 0 ∧ x < nI m2) ∧ rfR n y q = 0 ∧ (w = 0 ∨ w = 1) ∧ ln < 24 := by
  unfold helD at h
  by_cases c : ¬ x < 0 ∧ x < nI m2
  · rw [if_pos c] at h
    by_cases c2 : rfR n y q = 0
    · rw [if_pos c2] at h
      by_cases c3 : w = 0 ∨ w = 1
      · rw [if_pos c3] at h
        by_cases c4 : ln < 24
        · exact ⟨c, c2, c3, c4⟩
        · rw [if_neg c4] at h; cases h
      · rw [if_neg c3] at h; cases h
    · rw [if_neg c2] at h; cases h
  · rw [if_neg c] at h; cases h
theorem ok34 (w : Int32) : okS (if w = 1 then (3 : Int32) else 4) := by
  split <;> decide
theorem shtD_none {x y q : Int32} (h : shtD x y q = none) : (¬ x < 0 ∧ x < 4) ∧ (¬ y < 0 ∧ y ≤ 2) ∧ ∃ v : Nat, v ≤ 60 ∧ q = nI v := by
  unfold shtD at h
  by_cases c : ¬ x < 0 ∧ x < 4
  · rw [if_pos c] at h
    by_cases c2 : (¬ y < 0 ∧ y ≤ 2) ∧ q ≤ 60
    · rw [if_pos c2] at h
      by_cases c3 : 0 ≤ q
      · obtain ⟨v, hv, e⟩ := nI_of2 (x := q) (M := 60) (n := 60) rfl (Int32.not_lt.mpr c3) c2.2
        exact ⟨c, c2.1, v, hv, e⟩
      · rw [if_neg c3] at h; cases h
    · rw [if_neg c2] at h; cases h
  · rw [if_neg c] at h; cases h
theorem losD_none {x : Int32} (h : losD x = none) : ¬ x < 0 ∧ x < 4 := by
  unfold losD at h
  by_cases c : ¬ x < 0 ∧ x < 4
  · exact c
  · rw [if_neg c] at h; cases h
theorem putD_none {x y : Int32} (h : putD x y hr lg = none) : (¬ x < 0 ∧ x < 4) ∧ ¬ hr x.toNatClampNeg = 0 ∧ hasP (lg x.toNatClampNeg) y 1 := by
  unfold putD at h
  by_cases c : ¬ x < 0 ∧ x < 4
  · rw [if_pos c] at h
    by_cases c2 : hr x.toNatClampNeg = 0
    · rw [if_pos c2] at h; cases h
    · rw [if_neg c2] at h
      by_cases c3 : hasP (lg x.toNatClampNeg) y 1
      · exact ⟨c, c2, c3⟩
      · rw [if_neg c3] at h; cases h
  · rw [if_neg c] at h; cases h
theorem cpyD_none {x y q u v : Int32} (h : cpyD x y q u v hr la lg = none) : (¬ x < 0 ∧ x < 4) ∧ (¬ q < 0 ∧ q < 4) ∧ ¬ hr x.toNatClampNeg = 0 ∧ ¬ hr q.toNatClampNeg = 0 ∧ la x.toNatClampNeg = la q.toNatClampNeg ∧ hasP (lg x.toNatClampNeg) y v ∧ hasP (lg q.toNatClampNeg) u v := by
  unfold cpyD at h
  by_cases c : (¬ x < 0 ∧ x < 4) ∧ (¬ q < 0 ∧ q < 4)
  · rw [if_pos c] at h
    by_cases c2 : hr x.toNatClampNeg = 0 ∨ hr q.toNatClampNeg = 0
    · rw [if_pos c2] at h; cases h
    · rw [if_neg c2] at h
      by_cases c3 : la x.toNatClampNeg = la q.toNatClampNeg
      · rw [if_pos c3] at h
        by_cases c4 : hasP (lg x.toNatClampNeg) y v ∧ hasP (lg q.toNatClampNeg) u v
        · exact ⟨c.1, c.2, fun w => c2 (Or.inl w), fun w => c2 (Or.inr w), c3, c4.1, c4.2⟩
        · rw [if_neg c4] at h; cases h
      · rw [if_neg c3] at h; cases h
  · rw [if_neg c] at h; cases h
theorem rowD_none {x y q u : Int32} (h : rowD x y q u hr la lg sc = none) : (¬ x < 0 ∧ x < 4) ∧ takF (hr x.toNatClampNeg) (la x.toNatClampNeg) y = 0 ∧ hasP (lg x.toNatClampNeg) q u ∧ ffR (sc x.toNatClampNeg) q.toNatClampNeg u.toNatClampNeg = none := by
  unfold rowD at h
  by_cases c : ¬ x < 0 ∧ x < 4
  · rw [if_pos c] at h
    by_cases c2 : ¬ y < 0 ∧ y ≤ 2
    · rw [if_pos c2] at h
      by_cases c3 : takF (hr x.toNatClampNeg) (la x.toNatClampNeg) y = 0
      · rw [if_pos c3] at h
        by_cases c4 : 0 ≤ u
        · rw [if_pos c4] at h
          by_cases c5 : hasP (lg x.toNatClampNeg) q u
          · rw [if_pos c5] at h
            cases e : ffR (sc x.toNatClampNeg) q.toNatClampNeg u.toNatClampNeg with
            | none => exact ⟨c, c3, c5, rfl⟩
            | some v => rw [e] at h; cases h
          · rw [if_neg c5] at h; cases h
        · rw [if_neg c4] at h; cases h
      · rw [if_neg c3] at h; cases h
    · rw [if_neg c2] at h; cases h
  · rw [if_neg c] at h; cases h
theorem hpN_kn (cd : Nat → Int32) (m : Nat) : ∀ (h p t : Nat), t < hpN cd m h p → ¬ knd (cd (p + 3 * t + 1)) = -9
  | 0, p, t, ht => absurd ht (Nat.not_lt_zero t)
  | h + 1, p, t, ht => by
    rw [hpN] at ht
    by_cases c : p < m ∧ cd p = 59 ∧ ¬ knd (cd (p + 1)) = -9 ∧ isDg (cd (p + 2))
    · rw [if_pos c] at ht
      rcases Nat.eq_zero_or_pos t with e | e
      · rw [e]; exact c.2.2.1
      · have := hpN_kn cd m h (p + 3) (t - 1) (by omega)
        rw [show p + 3 + 3 * (t - 1) + 1 = p + 3 * t + 1 by omega] at this
        exact this
    · rw [if_neg c] at ht
      exact absurd ht (Nat.not_lt_zero t)
theorem knd_ok {x : Int32} (h : ¬ knd x = -9) : knd x = 0 ∨ knd x = 1 ∨ knd x = 2 := by
  unfold knd at h ⊢
  by_cases c : x = 98
  · rw [if_pos c]; exact Or.inr (Or.inl rfl)
  · rw [if_neg c] at h ⊢
    by_cases c2 : x = 100
    · rw [if_pos c2]; exact Or.inr (Or.inr rfl)
    · rw [if_neg c2] at h ⊢
      by_cases c3 : x = 112
      · rw [if_pos c3]; exact Or.inl rfl
      · rw [if_neg c3] at h
        exact absurd rfl h
theorem upN_at (h : Nat → Nat) (k x : Nat) : upN h k x k = x := if_pos rfl
theorem upN_ne {h : Nat → Nat} {k x j : Nat} (e : j ≠ k) : upN h k x j = h j := if_neg e
theorem upS_at (h : Nat → Nat → Int32) (k : Nat) (x : Nat → Int32) : upS h k x k = x := if_pos rfl
theorem upS_ne {h : Nat → Nat → Int32} {k j : Nat} {x : Nat → Int32} (e : j ≠ k) : upS h k x j = h j := if_neg e
theorem RL_back {c : Nat} (hR : RQ n m2 ln rn f g bf kd pa ts ga gb va cn hr la lg sc mf mg mb mk mp so sg ce) (hc : c ≤ rn) : RQ n m2 ln c f g bf kd pa ts ga gb va cn hr la lg sc mf mg mb mk mp so sg ce := by
  obtain ⟨⟨⟨a1, a2, a3, a4⟩, a5, a6, a7, a8⟩, ⟨⟨b1, b2, b3, b4⟩, b5, b6, b7, b8, b9, b10⟩, hC, hD, hS⟩ := hR
  exact ⟨⟨⟨a1, a2, a3, by omega⟩, a5, fun q hq => a6 q (by omega), a7, a8⟩, ⟨⟨b1, b2, b3, by omega⟩, b5, fun q hq => b6 q (by omega), b7, b8, b9, b10⟩, hC, hD, hS⟩
theorem RL_reading {k : Nat} (hR : RQ n m2 ln rn f g bf kd pa ts ga gb va cn hr la lg sc mf mg mb mk mp so sg ce) (h8 : rn < 8) (hk : k < n) : RQ n m2 ln (rn + 1) f g bf kd pa ts ga gb va (upN cn rn k) hr la lg sc mf mg mb mk mp so sg ce := by
  obtain ⟨⟨⟨a1, a2, a3, a4⟩, a5, a6, a7, a8⟩, ⟨⟨b1, b2, b3, b4⟩, b5, b6, b7, b8, b9, b10⟩, hC, hD, hS⟩ := hR
  have hq : ∀ q, q < rn + 1 → upN cn rn k q < n := fun q hq => by
    by_cases e : q = rn
    · rw [e, upN_at]; exact hk
    · rw [upN_ne e]; exact a6 q (by omega)
  exact ⟨⟨⟨a1, a2, a3, by omega⟩, a5, hq, a7, a8⟩, ⟨⟨b1, b2, b3, by omega⟩, b5, hq, b7, b8, b9, b10⟩, hC, hD, hS⟩
theorem RL_act {t : Int32} {w y : Int64} {a b : Nat} (hR : RQ n m2 ln rn f g bf kd pa ts ga gb va cn hr la lg sc mf mg mb mk mp so sg ce) (hl : ln < 24) (hab : a ≤ b) (hbn : b < n) (ht : okS t) (hw : (t = 3 ∨ t = 4) → ∃ j, j < m2 ∧ w = lN j) : RQ n m2 (ln + 1) rn (actF f t y a (b + 1 - a)) (hisF g f t y a (b + 1 - a)) bf kd pa (upd ts ln t) (upN ga ln a) (upN gb ln b) (vp_updL va ln w) cn hr la lg sc (actF mf t y a (b + 1 - a)) (hisF mg mf t y a (b + 1 - a)) mb mk mp so sg ce := by
  obtain ⟨⟨⟨a1, a2, a3, a4⟩, a5, a6, a7, a8⟩, ⟨⟨b1, b2, b3, b4⟩, b5, b6, b7, b8, b9, b10⟩, hC, hD, hS⟩ := hR
  have hv : ∀ q, q < ln + 1 → upN ga ln a q ≤ upN gb ln b q ∧ upN gb ln b q < n := fun q hq => by
    by_cases e : q = ln
    · rw [e, upN_at, upN_at]; exact ⟨hab, hbn⟩
    · rw [upN_ne e, upN_ne e]; exact a5 q (by omega)
  refine ⟨⟨⟨a1, a2, by omega, a4⟩, hv, a6, a7, a8⟩, ⟨⟨b1, b2, by omega, b4⟩, hv, b6, fun q hq => ?_, fun q hq h34 => ?_, b9, b10⟩, fun k hk => ⟨actF_cg (hC k hk).1, hisF_cg (hC k hk).2.1 (hC k hk).1, (hC k hk).2.2⟩, hD, hS⟩
  · by_cases e : q = ln
    · rw [e, pk_us]; exact ht
    · rw [pk_un e]; exact b7 q (by omega)
  · by_cases e : q = ln
    · rw [e, pk_us] at h34
      rw [e, pk_uLs]; exact hw h34
    · rw [pk_un e] at h34
      rw [pk_uLn e]; exact b8 q (by omega) h34
theorem RL_fresh (hR : RQ n m2 ln rn f g bf kd pa ts ga gb va cn hr la lg sc mf mg mb mk mp so sg ce) : RQ n m2 0 rn f f f kd pa ts ga gb va cn hr la lg sc mf (mixL mf mg n) (mixL mf mb n) mk mp so sg ce := by
  obtain ⟨⟨⟨a1, a2, a3, a4⟩, a5, a6, a7, a8⟩, ⟨⟨b1, b2, b3, b4⟩, b5, b6, b7, b8, b9, b10⟩, hC, hD, hS⟩ := hR
  exact ⟨⟨⟨a1, a2, by omega, a4⟩, fun q hq => absurd hq (Nat.not_lt_zero q), a6, a7, a8⟩, ⟨⟨b1, b2, by omega, b4⟩, fun q hq => absurd hq (Nat.not_lt_zero q), b6, fun q hq => absurd hq (Nat.not_lt_zero q), fun q hq => absurd hq (Nat.not_lt_zero q), b9, b10⟩, fun k hk => ⟨(hC k hk).1, (mixL_lt hk).trans (hC k hk).1, (mixL_lt hk).trans (hC k hk).1⟩, hD, hS⟩
theorem RL_row {c e : Nat} {f1 f2 g2 b2 : Nat → Int64} {kd1 pa1 kd2 pa2 : Nat → Int32} (hR : RQ n m2 ln rn f g bf kd pa ts ga gb va cn hr la lg sc mf mg mb mk mp so sg ce) (hc : c ≤ 16) (he : e ≤ 3) (hC2 : ∀ t, t < c → f2 t = f1 t ∧ g2 t = f1 t ∧ b2 t = f1 t) (hD2 : ∀ t, t < e → kd2 t = kd1 t ∧ pa2 t = pa1 t) (hk2 : ∀ t, t < e → kd2 t = 0 ∨ kd2 t = 1 ∨ kd2 t = 2) : RQ c e 0 0 f1 f1 f1 kd1 pa1 ts ga gb va cn hr la lg sc f2 g2 b2 kd2 pa2 so sg ce := by
  obtain ⟨⟨⟨a1, a2, a3, a4⟩, a5, a6, a7, a8⟩, ⟨⟨b1, b2, b3, b4⟩, b5, b6, b7, b8, b9, b10⟩, hC, hD, hS⟩ := hR
  exact ⟨⟨⟨hc, he, by omega, by omega⟩, fun q hq => absurd hq (Nat.not_lt_zero q), fun q hq => absurd hq (Nat.not_lt_zero q), a7, a8⟩, ⟨⟨hc, he, by omega, by omega⟩, fun q hq => absurd hq (Nat.not_lt_zero q), fun q hq => absurd hq (Nat.not_lt_zero q), fun q hq => absurd hq (Nat.not_lt_zero q), fun q hq => absurd hq (Nat.not_lt_zero q), hk2, b10⟩, hC2, hD2, hS⟩
theorem RL_sh {hr1 la1 so1 sg1 ce1 : Nat → Int32} {lg1 : Nat → Nat} {sc1 : Nat → Nat → Int32} (hR : RQ n m2 ln rn f g bf kd pa ts ga gb va cn hr la lg sc mf mg mb mk mp so sg ce) (h1 : ∀ k, k < 4 → lg1 k ≤ 60) (h2 : ∀ k, k < 4 → hr1 k = 0 ∨ hr1 k = 1) (h3 : ∀ k, k < 4 → liveM so1 sg1 k) (hS1 : SR hr1 la1 lg1 sc1 so1 sg1 ce1) : RQ n m2 ln rn f g bf kd pa ts ga gb va cn hr1 la1 lg1 sc1 mf mg mb mk mp so1 sg1 ce1 := by
  obtain ⟨⟨a0, a5, a6, a7, a8⟩, ⟨b0, b5, b6, b7, b8, b9, b10⟩, hC, hD, hS⟩ := hR
  exact ⟨⟨a0, a5, a6, h1, h2⟩, ⟨b0, b5, b6, b7, b8, b9, h3⟩, hC, hD, hS1⟩
theorem so_9 {y : Int32} (h : ¬ y < 0 ∧ y ≤ 2) : ¬ y = -9 ∧ (y = 0 ∨ y = 1 ∨ y = 2) := by
  obtain ⟨v, hv, e⟩ := nI_of2 (x := y) (M := 2) (n := 2) rfl h.1 h.2
  have h3 := nI_012 (q := v) (by omega)
  rw [← e] at h3
  refine ⟨fun w => ?_, h3⟩
  rw [w] at h3
  exact absurd h3 (by decide)
theorem RL_sheet {j v : Nat} {y : Int32} (hR : RQ n m2 ln rn f g bf kd pa ts ga gb va cn hr la lg sc mf mg mb mk mp so sg ce) (hj : j < 4) (hy : ¬ y < 0 ∧ y ≤ 2) (hv : v ≤ 60) : RQ n m2 ln rn f g bf kd pa ts ga gb va cn (upd hr j 1) (upd la j y) (upN lg j v) (upS sc j (fun _ => 0)) mf mg mb mk mp (upd so j y) (upd sg j (nI v)) (zerF ce (60 * j) 60) := by
  obtain ⟨hy9, hy3⟩ := so_9 hy
  refine RL_sh hR (fun k hk => ?_) (fun k hk => ?_) (fun k hk => ?_) (fun k hk => ?_)
  · by_cases e : k = j
    · rw [e, upN_at]; exact hv
    · rw [upN_ne e]; exact hR.1.2.2.2.1 k hk
  · by_cases e : k = j
    · rw [e, pk_us]; exact Or.inr rfl
    · rw [pk_un e]; exact hR.1.2.2.2.2 k hk
  · by_cases e : k = j
    · rw [e]
      exact Or.inr ⟨by rw [pk_us]; exact hy3, v, hv, pk_us⟩
    · have := hR.2.1.2.2.2.2.2.2 k hk
      unfold liveM
      rw [pk_un e, pk_un e]
      exact this
  · by_cases e : k = j
    · subst e
      refine ⟨by rw [pk_us, hrM, pk_us, if_neg hy9], fun _ => ⟨by rw [pk_us, pk_us], by rw [upN_at, lgM, pk_us, nI_clamp (by omega)], fun i hi => ?_⟩⟩
      rw [upS_at, scM, zerF, if_pos (by omega)]
    · have h := hR.2.2.2.2 k hk
      rw [pk_un e, pk_un e, upN_ne e, upS_ne e]
      refine ⟨by rw [hrM, pk_un e]; exact h.1, fun q => ⟨by rw [pk_un e]; exact (h.2 q).1, by rw [lgM, pk_un e]; exact (h.2 q).2.1, fun i hi => ?_⟩⟩
      rw [scM, zerF, if_neg (by omega)]
      exact (h.2 q).2.2 i hi
theorem RL_lose {j : Nat} (hR : RQ n m2 ln rn f g bf kd pa ts ga gb va cn hr la lg sc mf mg mb mk mp so sg ce) (hj : j < 4) : RQ n m2 ln rn f g bf kd pa ts ga gb va cn (upd hr j 0) (upd la j (la j)) (upN lg j 0) (upS sc j (sc j)) mf mg mb mk mp (upd so j (-9)) sg ce := by
  refine RL_sh hR (fun k hk => ?_) (fun k hk => ?_) (fun k hk => ?_) (fun k hk => ?_)
  · by_cases e : k = j
    · rw [e, upN_at]; omega
    · rw [upN_ne e]; exact hR.1.2.2.2.1 k hk
  · by_cases e : k = j
    · rw [e, pk_us]; exact Or.inl rfl
    · rw [pk_un e]; exact hR.1.2.2.2.2 k hk
  · by_cases e : k = j
    · rw [e]; exact Or.inl pk_us
    · have := hR.2.1.2.2.2.2.2.2 k hk
      unfold liveM
      rw [pk_un e]
      exact this
  · by_cases e : k = j
    · subst e
      refine ⟨by rw [pk_us, hrM, pk_us, if_pos rfl], fun q => ?_⟩
      rw [pk_us] at q
      exact absurd q (by decide)
    · have h := hR.2.2.2.2 k hk
      rw [pk_un e, upd_id, upN_ne e, upS_id]
      exact ⟨by rw [hrM, pk_un e]; exact h.1, fun q => ⟨by rw [pk_un e]; exact (h.2 q).1, (h.2 q).2.1, (h.2 q).2.2⟩⟩
theorem RL_put {j p : Nat} {q : Int32} (hR : RQ n m2 ln rn f g bf kd pa ts ga gb va cn hr la lg sc mf mg mb mk mp so sg ce) (hj : j < 4) (hr0 : ¬ hr j = 0) (hp : p < lg j) : RQ n m2 ln rn f g bf kd pa ts ga gb va cn (upd hr j (hr j)) (upd la j (la j)) (upN lg j (lg j)) (upS sc j (upd (sc j) p (cutF (la j) q))) mf mg mb mk mp so sg (upd ce (60 * j + p) (cutF (so j) q)) := by
  have hl := hR.1.2.2.2.1 j hj
  have h1 := hR.2.2.2.2.one hj hr0
  have hj2 := (hR.2.2.2.2 j hj).2 h1
  rw [upd_id, upd_id, upN_id]
  refine RL_sh hR hR.1.2.2.2.1 hR.1.2.2.2.2 hR.2.1.2.2.2.2.2.2 (fun k hk => ?_)
  have h := hR.2.2.2.2 k hk
  refine ⟨h.1, fun q9 => ⟨(h.2 q9).1, (h.2 q9).2.1, fun i hi => ?_⟩⟩
  by_cases e : k = j
  · subst e
    rw [upS_at, scM]
    by_cases e2 : i = p
    · subst e2
      rw [pk_us, pk_us, hj2.1]
    · rw [pk_un (by omega), pk_un e2]
      exact hj2.2.2 i hi
  · rw [upS_ne e, scM, pk_un (by omega)]
    exact (h.2 q9).2.2 i hi
theorem RL_copy {j j2 y u v : Nat} (hR : RQ n m2 ln rn f g bf kd pa ts ga gb va cn hr la lg sc mf mg mb mk mp so sg ce) (hj : j < 4) (hj2 : j2 < 4) (hr1 : ¬ hr j = 0) (hr2 : ¬ hr j2 = 0) (hy : y + v ≤ lg j) (hu : u + v ≤ lg j2) : RQ n m2 ln rn f g bf kd pa ts ga gb va cn (upd hr j2 (hr j2)) (upd la j2 (la j2)) (upN lg j2 (lg j2)) (upS sc j2 (va_cpy (sc j) (sc j2) y u v)) mf mg mb mk mp so sg (va_cpy ce ce (60 * j + y) (60 * j2 + u) v) := by
  have l1 := hR.1.2.2.2.1 j hj
  have l2 := hR.1.2.2.2.1 j2 hj2
  have s1 := (hR.2.2.2.2 j hj).2 (hR.2.2.2.2.one hj hr1)
  have s2 := (hR.2.2.2.2 j2 hj2).2 (hR.2.2.2.2.one hj2 hr2)
  rw [upd_id, upd_id, upN_id]
  refine RL_sh hR hR.1.2.2.2.1 hR.1.2.2.2.2 hR.2.1.2.2.2.2.2.2 (fun k hk => ?_)
  have h := hR.2.2.2.2 k hk
  refine ⟨h.1, fun q9 => ⟨(h.2 q9).1, (h.2 q9).2.1, fun i hi => ?_⟩⟩
  by_cases e : k = j2
  · subst e
    rw [upS_at, scM]
    by_cases c : u ≤ i ∧ i < u + v
    · rw [pk_cpy_in (by omega) (by omega), pk_cpy_in c.1 c.2, show 60 * j + y + (60 * k + i - (60 * k + u)) = 60 * j + (y + (i - u)) by omega]
      exact s1.2.2 (y + (i - u)) (by omega)
    · rw [pk_cpy_out (by omega), pk_cpy_out (by omega)]
      exact s2.2.2 i hi
  · rw [upS_ne e, scM, pk_cpy_out (by omega)]
    exact (h.2 q9).2.2 i hi
end RLS
