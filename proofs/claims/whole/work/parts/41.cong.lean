/-! the two sides' numbers agree where they matter: what is told of them is the same -/
theorem pfx_cg {d d' : Nat → Bool} : ∀ {m : Nat}, (∀ t, t < m → d t = d' t) → pfx d m = pfx d' m
  | 0, _ => rfl
  | m + 1, h => by
    rw [pfx, pfx, pfx_cg (fun t ht => h t (by omega)), h m (by omega)]
theorem allR_cg {q q' : Nat → Bool} : ∀ {n : Nat}, (∀ k, k < n → q k = q' k) → allR q n = allR q' n
  | 0, _ => rfl
  | n + 1, h => by
    rw [allR, allR, allR_cg (fun t ht => h t (by omega)), h n (by omega)]
theorem setR_cg {q q' : Nat → Bool} : ∀ {n : Nat}, (∀ k, k < n → q k = q' k) → setR q n = setR q' n
  | 0, _ => rfl
  | n + 1, h => by
    rw [setR, setR, setR_cg (fun t ht => h t (by omega)), h n (by omega)]
section CG
variable {n m2 : Nat} {f g mf mg : Nat → Int64} {kd pa mk mp : Nat → Int32}
theorem strg_cg (h : ∀ j, j < m2 → mk j = kd j ∧ mp j = pa j) (hm : m2 ≤ 3) (v : Int64) : strg m2 mk mp v = strg m2 kd pa v := by
  unfold strg
  by_cases c : ¬ v < 0 ∧ v < (nI m2).toInt64
  · obtain ⟨j, hj, e⟩ := lN_of (by omega) c
    have e2 : v.toInt32.toNatClampNeg = j := by rw [e, lN_i]; exact nI_clamp (by omega)
    rw [if_pos c, if_pos c, e2, (h j hj).1, (h j hj).2]
  · rw [if_neg c, if_neg c]
theorem amt_cg (h : ∀ j, j < m2 → mk j = kd j ∧ mp j = pa j) (hm : m2 ≤ 3) (t : Int32) (v : Int64) : amt t m2 mk mp v = amt t m2 kd pa v := by
  unfold amt
  rw [strg_cg h hm]
theorem actF_cg {t : Int32} {y : Int64} {a c k : Nat} (h : mf k = f k) : actF mf t y a c k = actF f t y a c k := by
  simp only [actF, h]
theorem hisF_cg {t : Int32} {y : Int64} {a c k : Nat} (h1 : mg k = g k) (h : mf k = f k) : hisF mg mf t y a c k = hisF g f t y a c k := by
  simp only [hisF, h, h1]
theorem othN_cg {t : Int32} {y : Int64} {a c : Nat} (h : ∀ k, k < n → mf k = f k) (hb : a + c ≤ n) : othN mf t y a c = othN f t y a c :=
  cntR_cong (fun k h1 h2 => by rw [h k (by omega)])
theorem atR_cg {x y : Int32} (hn : n ≤ 16) (h : ∀ k, k < n → mf k = f k) (h2 : ∀ k, k < n → mg k = g k) : atR n mf mg x y = atR n f g x y := by
  unfold atR
  by_cases c : ¬ x < 0 ∧ x < nI n
  · obtain ⟨j, hj, e⟩ := nI_of_in (by omega) c
    have e2 : x.toNatClampNeg = j := by rw [e]; exact nI_clamp (by omega)
    rw [if_pos c, if_pos c, e2, h j hj, h2 j hj]
  · rw [if_neg c, if_neg c]
theorem ohR_cg {ln : Nat} {ts : Nat → Int32} {va : Nat → Int64} {x y : Int32} (h : ∀ j, j < m2 → mk j = kd j ∧ mp j = pa j) (hm : m2 ≤ 3) : ohR m2 mk mp ln ts va x y = ohR m2 kd pa ln ts va x y := by
  unfold ohR
  by_cases c : ¬ x < 0 ∧ x < nI m2
  · obtain ⟨j, hj, e⟩ := nI_of_in (by omega) c
    have e2 : x.toNatClampNeg = j := by rw [e]; exact nI_clamp (by omega)
    rw [if_pos c, if_pos c, e2, strg_cg h hm, (h j hj).1, (h j hj).2]
  · rw [if_neg c, if_neg c]
theorem run_sum {a b : Nat} (hb : b < n) (h : ∀ k, k < n → mf k = f k) : sumR mf a (b + 1 - a) = sumR f a (b + 1 - a) := sumR_cong (fun k h1 h2 => h k (by omega))
theorem run_max {a b : Nat} (hab : a ≤ b) (hb : b < n) (h : ∀ k, k < n → mf k = f k) : maxR mf a (b - a) = maxR f a (b - a) := maxR_cong (fun k h1 h2 => h k (by omega))
theorem run_min {a b : Nat} (hab : a ≤ b) (hb : b < n) (h : ∀ k, k < n → mf k = f k) : minR mf a (b - a) = minR f a (b - a) := minR_cong (fun k h1 h2 => h k (by omega))
theorem run_sec {a b : Nat} {w : Int64} (hb : b < n) (h : ∀ k, k < n → mf k = f k) : secR mf w a (b + 1 - a) = secR f w a (b + 1 - a) := secR_cong (fun k h1 h2 => h k (by omega))
theorem run_cnt {a b : Nat} {w : Int64} (hb : b < n) (h : ∀ k, k < n → mf k = f k) : cntR (fun k => decide (¬ mf k < w)) a (b + 1 - a) = cntR (fun k => decide (¬ f k < w)) a (b + 1 - a) := cntR_cong (fun k h1 h2 => by rw [h k (by omega)])
theorem run_unl {a b : Nat} (hb : b < n) (h : ∀ k, k < n → mf k = f k) : unlR mf a (b + 1 - a) = unlR f a (b + 1 - a) := unlR_cong (fun k h1 h2 => h k (by omega))
theorem askR_cg {x y w : Int32} (hn : n ≤ 16) (h : ∀ k, k < n → mf k = f k) (h2 : ∀ k, k < n → mg k = g k) : askR n mf mg x y w = askR n f g x y w := by
  unfold askR
  by_cases c : rfR n x y = 0
  · obtain ⟨a, b, hab, hbn, ea, eb⟩ := rfR_ok hn c
    have eA : x.toNatClampNeg = a := by rw [ea]; exact nI_clamp (by omega)
    have eB : y.toNatClampNeg = b := by rw [eb]; exact nI_clamp (by omega)
    rw [if_pos c, if_pos c, eA, eB, run_sum hbn h, run_max hab hbn h, run_min hab hbn h, run_sec hbn h, run_cnt hbn h, run_unl hbn h, run_max hab hbn h2, run_sum hbn h2]
  · rw [if_neg c, if_neg c]
theorem spvR_cg {u w : Nat} {y : Int32} (huw : u ≤ w) (hw : w < n) (h : ∀ k, k < n → mf k = f k) : spvR mf u w y = spvR f u w y := by
  unfold spvR
  rw [run_max huw hw h, run_sec hw h, run_cnt hw h, run_sum hw h, run_unl hw h]
theorem ospR_cg {x y : Int32} (h : ∀ k, k < n → mf k = f k) : ospR n mf x y = ospR n f x y := by
  unfold ospR
  by_cases c : spH n x
  · rw [if_pos c, if_pos c]
    cases e : spN n x.toNatClampNeg with
    | none => rfl
    | some q =>
      obtain ⟨u, w⟩ := q
      have hb := spG_bd e
      exact spvR_cg hb.1 hb.2 h
  · rw [if_neg c, if_neg c]
theorem unkS_cg (h : ∀ k, k < n → mf k = f k) : ∀ q, unkS n mf q = unkS n f q
  | 0 => rfl
  | q + 1 => by
    cases e : spN n (1 + q) with
    | none => rw [unkS_n (by rw [e]; rfl), unkS_n (by rw [e]; rfl), unkS_cg h q]
    | some p =>
      obtain ⟨u, w⟩ := p
      have hb := spG_bd e
      rw [unkS_y e, unkS_y e, unkS_cg h q, run_unl hb.2 h]
theorem unkR_cg (h : ∀ k, k < n → mf k = f k) : unkR n mf = unkR n f := by
  rw [unkR, unkR, unkS_cg h]
theorem opB_cg {a b : Nat} {v : Int64} (h : ∀ k, k < n → mf k = f k) (s : Nat) : opB n mf a b v s = opB n f a b v s := by
  cases e : spN n s with
  | none => rw [opB, opB, e]
  | some p =>
    obtain ⟨u, w⟩ := p
    have hb := spG_bd e
    rw [opB_of e, opB_of e]
    have e2 : opn mf u w a b v = opn f u w a b v := by
      unfold opn
      rw [run_max hb.1 hb.2 h, run_sec hb.2 h]
    simp only [e2]
theorem lkF_cg {a b : Nat} {v : Int64} (h : ∀ k, k < n → mf k = f k) : lkF n mf a b v = lkF n f a b v := by
  have e : lkC n mf a b v = lkC n f a b v := by
    funext s
    rw [lkC, lkC, opB_cg h]
  funext s
  rw [lkF, lkF, e]
theorem lokR_cg {x y : Int32} {v : Int64} (h : ∀ k, k < n → mf k = f k) : lokR n mf x y v = lokR n f x y v := by
  rw [lokR, lokR, lkF_cg h]
theorem oddR_cg {x y w : Int32} {v : Int64} (hn : n ≤ 16) (h : ∀ k, k < n → mf k = f k) : oddR n mf x y v w = oddR n f x y v w := by
  unfold oddR
  by_cases c : rfR n x y = 0 ∧ (w = 0 ∨ w = 1)
  · obtain ⟨a, b, hab, hbn, ea, eb⟩ := rfR_ok hn c.1
    have eA : x.toNatClampNeg = a := by rw [ea]; exact nI_clamp (by omega)
    have eB : y.toNatClampNeg = b := by rw [eb]; exact nI_clamp (by omega)
    have eO : odN mf a b v = odN f a b v := run_cnt hbn h
    rw [if_pos c, if_pos c, eA, eB, eO]
  · rw [if_neg c, if_neg c]
theorem repF_cg {F F' : Nat → Int64} {ts : Nat → Int32} {ga gb : Nat → Nat} {va : Nat → Int64} (h : ∀ j, j < m2 → mk j = kd j ∧ mp j = pa j) (hm : m2 ≤ 3) {k : Nat} (hk : F' k = F k) : ∀ T, repF F' m2 mk mp ts ga gb va T k = repF F m2 kd pa ts ga gb va T k
  | 0 => hk
  | T + 1 => by
    rw [repF, repF, amt_cg h hm]
    exact actF_cg (repF_cg h hm hk T)
theorem asV_cg {x y : Int32} (h : ∀ j, j < m2 → mk j = kd j ∧ mp j = pa j) (hm : m2 ≤ 3) : asV m2 mk x y = asV m2 kd x y := by
  unfold asV
  by_cases c : ¬ x < 0 ∧ x < nI m2
  · obtain ⟨j, hj, e⟩ := nI_of_in (by omega) c
    have e2 : x.toNatClampNeg = j := by rw [e]; exact nI_clamp (by omega)
    rw [if_pos c, if_pos c, e2, (h j hj).1]
  · rw [if_neg c, if_neg c]
theorem telV_cg {tr x : Int32} (h : ∀ j, j < m2 → mk j = kd j ∧ mp j = pa j) (hm : m2 ≤ 3) : telV m2 mk mp tr x = telV m2 kd pa tr x := by
  unfold telV
  by_cases c : ¬ x < 0 ∧ x < nI m2
  · obtain ⟨j, hj, e⟩ := nI_of_in (by omega) c
    have e2 : x.toNatClampNeg = j := by rw [e]; exact nI_clamp (by omega)
    rw [if_pos c, if_pos c, e2, (h j hj).1, (h j hj).2]
  · rw [if_neg c, if_neg c]
theorem cheV_cg {tr x : Int32} (h : ∀ j, j < m2 → mk j = kd j ∧ mp j = pa j) (hm : m2 ≤ 3) : cheV m2 mk tr x = cheV m2 kd tr x := by
  unfold cheV
  by_cases c : ¬ x < 0 ∧ x < nI m2
  · obtain ⟨j, hj, e⟩ := nI_of_in (by omega) c
    have e2 : x.toNatClampNeg = j := by rw [e]; exact nI_clamp (by omega)
    rw [if_pos c, if_pos c, e2, (h j hj).1]
  · rw [if_neg c, if_neg c]
/-! days -/
section DY
variable {s s' : Nat → Int32} {a m : Nat}
theorem dyOk_cg (hs : ∀ i, i < a + 4 * m → s' i = s i) {t : Nat} (ht : t < m) : decide (dyOk n m2 s' a t) = decide (dyOk n m2 s a t) := by
  have e0 := hs (a + 4 * t) (by omega)
  have e1 := hs (a + 4 * t + 1) (by omega)
  have e2 := hs (a + 4 * t + 2) (by omega)
  have e3 := hs (a + 4 * t + 3) (by omega)
  have e : dyOk n m2 s' a t = dyOk n m2 s a t := by
    unfold dyOk
    rw [e0, e1, e2, e3]
  simp only [e]
theorem dyC_cg (hs : ∀ i, i < a + 4 * m → s' i = s i) : dyC n m2 s' a m = dyC n m2 s a m := pfx_cg (fun t ht => dyOk_cg hs ht)
theorem dyF_cg (hs : ∀ i, i < a + 4 * m → s' i = s i) (h : ∀ j, j < m2 → mk j = kd j ∧ mp j = pa j) (hm : m2 ≤ 3) {k : Nat} (hk : mf k = f k) : ∀ {T : Nat}, T ≤ m → dyF mf m2 mk mp s' a T k = dyF f m2 kd pa s a T k
  | 0, _ => hk
  | T + 1, hT => by
    rw [dyF, dyF, hs (a + 4 * T) (by omega), hs (a + 4 * T + 1) (by omega), hs (a + 4 * T + 2) (by omega), hs (a + 4 * T + 3) (by omega), amt_cg h hm]
    exact actF_cg (dyF_cg hs h hm hk (by omega))
theorem dyH_cg (hs : ∀ i, i < a + 4 * m → s' i = s i) (h : ∀ j, j < m2 → mk j = kd j ∧ mp j = pa j) (hm : m2 ≤ 3) {k : Nat} (hk : mf k = f k) : ∀ {T : Nat}, T ≤ m → dyH mf m2 mk mp s' a T k = dyH f m2 kd pa s a T k
  | 0, _ => hk
  | T + 1, hT => by
    rw [dyH, dyH, hs (a + 4 * T) (by omega), hs (a + 4 * T + 1) (by omega), hs (a + 4 * T + 2) (by omega), hs (a + 4 * T + 3) (by omega), amt_cg h hm]
    exact hisF_cg (dyH_cg hs h hm hk (by omega)) (dyF_cg hs h hm hk (by omega))
theorem tdR_cg {F F' K K' : Nat → Int64} {w : Int32} (hn1 : 1 ≤ n) (hn : n ≤ 16) (hF : ∀ k, k < n → F' k = F k) (hK : ∀ k, k < n → K' k = K k) : tdR n F' K' w = tdR n F K w := by
  unfold tdR
  have e1 : sumR F' 0 n = sumR F 0 n := sumR_cong (fun k _ hk => hF k (by omega))
  have e2 : maxR F' 0 (n - 1) = maxR F 0 (n - 1) := maxR_cong (fun k _ hk => hF k (by omega))
  have e3 : minR F' 0 (n - 1) = minR F 0 (n - 1) := minR_cong (fun k _ hk => hF k (by omega))
  have e4 : maxR K' 0 (n - 1) = maxR K 0 (n - 1) := maxR_cong (fun k _ hk => hK k (by omega))
  rw [e1, e2, e3, e4]
  by_cases c : ¬ w - 10 < 0 ∧ w - 10 < nI n
  · obtain ⟨j, hj, e⟩ := nI_of_in (by omega) c
    have e5 : (w - 10).toNatClampNeg = j := by rw [e]; exact nI_clamp (by omega)
    rw [if_pos c, if_pos c, e5, hF j hj]
  · rw [if_neg c, if_neg c]
theorem dayT_cg {w : Int32} (hn1 : 1 ≤ n) (hn : n ≤ 16) (hs : ∀ i, i < a + 4 * m → s' i = s i) (h : ∀ j, j < m2 → mk j = kd j ∧ mp j = pa j) (hm : m2 ≤ 3) (hf : ∀ k, k < n → mf k = f k) : dayT n mf m2 mk mp s' a m w = dayT n f m2 kd pa s a m w := by
  have hT : dyC n m2 s a m ≤ m := pfx_le _ _
  unfold dayT
  rw [dyR, dyR, dyC_cg hs, tdR_cg hn1 hn (fun k hk => dyF_cg hs h hm (hf k hk) hT) (fun k hk => dyH_cg hs h hm (hf k hk) hT)]
theorem cdF_cg (hs : ∀ i, i < 60 → s' i = s i) (h : a + m ≤ 60) : cdF s' a m = cdF s a m := by
  funext t
  unfold cdF
  by_cases c : t < m
  · rw [if_pos c, if_pos c, hs (a + t) (by omega)]
  · rw [if_neg c, if_neg c]
theorem dgC_cg (hs : ∀ i, i < 60 → s' i = s i) (h : a + m ≤ 60) : dgC s' a m = dgC s a m := by
  rw [dgC, dgC, cdF_cg hs h]
theorem ffR_cg (hs : ∀ i, i < 60 → s' i = s i) (h : a + m ≤ 60) : ffR s' a m = ffR s a m := by
  rw [ffR, ffR, cdF_cg hs h, dgC_cg hs h]
end DY
end CG
/-! sheets -/
def SR (hr la : Nat → Int32) (lg : Nat → Nat) (sc : Nat → Nat → Int32) (so sg ce : Nat → Int32) : Prop := ∀ k, k < 4 → hr k = hrM so k ∧ (hr k = 1 → la k = so k ∧ lg k = lgM sg k ∧ ∀ i, i < 60 → scM ce k i = sc k i)
section SH
variable {hr la : Nat → Int32} {lg : Nat → Nat} {sc : Nat → Nat → Int32} {so sg ce : Nat → Int32}
theorem hrM_01 (so : Nat → Int32) (k : Nat) : hrM so k = 0 ∨ hrM so k = 1 := by
  unfold hrM
  split
  · exact Or.inl rfl
  · exact Or.inr rfl
theorem SR.one (h : SR hr la lg sc so sg ce) {k : Nat} (hk : k < 4) (h0 : ¬ hr k = 0) : hr k = 1 := by
  have h1 := (h k hk).1
  rcases hrM_01 so k with e | e
  · exact absurd (h1.trans e) h0
  · exact h1.trans e
theorem takF_cg (h : SR hr la lg sc so sg ce) {k : Nat} (hk : k < 4) (y : Int32) : takF (hrM so k) (so k) y = takF (hr k) (la k) y := by
  rw [← (h k hk).1]
  by_cases c : hr k = 0
  · rw [takF, if_pos c, takF, if_pos c]
  · rw [((h k hk).2 (h.one hk c)).1]
theorem takF_1 {a b y : Int32} (h : takF a b y = 0) : ¬ a = 0 := by
  intro e
  rw [takF, if_pos e] at h
  exact absurd h (by decide)
theorem sh_ix {x : Int32} (c : ¬ x < 0 ∧ x < 4) : ∃ j, j < 4 ∧ x.toNatClampNeg = j := by
  obtain ⟨j, hj, e⟩ := nI_of_in (k := x) (c := 4) (by decide) c
  exact ⟨j, hj, by rw [e]; exact nI_clamp (by omega)⟩
theorem putD_cg {x y : Int32} (h : SR hr la lg sc so sg ce) : putD x y (hrM so) (lgM sg) = putD x y hr lg := by
  unfold putD
  by_cases c : ¬ x < 0 ∧ x < 4
  · obtain ⟨j, hj, e⟩ := sh_ix c
    rw [if_pos c, if_pos c, e, ← (h j hj).1]
    by_cases c2 : hr j = 0
    · rw [if_pos c2, if_pos c2]
    · rw [((h j hj).2 (h.one hj c2)).2.1]
  · rw [if_neg c, if_neg c]
theorem celV_cg {x y q : Int32} (h : SR hr la lg sc so sg ce) (hl : ∀ k, k < 4 → lg k ≤ 60) : celV x y q (hrM so) so (lgM sg) (scM ce) = celV x y q hr la lg sc := by
  unfold celV
  by_cases c : (¬ x < 0 ∧ x < 4) ∧ (¬ q < 0 ∧ q ≤ 2)
  · obtain ⟨j, hj, e⟩ := sh_ix c.1
    rw [if_pos c, if_pos c, e, takF_cg h hj]
    by_cases c2 : takF (hr j) (la j) q = 0
    · have h1 := (h j hj).2 (h.one hj (takF_1 c2))
      rw [if_pos c2, if_pos c2, ← h1.2.1]
      by_cases c3 : hasP (lg j) y 1
      · obtain ⟨p, hp, ep⟩ := has_1 (hl j hj) c3
        have Ep : y.toNatClampNeg = p := by rw [ep]; exact nI_clamp (by have := hl j hj; omega)
        rw [if_pos c3, if_pos c3, Ep, h1.2.2 p (by have := hl j hj; omega)]
      · rw [if_neg c3, if_neg c3]
    · rw [if_neg c2, if_neg c2]
  · rw [if_neg c, if_neg c]
theorem cpyD_cg {x y q u v : Int32} (h : SR hr la lg sc so sg ce) : cpyD x y q u v (hrM so) so (lgM sg) = cpyD x y q u v hr la lg := by
  unfold cpyD
  by_cases c : (¬ x < 0 ∧ x < 4) ∧ (¬ q < 0 ∧ q < 4)
  · obtain ⟨j, hj, e⟩ := sh_ix c.1
    obtain ⟨j2, hj2, e2⟩ := sh_ix c.2
    rw [if_pos c, if_pos c, e, e2, ← (h j hj).1, ← (h j2 hj2).1]
    by_cases c2 : hr j = 0 ∨ hr j2 = 0
    · rw [if_pos c2, if_pos c2]
    · have h1 := (h j hj).2 (h.one hj (fun w => c2 (Or.inl w)))
      have h2 := (h j2 hj2).2 (h.one hj2 (fun w => c2 (Or.inr w)))
      rw [h1.1, h1.2.1, h2.1, h2.2.1]
  · rw [if_neg c, if_neg c]
theorem rowD_cg {x y q u : Int32} (h : SR hr la lg sc so sg ce) (hl : ∀ k, k < 4 → lg k ≤ 60) : rowD x y q u (hrM so) so (lgM sg) (scM ce) = rowD x y q u hr la lg sc := by
  unfold rowD
  by_cases c : ¬ x < 0 ∧ x < 4
  · obtain ⟨j, hj, e⟩ := sh_ix c
    rw [if_pos c, if_pos c, e, takF_cg h hj]
    by_cases c2 : takF (hr j) (la j) y = 0
    · have h1 := (h j hj).2 (h.one hj (takF_1 c2))
      rw [← h1.2.1]
      by_cases c3 : hasP (lg j) q u
      · obtain ⟨a, m, ea, em, ham⟩ := has_n (hl j hj) c3
        have hlj := hl j hj
        have Ea : q.toNatClampNeg = a := by rw [ea]; exact nI_clamp (by omega)
        have Em : u.toNatClampNeg = m := by rw [em]; exact nI_clamp (by omega)
        rw [Ea, Em, ffR_cg h1.2.2 (by omega)]
      · rw [if_neg c3, if_neg c3]
    · rw [if_neg c2, if_neg c2]
  · rw [if_neg c, if_neg c]
theorem dayV_cg {x y q u w : Int32} {n m2 : Nat} {f mf : Nat → Int64} {kd pa mk mp : Nat → Int32} (h : SR hr la lg sc so sg ce) (hl : ∀ k, k < 4 → lg k ≤ 60) (hn : n ≤ 16) (hD : ∀ j, j < m2 → mk j = kd j ∧ mp j = pa j) (hm : m2 ≤ 3) (hf : ∀ k, k < n → mf k = f k) : dayV x y q u w (hrM so) so (lgM sg) (scM ce) n mf m2 mk mp = dayV x y q u w hr la lg sc n f m2 kd pa := by
  unfold dayV
  by_cases c : (¬ x < 0 ∧ x < 4) ∧ (¬ y < 0 ∧ y ≤ 2) ∧ ¬ u < 0 ∧ ¬ 12 < u ∧ ofDay w
  · obtain ⟨j, hj, e⟩ := sh_ix c.1
    have hlj := hl j hj
    rw [if_pos c, if_pos c, e, takF_cg h hj]
    by_cases c2 : takF (hr j) (la j) y = 0
    · have h1 := (h j hj).2 (h.one hj (takF_1 c2))
      rw [if_pos c2, if_pos c2, ← h1.2.1]
      by_cases c3 : hasP (lg j) q (4 * u)
      · rw [if_pos c3, if_pos c3]
        obtain ⟨m1, hm1, em⟩ := nI_of2 (x := u) (M := 12) (n := 12) rfl c.2.2.1 (Int32.not_lt.mp c.2.2.2.1)
        have Em : u.toNatClampNeg = m1 := by rw [em]; exact nI_clamp (by omega)
        obtain ⟨a, b4, ea, eb4, hab4⟩ := has_n hlj c3
        have e4 : 4 * m1 = b4 := (nI_eq (by omega) (by omega)).mp (by rw [← eb4, em]; exact (pk_mul 4 m1).symm)
        have Ea : q.toNatClampNeg = a := by rw [ea]; exact nI_clamp (by omega)
        have hs : ∀ i, i < a + 4 * m1 → scM ce j i = sc j i := fun i hi => h1.2.2 i (by omega)
        rw [Ea, Em, allR_cg (fun t ht => by rw [hs (a + 4 * t) (by omega)] : ∀ t, t < m1 → decide (okS (scM ce j (a + 4 * t))) = decide (okS (sc j (a + 4 * t))))]
        by_cases c4 : 0 < nI n ∧ allR (fun t => decide (okS (sc j (a + 4 * t)))) m1 = true
        · rw [if_pos c4, if_pos c4, dayT_cg (n_pos hn c4.1) hn hs hD hm hf]
        · rw [if_neg c4, if_neg c4]
      · rw [if_neg c3, if_neg c3]
    · rw [if_neg c2, if_neg c2]
  · rw [if_neg c, if_neg c]
end SH
