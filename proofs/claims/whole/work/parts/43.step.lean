section STP
variable {G : qh_G} {z : Nat} {E E1 E2 : Nat → va_E} {tr : Int32} {lf : Int32} {n : Nat} {f : Nat → Int64} {g : Nat → Int64} {bf : Nat → Int64} {m2 : Nat} {kd : Nat → Int32} {pa : Nat → Int32} {ln : Nat} {ts : Nat → Int32} {ga : Nat → Nat} {gb : Nat → Nat} {va : Nat → Int64} {rn : Nat} {cn : Nat → Nat} {vs : Nat → Int64} {hr : Nat → Int32} {la : Nat → Int32} {lg : Nat → Nat} {sc : Nat → Nat → Int32} {mf : Nat → Int64} {mg : Nat → Int64} {mb : Nat → Int64} {mk : Nat → Int32} {mp : Nat → Int32} {so : Nat → Int32} {sg : Nat → Int32} {ce : Nat → Int32} {lq : Nat → Int32}
theorem st_trace {r1 r2 : Int32} (hX : XE G z E tr lf n f g bf m2 kd pa ln ts ga gb va rn cn vs hr la lg sc) (hM : ME G z E tr lf n mf mg mb m2 mk mp ln ts ga gb va rn cn vs so sg ce) (h81 : E 81 = qa_I G 64 lq) (hR : RQ n m2 ln rn f g bf kd pa ts ga gb va cn hr la lg sc mf mg mb mk mp so sg ce) (h1 : E = E1 ∧ r1 = tr) (h2 : E1 = E2 ∧ r2 = tr) : r1 = r2 ∧ IV G z E2 := by
  obtain ⟨rfl, rfl⟩ := h1
  obtain ⟨rfl, rfl⟩ := h2
  exact ⟨rfl, _, _, _, _, _, _, _, _, _, _, _, _, _, _, _, _, _, _, _, _, _, _, _, _, _, _, _, _, _, _, hX, hM, h81, hR⟩

theorem st_fault {r1 r2 : Int32} (hX : XE G z E tr lf n f g bf m2 kd pa ln ts ga gb va rn cn vs hr la lg sc) (hM : ME G z E tr lf n mf mg mb m2 mk mp ln ts ga gb va rn cn vs so sg ce) (h81 : E 81 = qa_I G 64 lq) (hR : RQ n m2 ln rn f g bf kd pa ts ga gb va cn hr la lg sc mf mg mb mk mp so sg ce) (h1 : E = E1 ∧ r1 = lf) (h2 : E1 = E2 ∧ r2 = lf) : r1 = r2 ∧ IV G z E2 := by
  obtain ⟨rfl, rfl⟩ := h1
  obtain ⟨rfl, rfl⟩ := h2
  exact ⟨rfl, _, _, _, _, _, _, _, _, _, _, _, _, _, _, _, _, _, _, _, _, _, _, _, _, _, _, _, _, _, _, hX, hM, h81, hR⟩

theorem st_many {x : Int32} {r1 r2 : Int32} (hX : XE G z E tr lf n f g bf m2 kd pa ln ts ga gb va rn cn vs hr la lg sc) (hM : ME G z E tr lf n mf mg mb m2 mk mp ln ts ga gb va rn cn vs so sg ce) (h81 : E 81 = qa_I G 64 lq) (hR : RQ n m2 ln rn f g bf kd pa ts ga gb va cn hr la lg sc mf mg mb mk mp so sg ce) (h1 : E = E1 ∧ r1 = manR n m2 ln rn x) (h2 : E1 = E2 ∧ r2 = manR n m2 ln rn x) : r1 = r2 ∧ IV G z E2 := by
  obtain ⟨rfl, rfl⟩ := h1
  obtain ⟨rfl, rfl⟩ := h2
  exact ⟨rfl, _, _, _, _, _, _, _, _, _, _, _, _, _, _, _, _, _, _, _, _, _, _, _, _, _, _, _, _, _, _, hX, hM, h81, hR⟩

theorem st_at {x : Int32} {y : Int32} {r1 r2 : Int64} (hX : XE G z E tr lf n f g bf m2 kd pa ln ts ga gb va rn cn vs hr la lg sc) (hM : ME G z E tr lf n mf mg mb m2 mk mp ln ts ga gb va rn cn vs so sg ce) (h81 : E 81 = qa_I G 64 lq) (hR : RQ n m2 ln rn f g bf kd pa ts ga gb va cn hr la lg sc mf mg mb mk mp so sg ce) (h1 : E = E1 ∧ r1 = atR n f g x y) (h2 : E1 = E2 ∧ r2 = atR n mf mg x y) : r1 = r2 ∧ IV G z E2 := by
  obtain ⟨rfl, rfl⟩ := h1
  obtain ⟨rfl, rfl⟩ := h2
  exact ⟨(atR_cg hR.1.1.1 (fun k hk => (hR.2.2.1 k hk).1) (fun k hk => (hR.2.2.1 k hk).2.1)).symm, _, _, _, _, _, _, _, _, _, _, _, _, _, _, _, _, _, _, _, _, _, _, _, _, _, _, _, _, _, _, hX, hM, h81, hR⟩

theorem st_ofHelper {x : Int32} {y : Int32} {r1 r2 : Int32} (hX : XE G z E tr lf n f g bf m2 kd pa ln ts ga gb va rn cn vs hr la lg sc) (hM : ME G z E tr lf n mf mg mb m2 mk mp ln ts ga gb va rn cn vs so sg ce) (h81 : E 81 = qa_I G 64 lq) (hR : RQ n m2 ln rn f g bf kd pa ts ga gb va cn hr la lg sc mf mg mb mk mp so sg ce) (h1 : E = E1 ∧ r1 = ohR m2 kd pa ln ts va x y) (h2 : E1 = E2 ∧ r2 = ohR m2 mk mp ln ts va x y) : r1 = r2 ∧ IV G z E2 := by
  obtain ⟨rfl, rfl⟩ := h1
  obtain ⟨rfl, rfl⟩ := h2
  exact ⟨(ohR_cg hR.2.2.2.1 hR.1.1.2.1).symm, _, _, _, _, _, _, _, _, _, _, _, _, _, _, _, _, _, _, _, _, _, _, _, _, _, _, _, _, _, _, hX, hM, h81, hR⟩

theorem st_ask {x : Int32} {y : Int32} {w : Int32} {r1 r2 : Int64} (hX : XE G z E tr lf n f g bf m2 kd pa ln ts ga gb va rn cn vs hr la lg sc) (hM : ME G z E tr lf n mf mg mb m2 mk mp ln ts ga gb va rn cn vs so sg ce) (h81 : E 81 = qa_I G 64 lq) (hR : RQ n m2 ln rn f g bf kd pa ts ga gb va cn hr la lg sc mf mg mb mk mp so sg ce) (h1 : E = E1 ∧ r1 = askR n f g x y w) (h2 : E1 = E2 ∧ r2 = askR n mf mg x y w) : r1 = r2 ∧ IV G z E2 := by
  obtain ⟨rfl, rfl⟩ := h1
  obtain ⟨rfl, rfl⟩ := h2
  exact ⟨(askR_cg hR.1.1.1 (fun k hk => (hR.2.2.1 k hk).1) (fun k hk => (hR.2.2.1 k hk).2.1)).symm, _, _, _, _, _, _, _, _, _, _, _, _, _, _, _, _, _, _, _, _, _, _, _, _, _, _, _, _, _, _, hX, hM, h81, hR⟩

theorem st_odds {x : Int32} {y : Int32} {v : Int64} {w : Int32} {r1 r2 : Int64} (hX : XE G z E tr lf n f g bf m2 kd pa ln ts ga gb va rn cn vs hr la lg sc) (hM : ME G z E tr lf n mf mg mb m2 mk mp ln ts ga gb va rn cn vs so sg ce) (h81 : E 81 = qa_I G 64 lq) (hR : RQ n m2 ln rn f g bf kd pa ts ga gb va cn hr la lg sc mf mg mb mk mp so sg ce) (h1 : E = E1 ∧ r1 = oddR n f x y v w) (h2 : E1 = E2 ∧ r2 = oddR n mf x y v w) : r1 = r2 ∧ IV G z E2 := by
  obtain ⟨rfl, rfl⟩ := h1
  obtain ⟨rfl, rfl⟩ := h2
  exact ⟨(oddR_cg hR.1.1.1 (fun k hk => (hR.2.2.1 k hk).1)).symm, _, _, _, _, _, _, _, _, _, _, _, _, _, _, _, _, _, _, _, _, _, _, _, _, _, _, _, _, _, _, hX, hM, h81, hR⟩

theorem st_ofSpan {x : Int32} {y : Int32} {r1 r2 : Int64} (hX : XE G z E tr lf n f g bf m2 kd pa ln ts ga gb va rn cn vs hr la lg sc) (hM : ME G z E tr lf n mf mg mb m2 mk mp ln ts ga gb va rn cn vs so sg ce) (h81 : E 81 = qa_I G 64 lq) (hR : RQ n m2 ln rn f g bf kd pa ts ga gb va cn hr la lg sc mf mg mb mk mp so sg ce) (h1 : E = E1 ∧ r1 = ospR n f x y) (h2 : r2 = ospR n mf x y ∧ ME G z E2 tr lf n mf mg mb m2 mk mp ln ts ga gb va rn cn vs so sg ce ∧ ∀ x9, (x9 < 63 ∨ x9 = 81) → E2 x9 = E1 x9) : r1 = r2 ∧ IV G z E2 := by
  obtain ⟨rfl, rfl⟩ := h1
  obtain ⟨rfl, h2, h3⟩ := h2
  exact ⟨(ospR_cg (fun k hk => (hR.2.2.1 k hk).1)).symm, IV_mk hX (fun x h9 => h3 x (Or.inl h9)) h2 ((h3 81 (Or.inr rfl)).trans h81) hR⟩

theorem st_unlike {r1 r2 : Int32} (hX : XE G z E tr lf n f g bf m2 kd pa ln ts ga gb va rn cn vs hr la lg sc) (hM : ME G z E tr lf n mf mg mb m2 mk mp ln ts ga gb va rn cn vs so sg ce) (h81 : E 81 = qa_I G 64 lq) (hR : RQ n m2 ln rn f g bf kd pa ts ga gb va cn hr la lg sc mf mg mb mk mp so sg ce) (h1 : E = E1 ∧ r1 = unkR n f) (h2 : r2 = unkR n mf ∧ ME G z E2 tr lf n mf mg mb m2 mk mp ln ts ga gb va rn cn vs so sg ce ∧ ∀ x9, (x9 < 63 ∨ x9 = 81) → E2 x9 = E1 x9) : r1 = r2 ∧ IV G z E2 := by
  obtain ⟨rfl, rfl⟩ := h1
  obtain ⟨rfl, h2, h3⟩ := h2
  exact ⟨(unkR_cg (fun k hk => (hR.2.2.1 k hk).1)).symm, IV_mk hX (fun x h9 => h3 x (Or.inl h9)) h2 ((h3 81 (Or.inr rfl)).trans h81) hR⟩

theorem st_looks {x : Int32} {y : Int32} {v : Int64} {r1 r2 : Int32} (hX : XE G z E tr lf n f g bf m2 kd pa ln ts ga gb va rn cn vs hr la lg sc) (hM : ME G z E tr lf n mf mg mb m2 mk mp ln ts ga gb va rn cn vs so sg ce) (h81 : E 81 = qa_I G 64 lq) (hR : RQ n m2 ln rn f g bf kd pa ts ga gb va cn hr la lg sc mf mg mb mk mp so sg ce) (h1 : E = E1 ∧ r1 = lokR n f x y v) (h2 : r2 = lokR n mf x y v ∧ ME G z E2 tr lf n mf mg mb m2 mk mp ln ts ga gb va rn cn vs so sg ce ∧ (∃ lq' : Nat → Int32, E2 81 = qa_I G 64 lq') ∧ ∀ x9, x9 < 63 → E2 x9 = E1 x9) : r1 = r2 ∧ IV G z E2 := by
  obtain ⟨rfl, rfl⟩ := h1
  obtain ⟨rfl, h2, ⟨lq2, h4⟩, h3⟩ := h2
  exact ⟨(lokR_cg (fun k hk => (hR.2.2.1 k hk).1)).symm, IV_mk hX h3 h2 h4 hR⟩

theorem st_as {x : Int32} {y : Int32} {r1 r2 : Int32} (hX : XE G z E tr lf n f g bf m2 kd pa ln ts ga gb va rn cn vs hr la lg sc) (hM : ME G z E tr lf n mf mg mb m2 mk mp ln ts ga gb va rn cn vs so sg ce) (h81 : E 81 = qa_I G 64 lq) (hR : RQ n m2 ln rn f g bf kd pa ts ga gb va cn hr la lg sc mf mg mb mk mp so sg ce) (h1 : r1 = (asV m2 kd x y).1 ∧ XE G z E1 tr ((asV m2 kd x y).2) n f g bf m2 kd pa ln ts ga gb va rn cn vs hr la lg sc ∧ ∀ x9, 63 ≤ x9 → E1 x9 = E x9) (h2 : r2 = (asV m2 mk x y).1 ∧ ME G z E2 tr ((asV m2 mk x y).2) n mf mg mb m2 mk mp ln ts ga gb va rn cn vs so sg ce ∧ ∀ x9, (x9 < 63 ∨ x9 = 81) → E2 x9 = E1 x9) : r1 = r2 ∧ IV G z E2 := by
  rw [asV_cg hR.2.2.2.1 hR.1.1.2.1] at h2
  obtain ⟨rfl, h2a, h3⟩ := h1
  obtain ⟨rfl, h4, h5⟩ := h2
  skip
  exact ⟨rfl, IV_mk h2a (fun x h9 => h5 x (Or.inl h9)) h4 ((h5 81 (Or.inr rfl)).trans ((h3 81 (by decide)).trans h81)) hR⟩

theorem st_tell {x : Int32} {r1 r2 : Int32} (hX : XE G z E tr lf n f g bf m2 kd pa ln ts ga gb va rn cn vs hr la lg sc) (hM : ME G z E tr lf n mf mg mb m2 mk mp ln ts ga gb va rn cn vs so sg ce) (h81 : E 81 = qa_I G 64 lq) (hR : RQ n m2 ln rn f g bf kd pa ts ga gb va cn hr la lg sc mf mg mb mk mp so sg ce) (h1 : r1 = (telV m2 kd pa tr x).1 ∧ XE G z E1 ((telV m2 kd pa tr x).2) lf n f g bf m2 kd pa ln ts ga gb va rn cn vs hr la lg sc ∧ ∀ x9, 63 ≤ x9 → E1 x9 = E x9) (h2 : r2 = (telV m2 mk mp tr x).1 ∧ ME G z E2 ((telV m2 mk mp tr x).2) lf n mf mg mb m2 mk mp ln ts ga gb va rn cn vs so sg ce ∧ ∀ x9, (x9 < 63 ∨ x9 = 81) → E2 x9 = E1 x9) : r1 = r2 ∧ IV G z E2 := by
  rw [telV_cg hR.2.2.2.1 hR.1.1.2.1] at h2
  obtain ⟨rfl, h2a, h3⟩ := h1
  obtain ⟨rfl, h4, h5⟩ := h2
  skip
  exact ⟨rfl, IV_mk h2a (fun x h9 => h5 x (Or.inl h9)) h4 ((h5 81 (Or.inr rfl)).trans ((h3 81 (by decide)).trans h81)) hR⟩

theorem st_cheer {x : Int32} {r1 r2 : Int32} (hX : XE G z E tr lf n f g bf m2 kd pa ln ts ga gb va rn cn vs hr la lg sc) (hM : ME G z E tr lf n mf mg mb m2 mk mp ln ts ga gb va rn cn vs so sg ce) (h81 : E 81 = qa_I G 64 lq) (hR : RQ n m2 ln rn f g bf kd pa ts ga gb va cn hr la lg sc mf mg mb mk mp so sg ce) (h1 : r1 = (cheV m2 kd tr x).1 ∧ XE G z E1 ((cheV m2 kd tr x).2) lf n f g bf m2 kd pa ln ts ga gb va rn cn vs hr la lg sc ∧ ∀ x9, 63 ≤ x9 → E1 x9 = E x9) (h2 : r2 = (cheV m2 mk tr x).1 ∧ ME G z E2 ((cheV m2 mk tr x).2) lf n mf mg mb m2 mk mp ln ts ga gb va rn cn vs so sg ce ∧ ∀ x9, (x9 < 63 ∨ x9 = 81) → E2 x9 = E1 x9) : r1 = r2 ∧ IV G z E2 := by
  rw [cheV_cg hR.2.2.2.1 hR.1.1.2.1] at h2
  obtain ⟨rfl, h2a, h3⟩ := h1
  obtain ⟨rfl, h4, h5⟩ := h2
  skip
  exact ⟨rfl, IV_mk h2a (fun x h9 => h5 x (Or.inl h9)) h4 ((h5 81 (Or.inr rfl)).trans ((h3 81 (by decide)).trans h81)) hR⟩

theorem st_cell {x : Int32} {y : Int32} {q : Int32} {r1 r2 : Int64} (hX : XE G z E tr lf n f g bf m2 kd pa ln ts ga gb va rn cn vs hr la lg sc) (hM : ME G z E tr lf n mf mg mb m2 mk mp ln ts ga gb va rn cn vs so sg ce) (h81 : E 81 = qa_I G 64 lq) (hR : RQ n m2 ln rn f g bf kd pa ts ga gb va cn hr la lg sc mf mg mb mk mp so sg ce) (h1 : r1 = (celV x y q hr la lg sc).1 ∧ XE G z E1 tr ((celV x y q hr la lg sc).2) n f g bf m2 kd pa ln ts ga gb va rn cn vs hr la lg sc ∧ ∀ x9, 63 ≤ x9 → E1 x9 = E x9) (h2 : r2 = (celV x y q (hrM so) so (lgM sg) (scM ce)).1 ∧ ME G z E2 tr ((celV x y q (hrM so) so (lgM sg) (scM ce)).2) n mf mg mb m2 mk mp ln ts ga gb va rn cn vs so sg ce ∧ ∀ x9, (x9 < 63 ∨ x9 = 81) → E2 x9 = E1 x9) : r1 = r2 ∧ IV G z E2 := by
  rw [celV_cg hR.2.2.2.2 hR.1.2.2.2.1] at h2
  obtain ⟨rfl, h2a, h3⟩ := h1
  obtain ⟨rfl, h4, h5⟩ := h2
  skip
  exact ⟨rfl, IV_mk h2a (fun x h9 => h5 x (Or.inl h9)) h4 ((h5 81 (Or.inr rfl)).trans ((h3 81 (by decide)).trans h81)) hR⟩

theorem st_day {x : Int32} {y : Int32} {q : Int32} {u : Int32} {w : Int32} {r1 r2 : Int64} (hX : XE G z E tr lf n f g bf m2 kd pa ln ts ga gb va rn cn vs hr la lg sc) (hM : ME G z E tr lf n mf mg mb m2 mk mp ln ts ga gb va rn cn vs so sg ce) (h81 : E 81 = qa_I G 64 lq) (hR : RQ n m2 ln rn f g bf kd pa ts ga gb va cn hr la lg sc mf mg mb mk mp so sg ce) (h1 : r1 = (dayV x y q u w hr la lg sc n f m2 kd pa).1 ∧ XE G z E1 tr ((dayV x y q u w hr la lg sc n f m2 kd pa).2) n f g bf m2 kd pa ln ts ga gb va rn cn vs hr la lg sc ∧ ∀ x9, 63 ≤ x9 → E1 x9 = E x9) (h2 : r2 = (dayV x y q u w (hrM so) so (lgM sg) (scM ce) n mf m2 mk mp).1 ∧ ME G z E2 tr ((dayV x y q u w (hrM so) so (lgM sg) (scM ce) n mf m2 mk mp).2) n mf mg mb m2 mk mp ln ts ga gb va rn cn vs so sg ce ∧ ∀ x9, (x9 < 63 ∨ x9 = 81) → E2 x9 = E1 x9) : r1 = r2 ∧ IV G z E2 := by
  rw [dayV_cg hR.2.2.2.2 hR.1.2.2.2.1 hR.1.1.1 hR.2.2.2.1 hR.1.1.2.1 (fun k hk => (hR.2.2.1 k hk).1)] at h2
  obtain ⟨rfl, h2a, h3⟩ := h1
  obtain ⟨rfl, h4, h5⟩ := h2
  skip
  exact ⟨rfl, IV_mk h2a (fun x h9 => h5 x (Or.inl h9)) h4 ((h5 81 (Or.inr rfl)).trans ((h3 81 (by decide)).trans h81)) hR⟩

theorem st_kinds {x : Int32} {r1 r2 : Int32} (hX : XE G z E tr lf n f g bf m2 kd pa ln ts ga gb va rn cn vs hr la lg sc) (hM : ME G z E tr lf n mf mg mb m2 mk mp ln ts ga gb va rn cn vs so sg ce) (h81 : E 81 = qa_I G 64 lq) (hR : RQ n m2 ln rn f g bf kd pa ts ga gb va cn hr la lg sc mf mg mb mk mp so sg ce) (h1 : r1 = (if ¬ x < 0 ∧ x < nI m2 then setR (fun q => allR (fun s => decide (repF bf m2 (upd kd x.toNatClampNeg (nI q)) (upd pa x.toNatClampNeg (pa x.toNatClampNeg)) ts ga gb va ln (cn s) = vs s)) rn) 3 else -1) ∧ XE G z E1 tr lf n f g bf m2 kd pa ln ts ga gb va rn cn vs hr la lg sc ∧ ∀ x9, 63 ≤ x9 → E1 x9 = E x9) (h2 : r2 = (if ¬ x < 0 ∧ x < nI m2 then setR (fun q => allR (fun s => decide (repF (mixL mb mf n) m2 (upd mk x.toNatClampNeg (nI q)) mp ts ga gb va ln (cn s) = vs s)) rn) 3 else -1) ∧ ME G z E2 tr lf n mf mg mb m2 mk mp ln ts ga gb va rn cn vs so sg ce ∧ ∀ x9, (x9 < 63 ∨ x9 = 81) → E2 x9 = E1 x9) : r1 = r2 ∧ IV G z E2 := by
  obtain ⟨e1, h2a, h3⟩ := h1
  obtain ⟨e2, h4, h5⟩ := h2
  refine ⟨?_, IV_mk h2a (fun x h9 => h5 x (Or.inl h9)) h4 ((h5 81 (Or.inr rfl)).trans ((h3 81 (by decide)).trans h81)) hR⟩
  rw [e1, e2]
  by_cases c : ¬ x < 0 ∧ x < nI m2
  · rw [if_pos c, if_pos c]
    refine setR_cg (fun q hq => ?_)
    refine allR_cg (fun s hs9 => ?_)
    have hc := hR.1.2.2.1 s hs9
    have hag : ∀ j, j < m2 → upd mk x.toNatClampNeg (nI q) j = upd kd x.toNatClampNeg (nI q) j ∧ mp j = upd pa x.toNatClampNeg (pa x.toNatClampNeg) j := fun j hj => by
      exact ⟨by simp only [upd, (hR.2.2.2.1 j hj).1], by rw [upd_id]; exact (hR.2.2.2.1 j hj).2⟩
    have e3 := repF_cg (F := bf) (F' := mixL mb mf n) (ts := ts) (ga := ga) (gb := gb) (va := va) hag hR.1.1.2.1 ((mixL_lt hc).trans (hR.2.2.1 _ hc).2.2) ln
    rw [e3]
  · rw [if_neg c, if_neg c]

theorem st_paces {x : Int32} {r1 r2 : Int32} (hX : XE G z E tr lf n f g bf m2 kd pa ln ts ga gb va rn cn vs hr la lg sc) (hM : ME G z E tr lf n mf mg mb m2 mk mp ln ts ga gb va rn cn vs so sg ce) (h81 : E 81 = qa_I G 64 lq) (hR : RQ n m2 ln rn f g bf kd pa ts ga gb va cn hr la lg sc mf mg mb mk mp so sg ce) (h1 : r1 = (if ¬ x < 0 ∧ x < nI m2 then setR (fun q => allR (fun s => decide (repF bf m2 (upd kd x.toNatClampNeg (kd x.toNatClampNeg)) (upd pa x.toNatClampNeg (nI q)) ts ga gb va ln (cn s) = vs s)) rn) 10 else -1) ∧ XE G z E1 tr lf n f g bf m2 kd pa ln ts ga gb va rn cn vs hr la lg sc ∧ ∀ x9, 63 ≤ x9 → E1 x9 = E x9) (h2 : r2 = (if ¬ x < 0 ∧ x < nI m2 then setR (fun q => allR (fun s => decide (repF (mixL mb mf n) m2 mk (upd mp x.toNatClampNeg (nI q)) ts ga gb va ln (cn s) = vs s)) rn) 10 else -1) ∧ ME G z E2 tr lf n mf mg mb m2 mk mp ln ts ga gb va rn cn vs so sg ce ∧ ∀ x9, (x9 < 63 ∨ x9 = 81) → E2 x9 = E1 x9) : r1 = r2 ∧ IV G z E2 := by
  obtain ⟨e1, h2a, h3⟩ := h1
  obtain ⟨e2, h4, h5⟩ := h2
  refine ⟨?_, IV_mk h2a (fun x h9 => h5 x (Or.inl h9)) h4 ((h5 81 (Or.inr rfl)).trans ((h3 81 (by decide)).trans h81)) hR⟩
  rw [e1, e2]
  by_cases c : ¬ x < 0 ∧ x < nI m2
  · rw [if_pos c, if_pos c]
    refine setR_cg (fun q hq => ?_)
    refine allR_cg (fun s hs9 => ?_)
    have hc := hR.1.2.2.1 s hs9
    have hag : ∀ j, j < m2 → mk j = upd kd x.toNatClampNeg (kd x.toNatClampNeg) j ∧ upd mp x.toNatClampNeg (nI q) j = upd pa x.toNatClampNeg (nI q) j := fun j hj => by
      exact ⟨by rw [upd_id]; exact (hR.2.2.2.1 j hj).1, by simp only [upd, (hR.2.2.2.1 j hj).2]⟩
    have e3 := repF_cg (F := bf) (F' := mixL mb mf n) (ts := ts) (ga := ga) (gb := gb) (va := va) hag hR.1.1.2.1 ((mixL_lt hc).trans (hR.2.2.1 _ hc).2.2) ln
    rw [e3]
  · rw [if_neg c, if_neg c]

theorem st_back {x : Int32} {r1 r2 : Int32} (hX : XE G z E tr lf n f g bf m2 kd pa ln ts ga gb va rn cn vs hr la lg sc) (hM : ME G z E tr lf n mf mg mb m2 mk mp ln ts ga gb va rn cn vs so sg ce) (h81 : E 81 = qa_I G 64 lq) (hR : RQ n m2 ln rn f g bf kd pa ts ga gb va cn hr la lg sc mf mg mb mk mp so sg ce) (h1 : match bakD rn x with | some q => r1 = q ∧ XE G z E1 tr lf n f g bf m2 kd pa ln ts ga gb va rn cn vs hr la lg sc ∧ ∀ x9, 63 ≤ x9 → E1 x9 = E x9 | none => r1 = nI (rn - x.toNatClampNeg) ∧ XE G z E1 tr lf n f g bf m2 kd pa ln ts ga gb va (rn - x.toNatClampNeg) cn vs hr la lg sc ∧ ∀ x9, 63 ≤ x9 → E1 x9 = E x9) (h2 : match bakD rn x with | some q => r2 = q ∧ ME G z E2 tr lf n mf mg mb m2 mk mp ln ts ga gb va rn cn vs so sg ce ∧ ∀ x9, (x9 < 63 ∨ x9 = 81) → E2 x9 = E1 x9 | none => r2 = nI (rn - x.toNatClampNeg) ∧ ME G z E2 tr lf n mf mg mb m2 mk mp ln ts ga gb va (rn - x.toNatClampNeg) cn vs so sg ce ∧ ∀ x9, (x9 < 63 ∨ x9 = 81) → E2 x9 = E1 x9) : r1 = r2 ∧ IV G z E2 := by
  cases hD : bakD rn x with
  | some q =>
    rw [hD] at h1 h2
    obtain ⟨rfl, h2a, h3⟩ := h1
    obtain ⟨rfl, h4, h5⟩ := h2
    skip
    exact ⟨rfl, IV_mk h2a (fun x h9 => h5 x (Or.inl h9)) h4 ((h5 81 (Or.inr rfl)).trans ((h3 81 (by decide)).trans h81)) hR⟩
  | none =>
    rw [hD] at h1 h2
    obtain ⟨rfl, h2a, h3⟩ := h1
    obtain ⟨rfl, h4, h5⟩ := h2
    have hR2 := RL_back (c := rn - x.toNatClampNeg) hR (Nat.sub_le _ _)
    exact ⟨rfl, IV_mk h2a (fun x h9 => h5 x (Or.inl h9)) h4 ((h5 81 (Or.inr rfl)).trans ((h3 81 (by decide)).trans h81)) hR2⟩

theorem st_reading {x : Int32} {v : Int64} {r1 r2 : Int32} (hX : XE G z E tr lf n f g bf m2 kd pa ln ts ga gb va rn cn vs hr la lg sc) (hM : ME G z E tr lf n mf mg mb m2 mk mp ln ts ga gb va rn cn vs so sg ce) (h81 : E 81 = qa_I G 64 lq) (hR : RQ n m2 ln rn f g bf kd pa ts ga gb va cn hr la lg sc mf mg mb mk mp so sg ce) (h1 : match rdgD n rn x v with | some d => r1 = d ∧ XE G z E1 tr lf n f g bf m2 kd pa ln ts ga gb va rn cn vs hr la lg sc ∧ ∀ x9, 63 ≤ x9 → E1 x9 = E x9 | none => r1 = nI rn ∧ XE G z E1 tr lf n f g bf m2 kd pa ln ts ga gb va (rn + 1) (upN cn rn x.toNatClampNeg) (vp_updL vs rn v) hr la lg sc ∧ ∀ x9, 63 ≤ x9 → E1 x9 = E x9) (h2 : match rdgD n rn x v with | some d => r2 = d ∧ ME G z E2 tr lf n mf mg mb m2 mk mp ln ts ga gb va rn cn vs so sg ce ∧ ∀ x9, (x9 < 63 ∨ x9 = 81) → E2 x9 = E1 x9 | none => r2 = nI rn ∧ ME G z E2 tr lf n mf mg mb m2 mk mp ln ts ga gb va (rn + 1) (upN cn rn x.toNatClampNeg) (vp_updL vs rn v) so sg ce ∧ ∀ x9, (x9 < 63 ∨ x9 = 81) → E2 x9 = E1 x9) : r1 = r2 ∧ IV G z E2 := by
  cases hD : rdgD n rn x v with
  | some q =>
    rw [hD] at h1 h2
    obtain ⟨rfl, h2a, h3⟩ := h1
    obtain ⟨rfl, h4, h5⟩ := h2
    skip
    exact ⟨rfl, IV_mk h2a (fun x h9 => h5 x (Or.inl h9)) h4 ((h5 81 (Or.inr rfl)).trans ((h3 81 (by decide)).trans h81)) hR⟩
  | none =>
    rw [hD] at h1 h2
    obtain ⟨a1, a2, a3⟩ := rdgD_none hR.1.1.1 hD
    obtain ⟨rfl, h2a, h3⟩ := h1
    obtain ⟨rfl, h4, h5⟩ := h2
    skip
    exact ⟨rfl, IV_mk h2a (fun x h9 => h5 x (Or.inl h9)) h4 ((h5 81 (Or.inr rfl)).trans ((h3 81 (by decide)).trans h81)) (RL_reading hR a1 a2)⟩

theorem st_add {x : Int32} {y : Int32} {v : Int64} {r1 r2 : Int32} (hX : XE G z E tr lf n f g bf m2 kd pa ln ts ga gb va rn cn vs hr la lg sc) (hM : ME G z E tr lf n mf mg mb m2 mk mp ln ts ga gb va rn cn vs so sg ce) (h81 : E 81 = qa_I G 64 lq) (hR : RQ n m2 ln rn f g bf kd pa ts ga gb va cn hr la lg sc mf mg mb mk mp so sg ce) (h1 : match actD n ln x y v with | some q => r1 = q ∧ XE G z E1 tr lf n f g bf m2 kd pa ln ts ga gb va rn cn vs hr la lg sc ∧ ∀ x9, 63 ≤ x9 → E1 x9 = E x9 | none => r1 = nI (ln + 1) ∧ XE G z E1 tr lf n (actF f 0 (amt 0 m2 kd pa v) x.toNatClampNeg (y.toNatClampNeg + 1 - x.toNatClampNeg)) (hisF g f 0 (amt 0 m2 kd pa v) x.toNatClampNeg (y.toNatClampNeg + 1 - x.toNatClampNeg)) bf m2 kd pa (ln + 1) (upd ts ln 0) (upN ga ln x.toNatClampNeg) (upN gb ln y.toNatClampNeg) (vp_updL va ln v) rn cn vs hr la lg sc ∧ ∀ x9, 63 ≤ x9 → E1 x9 = E x9) (h2 : match actD n ln x y v with | some q => r2 = q ∧ ME G z E2 tr lf n mf mg mb m2 mk mp ln ts ga gb va rn cn vs so sg ce ∧ ∀ x9, (x9 < 63 ∨ x9 = 81) → E2 x9 = E1 x9 | none => r2 = nI (ln + 1) ∧ ME G z E2 tr lf n (actF mf 0 (amt 0 m2 mk mp v) x.toNatClampNeg (y.toNatClampNeg + 1 - x.toNatClampNeg)) (hisF mg mf 0 (amt 0 m2 mk mp v) x.toNatClampNeg (y.toNatClampNeg + 1 - x.toNatClampNeg)) mb m2 mk mp (ln + 1) (upd ts ln 0) (upN ga ln x.toNatClampNeg) (upN gb ln y.toNatClampNeg) (vp_updL va ln v) rn cn vs so sg ce ∧ ∀ x9, (x9 < 63 ∨ x9 = 81) → E2 x9 = E1 x9) : r1 = r2 ∧ IV G z E2 := by
  cases hD : actD n ln x y v with
  | some q =>
    rw [hD] at h1 h2
    obtain ⟨rfl, h2a, h3⟩ := h1
    obtain ⟨rfl, h4, h5⟩ := h2
    skip
    exact ⟨rfl, IV_mk h2a (fun x h9 => h5 x (Or.inl h9)) h4 ((h5 81 (Or.inr rfl)).trans ((h3 81 (by decide)).trans h81)) hR⟩
  | none =>
    rw [hD] at h1 h2
    obtain ⟨c0, hl9⟩ := actD_none hD
    obtain ⟨a, b, hab, hbn, ea, eb⟩ := rfR_ok hR.1.1.1 (rmR_ok c0)
    have eA : x.toNatClampNeg = a := by rw [ea]; exact nI_clamp (by have := hR.1.1.1; omega)
    have eB : y.toNatClampNeg = b := by rw [eb]; exact nI_clamp (by have := hR.1.1.1; omega)
    rw [eA, eB] at h1 h2
    rw [amt_cg hR.2.2.2.1 hR.1.1.2.1] at h2
    obtain ⟨rfl, h2a, h3⟩ := h1
    obtain ⟨rfl, h4, h5⟩ := h2
    skip
    exact ⟨rfl, IV_mk h2a (fun x h9 => h5 x (Or.inl h9)) h4 ((h5 81 (Or.inr rfl)).trans ((h3 81 (by decide)).trans h81)) (RL_act hR hl9 hab hbn (by decide) (fun w => absurd w (by decide)))⟩

theorem st_cap {x : Int32} {y : Int32} {v : Int64} {r1 r2 : Int32} (hX : XE G z E tr lf n f g bf m2 kd pa ln ts ga gb va rn cn vs hr la lg sc) (hM : ME G z E tr lf n mf mg mb m2 mk mp ln ts ga gb va rn cn vs so sg ce) (h81 : E 81 = qa_I G 64 lq) (hR : RQ n m2 ln rn f g bf kd pa ts ga gb va cn hr la lg sc mf mg mb mk mp so sg ce) (h1 : match actD n ln x y v with | some q => r1 = q ∧ XE G z E1 tr lf n f g bf m2 kd pa ln ts ga gb va rn cn vs hr la lg sc ∧ ∀ x9, 63 ≤ x9 → E1 x9 = E x9 | none => r1 = nI (othN f 1 (amt 1 m2 kd pa v) x.toNatClampNeg (y.toNatClampNeg + 1 - x.toNatClampNeg)) ∧ XE G z E1 tr lf n (actF f 1 (amt 1 m2 kd pa v) x.toNatClampNeg (y.toNatClampNeg + 1 - x.toNatClampNeg)) (hisF g f 1 (amt 1 m2 kd pa v) x.toNatClampNeg (y.toNatClampNeg + 1 - x.toNatClampNeg)) bf m2 kd pa (ln + 1) (upd ts ln 1) (upN ga ln x.toNatClampNeg) (upN gb ln y.toNatClampNeg) (vp_updL va ln v) rn cn vs hr la lg sc ∧ ∀ x9, 63 ≤ x9 → E1 x9 = E x9) (h2 : match actD n ln x y v with | some q => r2 = q ∧ ME G z E2 tr lf n mf mg mb m2 mk mp ln ts ga gb va rn cn vs so sg ce ∧ ∀ x9, (x9 < 63 ∨ x9 = 81) → E2 x9 = E1 x9 | none => r2 = nI (othN mf 1 (amt 1 m2 mk mp v) x.toNatClampNeg (y.toNatClampNeg + 1 - x.toNatClampNeg)) ∧ ME G z E2 tr lf n (actF mf 1 (amt 1 m2 mk mp v) x.toNatClampNeg (y.toNatClampNeg + 1 - x.toNatClampNeg)) (hisF mg mf 1 (amt 1 m2 mk mp v) x.toNatClampNeg (y.toNatClampNeg + 1 - x.toNatClampNeg)) mb m2 mk mp (ln + 1) (upd ts ln 1) (upN ga ln x.toNatClampNeg) (upN gb ln y.toNatClampNeg) (vp_updL va ln v) rn cn vs so sg ce ∧ ∀ x9, (x9 < 63 ∨ x9 = 81) → E2 x9 = E1 x9) : r1 = r2 ∧ IV G z E2 := by
  cases hD : actD n ln x y v with
  | some q =>
    rw [hD] at h1 h2
    obtain ⟨rfl, h2a, h3⟩ := h1
    obtain ⟨rfl, h4, h5⟩ := h2
    skip
    exact ⟨rfl, IV_mk h2a (fun x h9 => h5 x (Or.inl h9)) h4 ((h5 81 (Or.inr rfl)).trans ((h3 81 (by decide)).trans h81)) hR⟩
  | none =>
    rw [hD] at h1 h2
    obtain ⟨c0, hl9⟩ := actD_none hD
    obtain ⟨a, b, hab, hbn, ea, eb⟩ := rfR_ok hR.1.1.1 (rmR_ok c0)
    have eA : x.toNatClampNeg = a := by rw [ea]; exact nI_clamp (by have := hR.1.1.1; omega)
    have eB : y.toNatClampNeg = b := by rw [eb]; exact nI_clamp (by have := hR.1.1.1; omega)
    rw [eA, eB] at h1 h2
    rw [amt_cg hR.2.2.2.1 hR.1.1.2.1] at h2
    rw [othN_cg (n := n) (fun k hk => (hR.2.2.1 k hk).1) (show a + (b + 1 - a) ≤ n by omega)] at h2
    obtain ⟨rfl, h2a, h3⟩ := h1
    obtain ⟨rfl, h4, h5⟩ := h2
    skip
    exact ⟨rfl, IV_mk h2a (fun x h9 => h5 x (Or.inl h9)) h4 ((h5 81 (Or.inr rfl)).trans ((h3 81 (by decide)).trans h81)) (RL_act hR hl9 hab hbn (by decide) (fun w => absurd w (by decide)))⟩

theorem st_floor {x : Int32} {y : Int32} {v : Int64} {r1 r2 : Int32} (hX : XE G z E tr lf n f g bf m2 kd pa ln ts ga gb va rn cn vs hr la lg sc) (hM : ME G z E tr lf n mf mg mb m2 mk mp ln ts ga gb va rn cn vs so sg ce) (h81 : E 81 = qa_I G 64 lq) (hR : RQ n m2 ln rn f g bf kd pa ts ga gb va cn hr la lg sc mf mg mb mk mp so sg ce) (h1 : match actD n ln x y v with | some q => r1 = q ∧ XE G z E1 tr lf n f g bf m2 kd pa ln ts ga gb va rn cn vs hr la lg sc ∧ ∀ x9, 63 ≤ x9 → E1 x9 = E x9 | none => r1 = nI (othN f 2 (amt 2 m2 kd pa v) x.toNatClampNeg (y.toNatClampNeg + 1 - x.toNatClampNeg)) ∧ XE G z E1 tr lf n (actF f 2 (amt 2 m2 kd pa v) x.toNatClampNeg (y.toNatClampNeg + 1 - x.toNatClampNeg)) (hisF g f 2 (amt 2 m2 kd pa v) x.toNatClampNeg (y.toNatClampNeg + 1 - x.toNatClampNeg)) bf m2 kd pa (ln + 1) (upd ts ln 2) (upN ga ln x.toNatClampNeg) (upN gb ln y.toNatClampNeg) (vp_updL va ln v) rn cn vs hr la lg sc ∧ ∀ x9, 63 ≤ x9 → E1 x9 = E x9) (h2 : match actD n ln x y v with | some q => r2 = q ∧ ME G z E2 tr lf n mf mg mb m2 mk mp ln ts ga gb va rn cn vs so sg ce ∧ ∀ x9, (x9 < 63 ∨ x9 = 81) → E2 x9 = E1 x9 | none => r2 = nI (othN mf 2 (amt 2 m2 mk mp v) x.toNatClampNeg (y.toNatClampNeg + 1 - x.toNatClampNeg)) ∧ ME G z E2 tr lf n (actF mf 2 (amt 2 m2 mk mp v) x.toNatClampNeg (y.toNatClampNeg + 1 - x.toNatClampNeg)) (hisF mg mf 2 (amt 2 m2 mk mp v) x.toNatClampNeg (y.toNatClampNeg + 1 - x.toNatClampNeg)) mb m2 mk mp (ln + 1) (upd ts ln 2) (upN ga ln x.toNatClampNeg) (upN gb ln y.toNatClampNeg) (vp_updL va ln v) rn cn vs so sg ce ∧ ∀ x9, (x9 < 63 ∨ x9 = 81) → E2 x9 = E1 x9) : r1 = r2 ∧ IV G z E2 := by
  cases hD : actD n ln x y v with
  | some q =>
    rw [hD] at h1 h2
    obtain ⟨rfl, h2a, h3⟩ := h1
    obtain ⟨rfl, h4, h5⟩ := h2
    skip
    exact ⟨rfl, IV_mk h2a (fun x h9 => h5 x (Or.inl h9)) h4 ((h5 81 (Or.inr rfl)).trans ((h3 81 (by decide)).trans h81)) hR⟩
  | none =>
    rw [hD] at h1 h2
    obtain ⟨c0, hl9⟩ := actD_none hD
    obtain ⟨a, b, hab, hbn, ea, eb⟩ := rfR_ok hR.1.1.1 (rmR_ok c0)
    have eA : x.toNatClampNeg = a := by rw [ea]; exact nI_clamp (by have := hR.1.1.1; omega)
    have eB : y.toNatClampNeg = b := by rw [eb]; exact nI_clamp (by have := hR.1.1.1; omega)
    rw [eA, eB] at h1 h2
    rw [amt_cg hR.2.2.2.1 hR.1.1.2.1] at h2
    rw [othN_cg (n := n) (fun k hk => (hR.2.2.1 k hk).1) (show a + (b + 1 - a) ≤ n by omega)] at h2
    obtain ⟨rfl, h2a, h3⟩ := h1
    obtain ⟨rfl, h4, h5⟩ := h2
    skip
    exact ⟨rfl, IV_mk h2a (fun x h9 => h5 x (Or.inl h9)) h4 ((h5 81 (Or.inr rfl)).trans ((h3 81 (by decide)).trans h81)) (RL_act hR hl9 hab hbn (by decide) (fun w => absurd w (by decide)))⟩

theorem st_help {x : Int32} {y : Int32} {q : Int32} {w : Int32} {r1 r2 : Int32} (hX : XE G z E tr lf n f g bf m2 kd pa ln ts ga gb va rn cn vs hr la lg sc) (hM : ME G z E tr lf n mf mg mb m2 mk mp ln ts ga gb va rn cn vs so sg ce) (h81 : E 81 = qa_I G 64 lq) (hR : RQ n m2 ln rn f g bf kd pa ts ga gb va cn hr la lg sc mf mg mb mk mp so sg ce) (h1 : match helD n m2 ln x y q w with | some d => r1 = d ∧ XE G z E1 tr lf n f g bf m2 kd pa ln ts ga gb va rn cn vs hr la lg sc ∧ ∀ x9, 63 ≤ x9 → E1 x9 = E x9 | none => r1 = strg m2 kd pa x.toInt64 ∧ XE G z E1 tr lf n (actF f (if w = 1 then 3 else 4) (amt (if w = 1 then 3 else 4) m2 kd pa x.toInt64) y.toNatClampNeg (q.toNatClampNeg + 1 - y.toNatClampNeg)) (hisF g f (if w = 1 then 3 else 4) (amt (if w = 1 then 3 else 4) m2 kd pa x.toInt64) y.toNatClampNeg (q.toNatClampNeg + 1 - y.toNatClampNeg)) bf m2 kd pa (ln + 1) (upd ts ln (if w = 1 then 3 else 4)) (upN ga ln y.toNatClampNeg) (upN gb ln q.toNatClampNeg) (vp_updL va ln x.toInt64) rn cn vs hr la lg sc ∧ ∀ x9, 63 ≤ x9 → E1 x9 = E x9) (h2 : match helD n m2 ln x y q w with | some d => r2 = d ∧ ME G z E2 tr lf n mf mg mb m2 mk mp ln ts ga gb va rn cn vs so sg ce ∧ ∀ x9, (x9 < 63 ∨ x9 = 81) → E2 x9 = E1 x9 | none => r2 = strg m2 mk mp x.toInt64 ∧ ME G z E2 tr lf n (actF mf (if w = 1 then 3 else 4) (amt (if w = 1 then 3 else 4) m2 mk mp x.toInt64) y.toNatClampNeg (q.toNatClampNeg + 1 - y.toNatClampNeg)) (hisF mg mf (if w = 1 then 3 else 4) (amt (if w = 1 then 3 else 4) m2 mk mp x.toInt64) y.toNatClampNeg (q.toNatClampNeg + 1 - y.toNatClampNeg)) mb m2 mk mp (ln + 1) (upd ts ln (if w = 1 then 3 else 4)) (upN ga ln y.toNatClampNeg) (upN gb ln q.toNatClampNeg) (vp_updL va ln x.toInt64) rn cn vs so sg ce ∧ ∀ x9, (x9 < 63 ∨ x9 = 81) → E2 x9 = E1 x9) : r1 = r2 ∧ IV G z E2 := by
  cases hD : helD n m2 ln x y q w with
  | some q9 =>
    rw [hD] at h1 h2
    obtain ⟨rfl, h2a, h3⟩ := h1
    obtain ⟨rfl, h4, h5⟩ := h2
    skip
    exact ⟨rfl, IV_mk h2a (fun x h9 => h5 x (Or.inl h9)) h4 ((h5 81 (Or.inr rfl)).trans ((h3 81 (by decide)).trans h81)) hR⟩
  | none =>
    rw [hD] at h1 h2
    obtain ⟨c0, c1, c2, hl9⟩ := helD_none hD
    obtain ⟨a, b, hab, hbn, ea, eb⟩ := rfR_ok hR.1.1.1 c1
    obtain ⟨j, hj, ej⟩ := nI_of_in (by have := hR.1.1.2.1; omega) c0
    have eA : y.toNatClampNeg = a := by rw [ea]; exact nI_clamp (by have := hR.1.1.1; omega)
    have eB : q.toNatClampNeg = b := by rw [eb]; exact nI_clamp (by have := hR.1.1.1; omega)
    rw [eA, eB] at h1 h2
    rw [amt_cg hR.2.2.2.1 hR.1.1.2.1, strg_cg hR.2.2.2.1 hR.1.1.2.1] at h2
    obtain ⟨rfl, h2a, h3⟩ := h1
    obtain ⟨rfl, h4, h5⟩ := h2
    skip
    exact ⟨rfl, IV_mk h2a (fun x h9 => h5 x (Or.inl h9)) h4 ((h5 81 (Or.inr rfl)).trans ((h3 81 (by decide)).trans h81)) (RL_act hR hl9 hab hbn (ok34 w) (fun _ => ⟨j, hj, by rw [ej]; exact nI_l (by have := hR.1.1.2.1; omega)⟩))⟩

theorem st_fresh {r1 r2 : Int32} (hX : XE G z E tr lf n f g bf m2 kd pa ln ts ga gb va rn cn vs hr la lg sc) (hM : ME G z E tr lf n mf mg mb m2 mk mp ln ts ga gb va rn cn vs so sg ce) (h81 : E 81 = qa_I G 64 lq) (hR : RQ n m2 ln rn f g bf kd pa ts ga gb va cn hr la lg sc mf mg mb mk mp so sg ce) (h1 : match freD n with | some d => r1 = d ∧ XE G z E1 tr lf n f g bf m2 kd pa ln ts ga gb va rn cn vs hr la lg sc ∧ ∀ x9, 63 ≤ x9 → E1 x9 = E x9 | none => r1 = nI ln ∧ XE G z E1 tr lf n f f f m2 kd pa 0 ts ga gb va rn cn vs hr la lg sc ∧ ∀ x9, 63 ≤ x9 → E1 x9 = E x9) (h2 : match freD n with | some d => r2 = d ∧ ME G z E2 tr lf n mf mg mb m2 mk mp ln ts ga gb va rn cn vs so sg ce ∧ ∀ x9, (x9 < 63 ∨ x9 = 81) → E2 x9 = E1 x9 | none => r2 = nI ln ∧ ME G z E2 tr lf n mf (mixL mf mg n) (mixL mf mb n) m2 mk mp 0 ts ga gb va rn cn vs so sg ce ∧ ∀ x9, (x9 < 63 ∨ x9 = 81) → E2 x9 = E1 x9) : r1 = r2 ∧ IV G z E2 := by
  cases hD : freD n with
  | some q =>
    rw [hD] at h1 h2
    obtain ⟨rfl, h2a, h3⟩ := h1
    obtain ⟨rfl, h4, h5⟩ := h2
    skip
    exact ⟨rfl, IV_mk h2a (fun x h9 => h5 x (Or.inl h9)) h4 ((h5 81 (Or.inr rfl)).trans ((h3 81 (by decide)).trans h81)) hR⟩
  | none =>
    rw [hD] at h1 h2
    obtain ⟨rfl, h2a, h3⟩ := h1
    obtain ⟨rfl, h4, h5⟩ := h2
    skip
    exact ⟨rfl, IV_mk h2a (fun x h9 => h5 x (Or.inl h9)) h4 ((h5 81 (Or.inr rfl)).trans ((h3 81 (by decide)).trans h81)) (RL_fresh hR)⟩

theorem st_sheet {x : Int32} {y : Int32} {q : Int32} {r1 r2 : Int32} (hX : XE G z E tr lf n f g bf m2 kd pa ln ts ga gb va rn cn vs hr la lg sc) (hM : ME G z E tr lf n mf mg mb m2 mk mp ln ts ga gb va rn cn vs so sg ce) (h81 : E 81 = qa_I G 64 lq) (hR : RQ n m2 ln rn f g bf kd pa ts ga gb va cn hr la lg sc mf mg mb mk mp so sg ce) (h1 : match shtD x y q with | some u => r1 = u.1 ∧ XE G z E1 tr u.2 n f g bf m2 kd pa ln ts ga gb va rn cn vs hr la lg sc ∧ ∀ x9, 63 ≤ x9 → E1 x9 = E x9 | none => r1 = 1 ∧ XE G z E1 tr 0 n f g bf m2 kd pa ln ts ga gb va rn cn vs (upd hr x.toNatClampNeg 1) (upd la x.toNatClampNeg y) (upN lg x.toNatClampNeg q.toNatClampNeg) (upS sc x.toNatClampNeg (fun _ => 0)) ∧ ∀ x9, 63 ≤ x9 → E1 x9 = E x9) (h2 : match shtD x y q with | some u => r2 = u.1 ∧ ME G z E2 tr u.2 n mf mg mb m2 mk mp ln ts ga gb va rn cn vs so sg ce ∧ ∀ x9, (x9 < 63 ∨ x9 = 81) → E2 x9 = E1 x9 | none => r2 = 1 ∧ ME G z E2 tr 0 n mf mg mb m2 mk mp ln ts ga gb va rn cn vs (upd so x.toNatClampNeg y) (upd sg x.toNatClampNeg q) (zerF ce (60 * x.toNatClampNeg) 60) ∧ ∀ x9, (x9 < 63 ∨ x9 = 81) → E2 x9 = E1 x9) : r1 = r2 ∧ IV G z E2 := by
  cases hD : shtD x y q with
  | some u9 =>
    rw [hD] at h1 h2
    obtain ⟨rfl, h2a, h3⟩ := h1
    obtain ⟨rfl, h4, h5⟩ := h2
    skip
    exact ⟨rfl, IV_mk h2a (fun x h9 => h5 x (Or.inl h9)) h4 ((h5 81 (Or.inr rfl)).trans ((h3 81 (by decide)).trans h81)) hR⟩
  | none =>
    rw [hD] at h1 h2
    obtain ⟨c1, c2, v9, hv, ev⟩ := shtD_none hD
    obtain ⟨j, hj, ej⟩ := sh_ix c1
    have eV : q.toNatClampNeg = v9 := by rw [ev]; exact nI_clamp (by omega)
    rw [ej, eV] at h1
    rw [ej, ev] at h2
    obtain ⟨rfl, h2a, h3⟩ := h1
    obtain ⟨rfl, h4, h5⟩ := h2
    skip
    exact ⟨rfl, IV_mk h2a (fun x h9 => h5 x (Or.inl h9)) h4 ((h5 81 (Or.inr rfl)).trans ((h3 81 (by decide)).trans h81)) (RL_sheet hR hj c2 hv)⟩

theorem st_lose {x : Int32} {r1 r2 : Int32} (hX : XE G z E tr lf n f g bf m2 kd pa ln ts ga gb va rn cn vs hr la lg sc) (hM : ME G z E tr lf n mf mg mb m2 mk mp ln ts ga gb va rn cn vs so sg ce) (h81 : E 81 = qa_I G 64 lq) (hR : RQ n m2 ln rn f g bf kd pa ts ga gb va cn hr la lg sc mf mg mb mk mp so sg ce) (h1 : match losD x with | some q => r1 = q ∧ XE G z E1 tr lf n f g bf m2 kd pa ln ts ga gb va rn cn vs hr la lg sc ∧ ∀ x9, 63 ≤ x9 → E1 x9 = E x9 | none => r1 = hr x.toNatClampNeg ∧ XE G z E1 tr lf n f g bf m2 kd pa ln ts ga gb va rn cn vs (upd hr x.toNatClampNeg 0) (upd la x.toNatClampNeg (la x.toNatClampNeg)) (upN lg x.toNatClampNeg 0) (upS sc x.toNatClampNeg (sc x.toNatClampNeg)) ∧ ∀ x9, 63 ≤ x9 → E1 x9 = E x9) (h2 : match losD x with | some q => r2 = q ∧ ME G z E2 tr lf n mf mg mb m2 mk mp ln ts ga gb va rn cn vs so sg ce ∧ ∀ x9, (x9 < 63 ∨ x9 = 81) → E2 x9 = E1 x9 | none => r2 = hrM so x.toNatClampNeg ∧ ME G z E2 tr lf n mf mg mb m2 mk mp ln ts ga gb va rn cn vs (upd so x.toNatClampNeg (-9)) sg ce ∧ ∀ x9, (x9 < 63 ∨ x9 = 81) → E2 x9 = E1 x9) : r1 = r2 ∧ IV G z E2 := by
  cases hD : losD x with
  | some u9 =>
    rw [hD] at h1 h2
    obtain ⟨rfl, h2a, h3⟩ := h1
    obtain ⟨rfl, h4, h5⟩ := h2
    skip
    exact ⟨rfl, IV_mk h2a (fun x h9 => h5 x (Or.inl h9)) h4 ((h5 81 (Or.inr rfl)).trans ((h3 81 (by decide)).trans h81)) hR⟩
  | none =>
    rw [hD] at h1 h2
    obtain ⟨j, hj, ej⟩ := sh_ix (losD_none hD)
    rw [ej] at h1 h2
    obtain ⟨rfl, h2a, h3⟩ := h1
    obtain ⟨rfl, h4, h5⟩ := h2
    exact ⟨(hR.2.2.2.2 j hj).1, IV_mk h2a (fun x h9 => h5 x (Or.inl h9)) h4 ((h5 81 (Or.inr rfl)).trans ((h3 81 (by decide)).trans h81)) (RL_lose hR hj)⟩

theorem st_put {x : Int32} {y : Int32} {q : Int32} {r1 r2 : Int32} (hX : XE G z E tr lf n f g bf m2 kd pa ln ts ga gb va rn cn vs hr la lg sc) (hM : ME G z E tr lf n mf mg mb m2 mk mp ln ts ga gb va rn cn vs so sg ce) (h81 : E 81 = qa_I G 64 lq) (hR : RQ n m2 ln rn f g bf kd pa ts ga gb va cn hr la lg sc mf mg mb mk mp so sg ce) (h1 : match putD x y hr lg with | some u => r1 = u.1 ∧ XE G z E1 tr u.2 n f g bf m2 kd pa ln ts ga gb va rn cn vs hr la lg sc ∧ ∀ x9, 63 ≤ x9 → E1 x9 = E x9 | none => r1 = 1 ∧ XE G z E1 tr 0 n f g bf m2 kd pa ln ts ga gb va rn cn vs (upd hr x.toNatClampNeg (hr x.toNatClampNeg)) (upd la x.toNatClampNeg (la x.toNatClampNeg)) (upN lg x.toNatClampNeg (lg x.toNatClampNeg)) (upS sc x.toNatClampNeg (upd (sc x.toNatClampNeg) y.toNatClampNeg (cutF (la x.toNatClampNeg) q))) ∧ ∀ x9, 63 ≤ x9 → E1 x9 = E x9) (h2 : match putD x y (hrM so) (lgM sg) with | some u => r2 = u.1 ∧ ME G z E2 tr u.2 n mf mg mb m2 mk mp ln ts ga gb va rn cn vs so sg ce ∧ ∀ x9, (x9 < 63 ∨ x9 = 81) → E2 x9 = E1 x9 | none => r2 = 1 ∧ ME G z E2 tr 0 n mf mg mb m2 mk mp ln ts ga gb va rn cn vs so sg (upd ce (60 * x.toNatClampNeg + y.toNatClampNeg) (cutF (so x.toNatClampNeg) q)) ∧ ∀ x9, (x9 < 63 ∨ x9 = 81) → E2 x9 = E1 x9) : r1 = r2 ∧ IV G z E2 := by
  rw [putD_cg hR.2.2.2.2] at h2
  cases hD : putD x y hr lg with
  | some u9 =>
    rw [hD] at h1 h2
    obtain ⟨rfl, h2a, h3⟩ := h1
    obtain ⟨rfl, h4, h5⟩ := h2
    skip
    exact ⟨rfl, IV_mk h2a (fun x h9 => h5 x (Or.inl h9)) h4 ((h5 81 (Or.inr rfl)).trans ((h3 81 (by decide)).trans h81)) hR⟩
  | none =>
    rw [hD] at h1 h2
    obtain ⟨c1, c2, c3⟩ := putD_none hD
    obtain ⟨j, hj, ej⟩ := sh_ix c1
    rw [ej] at h1 h2 c2 c3
    obtain ⟨p, hp, ep⟩ := has_1 (hR.1.2.2.2.1 j hj) c3
    have eP : y.toNatClampNeg = p := by rw [ep]; exact nI_clamp (by have := hR.1.2.2.2.1 j hj; omega)
    rw [eP] at h1 h2
    obtain ⟨rfl, h2a, h3⟩ := h1
    obtain ⟨rfl, h4, h5⟩ := h2
    skip
    exact ⟨rfl, IV_mk h2a (fun x h9 => h5 x (Or.inl h9)) h4 ((h5 81 (Or.inr rfl)).trans ((h3 81 (by decide)).trans h81)) (RL_put hR hj c2 hp)⟩

theorem st_copy {x : Int32} {y : Int32} {q : Int32} {u : Int32} {v : Int32} {r1 r2 : Int32} (hX : XE G z E tr lf n f g bf m2 kd pa ln ts ga gb va rn cn vs hr la lg sc) (hM : ME G z E tr lf n mf mg mb m2 mk mp ln ts ga gb va rn cn vs so sg ce) (h81 : E 81 = qa_I G 64 lq) (hR : RQ n m2 ln rn f g bf kd pa ts ga gb va cn hr la lg sc mf mg mb mk mp so sg ce) (h1 : match cpyD x y q u v hr la lg with | some d => r1 = d.1 ∧ XE G z E1 tr d.2 n f g bf m2 kd pa ln ts ga gb va rn cn vs hr la lg sc ∧ ∀ x9, 63 ≤ x9 → E1 x9 = E x9 | none => r1 = v ∧ XE G z E1 tr 0 n f g bf m2 kd pa ln ts ga gb va rn cn vs (upd hr q.toNatClampNeg (hr q.toNatClampNeg)) (upd la q.toNatClampNeg (la q.toNatClampNeg)) (upN lg q.toNatClampNeg (lg q.toNatClampNeg)) (upS sc q.toNatClampNeg (va_cpy (sc x.toNatClampNeg) (sc q.toNatClampNeg) y.toNatClampNeg u.toNatClampNeg v.toNatClampNeg)) ∧ ∀ x9, 63 ≤ x9 → E1 x9 = E x9) (h2 : match cpyD x y q u v (hrM so) so (lgM sg) with | some d => r2 = d.1 ∧ ME G z E2 tr d.2 n mf mg mb m2 mk mp ln ts ga gb va rn cn vs so sg ce ∧ ∀ x9, (x9 < 63 ∨ x9 = 81) → E2 x9 = E1 x9 | none => r2 = v ∧ ME G z E2 tr 0 n mf mg mb m2 mk mp ln ts ga gb va rn cn vs so sg (va_cpy ce ce (60 * x.toNatClampNeg + y.toNatClampNeg) (60 * q.toNatClampNeg + u.toNatClampNeg) v.toNatClampNeg) ∧ ∀ x9, (x9 < 63 ∨ x9 = 81) → E2 x9 = E1 x9) : r1 = r2 ∧ IV G z E2 := by
  rw [cpyD_cg hR.2.2.2.2] at h2
  cases hD : cpyD x y q u v hr la lg with
  | some u9 =>
    rw [hD] at h1 h2
    obtain ⟨rfl, h2a, h3⟩ := h1
    obtain ⟨rfl, h4, h5⟩ := h2
    skip
    exact ⟨rfl, IV_mk h2a (fun x h9 => h5 x (Or.inl h9)) h4 ((h5 81 (Or.inr rfl)).trans ((h3 81 (by decide)).trans h81)) hR⟩
  | none =>
    rw [hD] at h1 h2
    obtain ⟨c1, c2, c3, c4, c5, c6, c7⟩ := cpyD_none hD
    obtain ⟨j, hj, ej⟩ := sh_ix c1
    obtain ⟨j2, hj2, ej2⟩ := sh_ix c2
    rw [ej] at h1 h2 c3 c5 c6
    rw [ej2] at h1 h2 c4 c5 c7
    have q1 := hR.1.2.2.2.1 j hj
    have q2 := hR.1.2.2.2.1 j2 hj2
    obtain ⟨y1, v1, ey, ev, hyv⟩ := has_n q1 c6
    obtain ⟨u1, v2, eu, ev2, huv⟩ := has_n q2 c7
    have evv : v1 = v2 := (nI_eq (by omega) (by omega)).mp (ev.symm.trans ev2)
    subst evv
    have Ey : y.toNatClampNeg = y1 := by rw [ey]; exact nI_clamp (by omega)
    have Eu : u.toNatClampNeg = u1 := by rw [eu]; exact nI_clamp (by omega)
    have Ev : v.toNatClampNeg = v1 := by rw [ev]; exact nI_clamp (by omega)
    rw [Ey, Eu, Ev] at h1 h2
    obtain ⟨rfl, h2a, h3⟩ := h1
    obtain ⟨rfl, h4, h5⟩ := h2
    skip
    exact ⟨rfl, IV_mk h2a (fun x h9 => h5 x (Or.inl h9)) h4 ((h5 81 (Or.inr rfl)).trans ((h3 81 (by decide)).trans h81)) (RL_copy hR hj hj2 c3 c4 hyv huv)⟩

theorem st_row {x : Int32} {y : Int32} {q : Int32} {u : Int32} {r1 r2 : Int32} (hX : XE G z E tr lf n f g bf m2 kd pa ln ts ga gb va rn cn vs hr la lg sc) (hM : ME G z E tr lf n mf mg mb m2 mk mp ln ts ga gb va rn cn vs so sg ce) (h81 : E 81 = qa_I G 64 lq) (hR : RQ n m2 ln rn f g bf kd pa ts ga gb va cn hr la lg sc mf mg mb mk mp so sg ce) (h1 : match rowD x y q u hr la lg sc with | some d => r1 = d.1 ∧ XE G z E1 tr d.2 n f g bf m2 kd pa ln ts ga gb va rn cn vs hr la lg sc ∧ ∀ x9, 63 ≤ x9 → E1 x9 = E x9 | none => ∃ (f' : Nat → Int64) (kd' pa' : Nat → Int32), r1 = nI (dgC (sc x.toNatClampNeg) q.toNatClampNeg u.toNatClampNeg) ∧ XE G z E1 tr 0 (dgC (sc x.toNatClampNeg) q.toNatClampNeg u.toNatClampNeg) f' f' f' (hpN (cdF (sc x.toNatClampNeg) q.toNatClampNeg u.toNatClampNeg) u.toNatClampNeg 3 (1 + dgC (sc x.toNatClampNeg) q.toNatClampNeg u.toNatClampNeg)) kd' pa' 0 ts ga gb va 0 cn vs hr la lg sc ∧ (1 ≤ dgC (sc x.toNatClampNeg) q.toNatClampNeg u.toNatClampNeg) ∧ (∀ t, t < dgC (sc x.toNatClampNeg) q.toNatClampNeg u.toNatClampNeg → f' t = (cdF (sc x.toNatClampNeg) q.toNatClampNeg u.toNatClampNeg (1 + t) - 48).toInt64) ∧ (∀ t, t < hpN (cdF (sc x.toNatClampNeg) q.toNatClampNeg u.toNatClampNeg) u.toNatClampNeg 3 (1 + dgC (sc x.toNatClampNeg) q.toNatClampNeg u.toNatClampNeg) → kd' t = knd (cdF (sc x.toNatClampNeg) q.toNatClampNeg u.toNatClampNeg (1 + dgC (sc x.toNatClampNeg) q.toNatClampNeg u.toNatClampNeg + 3 * t + 1)) ∧ pa' t = cdF (sc x.toNatClampNeg) q.toNatClampNeg u.toNatClampNeg (1 + dgC (sc x.toNatClampNeg) q.toNatClampNeg u.toNatClampNeg + 3 * t + 2) - 48) ∧ ∀ x9, 63 ≤ x9 → E1 x9 = E x9) (h2 : match rowD x y q u (hrM so) so (lgM sg) (scM ce) with | some d => r2 = d.1 ∧ ME G z E2 tr d.2 n mf mg mb m2 mk mp ln ts ga gb va rn cn vs so sg ce ∧ ∀ x9, (x9 < 63 ∨ x9 = 81) → E2 x9 = E1 x9 | none => ∃ (f' g' mb' : Nat → Int64) (kd' pa' : Nat → Int32), r2 = nI (dgC (scM ce x.toNatClampNeg) q.toNatClampNeg u.toNatClampNeg) ∧ ME G z E2 tr 0 (dgC (scM ce x.toNatClampNeg) q.toNatClampNeg u.toNatClampNeg) f' g' mb' (hpN (cdF (scM ce x.toNatClampNeg) q.toNatClampNeg u.toNatClampNeg) u.toNatClampNeg 3 (1 + dgC (scM ce x.toNatClampNeg) q.toNatClampNeg u.toNatClampNeg)) kd' pa' 0 ts ga gb va 0 cn vs so sg ce ∧ (1 ≤ dgC (scM ce x.toNatClampNeg) q.toNatClampNeg u.toNatClampNeg) ∧ (∀ t, t < dgC (scM ce x.toNatClampNeg) q.toNatClampNeg u.toNatClampNeg → f' t = (cdF (scM ce x.toNatClampNeg) q.toNatClampNeg u.toNatClampNeg (1 + t) - 48).toInt64 ∧ g' t = f' t ∧ mb' t = f' t) ∧ (∀ t, t < hpN (cdF (scM ce x.toNatClampNeg) q.toNatClampNeg u.toNatClampNeg) u.toNatClampNeg 3 (1 + dgC (scM ce x.toNatClampNeg) q.toNatClampNeg u.toNatClampNeg) → kd' t = knd (cdF (scM ce x.toNatClampNeg) q.toNatClampNeg u.toNatClampNeg (1 + dgC (scM ce x.toNatClampNeg) q.toNatClampNeg u.toNatClampNeg + 3 * t + 1)) ∧ pa' t = cdF (scM ce x.toNatClampNeg) q.toNatClampNeg u.toNatClampNeg (1 + dgC (scM ce x.toNatClampNeg) q.toNatClampNeg u.toNatClampNeg + 3 * t + 2) - 48) ∧ ∀ x9, (x9 < 63 ∨ x9 = 81) → E2 x9 = E1 x9) : r1 = r2 ∧ IV G z E2 := by
  rw [rowD_cg hR.2.2.2.2 hR.1.2.2.2.1] at h2
  cases hD : rowD x y q u hr la lg sc with
  | some u9 =>
    rw [hD] at h1 h2
    obtain ⟨rfl, h2a, h3⟩ := h1
    obtain ⟨rfl, h4, h5⟩ := h2
    skip
    exact ⟨rfl, IV_mk h2a (fun x h9 => h5 x (Or.inl h9)) h4 ((h5 81 (Or.inr rfl)).trans ((h3 81 (by decide)).trans h81)) hR⟩
  | none =>
    rw [hD] at h1 h2
    obtain ⟨c1, c2, c3, c4⟩ := rowD_none hD
    obtain ⟨j, hj, ej⟩ := sh_ix c1
    rw [ej] at h1 h2 c2 c3 c4
    have q1 := hR.1.2.2.2.1 j hj
    obtain ⟨a, m, ea, em, ham⟩ := has_n q1 c3
    have Ea : q.toNatClampNeg = a := by rw [ea]; exact nI_clamp (by omega)
    have Em : u.toNatClampNeg = m := by rw [em]; exact nI_clamp (by omega)
    rw [Ea, Em] at h1 h2 c4
    have hs9 := ((hR.2.2.2.2 j hj).2 (SR.one hR.2.2.2.2 hj (takF_1 c2))).2.2
    rw [dgC_cg hs9 (by omega), cdF_cg hs9 (by omega)] at h2
    obtain ⟨f1, kd1, pa1, rfl, h2a, g1, g2, g3, h3⟩ := h1
    obtain ⟨f2, g2', b2, kd2, pa2, rfl, h4, k1, k2, k3, h5⟩ := h2
    refine ⟨rfl, IV_mk h2a (fun x h9 => h5 x (Or.inl h9)) h4 ((h5 81 (Or.inr rfl)).trans ((h3 81 (by decide)).trans h81)) (RL_row hR (dgC_le ..) (hpN_le ..) (fun t ht => ⟨(k2 t ht).1.trans (g2 t ht).symm, (k2 t ht).2.1.trans ((k2 t ht).1.trans (g2 t ht).symm), (k2 t ht).2.2.trans ((k2 t ht).1.trans (g2 t ht).symm)⟩) (fun t ht => ⟨(k3 t ht).1.trans (g3 t ht).1.symm, (k3 t ht).2.trans (g3 t ht).2.symm⟩) (fun t ht => ?_))⟩
    rw [(k3 t ht).1]
    exact knd_ok (hpN_kn _ _ _ _ _ ht)
end STP
