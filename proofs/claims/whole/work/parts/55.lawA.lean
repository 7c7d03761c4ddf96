/-! the law: what holds all along it -/
def LC (p : Program) (s : State) (m : MethodId) (c : Code) (b L : Nat) (xs : Nat → Int32) (G : qh_G) (z : Nat) : Prop := p.tables.exec = Jvm.exec ∧ c.code = cL_law ∧ c.maxLocals = 4 ∧ s.vm.findClass RL = some m.cls ∧ (∀ w ∈ wsL_law, w.before #[Value.ref b] s = true) ∧ qh_K G s ∧ va_X b L xs s s.heap ∧ b < s.heap.size ∧ s.heap.size = z
theorem c_X8_add (l : Launch) (G : qh_G) (z M : Nat) (E : Nat → va_E) (tr : Int32) (lf : Int32) (n : Nat) (f : Nat → Int64) (g : Nat → Int64) (bf : Nat → Int64) (m2 : Nat) (kd : Nat → Int32) (pa : Nat → Int32) (ln : Nat) (ts : Nat → Int32) (ga : Nat → Nat) (gb : Nat → Nat) (va : Nat → Int64) (rn : Nat) (cn : Nat → Nat) (vs : Nat → Int64) (hr : Nat → Int32) (la : Nat → Int32) (lg : Nat → Nat) (sc : Nat → Nat → Int32) (hM : 84 ≤ M) (hX : XE G z E tr lf n f g bf m2 kd pa ln ts ga gb va rn cn vs hr la lg sc) (hW : XW n m2 ln rn ga gb cn lg hr) (x : Int32) (y : Int32) (v : Int64) : Met l yX8_add wsX8_add (qh_R 5) (qh_Pre G z M E [.ref (z + 0), .int x, .int y, .long v]) (qh_Q G z M (qh_i (fun r E' => match actD n ln x y v with | some q => r = q ∧ XE G z E' tr lf n f g bf m2 kd pa ln ts ga gb va rn cn vs hr la lg sc ∧ ∀ x9, 63 ≤ x9 → E' x9 = E x9 | none => r = nI (ln + 1) ∧ XE G z E' tr lf n (actF f 0 (amt 0 m2 kd pa v) x.toNatClampNeg (y.toNatClampNeg + 1 - x.toNatClampNeg)) (hisF g f 0 (amt 0 m2 kd pa v) x.toNatClampNeg (y.toNatClampNeg + 1 - x.toNatClampNeg)) bf m2 kd pa (ln + 1) (upd ts ln 0) (upN ga ln x.toNatClampNeg) (upN gb ln y.toNatClampNeg) (vp_updL va ln v) rn cn vs hr la lg sc ∧ ∀ x9, 63 ≤ x9 → E' x9 = E x9))) 0 0 (fun q => z ≤ q) :=
  (Nat.lt_or_ge ln 24).elim (fun h9 => c_X8_add_ok l G z M E tr lf n f g bf m2 kd pa ln ts ga gb va rn cn vs hr la lg sc hM hX hW x y v h9) (fun h9 => c_X8_add_full l G z M E tr lf n f g bf m2 kd pa ln ts ga gb va rn cn vs hr la lg sc hM hX hW x y v h9)

theorem c_X8_cap (l : Launch) (G : qh_G) (z M : Nat) (E : Nat → va_E) (tr : Int32) (lf : Int32) (n : Nat) (f : Nat → Int64) (g : Nat → Int64) (bf : Nat → Int64) (m2 : Nat) (kd : Nat → Int32) (pa : Nat → Int32) (ln : Nat) (ts : Nat → Int32) (ga : Nat → Nat) (gb : Nat → Nat) (va : Nat → Int64) (rn : Nat) (cn : Nat → Nat) (vs : Nat → Int64) (hr : Nat → Int32) (la : Nat → Int32) (lg : Nat → Nat) (sc : Nat → Nat → Int32) (hM : 84 ≤ M) (hX : XE G z E tr lf n f g bf m2 kd pa ln ts ga gb va rn cn vs hr la lg sc) (hW : XW n m2 ln rn ga gb cn lg hr) (x : Int32) (y : Int32) (v : Int64) : Met l yX8_cap wsX8_cap (qh_R 5) (qh_Pre G z M E [.ref (z + 0), .int x, .int y, .long v]) (qh_Q G z M (qh_i (fun r E' => match actD n ln x y v with | some q => r = q ∧ XE G z E' tr lf n f g bf m2 kd pa ln ts ga gb va rn cn vs hr la lg sc ∧ ∀ x9, 63 ≤ x9 → E' x9 = E x9 | none => r = nI (othN f 1 (amt 1 m2 kd pa v) x.toNatClampNeg (y.toNatClampNeg + 1 - x.toNatClampNeg)) ∧ XE G z E' tr lf n (actF f 1 (amt 1 m2 kd pa v) x.toNatClampNeg (y.toNatClampNeg + 1 - x.toNatClampNeg)) (hisF g f 1 (amt 1 m2 kd pa v) x.toNatClampNeg (y.toNatClampNeg + 1 - x.toNatClampNeg)) bf m2 kd pa (ln + 1) (upd ts ln 1) (upN ga ln x.toNatClampNeg) (upN gb ln y.toNatClampNeg) (vp_updL va ln v) rn cn vs hr la lg sc ∧ ∀ x9, 63 ≤ x9 → E' x9 = E x9))) 0 0 (fun q => z ≤ q) :=
  (Nat.lt_or_ge ln 24).elim (fun h9 => c_X8_cap_ok l G z M E tr lf n f g bf m2 kd pa ln ts ga gb va rn cn vs hr la lg sc hM hX hW x y v h9) (fun h9 => c_X8_cap_full l G z M E tr lf n f g bf m2 kd pa ln ts ga gb va rn cn vs hr la lg sc hM hX hW x y v h9)

theorem c_X8_floor (l : Launch) (G : qh_G) (z M : Nat) (E : Nat → va_E) (tr : Int32) (lf : Int32) (n : Nat) (f : Nat → Int64) (g : Nat → Int64) (bf : Nat → Int64) (m2 : Nat) (kd : Nat → Int32) (pa : Nat → Int32) (ln : Nat) (ts : Nat → Int32) (ga : Nat → Nat) (gb : Nat → Nat) (va : Nat → Int64) (rn : Nat) (cn : Nat → Nat) (vs : Nat → Int64) (hr : Nat → Int32) (la : Nat → Int32) (lg : Nat → Nat) (sc : Nat → Nat → Int32) (hM : 84 ≤ M) (hX : XE G z E tr lf n f g bf m2 kd pa ln ts ga gb va rn cn vs hr la lg sc) (hW : XW n m2 ln rn ga gb cn lg hr) (x : Int32) (y : Int32) (v : Int64) : Met l yX8_floor wsX8_floor (qh_R 5) (qh_Pre G z M E [.ref (z + 0), .int x, .int y, .long v]) (qh_Q G z M (qh_i (fun r E' => match actD n ln x y v with | some q => r = q ∧ XE G z E' tr lf n f g bf m2 kd pa ln ts ga gb va rn cn vs hr la lg sc ∧ ∀ x9, 63 ≤ x9 → E' x9 = E x9 | none => r = nI (othN f 2 (amt 2 m2 kd pa v) x.toNatClampNeg (y.toNatClampNeg + 1 - x.toNatClampNeg)) ∧ XE G z E' tr lf n (actF f 2 (amt 2 m2 kd pa v) x.toNatClampNeg (y.toNatClampNeg + 1 - x.toNatClampNeg)) (hisF g f 2 (amt 2 m2 kd pa v) x.toNatClampNeg (y.toNatClampNeg + 1 - x.toNatClampNeg)) bf m2 kd pa (ln + 1) (upd ts ln 2) (upN ga ln x.toNatClampNeg) (upN gb ln y.toNatClampNeg) (vp_updL va ln v) rn cn vs hr la lg sc ∧ ∀ x9, 63 ≤ x9 → E' x9 = E x9))) 0 0 (fun q => z ≤ q) :=
  (Nat.lt_or_ge ln 24).elim (fun h9 => c_X8_floor_ok l G z M E tr lf n f g bf m2 kd pa ln ts ga gb va rn cn vs hr la lg sc hM hX hW x y v h9) (fun h9 => c_X8_floor_full l G z M E tr lf n f g bf m2 kd pa ln ts ga gb va rn cn vs hr la lg sc hM hX hW x y v h9)

theorem c_X8_help (l : Launch) (G : qh_G) (z M : Nat) (E : Nat → va_E) (tr : Int32) (lf : Int32) (n : Nat) (f : Nat → Int64) (g : Nat → Int64) (bf : Nat → Int64) (m2 : Nat) (kd : Nat → Int32) (pa : Nat → Int32) (ln : Nat) (ts : Nat → Int32) (ga : Nat → Nat) (gb : Nat → Nat) (va : Nat → Int64) (rn : Nat) (cn : Nat → Nat) (vs : Nat → Int64) (hr : Nat → Int32) (la : Nat → Int32) (lg : Nat → Nat) (sc : Nat → Nat → Int32) (hM : 84 ≤ M) (hX : XE G z E tr lf n f g bf m2 kd pa ln ts ga gb va rn cn vs hr la lg sc) (hW : XW n m2 ln rn ga gb cn lg hr) (x : Int32) (y : Int32) (q : Int32) (w : Int32) : Met l yX8_help wsX8_help (qh_R 5) (qh_Pre G z M E [.ref (z + 0), .int x, .int y, .int q, .int w]) (qh_Q G z M (qh_i (fun r E' => match helD n m2 ln x y q w with | some d => r = d ∧ XE G z E' tr lf n f g bf m2 kd pa ln ts ga gb va rn cn vs hr la lg sc ∧ ∀ x9, 63 ≤ x9 → E' x9 = E x9 | none => r = strg m2 kd pa x.toInt64 ∧ XE G z E' tr lf n (actF f (if w = 1 then 3 else 4) (amt (if w = 1 then 3 else 4) m2 kd pa x.toInt64) y.toNatClampNeg (q.toNatClampNeg + 1 - y.toNatClampNeg)) (hisF g f (if w = 1 then 3 else 4) (amt (if w = 1 then 3 else 4) m2 kd pa x.toInt64) y.toNatClampNeg (q.toNatClampNeg + 1 - y.toNatClampNeg)) bf m2 kd pa (ln + 1) (upd ts ln (if w = 1 then 3 else 4)) (upN ga ln y.toNatClampNeg) (upN gb ln q.toNatClampNeg) (vp_updL va ln x.toInt64) rn cn vs hr la lg sc ∧ ∀ x9, 63 ≤ x9 → E' x9 = E x9))) 0 0 (fun q => z ≤ q) :=
  (Nat.lt_or_ge ln 24).elim (fun h9 => c_X8_help_ok l G z M E tr lf n f g bf m2 kd pa ln ts ga gb va rn cn vs hr la lg sc hM hX hW x y q w h9) (fun h9 => c_X8_help_full l G z M E tr lf n f g bf m2 kd pa ln ts ga gb va rn cn vs hr la lg sc hM hX hW x y q w h9)

theorem c_X8_reading (l : Launch) (G : qh_G) (z M : Nat) (E : Nat → va_E) (tr : Int32) (lf : Int32) (n : Nat) (f : Nat → Int64) (g : Nat → Int64) (bf : Nat → Int64) (m2 : Nat) (kd : Nat → Int32) (pa : Nat → Int32) (ln : Nat) (ts : Nat → Int32) (ga : Nat → Nat) (gb : Nat → Nat) (va : Nat → Int64) (rn : Nat) (cn : Nat → Nat) (vs : Nat → Int64) (hr : Nat → Int32) (la : Nat → Int32) (lg : Nat → Nat) (sc : Nat → Nat → Int32) (hM : 84 ≤ M) (hX : XE G z E tr lf n f g bf m2 kd pa ln ts ga gb va rn cn vs hr la lg sc) (hW : XW n m2 ln rn ga gb cn lg hr) (x : Int32) (v : Int64) : Met l yX8_reading wsX8_reading (qh_R 1) (qh_Pre G z M E [.ref (z + 0), .int x, .long v]) (qh_Q G z M (qh_i (fun r E' => match rdgD n rn x v with | some d => r = d ∧ XE G z E' tr lf n f g bf m2 kd pa ln ts ga gb va rn cn vs hr la lg sc ∧ ∀ x9, 63 ≤ x9 → E' x9 = E x9 | none => r = nI rn ∧ XE G z E' tr lf n f g bf m2 kd pa ln ts ga gb va (rn + 1) (upN cn rn x.toNatClampNeg) (vp_updL vs rn v) hr la lg sc ∧ ∀ x9, 63 ≤ x9 → E' x9 = E x9))) 0 0 (fun q => z ≤ q) :=
  (Nat.lt_or_ge rn 8).elim (fun h9 => c_X8_reading_ok l G z M E tr lf n f g bf m2 kd pa ln ts ga gb va rn cn vs hr la lg sc hM hX hW x v h9) (fun h9 => c_X8_reading_full l G z M E tr lf n f g bf m2 kd pa ln ts ga gb va rn cn vs hr la lg sc hM hX hW x v h9)

section FRM
variable {G : qh_G} {z : Nat} {E E1 E2 : Nat → va_E} {tr : Int32} {lf : Int32} {n : Nat} {f : Nat → Int64} {g : Nat → Int64} {bf : Nat → Int64} {m2 : Nat} {kd : Nat → Int32} {pa : Nat → Int32} {ln : Nat} {ts : Nat → Int32} {ga : Nat → Nat} {gb : Nat → Nat} {va : Nat → Int64} {rn : Nat} {cn : Nat → Nat} {vs : Nat → Int64} {hr : Nat → Int32} {la : Nat → Int32} {lg : Nat → Nat} {sc : Nat → Nat → Int32} {mf : Nat → Int64} {mg : Nat → Int64} {mb : Nat → Int64} {mk : Nat → Int32} {mp : Nat → Int32} {so : Nat → Int32} {sg : Nat → Int32} {ce : Nat → Int32} {lq : Nat → Int32}
theorem XE_root (h : XE G z E tr lf n f g bf m2 kd pa ln ts ga gb va rn cn vs hr la lg sc) : ∃ fs, E 0 = .inr (8, fs) := by
  obtain ⟨tc, dg, hn0, tk, tp, gn, gk, gp, t0, a0, b0, v0, bg, tn, tf, tg, b0, _⟩ := h
  exact ⟨_, b0⟩
theorem ME_root (h : ME G z E tr lf n mf mg mb m2 mk mp ln ts ga gb va rn cn vs so sg ce) : ∃ fs, E 63 = .inr (9, fs) := by
  obtain ⟨pt, rm, rh, sf, sl, r1, r2, r3, k1, k2, b0, _⟩ := h
  exact ⟨_, b0⟩
theorem fr_row {x : Int32} {y : Int32} {q : Int32} {u : Int32} {r1 : Int32} (hp1 : match rowD x y q u hr la lg sc with | some d => r1 = d.1 ∧ XE G z E1 tr d.2 n f g bf m2 kd pa ln ts ga gb va rn cn vs hr la lg sc ∧ ∀ x9, 63 ≤ x9 → E1 x9 = E x9 | none => ∃ (f' : Nat → Int64) (kd' pa' : Nat → Int32), r1 = nI (dgC (sc x.toNatClampNeg) q.toNatClampNeg u.toNatClampNeg) ∧ XE G z E1 tr 0 (dgC (sc x.toNatClampNeg) q.toNatClampNeg u.toNatClampNeg) f' f' f' (hpN (cdF (sc x.toNatClampNeg) q.toNatClampNeg u.toNatClampNeg) u.toNatClampNeg 3 (1 + dgC (sc x.toNatClampNeg) q.toNatClampNeg u.toNatClampNeg)) kd' pa' 0 ts ga gb va 0 cn vs hr la lg sc ∧ (1 ≤ dgC (sc x.toNatClampNeg) q.toNatClampNeg u.toNatClampNeg) ∧ (∀ t, t < dgC (sc x.toNatClampNeg) q.toNatClampNeg u.toNatClampNeg → f' t = (cdF (sc x.toNatClampNeg) q.toNatClampNeg u.toNatClampNeg (1 + t) - 48).toInt64) ∧ (∀ t, t < hpN (cdF (sc x.toNatClampNeg) q.toNatClampNeg u.toNatClampNeg) u.toNatClampNeg 3 (1 + dgC (sc x.toNatClampNeg) q.toNatClampNeg u.toNatClampNeg) → kd' t = knd (cdF (sc x.toNatClampNeg) q.toNatClampNeg u.toNatClampNeg (1 + dgC (sc x.toNatClampNeg) q.toNatClampNeg u.toNatClampNeg + 3 * t + 1)) ∧ pa' t = cdF (sc x.toNatClampNeg) q.toNatClampNeg u.toNatClampNeg (1 + dgC (sc x.toNatClampNeg) q.toNatClampNeg u.toNatClampNeg + 3 * t + 2) - 48) ∧ ∀ x9, 63 ≤ x9 → E1 x9 = E x9) : ∀ x9, 63 ≤ x9 → E1 x9 = E x9 := by
  cases hD : rowD x y q u hr la lg sc with
  | some q9 => rw [hD] at hp1; exact hp1.2.2
  | none => rw [hD] at hp1; obtain ⟨_, _, _, _, _, _, _, _, h⟩ := hp1; exact h

theorem fr_ofHelper {x : Int32} {y : Int32} {r1 : Int32} (hp1 : E = E1 ∧ r1 = ohR m2 kd pa ln ts va x y) : ∀ x9, 63 ≤ x9 → E1 x9 = E x9 := fun x9 _ => congrFun hp1.1.symm x9

theorem fr_at {x : Int32} {y : Int32} {r1 : Int64} (hp1 : E = E1 ∧ r1 = atR n f g x y) : ∀ x9, 63 ≤ x9 → E1 x9 = E x9 := fun x9 _ => congrFun hp1.1.symm x9

theorem fr_add {x : Int32} {y : Int32} {v : Int64} {r1 : Int32} (hp1 : match actD n ln x y v with | some q => r1 = q ∧ XE G z E1 tr lf n f g bf m2 kd pa ln ts ga gb va rn cn vs hr la lg sc ∧ ∀ x9, 63 ≤ x9 → E1 x9 = E x9 | none => r1 = nI (ln + 1) ∧ XE G z E1 tr lf n (actF f 0 (amt 0 m2 kd pa v) x.toNatClampNeg (y.toNatClampNeg + 1 - x.toNatClampNeg)) (hisF g f 0 (amt 0 m2 kd pa v) x.toNatClampNeg (y.toNatClampNeg + 1 - x.toNatClampNeg)) bf m2 kd pa (ln + 1) (upd ts ln 0) (upN ga ln x.toNatClampNeg) (upN gb ln y.toNatClampNeg) (vp_updL va ln v) rn cn vs hr la lg sc ∧ ∀ x9, 63 ≤ x9 → E1 x9 = E x9) : ∀ x9, 63 ≤ x9 → E1 x9 = E x9 := by
  cases hD : actD n ln x y v with
  | some q9 => rw [hD] at hp1; exact hp1.2.2
  | none => rw [hD] at hp1; exact hp1.2.2

theorem fr_cap {x : Int32} {y : Int32} {v : Int64} {r1 : Int32} (hp1 : match actD n ln x y v with | some q => r1 = q ∧ XE G z E1 tr lf n f g bf m2 kd pa ln ts ga gb va rn cn vs hr la lg sc ∧ ∀ x9, 63 ≤ x9 → E1 x9 = E x9 | none => r1 = nI (othN f 1 (amt 1 m2 kd pa v) x.toNatClampNeg (y.toNatClampNeg + 1 - x.toNatClampNeg)) ∧ XE G z E1 tr lf n (actF f 1 (amt 1 m2 kd pa v) x.toNatClampNeg (y.toNatClampNeg + 1 - x.toNatClampNeg)) (hisF g f 1 (amt 1 m2 kd pa v) x.toNatClampNeg (y.toNatClampNeg + 1 - x.toNatClampNeg)) bf m2 kd pa (ln + 1) (upd ts ln 1) (upN ga ln x.toNatClampNeg) (upN gb ln y.toNatClampNeg) (vp_updL va ln v) rn cn vs hr la lg sc ∧ ∀ x9, 63 ≤ x9 → E1 x9 = E x9) : ∀ x9, 63 ≤ x9 → E1 x9 = E x9 := by
  cases hD : actD n ln x y v with
  | some q9 => rw [hD] at hp1; exact hp1.2.2
  | none => rw [hD] at hp1; exact hp1.2.2

theorem fr_floor {x : Int32} {y : Int32} {v : Int64} {r1 : Int32} (hp1 : match actD n ln x y v with | some q => r1 = q ∧ XE G z E1 tr lf n f g bf m2 kd pa ln ts ga gb va rn cn vs hr la lg sc ∧ ∀ x9, 63 ≤ x9 → E1 x9 = E x9 | none => r1 = nI (othN f 2 (amt 2 m2 kd pa v) x.toNatClampNeg (y.toNatClampNeg + 1 - x.toNatClampNeg)) ∧ XE G z E1 tr lf n (actF f 2 (amt 2 m2 kd pa v) x.toNatClampNeg (y.toNatClampNeg + 1 - x.toNatClampNeg)) (hisF g f 2 (amt 2 m2 kd pa v) x.toNatClampNeg (y.toNatClampNeg + 1 - x.toNatClampNeg)) bf m2 kd pa (ln + 1) (upd ts ln 2) (upN ga ln x.toNatClampNeg) (upN gb ln y.toNatClampNeg) (vp_updL va ln v) rn cn vs hr la lg sc ∧ ∀ x9, 63 ≤ x9 → E1 x9 = E x9) : ∀ x9, 63 ≤ x9 → E1 x9 = E x9 := by
  cases hD : actD n ln x y v with
  | some q9 => rw [hD] at hp1; exact hp1.2.2
  | none => rw [hD] at hp1; exact hp1.2.2

theorem fr_help {x : Int32} {y : Int32} {q : Int32} {w : Int32} {r1 : Int32} (hp1 : match helD n m2 ln x y q w with | some d => r1 = d ∧ XE G z E1 tr lf n f g bf m2 kd pa ln ts ga gb va rn cn vs hr la lg sc ∧ ∀ x9, 63 ≤ x9 → E1 x9 = E x9 | none => r1 = strg m2 kd pa x.toInt64 ∧ XE G z E1 tr lf n (actF f (if w = 1 then 3 else 4) (amt (if w = 1 then 3 else 4) m2 kd pa x.toInt64) y.toNatClampNeg (q.toNatClampNeg + 1 - y.toNatClampNeg)) (hisF g f (if w = 1 then 3 else 4) (amt (if w = 1 then 3 else 4) m2 kd pa x.toInt64) y.toNatClampNeg (q.toNatClampNeg + 1 - y.toNatClampNeg)) bf m2 kd pa (ln + 1) (upd ts ln (if w = 1 then 3 else 4)) (upN ga ln y.toNatClampNeg) (upN gb ln q.toNatClampNeg) (vp_updL va ln x.toInt64) rn cn vs hr la lg sc ∧ ∀ x9, 63 ≤ x9 → E1 x9 = E x9) : ∀ x9, 63 ≤ x9 → E1 x9 = E x9 := by
  cases hD : helD n m2 ln x y q w with
  | some q9 => rw [hD] at hp1; exact hp1.2.2
  | none => rw [hD] at hp1; exact hp1.2.2

theorem fr_fresh {r1 : Int32} (hp1 : match freD n with | some d => r1 = d ∧ XE G z E1 tr lf n f g bf m2 kd pa ln ts ga gb va rn cn vs hr la lg sc ∧ ∀ x9, 63 ≤ x9 → E1 x9 = E x9 | none => r1 = nI ln ∧ XE G z E1 tr lf n f f f m2 kd pa 0 ts ga gb va rn cn vs hr la lg sc ∧ ∀ x9, 63 ≤ x9 → E1 x9 = E x9) : ∀ x9, 63 ≤ x9 → E1 x9 = E x9 := by
  cases hD : freD n with
  | some q9 => rw [hD] at hp1; exact hp1.2.2
  | none => rw [hD] at hp1; exact hp1.2.2

theorem fr_day {x : Int32} {y : Int32} {q : Int32} {u : Int32} {w : Int32} {r1 : Int64} (hp1 : r1 = (dayV x y q u w hr la lg sc n f m2 kd pa).1 ∧ XE G z E1 tr ((dayV x y q u w hr la lg sc n f m2 kd pa).2) n f g bf m2 kd pa ln ts ga gb va rn cn vs hr la lg sc ∧ ∀ x9, 63 ≤ x9 → E1 x9 = E x9) : ∀ x9, 63 ≤ x9 → E1 x9 = E x9 := hp1.2.2

theorem fr_ask {x : Int32} {y : Int32} {w : Int32} {r1 : Int64} (hp1 : E = E1 ∧ r1 = askR n f g x y w) : ∀ x9, 63 ≤ x9 → E1 x9 = E x9 := fun x9 _ => congrFun hp1.1.symm x9

theorem fr_ofSpan {x : Int32} {y : Int32} {r1 : Int64} (hp1 : E = E1 ∧ r1 = ospR n f x y) : ∀ x9, 63 ≤ x9 → E1 x9 = E x9 := fun x9 _ => congrFun hp1.1.symm x9

theorem fr_looks {x : Int32} {y : Int32} {v : Int64} {r1 : Int32} (hp1 : E = E1 ∧ r1 = lokR n f x y v) : ∀ x9, 63 ≤ x9 → E1 x9 = E x9 := fun x9 _ => congrFun hp1.1.symm x9

theorem fr_unlike {r1 : Int32} (hp1 : E = E1 ∧ r1 = unkR n f) : ∀ x9, 63 ≤ x9 → E1 x9 = E x9 := fun x9 _ => congrFun hp1.1.symm x9

theorem fr_reading {x : Int32} {v : Int64} {r1 : Int32} (hp1 : match rdgD n rn x v with | some d => r1 = d ∧ XE G z E1 tr lf n f g bf m2 kd pa ln ts ga gb va rn cn vs hr la lg sc ∧ ∀ x9, 63 ≤ x9 → E1 x9 = E x9 | none => r1 = nI rn ∧ XE G z E1 tr lf n f g bf m2 kd pa ln ts ga gb va (rn + 1) (upN cn rn x.toNatClampNeg) (vp_updL vs rn v) hr la lg sc ∧ ∀ x9, 63 ≤ x9 → E1 x9 = E x9) : ∀ x9, 63 ≤ x9 → E1 x9 = E x9 := by
  cases hD : rdgD n rn x v with
  | some q9 => rw [hD] at hp1; exact hp1.2.2
  | none => rw [hD] at hp1; exact hp1.2.2

theorem fr_back {x : Int32} {r1 : Int32} (hp1 : match bakD rn x with | some q => r1 = q ∧ XE G z E1 tr lf n f g bf m2 kd pa ln ts ga gb va rn cn vs hr la lg sc ∧ ∀ x9, 63 ≤ x9 → E1 x9 = E x9 | none => r1 = nI (rn - x.toNatClampNeg) ∧ XE G z E1 tr lf n f g bf m2 kd pa ln ts ga gb va (rn - x.toNatClampNeg) cn vs hr la lg sc ∧ ∀ x9, 63 ≤ x9 → E1 x9 = E x9) : ∀ x9, 63 ≤ x9 → E1 x9 = E x9 := by
  cases hD : bakD rn x with
  | some q9 => rw [hD] at hp1; exact hp1.2.2
  | none => rw [hD] at hp1; exact hp1.2.2

theorem fr_kinds {x : Int32} {r1 : Int32} (hp1 : r1 = (if ¬ x < 0 ∧ x < nI m2 then setR (fun q => allR (fun s => decide (repF bf m2 (upd kd x.toNatClampNeg (nI q)) (upd pa x.toNatClampNeg (pa x.toNatClampNeg)) ts ga gb va ln (cn s) = vs s)) rn) 3 else -1) ∧ XE G z E1 tr lf n f g bf m2 kd pa ln ts ga gb va rn cn vs hr la lg sc ∧ ∀ x9, 63 ≤ x9 → E1 x9 = E x9) : ∀ x9, 63 ≤ x9 → E1 x9 = E x9 := hp1.2.2

theorem fr_paces {x : Int32} {r1 : Int32} (hp1 : r1 = (if ¬ x < 0 ∧ x < nI m2 then setR (fun q => allR (fun s => decide (repF bf m2 (upd kd x.toNatClampNeg (kd x.toNatClampNeg)) (upd pa x.toNatClampNeg (nI q)) ts ga gb va ln (cn s) = vs s)) rn) 10 else -1) ∧ XE G z E1 tr lf n f g bf m2 kd pa ln ts ga gb va rn cn vs hr la lg sc ∧ ∀ x9, 63 ≤ x9 → E1 x9 = E x9) : ∀ x9, 63 ≤ x9 → E1 x9 = E x9 := hp1.2.2

theorem fr_odds {x : Int32} {y : Int32} {v : Int64} {w : Int32} {r1 : Int64} (hp1 : E = E1 ∧ r1 = oddR n f x y v w) : ∀ x9, 63 ≤ x9 → E1 x9 = E x9 := fun x9 _ => congrFun hp1.1.symm x9

theorem fr_sheet {x : Int32} {y : Int32} {q : Int32} {r1 : Int32} (hp1 : match shtD x y q with | some u => r1 = u.1 ∧ XE G z E1 tr u.2 n f g bf m2 kd pa ln ts ga gb va rn cn vs hr la lg sc ∧ ∀ x9, 63 ≤ x9 → E1 x9 = E x9 | none => r1 = 1 ∧ XE G z E1 tr 0 n f g bf m2 kd pa ln ts ga gb va rn cn vs (upd hr x.toNatClampNeg 1) (upd la x.toNatClampNeg y) (upN lg x.toNatClampNeg q.toNatClampNeg) (upS sc x.toNatClampNeg (fun _ => 0)) ∧ ∀ x9, 63 ≤ x9 → E1 x9 = E x9) : ∀ x9, 63 ≤ x9 → E1 x9 = E x9 := by
  cases hD : shtD x y q with
  | some q9 => rw [hD] at hp1; exact hp1.2.2
  | none => rw [hD] at hp1; exact hp1.2.2

theorem fr_lose {x : Int32} {r1 : Int32} (hp1 : match losD x with | some q => r1 = q ∧ XE G z E1 tr lf n f g bf m2 kd pa ln ts ga gb va rn cn vs hr la lg sc ∧ ∀ x9, 63 ≤ x9 → E1 x9 = E x9 | none => r1 = hr x.toNatClampNeg ∧ XE G z E1 tr lf n f g bf m2 kd pa ln ts ga gb va rn cn vs (upd hr x.toNatClampNeg 0) (upd la x.toNatClampNeg (la x.toNatClampNeg)) (upN lg x.toNatClampNeg 0) (upS sc x.toNatClampNeg (sc x.toNatClampNeg)) ∧ ∀ x9, 63 ≤ x9 → E1 x9 = E x9) : ∀ x9, 63 ≤ x9 → E1 x9 = E x9 := by
  cases hD : losD x with
  | some q9 => rw [hD] at hp1; exact hp1.2.2
  | none => rw [hD] at hp1; exact hp1.2.2

theorem fr_put {x : Int32} {y : Int32} {q : Int32} {r1 : Int32} (hp1 : match putD x y hr lg with | some u => r1 = u.1 ∧ XE G z E1 tr u.2 n f g bf m2 kd pa ln ts ga gb va rn cn vs hr la lg sc ∧ ∀ x9, 63 ≤ x9 → E1 x9 = E x9 | none => r1 = 1 ∧ XE G z E1 tr 0 n f g bf m2 kd pa ln ts ga gb va rn cn vs (upd hr x.toNatClampNeg (hr x.toNatClampNeg)) (upd la x.toNatClampNeg (la x.toNatClampNeg)) (upN lg x.toNatClampNeg (lg x.toNatClampNeg)) (upS sc x.toNatClampNeg (upd (sc x.toNatClampNeg) y.toNatClampNeg (cutF (la x.toNatClampNeg) q))) ∧ ∀ x9, 63 ≤ x9 → E1 x9 = E x9) : ∀ x9, 63 ≤ x9 → E1 x9 = E x9 := by
  cases hD : putD x y hr lg with
  | some q9 => rw [hD] at hp1; exact hp1.2.2
  | none => rw [hD] at hp1; exact hp1.2.2

theorem fr_cell {x : Int32} {y : Int32} {q : Int32} {r1 : Int64} (hp1 : r1 = (celV x y q hr la lg sc).1 ∧ XE G z E1 tr ((celV x y q hr la lg sc).2) n f g bf m2 kd pa ln ts ga gb va rn cn vs hr la lg sc ∧ ∀ x9, 63 ≤ x9 → E1 x9 = E x9) : ∀ x9, 63 ≤ x9 → E1 x9 = E x9 := hp1.2.2

theorem fr_copy {x : Int32} {y : Int32} {q : Int32} {u : Int32} {v : Int32} {r1 : Int32} (hp1 : match cpyD x y q u v hr la lg with | some d => r1 = d.1 ∧ XE G z E1 tr d.2 n f g bf m2 kd pa ln ts ga gb va rn cn vs hr la lg sc ∧ ∀ x9, 63 ≤ x9 → E1 x9 = E x9 | none => r1 = v ∧ XE G z E1 tr 0 n f g bf m2 kd pa ln ts ga gb va rn cn vs (upd hr q.toNatClampNeg (hr q.toNatClampNeg)) (upd la q.toNatClampNeg (la q.toNatClampNeg)) (upN lg q.toNatClampNeg (lg q.toNatClampNeg)) (upS sc q.toNatClampNeg (va_cpy (sc x.toNatClampNeg) (sc q.toNatClampNeg) y.toNatClampNeg u.toNatClampNeg v.toNatClampNeg)) ∧ ∀ x9, 63 ≤ x9 → E1 x9 = E x9) : ∀ x9, 63 ≤ x9 → E1 x9 = E x9 := by
  cases hD : cpyD x y q u v hr la lg with
  | some q9 => rw [hD] at hp1; exact hp1.2.2
  | none => rw [hD] at hp1; exact hp1.2.2

theorem fr_tell {x : Int32} {r1 : Int32} (hp1 : r1 = (telV m2 kd pa tr x).1 ∧ XE G z E1 ((telV m2 kd pa tr x).2) lf n f g bf m2 kd pa ln ts ga gb va rn cn vs hr la lg sc ∧ ∀ x9, 63 ≤ x9 → E1 x9 = E x9) : ∀ x9, 63 ≤ x9 → E1 x9 = E x9 := hp1.2.2

theorem fr_cheer {x : Int32} {r1 : Int32} (hp1 : r1 = (cheV m2 kd tr x).1 ∧ XE G z E1 ((cheV m2 kd tr x).2) lf n f g bf m2 kd pa ln ts ga gb va rn cn vs hr la lg sc ∧ ∀ x9, 63 ≤ x9 → E1 x9 = E x9) : ∀ x9, 63 ≤ x9 → E1 x9 = E x9 := hp1.2.2

theorem fr_as {x : Int32} {y : Int32} {r1 : Int32} (hp1 : r1 = (asV m2 kd x y).1 ∧ XE G z E1 tr ((asV m2 kd x y).2) n f g bf m2 kd pa ln ts ga gb va rn cn vs hr la lg sc ∧ ∀ x9, 63 ≤ x9 → E1 x9 = E x9) : ∀ x9, 63 ≤ x9 → E1 x9 = E x9 := hp1.2.2

theorem fr_trace {r1 : Int32} (hp1 : E = E1 ∧ r1 = tr) : ∀ x9, 63 ≤ x9 → E1 x9 = E x9 := fun x9 _ => congrFun hp1.1.symm x9

theorem fr_fault {r1 : Int32} (hp1 : E = E1 ∧ r1 = lf) : ∀ x9, 63 ≤ x9 → E1 x9 = E x9 := fun x9 _ => congrFun hp1.1.symm x9

theorem fr_many {x : Int32} {r1 : Int32} (hp1 : E = E1 ∧ r1 = manR n m2 ln rn x) : ∀ x9, 63 ≤ x9 → E1 x9 = E x9 := fun x9 _ => congrFun hp1.1.symm x9
end FRM
