/-! THE HEAP AS A FUNCTION OF PLACES: the cell z + i holds what E i says, for every i below M. No method but a constructor makes a cell, so that z and M stay; a method's contract speaks of E alone. -/
abbrev qh_G : Type := va_G × ClassId × ClassId × ClassId × ClassId
def qa_I (G : qh_G) (n : Nat) (f : Nat → Int32) : va_E := .inl (G.2.1, n, .inl f)
def qa_J (G : qh_G) (n : Nat) (f : Nat → Int64) : va_E := .inl (G.2.2.1, n, .inr (.inl f))
def qa_A (G : qh_G) (n : Nat) (f : Nat → Option Nat) : va_E := .inl (G.2.2.2.1, n, .inr (.inr (.inr (.inr f))))
def qa_S (G : qh_G) (n : Nat) (f : Nat → Option Nat) : va_E := .inl (G.2.2.2.2, n, .inr (.inr (.inr (.inr f))))
def qh_ty (G : qh_G) : List (ClassId × FieldType) := [(G.2.1, .int), (G.2.2.1, .long), (G.2.2.2.1, .object "CappedRow$Act"), (G.2.2.2.2, .object "CappedRow$Sheet")]
def qh_K (G : qh_G) (U : State) : Prop := va_K G.1 vwCl (qh_ty G) U
def qh_P (G : qh_G) (z M : Nat) (E : Nat → va_E) (H : Heap) : Prop := z + M ≤ H.size ∧ ∀ i, i < M → va_at G.1 vwCl (z + i, E i) H
def qh_H (G : qh_G) (z M : Nat) (E : Nat → va_E) (H0 H : Heap) (locs : List Loc) : Prop := qh_P G z M E H ∧ va_S (fun q => z ≤ q) H0 H locs
theorem qh_H.start {G : qh_G} {z M : Nat} {E : Nat → va_E} {H : Heap} (h : qh_P G z M E H) : qh_H G z M E H H [] := ⟨h, va_S.rf⟩
/-- a cell that changed -/
theorem qh_H.set {G : qh_G} {z M : Nat} {E : Nat → va_E} {H0 H H1 : Heap} {locs : List Loc} (h : qh_H G z M E H0 H locs) {i : Nat} {e : va_E} (hat : va_at G.1 vwCl (z + i, e) H1) (hsz : H1.size = H.size) (hoq : ∀ q, q ≠ z + i → H1[q]? = H[q]?) (k : Nat) : qh_H G z M (va_up E i e) H0 H1 (locs ++ [⟨z + i, k⟩]) := by
  refine ⟨⟨by rw [hsz]; exact h.1.1, fun j hj => ?_⟩, h.2.put hsz hoq (Nat.le_add_right z i)⟩
  by_cases hji : j = i
  · subst hji
    rw [va_up_self]
    exact hat
  · rw [va_up_ne _ _ hji]
    exact (h.1.2 j hj).kept (hoq (z + j) (by omega))
/-- what the tables say of a field that is read -/
def qh_F (G : qh_G) (s : State) (m : MethodId) (args : Array Value) (ix ci k : Nat) : Prop := ∃ (own ref name desc : String) (cf : Nat) (kl : Class) (i : Nat) (f : Field) (r : vw_C), s.vm.findClass own = some m.cls ∧ (Cond.fieldLink own ix ref name desc).before args s = true ∧ s.fieldFound? ref name desc = some (cf, kl, i, f) ∧ f.isStatic = false ∧ f.slot = G.1.2 ci k ∧ vwCl[ci]? = some r ∧ k < r.2.2
theorem qh_F.of {G : qh_G} {s : State} {m : MethodId} {args : Array Value} {own C : String} {T : u_T} {N ix ci : Nat} {Ts : List Cond} (hts : ∀ w ∈ Ts, w.before args s = true) (hin : ∀ w ∈ u_ws C T N, w ∈ Ts) (hown : s.vm.findClass own = some m.cls) (hK : qh_K G s) (hc : vwCl[ci]? = some (C, T, N)) (k : Nat) (hk : k < N) (hl : Cond.fieldLink own ix (T k).1 (T k).2.1 (T k).2.2.1 ∈ Ts) : qh_F G s m args ix ci k := by
  obtain ⟨hS, hfc, kC, hkC, hkind⟩ := hK.1 ci _ hc
  obtain ⟨cf, kf, fi, f, hi, hsl⟩ := hS k hk
  exact ⟨own, _, _, _, cf, kf, fi, f, _, hown, hts _ hl, hi, (u_facts hfc hkC (u_lays hts hin hk) hi).1, hsl, hc, hk⟩
/-- .. and of one that is written -/
def qh_W (G : qh_G) (s : State) (m : MethodId) (args : Array Value) (ix ci k : Nat) (ty : FieldType) : Prop := ∃ (own C : String) (T : u_T) (N : Nat) (f : Field), vwCl[ci]? = some (C, T, N) ∧ k < N ∧ Fd s m args own (T k).1 (T k).2.1 (T k).2.2.1 ix f ∧ f.slot = G.1.2 ci k ∧ (∀ v, narrow ty v = v → fits ty v = true → k2_Sd s f (G.1.1 ci) v) ∧ ∀ x y, x < N → y < N → x ≠ y → (G.1.2 ci) x ≠ (G.1.2 ci) y
theorem qh_W.of {G : qh_G} {s : State} {m : MethodId} {args : Array Value} {own C : String} {T : u_T} {N ix ci : Nat} {Ts : List Cond} (hts : ∀ w ∈ Ts, w.before args s = true) (hin : ∀ w ∈ u_ws C T N, w ∈ Ts) (ty0 : Nat → FieldType) (hty : ∀ k, k < N → parseFieldDescriptor (T k).2.2.1 = some (ty0 k)) (hnm : ∀ a, a < N → ∀ b, b < N → a ≠ b → (T a).2.1 ≠ (T b).2.1) (hown : s.vm.findClass own = some m.cls) (hK : qh_K G s) (hc : vwCl[ci]? = some (C, T, N)) (k : Nat) (hk : k < N) (hl : Cond.fieldLink own ix (T k).1 (T k).2.1 (T k).2.2.1 ∈ Ts) (hfin : (T k).2.2.2 = false) {ty : FieldType} (hd : parseFieldDescriptor (T k).2.2.1 = some ty) : qh_W G s m args ix ci k ty := by
  have hap := va_apart (own := own) hts hin ty0 hty hnm hK hc
  obtain ⟨hS, hfc, kC, hkC, hkind⟩ := hK.1 ci _ hc
  obtain ⟨cf, kf, fi, f, hi, hsl⟩ := hS k hk
  have hlay := hts _ (hin _ (u_in_lay hk))
  unfold u_lay at hlay
  rw [if_neg (by rw [hfin]; decide)] at hlay
  exact ⟨own, C, T, N, f, hc, hk, ⟨hown, hts _ hl, ⟨_, _, _, hi⟩, (u_facts hfc hkC (u_lays hts hin hk) hi).1⟩, hsl, fun v hn hfit => u_store hfc hkC hkind hlay hi hd hn hfit, hap⟩
section QHR
variable {p : Program} {l : Launch} {e : Env} {R : Room} {s : State} {m : MethodId} {args : Array Value} {below : List Frame} {meth : Method} {c : Code} {H : Heap} {locs : List Loc} {cells slots : Nat} {Q : State → Prop}
variable {cc : ByteArray} {pc : Nat} {ls : Array Slot} {rest : List Value} {G : qh_G} {z M : Nat} {E : Nat → va_E} {H0 : Heap}
theorem qh_get (hx : p.tables.exec = Jvm.exec) (hb : c.code = cc) (hH : qh_H G z M E H0 H locs) {ix ci k : Nat} (hF : qh_F G s m args ix ci k) {i : Nat} (hi : i < M) {fs : List Value} (he : E i = .inr (ci, fs)) {v : Value} (hv : fs[k]? = some v) (hd : decode cc pc = .ok (.getfield ix, 3))
    (kk : W p l e R s m args below meth c H locs cells slots Q (F0 m (pc + 3) ls (v :: rest))) : W p l e R s m args below meth c H locs cells slots Q (F0 m pc ls (.ref (z + i) :: rest)) := by
  obtain ⟨own, ref, name, desc, cf, kl, j, f, r, h1, h2, h3, h4, h5, hr, hk⟩ := hF
  have hat := hH.1.2 i hi
  rw [he] at hat
  obtain ⟨r', hr', cell, q1, q2, q3, q4⟩ := hat
  cases hr.symm.trans hr'
  refine W.getf hx hb h1 h2 h3 h4 q1 (by rw [q3]; exact fun h => by cases h) (v := v) ?_ rfl rfl hd kk
  rw [h5, q4 k hk]
  simp [vp_V, hv]
theorem qh_put (hx : p.tables.exec = Jvm.exec) (hb : c.code = cc) (hH : qh_H G z M E H0 H locs) {ix ci k : Nat} {ty : FieldType} (hF : qh_W G s m args ix ci k ty) {i : Nat} (hi : i < M) {fs fs' : List Value} (he : E i = .inr (ci, fs)) {v : Value} (hn : narrow ty v = v) (hfit : fits ty v = true) (hl : k < fs.length) (hfs : fs.set k v = fs') (hd : decode cc pc = .ok (.putfield ix, 3))
    (kk : ∀ (E' : Nat → va_E) (H1 : Heap) (locs1 : List Loc), E' i = .inr (ci, fs') → (∀ j, j ≠ i → E' j = E j) → qh_H G z M E' H0 H1 locs1 → H1.size = H.size → W p l e R s m args below meth c H1 locs1 cells slots Q (F0 m (pc + 3) ls rest)) : W p l e R s m args below meth c H locs cells slots Q (F0 m pc ls (v :: .ref (z + i) :: rest)) := by
  subst hfs
  obtain ⟨own, C, T, N, f, hc, hk, hFd, hsl, hSd, hap⟩ := hF
  have hat := hH.1.2 i hi
  rw [he] at hat
  obtain ⟨r', hr', cell, q1, q2, q3, q4⟩ := hat
  cases hc.symm.trans hr'
  refine W.putK hx hb (f := f) hFd (by rw [q2]; exact hSd v hn hfit) q1 q3 (by rw [hsl]; exact k2_hasslot (q4 k hk)) rfl rfl hd fun H' e1 e2 e3 => ?_
  rw [hsl] at e1 ⊢
  have hat : va_at G.1 vwCl (z + i, .inr (ci, fs.set k v)) H' := ⟨_, hc, t_OB.to (V := updV (vp_V fs) k v) ⟨_, e1, q2, q3, t_set q4 hap hk v⟩ (fun j _ => vp_updV_set hl v j)⟩
  exact kk (va_up E i (.inr (ci, fs.set k v))) H' _ (va_up_self ..) (fun j hj => va_up_ne _ _ hj) (hH.set hat e2 e3 _) e2
theorem qh_inI {x : Int32} {j n : Nat} (hx : x = nI j) (hj : j < n) (hn : n < 2 ^ 31) : ¬ (x < 0 ∨ n ≤ x.toNatClampNeg) ∧ x.toNatClampNeg = j := by
  subst hx
  exact ⟨nI_in hj hn, nI_clamp (by omega)⟩
theorem qh_iald (hx : p.tables.exec = Jvm.exec) (hb : c.code = cc) (hK : qh_K G s) (hH : qh_H G z M E H0 H locs) {i : Nat} (hi : i < M) {n : Nat} {f : Nat → Int32} (he : E i = qa_I G n f) {x : Int32} {j : Nat} (hxj : x = nI j) (hj : j < n) (hn : n < 2 ^ 31) (hd : decode cc pc = .ok (.iaload, 1))
    (kk : W p l e R s m args below meth c H locs cells slots Q (F0 m (pc + 1) ls (.int (f j) :: rest))) : W p l e R s m args below meth c H locs cells slots Q (F0 m pc ls (.int x :: .ref (z + i) :: rest)) := by
  have hat := hH.1.2 i hi
  rw [he] at hat
  obtain ⟨h1, h2⟩ := qh_inI hxj hj hn
  exact W.iald (v := .int (f j)) hx hb hat ((hK.2 0 _ rfl).1 n (fun j => .int (f j))) (fun q => by cases q) (by show ¬ (x < 0 ∨ (arrV _ _ _).slots.size ≤ _); rw [arrV_size]; exact h1) (by show (arrV _ _ _).slots[_]? = _; rw [h2, arrV_read _ _ hj]) rfl rfl hd kk
theorem qh_lald (hx : p.tables.exec = Jvm.exec) (hb : c.code = cc) (hK : qh_K G s) (hH : qh_H G z M E H0 H locs) {i : Nat} (hi : i < M) {n : Nat} {f : Nat → Int64} (he : E i = qa_J G n f) {x : Int32} {j : Nat} (hxj : x = nI j) (hj : j < n) (hn : n < 2 ^ 31) (hd : decode cc pc = .ok (.laload, 1))
    (kk : W p l e R s m args below meth c H locs cells slots Q (F0 m (pc + 1) ls (.long (f j) :: rest))) : W p l e R s m args below meth c H locs cells slots Q (F0 m pc ls (.int x :: .ref (z + i) :: rest)) := by
  have hat := hH.1.2 i hi
  rw [he] at hat
  obtain ⟨h1, h2⟩ := qh_inI hxj hj hn
  exact W.lald (v := .long (f j)) hx hb hat ((hK.2 1 _ rfl).1 n (fun j => .long (f j))) (fun q => by cases q) (by show ¬ (x < 0 ∨ (arrV _ _ _).slots.size ≤ _); rw [arrV_size]; exact h1) (by show (arrV _ _ _).slots[_]? = _; rw [h2, arrV_read _ _ hj]) rfl rfl hd kk
theorem qh_aaldA (hx : p.tables.exec = Jvm.exec) (hb : c.code = cc) (hK : qh_K G s) (hH : qh_H G z M E H0 H locs) {i : Nat} (hi : i < M) {n : Nat} {f : Nat → Option Nat} (he : E i = qa_A G n f) {x : Int32} {j a : Nat} (hxj : x = nI j) (hj : j < n) (hn : n < 2 ^ 31) (hfa : f j = some a) (hd : decode cc pc = .ok (.aaload, 1))
    (kk : W p l e R s m args below meth c H locs cells slots Q (F0 m (pc + 1) ls (.ref a :: rest))) : W p l e R s m args below meth c H locs cells slots Q (F0 m pc ls (.int x :: .ref (z + i) :: rest)) := by
  have hat := hH.1.2 i hi
  rw [he] at hat
  obtain ⟨h1, h2⟩ := qh_inI hxj hj hn
  exact W.aald (v := .ref a) (ty := .object "CappedRow$Act") hx hb hat ((hK.2 2 _ rfl).1 n (fun j => va_rf (f j))) rfl (fun q => by cases q) (by show ¬ (x < 0 ∨ (arrV _ _ _).slots.size ≤ _); rw [arrV_size]; exact h1) (by show (arrV _ _ _).slots[_]? = _; rw [h2, arrV_read _ _ hj, hfa]; rfl) rfl rfl hd kk
theorem qh_aaldS (hx : p.tables.exec = Jvm.exec) (hb : c.code = cc) (hK : qh_K G s) (hH : qh_H G z M E H0 H locs) {i : Nat} (hi : i < M) {n : Nat} {f : Nat → Option Nat} (he : E i = qa_S G n f) {x : Int32} {j a : Nat} (hxj : x = nI j) (hj : j < n) (hn : n < 2 ^ 31) (hfa : f j = some a) (hd : decode cc pc = .ok (.aaload, 1))
    (kk : W p l e R s m args below meth c H locs cells slots Q (F0 m (pc + 1) ls (.ref a :: rest))) : W p l e R s m args below meth c H locs cells slots Q (F0 m pc ls (.int x :: .ref (z + i) :: rest)) := by
  have hat := hH.1.2 i hi
  rw [he] at hat
  obtain ⟨h1, h2⟩ := qh_inI hxj hj hn
  exact W.aald (v := .ref a) (ty := .object "CappedRow$Sheet") hx hb hat ((hK.2 3 _ rfl).1 n (fun j => va_rf (f j))) rfl (fun q => by cases q) (by show ¬ (x < 0 ∨ (arrV _ _ _).slots.size ≤ _); rw [arrV_size]; exact h1) (by show (arrV _ _ _).slots[_]? = _; rw [h2, arrV_read _ _ hj, hfa]; rfl) rfl rfl hd kk
theorem qh_iast (hx : p.tables.exec = Jvm.exec) (hb : c.code = cc) (hK : qh_K G s) (hH : qh_H G z M E H0 H locs) {i : Nat} (hi : i < M) {n : Nat} {f : Nat → Int32} (he : E i = qa_I G n f) {x v : Int32} {j : Nat} (hxj : x = nI j) (hj : j < n) (hn : n < 2 ^ 31) (hd : decode cc pc = .ok (.iastore, 1))
    (kk : ∀ (E' : Nat → va_E) (H1 : Heap) (locs1 : List Loc), E' i = qa_I G n (upd f j v) → (∀ j, j ≠ i → E' j = E j) → qh_H G z M E' H0 H1 locs1 → H1.size = H.size → W p l e R s m args below meth c H1 locs1 cells slots Q (F0 m (pc + 1) ls rest)) : W p l e R s m args below meth c H locs cells slots Q (F0 m pc ls (.int v :: .int x :: .ref (z + i) :: rest)) := by
  have hat := hH.1.2 i hi
  rw [he] at hat
  obtain ⟨h1, h2⟩ := qh_inI hxj hj hn
  refine W.iast hx hb hat ((hK.2 0 _ rfl).1 n (fun j => .int (f j))) (fun q => by cases q) (by show ¬ (x < 0 ∨ (arrV _ _ _).slots.size ≤ _); rw [arrV_size]; exact h1) rfl rfl hd fun H1 e1 e2 e3 => ?_
  refine kk (va_up E i (qa_I G n (upd f j v))) H1 _ (va_up_self ..) (fun j hj => va_up_ne _ _ hj) (hH.set ?_ e2 e3 _) e2
  show H1[z + i]? = some (vp_cell _ _)
  rw [e1, h2]
  show some ((arrV G.2.1 n (fun j => .int (f j))).setSlot j (.int v)) = some (arrV G.2.1 n (fun k => .int (upd f j v k)))
  rw [arrV_store]
  congr 2
  funext q
  by_cases hq : q = j <;> simp [updV, upd, hq]
theorem qh_last (hx : p.tables.exec = Jvm.exec) (hb : c.code = cc) (hK : qh_K G s) (hH : qh_H G z M E H0 H locs) {i : Nat} (hi : i < M) {n : Nat} {f : Nat → Int64} (he : E i = qa_J G n f) {x : Int32} {v : Int64} {j : Nat} (hxj : x = nI j) (hj : j < n) (hn : n < 2 ^ 31) (hd : decode cc pc = .ok (.lastore, 1))
    (kk : ∀ (E' : Nat → va_E) (H1 : Heap) (locs1 : List Loc), E' i = qa_J G n (vp_updL f j v) → (∀ j, j ≠ i → E' j = E j) → qh_H G z M E' H0 H1 locs1 → H1.size = H.size → W p l e R s m args below meth c H1 locs1 cells slots Q (F0 m (pc + 1) ls rest)) : W p l e R s m args below meth c H locs cells slots Q (F0 m pc ls (.long v :: .int x :: .ref (z + i) :: rest)) := by
  have hat := hH.1.2 i hi
  rw [he] at hat
  obtain ⟨h1, h2⟩ := qh_inI hxj hj hn
  refine W.last hx hb hat ((hK.2 1 _ rfl).1 n (fun j => .long (f j))) (fun q => by cases q) (by show ¬ (x < 0 ∨ (arrV _ _ _).slots.size ≤ _); rw [arrV_size]; exact h1) rfl rfl hd fun H1 e1 e2 e3 => ?_
  refine kk (va_up E i (qa_J G n (vp_updL f j v))) H1 _ (va_up_self ..) (fun j hj => va_up_ne _ _ hj) (hH.set ?_ e2 e3 _) e2
  show H1[z + i]? = some (vp_cell _ _)
  rw [e1, h2]
  show some ((arrV G.2.2.1 n (fun j => .long (f j))).setSlot j (.long v)) = some (arrV G.2.2.1 n (fun k => .long (vp_updL f j v k)))
  rw [arrV_store]
  congr 2
  funext q
  by_cases hq : q = j <;> simp [updV, vp_updL, hq]
theorem qh_alenI (hx : p.tables.exec = Jvm.exec) (hb : c.code = cc) (hK : qh_K G s) (hH : qh_H G z M E H0 H locs) {i : Nat} (hi : i < M) {n : Nat} {f : Nat → Int32} (he : E i = qa_I G n f) (hd : decode cc pc = .ok (.arraylength, 1))
    (kk : W p l e R s m args below meth c H locs cells slots Q (F0 m (pc + 1) ls (.int (nI n) :: rest))) : W p l e R s m args below meth c H locs cells slots Q (F0 m pc ls (.ref (z + i) :: rest)) := by
  have hat := hH.1.2 i hi
  rw [he] at hat
  exact W.alen (n := nI n) hx hb hat ((hK.2 0 _ rfl).1 n (fun j => .int (f j))) (by show (arrV _ _ _).slots.size.toInt32 = _; rw [arrV_size]; rfl) rfl rfl hd kk
end QHR
/-! contracts over E -/
def qh_Pre (G : qh_G) (z M : Nat) (E : Nat → va_E) (av : List Value) : Array Value → State → Prop := fun v U => v = av.toArray ∧ qh_P G z M E U.heap ∧ qh_K G U
def qh_Q (G : qh_G) (z M : Nat) (ok : Option Value → (Nat → va_E) → Prop) : Array Value → State → Outcome → State → Prop := fun _ st oc t => ∃ (v : Option Value) (E' : Nat → va_E), oc = .returned v ∧ ok v E' ∧ qh_P G z M E' t.heap ∧ va_F (fun q => z ≤ q) st t
def qh_i (post : Int32 → (Nat → va_E) → Prop) : Option Value → (Nat → va_E) → Prop := fun v E => ∃ r : Int32, v = some (.int r) ∧ post r E
def qh_l (post : Int64 → (Nat → va_E) → Prop) : Option Value → (Nat → va_E) → Prop := fun v E => ∃ r : Int64, v = some (.long r) ∧ post r E
def qh_v (post : (Nat → va_E) → Prop) : Option Value → (Nat → va_E) → Prop := fun v E => v = none ∧ post E
def qh_a (post : Value → (Nat → va_E) → Prop) : Option Value → (Nat → va_E) → Prop := fun v E => ∃ r : Value, v = some r ∧ post r E
abbrev qh_R (d : Nat) : Room := { frames := d, cells := 0, slots := 0, locals := 40 * d }
theorem qh_blind {G : qh_G} {z M : Nat} {E : Nat → va_E} {av : List Value} : FrameBlind (qh_Pre G z M E av) := fun a U g mk h => ⟨h.1, h.2.1, va_K.moved (u := U) (U := U.calling g mk a) (Vm.Alike.refl U.vm) h.2.2⟩
section QHC
variable {p : Program} {l : Launch} {e : Env} {R : Room} {s : State} {m : MethodId} {args : Array Value} {below : List Frame} {meth : Method} {c : Code} {H : Heap} {locs : List Loc} {cells slots : Nat} {Q : State → Prop}
variable {cc : ByteArray} {pc : Nat} {ls : Array Slot} {rest st0 : List Value} {G : qh_G} {z M : Nat} {E : Nat → va_E} {H0 : Heap}
/-- what a call leaves, whatever it answers -/
theorem qh_after {ok : Option Value → (Nat → va_E) → Prop} {a : Array Value} (hr : va_Run p l e R s m args below meth c H locs cells slots 0 0 (F0 m pc ls st0) rest (qh_Q G z M ok a) (fun q => z ≤ q)) (hS : va_S (fun q => z ≤ q) H0 H locs)
    (kk : ∀ (v : Option Value) (E' : Nat → va_E) (H1 : Heap) (locs1 : List Loc), ok v E' → qh_H G z M E' H0 H1 locs1 → W p l e R s m args below meth c H1 locs1 cells slots Q (F0 m (pc + 3) ls (v.toList ++ rest))) : W p l e R s m args below meth c H locs cells slots Q (F0 m pc ls st0) := by
  intro T hT X
  obtain ⟨v, st₀, t, T', L, h0, X', hL, e1, e2, ⟨v', E', hv, hok, hP, hz, hk⟩, st⟩ := hr T hT X
  cases hv
  rw [h0] at hz hk
  obtain ⟨t2, a1, b1⟩ := kk v E' T'.heap (locs ++ L) hok ⟨by rw [e1]; exact hP, Nat.le_trans hS.1 (by rw [e1]; exact hz), fun q h1 h2 => by rw [e1, hk q (Nat.lt_of_lt_of_le h1 hS.1) h2]; exact hS.2.1 q h1 h2, fun q hq => by
      rcases List.mem_append.mp hq with h | h
      · exact hS.2.2 q h
      · exact hL q h⟩ T' rfl X'
  exact ⟨t2, st t2 a1, b1⟩
variable {y : MethodName} {bytes : ByteArray} {maxL nL n index i ci N : Nat} {ret : Option FieldType} {ws : List Cond} {rm : Room} {Ts : List Cond} {own C : String} {TT : u_T} {As fs : List Value}
theorem qh_runV {ok : Option Value → (Nat → va_E) → Prop} (S : CallFix p m c cc nL s args Ts own) (hK : qh_K G s) (hH : qh_H G z M E H0 H locs) (hM : Met l y ws rm (qh_Pre G z M E (.ref (z + i) :: As)) (qh_Q G z M ok) 0 0 (fun q => z ≤ q)) (cw : CallW R s args own C index y bytes maxL ret ws rm 0 0 n) (hi : i < M) (he : E i = .inr (ci, fs)) (hc : vwCl[ci]? = some (C, TT, N))
    (hn : As.length = n) (hsize : ls.size = nL) (hstack : st0 = As.reverse ++ .ref (z + i) :: rest) (hW : (rest.map fun v => v.category).sum ≤ 8) (hdg : decode cc pc = .ok (.invokevirtual index, 3)) (hf : cells ≤ R.cells ∧ slots ≤ R.slots)
    (kk : ∀ (v : Option Value) (E' : Nat → va_E) (H1 : Heap) (locs1 : List Loc), ok v E' → qh_H G z M E' H0 H1 locs1 → W p l e R s m args below meth c H1 locs1 cells slots Q (F0 m (pc + 3) ls (v.toList ++ rest))) : W p l e R s m args below meth c H locs cells slots Q (F0 m pc ls st0) := by
  refine qh_after (va_runV (As := As) (rest := rest) (C := C) S hM cw ⟨qh_blind, ?_, fun U hU hW => ⟨rfl, by rw [hU]; exact hH.1, va_K.moved hW.alike hK⟩⟩ rfl hn hsize hstack (lv_room hW) hdg hf) hH.2 kk
  have hat := hH.1.2 i hi
  rw [he] at hat
  obtain ⟨r', hr', cell, q1, q2, q3, q4⟩ := hat
  cases hc.symm.trans hr'
  exact ⟨cell, q1, by rw [q3]; rfl, by rw [q2]; exact (hK.1 ci _ hc).2.1⟩
theorem qh_runS {ok : Option Value → (Nat → va_E) → Prop} (S : CallFix p m c cc nL s args Ts own) (hK : qh_K G s) (hH : qh_H G z M E H0 H locs) (hM : Met l y ws rm (qh_Pre G z M E As) (qh_Q G z M ok) 0 0 (fun q => z ≤ q)) (cw : CallB R s args own index y bytes maxL ret ws rm 0 0 n ∧ (Cond.static y).before args s = true)
    (hn : As.length = n) (hsize : ls.size = nL) (hstack : st0 = As.reverse ++ rest) (hW : (rest.map fun v => v.category).sum ≤ 8) (hdg : decode cc pc = .ok (.invokestatic index, 3)) (hf : cells ≤ R.cells ∧ slots ≤ R.slots)
    (kk : ∀ (v : Option Value) (E' : Nat → va_E) (H1 : Heap) (locs1 : List Loc), ok v E' → qh_H G z M E' H0 H1 locs1 → W p l e R s m args below meth c H1 locs1 cells slots Q (F0 m (pc + 3) ls (v.toList ++ rest))) : W p l e R s m args below meth c H locs cells slots Q (F0 m pc ls st0) :=
  qh_after (va_runS (As := As) (rest := rest) S hM cw ⟨qh_blind, fun U hU hW => ⟨rfl, by rw [hU]; exact hH.1, va_K.moved hW.alike hK⟩⟩ rfl hn hsize hstack (lv_room hW) hdg hf) hH.2 kk
theorem qh_kki {post : Int32 → (Nat → va_E) → Prop} (kk : ∀ (r : Int32) (E' : Nat → va_E) (H1 : Heap) (locs1 : List Loc), post r E' → qh_H G z M E' H0 H1 locs1 → W p l e R s m args below meth c H1 locs1 cells slots Q (F0 m pc ls (.int r :: rest))) : ∀ (v : Option Value) (E' : Nat → va_E) (H1 : Heap) (locs1 : List Loc), qh_i post v E' → qh_H G z M E' H0 H1 locs1 → W p l e R s m args below meth c H1 locs1 cells slots Q (F0 m pc ls (v.toList ++ rest)) := by
  rintro v E' H1 locs1 ⟨r, rfl, h⟩ hH
  exact kk r E' H1 locs1 h hH
theorem qh_kkl {post : Int64 → (Nat → va_E) → Prop} (kk : ∀ (r : Int64) (E' : Nat → va_E) (H1 : Heap) (locs1 : List Loc), post r E' → qh_H G z M E' H0 H1 locs1 → W p l e R s m args below meth c H1 locs1 cells slots Q (F0 m pc ls (.long r :: rest))) : ∀ (v : Option Value) (E' : Nat → va_E) (H1 : Heap) (locs1 : List Loc), qh_l post v E' → qh_H G z M E' H0 H1 locs1 → W p l e R s m args below meth c H1 locs1 cells slots Q (F0 m pc ls (v.toList ++ rest)) := by
  rintro v E' H1 locs1 ⟨r, rfl, h⟩ hH
  exact kk r E' H1 locs1 h hH
theorem qh_kkv {post : (Nat → va_E) → Prop} (kk : ∀ (E' : Nat → va_E) (H1 : Heap) (locs1 : List Loc), post E' → qh_H G z M E' H0 H1 locs1 → W p l e R s m args below meth c H1 locs1 cells slots Q (F0 m pc ls rest)) : ∀ (v : Option Value) (E' : Nat → va_E) (H1 : Heap) (locs1 : List Loc), qh_v post v E' → qh_H G z M E' H0 H1 locs1 → W p l e R s m args below meth c H1 locs1 cells slots Q (F0 m pc ls (v.toList ++ rest)) := by
  rintro v E' H1 locs1 ⟨rfl, h⟩ hH
  exact kk E' H1 locs1 h hH
theorem qh_kka {post : Value → (Nat → va_E) → Prop} (kk : ∀ (r : Value) (E' : Nat → va_E) (H1 : Heap) (locs1 : List Loc), post r E' → qh_H G z M E' H0 H1 locs1 → W p l e R s m args below meth c H1 locs1 cells slots Q (F0 m pc ls (r :: rest))) : ∀ (v : Option Value) (E' : Nat → va_E) (H1 : Heap) (locs1 : List Loc), qh_a post v E' → qh_H G z M E' H0 H1 locs1 → W p l e R s m args below meth c H1 locs1 cells slots Q (F0 m pc ls (v.toList ++ rest)) := by
  rintro v E' H1 locs1 ⟨r, rfl, h⟩ hH
  exact kk r E' H1 locs1 h hH
/-! ends -/
theorem qh_iret (hx : p.tables.exec = Jvm.exec) (hb : c.code = cc) (hr : meth.sig.returnType = some .int) (hlocks : meth.locks = false) (hH : qh_H G z M E s.heap H locs) {v : Int32} {post : Int32 → (Nat → va_E) → Prop} (hd : decode cc pc = .ok (.ireturn, 1)) (hp : post v E) : W p l e R s m args below meth c H locs cells slots (MQ below (qh_Q G z M (qh_i post)) args s cells slots (fun q => z ≤ q)) (F0 m pc ls [.int v]) :=
  W.iret hx hb hr (fun t ht _ => ⟨_, E, rfl, ⟨v, rfl, hp⟩, by rw [ht]; exact hH.1, hH.2.F ht⟩) hH.2.2.2 hd hlocks
theorem qh_zret (hx : p.tables.exec = Jvm.exec) (hb : c.code = cc) (hr : meth.sig.returnType = some .boolean) (hlocks : meth.locks = false) (hH : qh_H G z M E s.heap H locs) {v : Int32} {post : Int32 → (Nat → va_E) → Prop} (hd : decode cc pc = .ok (.ireturn, 1)) (hn : narrow .boolean (.int v) = .int v) (hp : post v E) : W p l e R s m args below meth c H locs cells slots (MQ below (qh_Q G z M (qh_i post)) args s cells slots (fun q => z ≤ q)) (F0 m pc ls [.int v]) :=
  W.zret hx hb hr hn (fun t ht _ => ⟨_, E, rfl, ⟨v, rfl, hp⟩, by rw [ht]; exact hH.1, hH.2.F ht⟩) hH.2.2.2 hd hlocks
theorem qh_lret (hx : p.tables.exec = Jvm.exec) (hb : c.code = cc) (hr : meth.sig.returnType = some .long) (hlocks : meth.locks = false) (hH : qh_H G z M E s.heap H locs) {v : Int64} {post : Int64 → (Nat → va_E) → Prop} (hd : decode cc pc = .ok (.lreturn, 1)) (hp : post v E) : W p l e R s m args below meth c H locs cells slots (MQ below (qh_Q G z M (qh_l post)) args s cells slots (fun q => z ≤ q)) (F0 m pc ls [.long v]) :=
  W.lret hx hb hr (fun t ht _ => ⟨_, E, rfl, ⟨v, rfl, hp⟩, by rw [ht]; exact hH.1, hH.2.F ht⟩) hH.2.2.2 hd hlocks
theorem qh_vret (hx : p.tables.exec = Jvm.exec) (hb : c.code = cc) (hr : meth.sig.returnType = none) (hlocks : meth.locks = false) (hH : qh_H G z M E s.heap H locs) {post : (Nat → va_E) → Prop} (hd : decode cc pc = .ok (.return_, 1)) (hp : post E) : W p l e R s m args below meth c H locs cells slots (MQ below (qh_Q G z M (qh_v post)) args s cells slots (fun q => z ≤ q)) (F0 m pc ls []) :=
  W.vret hx hb hr (fun t ht _ => ⟨_, E, rfl, ⟨rfl, hp⟩, by rw [ht]; exact hH.1, hH.2.F ht⟩) hH.2.2.2 hd hlocks
theorem qh_aret (hx : p.tables.exec = Jvm.exec) (hb : c.code = cc) {C : String} (hr : meth.sig.returnType = some (.object C)) (hlocks : meth.locks = false) (hH : qh_H G z M E s.heap H locs) {v : Value} (hv : v = .null ∨ ∃ a, v = .ref a) {post : Value → (Nat → va_E) → Prop} (hd : decode cc pc = .ok (.areturn, 1)) (hp : post v E) : W p l e R s m args below meth c H locs cells slots (MQ below (qh_Q G z M (qh_a post)) args s cells slots (fun q => z ≤ q)) (F0 m pc ls [v]) :=
  W.aret hx hb hr (Or.inl ⟨_, rfl⟩) hv (fun t ht _ => ⟨_, E, rfl, ⟨v, rfl, hp⟩, by rw [ht]; exact hH.1, hH.2.F ht⟩) hH.2.2.2 hd hlocks
/-! System.arraycopy -/
theorem qh_copyI (hx : p.tables.exec = Jvm.exec) (hb : c.code = cc) (hml : c.maxLocals = ls.size) {own : String} {index : Nat} (hown : s.vm.findClass own = some m.cls) (hlink : (Cond.methodLink own index arraycopyName).before args s = true) (hnat : (Cond.native arraycopyName).before args s = true) (hstat : (Cond.static arraycopyName).before args s = true) (hini : (Cond.initialized "java/lang/System").before args s = true) (hK : qh_K G s) (hH : qh_H G z M E H0 H locs) {i0 i1 : Nat} (h0 : i0 < M) (h1 : i1 < M) {n0 n1 : Nat} {f g : Nat → Int32} (he0 : E i0 = qa_I G n0 f) (he1 : E i1 = qa_I G n1 g)
    {x y k : Int32} {sp dp n : Nat} (hxs : x = nI sp) (hyd : y = nI dp) (hkn : k = nI n) (hs1 : sp + n ≤ n0) (hs2 : dp + n ≤ n1) (hb0 : n0 < 2 ^ 31) (hb1 : n1 < 2 ^ 31) (hframes : 1 ≤ R.frames) (hlocals : (rest.map fun v => v.category).sum + (nativeFrameWords "java/lang/System" "arraycopy" 5 + 11) ≤ R.locals) (hd : decode cc pc = .ok (.invokestatic index, 3))
    (kk : ∀ (E' : Nat → va_E) (H1 : Heap) (locs1 : List Loc), E' i1 = qa_I G n1 (va_cpy f g sp dp n) → (∀ j, j ≠ i1 → E' j = E j) → qh_H G z M E' H0 H1 locs1 → W p l e R s m args below meth c H1 locs1 cells slots Q (F0 m (pc + 3) ls rest)) : W p l e R s m args below meth c H locs cells slots Q (F0 m pc ls (.int k :: .int y :: .ref (z + i1) :: .int x :: .ref (z + i0) :: rest)) := by
  obtain ⟨hx1, hx2⟩ := (show ¬ x < 0 ∧ x.toNatClampNeg = sp by subst hxs; exact ⟨nI_pos (by omega), nI_clamp (by omega)⟩)
  obtain ⟨hy1, hy2⟩ := (show ¬ y < 0 ∧ y.toNatClampNeg = dp by subst hyd; exact ⟨nI_pos (by omega), nI_clamp (by omega)⟩)
  obtain ⟨hk1, hk2⟩ := (show ¬ k < 0 ∧ k.toNatClampNeg = n by subst hkn; exact ⟨nI_pos (by omega), nI_clamp (by omega)⟩)
  have hP : va_P G.1 vwCl ((List.range M).map fun i => (z + i, E i)) H := fun k q hq => by
    rw [List.getElem?_map] at hq
    cases hr : (List.range M)[k]? with
    | none => rw [hr] at hq; cases hq
    | some v =>
      rw [hr] at hq
      obtain ⟨hv1, hv2⟩ := List.getElem?_eq_some_iff.mp hr
      simp at hv1 hv2 hq
      subst hv2
      rw [← hq]
      exact hH.1.2 k hv1
  have hD : va_D (fun q => z ≤ q) ((List.range M).map fun i => (z + i, E i)) := by
    have at' : ∀ (k : Nat) (q : Nat × va_E), ((List.range M).map fun i => (z + i, E i))[k]? = some q → q.1 = z + k := fun k q hq => by
      rw [List.getElem?_map] at hq
      cases hr : (List.range M)[k]? with
      | none => rw [hr] at hq; cases hq
      | some v =>
        rw [hr] at hq
        obtain ⟨hv1, hv2⟩ := List.getElem?_eq_some_iff.mp hr
        simp at hv1 hv2 hq
        subst hv2
        rw [← hq]
    refine ⟨fun i j p q hp hq e => ?_, fun k q hq => ?_⟩
    · rw [at' i p hp, at' j q hq] at e
      omega
    · rw [at' k q hq]
      exact Nat.le_add_right z k
  have hg : ∀ i, i < M → ((List.range M).map fun i => (z + i, E i))[i]? = some (z + i, E i) := fun i hi => by
    rw [List.getElem?_map, List.getElem?_range hi]
    rfl
  refine va_copyi hx hb hml hown hlink hnat hstat hini hK hP hD hH.2 i0 i1 0 0 (by rw [hg i0 h0, he0]; rfl) (by rw [hg i1 h1, he1]; rfl) rfl rfl rfl hx1 hy1 hk1 (by rw [hx2, hk2]; exact hs1) (by rw [hy2, hk2]; exact hs2) (fun _ _ => rfl) hframes hlocals hd (fun H1 locs1 hP1 hD1 hS1 => ?_)
  rw [hx2, hy2, hk2] at hP1
  have hat : ∀ j, j < M → va_at G.1 vwCl (z + j, (va_up E i1 (qa_I G n1 (va_cpy f g sp dp n))) j) H1 := fun j hj => by
    refine hP1 j _ ?_
    by_cases hji : j = i1
    · subst hji
      rw [va_up_self, List.getElem?_set_self (by simp; exact hj)]
      rfl
    · rw [va_up_ne _ _ hji, List.getElem?_set_ne (Ne.symm hji)]
      exact hg j hj
  refine kk _ H1 locs1 (va_up_self ..) (fun j hj => va_up_ne _ _ hj) ⟨⟨?_, hat⟩, hS1⟩
  have h3 := (hat (M - 1) (by omega)).lt
  have h3 : z + (M - 1) < H1.size := h3
  omega
theorem qh_copyJ (hx : p.tables.exec = Jvm.exec) (hb : c.code = cc) (hml : c.maxLocals = ls.size) {own : String} {index : Nat} (hown : s.vm.findClass own = some m.cls) (hlink : (Cond.methodLink own index arraycopyName).before args s = true) (hnat : (Cond.native arraycopyName).before args s = true) (hstat : (Cond.static arraycopyName).before args s = true) (hini : (Cond.initialized "java/lang/System").before args s = true) (hK : qh_K G s) (hH : qh_H G z M E H0 H locs) {i0 i1 : Nat} (h0 : i0 < M) (h1 : i1 < M) {n0 n1 : Nat} {f g : Nat → Int64} (he0 : E i0 = qa_J G n0 f) (he1 : E i1 = qa_J G n1 g)
    {x y k : Int32} {sp dp n : Nat} (hxs : x = nI sp) (hyd : y = nI dp) (hkn : k = nI n) (hs1 : sp + n ≤ n0) (hs2 : dp + n ≤ n1) (hb0 : n0 < 2 ^ 31) (hb1 : n1 < 2 ^ 31) (hframes : 1 ≤ R.frames) (hlocals : (rest.map fun v => v.category).sum + (nativeFrameWords "java/lang/System" "arraycopy" 5 + 11) ≤ R.locals) (hd : decode cc pc = .ok (.invokestatic index, 3))
    (kk : ∀ (E' : Nat → va_E) (H1 : Heap) (locs1 : List Loc), E' i1 = qa_J G n1 (va_cpy f g sp dp n) → (∀ j, j ≠ i1 → E' j = E j) → qh_H G z M E' H0 H1 locs1 → W p l e R s m args below meth c H1 locs1 cells slots Q (F0 m (pc + 3) ls rest)) : W p l e R s m args below meth c H locs cells slots Q (F0 m pc ls (.int k :: .int y :: .ref (z + i1) :: .int x :: .ref (z + i0) :: rest)) := by
  obtain ⟨hx1, hx2⟩ := (show ¬ x < 0 ∧ x.toNatClampNeg = sp by subst hxs; exact ⟨nI_pos (by omega), nI_clamp (by omega)⟩)
  obtain ⟨hy1, hy2⟩ := (show ¬ y < 0 ∧ y.toNatClampNeg = dp by subst hyd; exact ⟨nI_pos (by omega), nI_clamp (by omega)⟩)
  obtain ⟨hk1, hk2⟩ := (show ¬ k < 0 ∧ k.toNatClampNeg = n by subst hkn; exact ⟨nI_pos (by omega), nI_clamp (by omega)⟩)
  have hP : va_P G.1 vwCl ((List.range M).map fun i => (z + i, E i)) H := fun k q hq => by
    rw [List.getElem?_map] at hq
    cases hr : (List.range M)[k]? with
    | none => rw [hr] at hq; cases hq
    | some v =>
      rw [hr] at hq
      obtain ⟨hv1, hv2⟩ := List.getElem?_eq_some_iff.mp hr
      simp at hv1 hv2 hq
      subst hv2
      rw [← hq]
      exact hH.1.2 k hv1
  have hD : va_D (fun q => z ≤ q) ((List.range M).map fun i => (z + i, E i)) := by
    have at' : ∀ (k : Nat) (q : Nat × va_E), ((List.range M).map fun i => (z + i, E i))[k]? = some q → q.1 = z + k := fun k q hq => by
      rw [List.getElem?_map] at hq
      cases hr : (List.range M)[k]? with
      | none => rw [hr] at hq; cases hq
      | some v =>
        rw [hr] at hq
        obtain ⟨hv1, hv2⟩ := List.getElem?_eq_some_iff.mp hr
        simp at hv1 hv2 hq
        subst hv2
        rw [← hq]
    refine ⟨fun i j p q hp hq e => ?_, fun k q hq => ?_⟩
    · rw [at' i p hp, at' j q hq] at e
      omega
    · rw [at' k q hq]
      exact Nat.le_add_right z k
  have hg : ∀ i, i < M → ((List.range M).map fun i => (z + i, E i))[i]? = some (z + i, E i) := fun i hi => by
    rw [List.getElem?_map, List.getElem?_range hi]
    rfl
  refine va_copyl hx hb hml hown hlink hnat hstat hini hK hP hD hH.2 i0 i1 1 1 (by rw [hg i0 h0, he0]; rfl) (by rw [hg i1 h1, he1]; rfl) rfl rfl rfl hx1 hy1 hk1 (by rw [hx2, hk2]; exact hs1) (by rw [hy2, hk2]; exact hs2) (fun _ _ => rfl) hframes hlocals hd (fun H1 locs1 hP1 hD1 hS1 => ?_)
  rw [hx2, hy2, hk2] at hP1
  have hat : ∀ j, j < M → va_at G.1 vwCl (z + j, (va_up E i1 (qa_J G n1 (va_cpy f g sp dp n))) j) H1 := fun j hj => by
    refine hP1 j _ ?_
    by_cases hji : j = i1
    · subst hji
      rw [va_up_self, List.getElem?_set_self (by simp; exact hj)]
      rfl
    · rw [va_up_ne _ _ hji, List.getElem?_set_ne (Ne.symm hji)]
      exact hg j hj
  refine kk _ H1 locs1 (va_up_self ..) (fun j hj => va_up_ne _ _ hj) ⟨⟨?_, hat⟩, hS1⟩
  have h3 := (hat (M - 1) (by omega)).lt
  have h3 : z + (M - 1) < H1.size := h3
  omega
end QHC
