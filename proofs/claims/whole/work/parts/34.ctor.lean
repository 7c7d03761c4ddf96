/-! CONSTRUCTORS: the heap as a function of places, with its exact size; each new cell is the next place -/
def qe_nw : List (String × Nat × MethodName) := [(RX8, 19, yX7_init), (RX7, 21, yX1_init), (RX8, 26, yX1_init), (RX2, 21, yX0_init), (RX8, 43, yX0_init), (RX8, 50, yX3_init), (RX8, 70, yX4_init), (RX8, 82, yX5_init)]
/-- what the tables say beside a method's own words: private constructors of nest mates, rows of references -/
def qe_N (U : State) : Prop := (∀ q ∈ qe_nw, va_Nw (.methodLinkNest q.1 q.2.1 q.2.2 RX8) U) ∧ va_AO RX0 U ∧ va_AO RX5 U
theorem qe_N.warm {s U : State} (hW : s.WarmedH U.vm) (h : qe_N s) : qe_N U := ⟨fun q hq => va_Nw.warmM hW (h.1 q hq), va_AO.moved hW.alike h.2.1, va_AO.moved hW.alike h.2.2⟩
def qe_Pre (G : qh_G) (z M : Nat) (E : Nat → va_E) (av : List Value) : Array Value → State → Prop := fun v U => v = av.toArray ∧ (qh_P G z M E U.heap ∧ U.heap.size = z + M) ∧ qh_K G U ∧ qe_N U
def qe_Q (G : qh_G) (z M : Nat) (ok : (Nat → va_E) → Prop) : Array Value → State → Outcome → State → Prop := fun _ st oc t => ∃ E' : Nat → va_E, oc = .returned none ∧ ok E' ∧ (qh_P G z M E' t.heap ∧ t.heap.size = z + M) ∧ va_F (fun q => z ≤ q) st t
abbrev qe_R (d mc ms : Nat) : Room := { frames := d, cells := mc, slots := ms, locals := 40 * d }
theorem qe_N.same {u U : State} (h : u.vm = U.vm) (hN : qe_N u) : qe_N U := ⟨fun q hq => va_Nw.same rfl h (hN.1 q hq), va_AO.moved (by rw [h]; exact Vm.Alike.refl _) hN.2.1, va_AO.moved (by rw [h]; exact Vm.Alike.refl _) hN.2.2⟩
theorem qe_blind {G : qh_G} {z M : Nat} {E : Nat → va_E} {av : List Value} : FrameBlind (qe_Pre G z M E av) := fun a U g mk h => ⟨h.1, h.2.1, va_K.moved (u := U) (U := U.calling g mk a) (Vm.Alike.refl U.vm) h.2.2.1, qe_N.same (u := U) (U := U.calling g mk a) rfl h.2.2.2⟩
section QEC
variable {p : Program} {l : Launch} {e : Env} {R : Room} {s : State} {m : MethodId} {args : Array Value} {below : List Frame} {meth : Method} {c : Code} {H : Heap} {locs : List Loc} {cells slots : Nat} {Q : State → Prop}
variable {cc : ByteArray} {pc : Nat} {ls : Array Slot} {rest st0 : List Value} {G : qh_G} {z M : Nat} {E : Nat → va_E} {H0 : Heap}
/-- a new cell at the heap's end -/
theorem qe_grow (hH : qh_H G z M E H0 H locs) (hsz : H.size = z + M) {H1 : Heap} {en : va_E} (hat : va_at G.1 vwCl (z + M, en) H1) (z1 : H1.size = z + M + 1) (o1 : ∀ q : Nat, q < z + M → H1[q]? = H[q]?) : qh_H G z (M + 1) (va_up E M en) H0 H1 locs := by
  refine ⟨⟨by omega, fun j hj => ?_⟩, by have := hH.2.1; omega, fun q h1 h2 => (o1 q ?_).trans (hH.2.2.1 q h1 h2), hH.2.2.2⟩
  · by_cases e : j = M
    · subst e
      rw [va_up_self]
      exact hat
    · rw [va_up_ne _ _ e]
      exact (hH.1.2 j (by omega)).kept (o1 (z + j) (by omega))
  · have := hH.2.1
    omega
theorem qe_newI (hx : p.tables.exec = Jvm.exec) (hb : c.code = cc) (harr : (Cond.arrayClass .int).before args s = true) (hK : qh_K G s) (hH : qh_H G z M E H0 H locs) (hsz : H.size = z + M) {n : Int32} {N : Nat} (hn : n = nI N) (hN : N < 2 ^ 20) (hcells : cells + 1 ≤ R.cells) (hslots : slots + N ≤ R.slots) (hd : decode cc pc = .ok (.newarray .int, 2))
    (kk : ∀ (E' : Nat → va_E) (H1 : Heap), E' M = qa_I G N (fun _ => 0) → (∀ j, j ≠ M → E' j = E j) → qh_H G z (M + 1) E' H0 H1 locs → H1.size = z + (M + 1) → W p l e R s m args below meth c H1 locs (cells + 1) (slots + N) Q (F0 m (pc + 2) ls (.ref (z + M) :: rest))) : W p l e R s m args below meth c H locs cells slots Q (F0 m pc ls (.int n :: rest)) := by
  subst hn
  refine va_newaK (atype := .int) hx hb harr rfl hd rfl (nI_pos (by omega)) (nI_clamp (by omega)) (by show N * 4 ≤ 536870912; omega) hcells hslots hsz fun H1 cA e1 z1 o1 hAr hNm => ?_
  have hcA : cA = G.2.1 := Option.some.inj (hNm.symm.trans (hK.2 0 _ rfl).2)
  subst hcA
  exact kk _ H1 (va_up_self ..) (fun j hj => va_up_ne _ _ hj) (qe_grow (en := qa_I G N (fun _ => 0)) hH hsz e1 z1 o1) z1
theorem qe_newJ (hx : p.tables.exec = Jvm.exec) (hb : c.code = cc) (harr : (Cond.arrayClass .long).before args s = true) (hK : qh_K G s) (hH : qh_H G z M E H0 H locs) (hsz : H.size = z + M) {n : Int32} {N : Nat} (hn : n = nI N) (hN : N < 2 ^ 20) (hcells : cells + 1 ≤ R.cells) (hslots : slots + N ≤ R.slots) (hd : decode cc pc = .ok (.newarray .long, 2))
    (kk : ∀ (E' : Nat → va_E) (H1 : Heap), E' M = qa_J G N (fun _ => 0) → (∀ j, j ≠ M → E' j = E j) → qh_H G z (M + 1) E' H0 H1 locs → H1.size = z + (M + 1) → W p l e R s m args below meth c H1 locs (cells + 1) (slots + N) Q (F0 m (pc + 2) ls (.ref (z + M) :: rest))) : W p l e R s m args below meth c H locs cells slots Q (F0 m pc ls (.int n :: rest)) := by
  subst hn
  refine va_newaK (atype := .long) hx hb harr rfl hd rfl (nI_pos (by omega)) (nI_clamp (by omega)) (by show N * 8 ≤ 536870912; omega) hcells hslots hsz fun H1 cA e1 z1 o1 hAr hNm => ?_
  have hcA : cA = G.2.2.1 := Option.some.inj (hNm.symm.trans (hK.2 1 _ rfl).2)
  subst hcA
  exact kk _ H1 (va_up_self ..) (fun j hj => va_up_ne _ _ hj) (qe_grow (en := qa_J G N (fun _ => 0)) hH hsz e1 z1 o1) z1
theorem qe_newA (hx : p.tables.exec = Jvm.exec) (hb : c.code = cc) {own : String} {index : Nat} (hown : s.vm.findClass own = some m.cls) (hclink : (Cond.classLink own index RX0).before args s = true) (hN : qe_N s) (hK : qh_K G s) (hH : qh_H G z M E H0 H locs) (hsz : H.size = z + M) {n : Int32} {N : Nat} (hn : n = nI N) (hN9 : N < 2 ^ 20) (hcells : cells + 1 ≤ R.cells) (hslots : slots + N ≤ R.slots) (hd : decode cc pc = .ok (.anewarray index, 3))
    (kk : ∀ (E' : Nat → va_E) (H1 : Heap), E' M = qa_A G N (fun _ => none) → (∀ j, j ≠ M → E' j = E j) → qh_H G z (M + 1) E' H0 H1 locs → H1.size = z + (M + 1) → W p l e R s m args below meth c H1 locs (cells + 1) (slots + N) Q (F0 m (pc + 3) ls (.ref (z + M) :: rest))) : W p l e R s m args below meth c H locs cells slots Q (F0 m pc ls (.int n :: rest)) := by
  have hcl : n.toNatClampNeg = N := by rw [hn]; exact nI_clamp (by omega)
  have hn0 : ¬ n < 0 := by rw [hn]; exact nI_pos (by omega)
  refine W.anew hx hb hown hclink (va_AO.use hN.2.1) rfl hd rfl hn0 (by rw [hcl]; omega) hcells (by rw [hcl]; exact hslots) fun cA kA comp f1 f2 f3 f4 => ?_
  rw [hcl]
  obtain ⟨_, _, _, _, _, k4⟩ := (hK.2 2 _ rfl).2
  have hcA : cA = G.2.2.2.1 := Option.some.inj (f1.symm.trans k4)
  subst hcA
  rw [hsz]
  have z1 : (H.push ({ cls := G.2.2.2.1, slots := Array.replicate N .null, vm := .none } : Cell)).size = z + M + 1 := by rw [Array.size_push, hsz]
  refine kk _ _ (va_up_self ..) (fun j hj => va_up_ne _ _ hj) (qe_grow (en := qa_A G N (fun _ => none)) hH hsz ?_ z1 (fun q hq => by rw [Array.getElem?_push, if_neg (by omega)])) z1
  show (H.push _)[z + M]? = some (arrV G.2.2.2.1 N (fun _ => .null))
  rw [← hsz, Array.getElem?_push_size, ← arrV_new]
theorem qe_newS (hx : p.tables.exec = Jvm.exec) (hb : c.code = cc) {own : String} {index : Nat} (hown : s.vm.findClass own = some m.cls) (hclink : (Cond.classLink own index RX5).before args s = true) (hN : qe_N s) (hK : qh_K G s) (hH : qh_H G z M E H0 H locs) (hsz : H.size = z + M) {n : Int32} {N : Nat} (hn : n = nI N) (hN9 : N < 2 ^ 20) (hcells : cells + 1 ≤ R.cells) (hslots : slots + N ≤ R.slots) (hd : decode cc pc = .ok (.anewarray index, 3))
    (kk : ∀ (E' : Nat → va_E) (H1 : Heap), E' M = qa_S G N (fun _ => none) → (∀ j, j ≠ M → E' j = E j) → qh_H G z (M + 1) E' H0 H1 locs → H1.size = z + (M + 1) → W p l e R s m args below meth c H1 locs (cells + 1) (slots + N) Q (F0 m (pc + 3) ls (.ref (z + M) :: rest))) : W p l e R s m args below meth c H locs cells slots Q (F0 m pc ls (.int n :: rest)) := by
  have hcl : n.toNatClampNeg = N := by rw [hn]; exact nI_clamp (by omega)
  have hn0 : ¬ n < 0 := by rw [hn]; exact nI_pos (by omega)
  refine W.anew hx hb hown hclink (va_AO.use hN.2.2) rfl hd rfl hn0 (by rw [hcl]; omega) hcells (by rw [hcl]; exact hslots) fun cA kA comp f1 f2 f3 f4 => ?_
  rw [hcl]
  obtain ⟨_, _, _, _, _, k4⟩ := (hK.2 3 _ rfl).2
  have hcA : cA = G.2.2.2.2 := Option.some.inj (f1.symm.trans k4)
  subst hcA
  rw [hsz]
  have z1 : (H.push ({ cls := G.2.2.2.2, slots := Array.replicate N .null, vm := .none } : Cell)).size = z + M + 1 := by rw [Array.size_push, hsz]
  refine kk _ _ (va_up_self ..) (fun j hj => va_up_ne _ _ hj) (qe_grow (en := qa_S G N (fun _ => none)) hH hsz ?_ z1 (fun q hq => by rw [Array.getElem?_push, if_neg (by omega)])) z1
  show (H.push _)[z + M]? = some (arrV G.2.2.2.2 N (fun _ => .null))
  rw [← hsz, Array.getElem?_push_size, ← arrV_new]
theorem qe_new (hx : p.tables.exec = Jvm.exec) (hb : c.code = cc) {own C : String} {T : u_T} {N ci index : Nat} {Ts : List Cond} (hts : ∀ w ∈ Ts, w.before args s = true) (hin : ∀ w ∈ u_ws C T N, w ∈ Ts) (ty : Nat → FieldType) (hty : ∀ k, k < N → parseFieldDescriptor (T k).2.2.1 = some (ty k)) (hown : s.vm.findClass own = some m.cls) (hcl : (Cond.classLink own index C).before args s = true) (hinst : (Cond.instantiable C N).before args s = true) (hini : (Cond.initialized C).before args s = true)
    (hK : qh_K G s) (hH : qh_H G z M E H0 H locs) (hsz : H.size = z + M) (hc : vwCl[ci]? = some (C, T, N)) {fs : List Value} (hfs : ∀ j, j < N → defaultValue (ty j) = vp_V fs j) (hcells : cells + 1 ≤ R.cells) (hslots : slots + N ≤ R.slots) (hd : decode cc pc = .ok (.new index, 3))
    (kk : ∀ (E' : Nat → va_E) (H1 : Heap), E' M = .inr (ci, fs) → (∀ j, j ≠ M → E' j = E j) → qh_H G z (M + 1) E' H0 H1 locs → H1.size = z + (M + 1) → W p l e R s m args below meth c H1 locs (cells + 1) (slots + N) Q (F0 m (pc + 3) ls (.ref (z + M) :: rest))) : W p l e R s m args below meth c H locs cells slots Q (F0 m pc ls rest) := by
  have hKn := hK.1 ci _ hc
  refine W.newcK hx hb hown hcl hinst hini rfl hd hcells hslots hKn.2.1 hsz fun H1 kC hkC e1 z1 o1 => ?_
  exact kk _ H1 (va_up_self ..) (fun j hj => va_up_ne _ _ hj) (qe_grow (en := .inr (ci, fs)) hH hsz ⟨_, hc, (u_born ty hts hin hKn hkC e1 hty).to hfs⟩ z1 o1) z1
theorem qe_putF (hx : p.tables.exec = Jvm.exec) (hb : c.code = cc) {own C : String} {T : u_T} {N ci index : Nat} {Ts : List Cond} (hts : ∀ w ∈ Ts, w.before args s = true) (hin : ∀ w ∈ u_ws C T N, w ∈ Ts) (ty0 : Nat → FieldType) (hty : ∀ k, k < N → parseFieldDescriptor (T k).2.2.1 = some (ty0 k)) (hnm : ∀ a, a < N → ∀ b, b < N → a ≠ b → (T a).2.1 ≠ (T b).2.1) (hown : s.vm.findClass own = some m.cls) (hK : qh_K G s) (hH : qh_H G z M E H0 H locs) {i : Nat} (hi9 : i < M) {fs fs' : List Value} (he : E i = .inr (ci, fs)) (hc : vwCl[ci]? = some (C, T, N)) (k : Nat) (hk : k < N) (hlink : Cond.fieldLink own index (T k).1 (T k).2.1 (T k).2.2.1 ∈ Ts) (hfin : (T k).2.2.2 = true) (hin2 : meth.name = "<init>") (hdecl : (T k).1 = own) {ty : FieldType} {v : Value} (hd : parseFieldDescriptor (T k).2.2.1 = some ty) (hn : narrow ty v = v) (hfit : fits ty v = true) (hl : k < fs.length) (hfs : fs.set k v = fs')
    (hdg : decode cc pc = .ok (.putfield index, 3)) (kk : ∀ (E' : Nat → va_E) (H1 : Heap) (locs1 : List Loc), E' i = .inr (ci, fs') → (∀ j, j ≠ i → E' j = E j) → qh_H G z M E' H0 H1 locs1 → H1.size = H.size → W p l e R s m args below meth c H1 locs1 cells slots Q (F0 m (pc + 3) ls rest)) : W p l e R s m args below meth c H locs cells slots Q (F0 m pc ls (v :: .ref (z + i) :: rest)) := by
  subst hfs
  have hap := va_apart (own := own) hts hin ty0 hty hnm hK hc
  have hat := hH.1.2 i hi9
  rw [he] at hat
  obtain ⟨r, h1, cell, q1, q2, q3, q4⟩ := hat
  have hr : r = (C, T, N) := Option.some.inj (h1.symm.trans hc)
  subst hr
  obtain ⟨hS, hfc, kC, hkC, hkind⟩ := hK.1 ci _ hc
  obtain ⟨cf, kf, fi, f, hi, hsl⟩ := hS k hk
  have hlay := hts _ (hin _ (u_in_lay hk))
  unfold u_lay at hlay
  rw [if_pos hfin] at hlay
  have hst := (u_facts hfc hkC (u_lays hts hin hk) hi).1
  have hcf : m.cls = cf := by
    obtain ⟨_, _, c', _, _, _, -, -, hf', -, -, -, hown2, -⟩ := Cond.laysFinal_spec hlay
    have e1 : c' = cf := by have := hi.symm.trans hf'; simp at this; exact this.1.symm
    rw [hdecl] at hown2
    rw [← e1]; exact Option.some.inj (hown.symm.trans hown2)
  have h6 := u_fits hfc hkC hkind (Or.inr hlay) hi hd hn hfit
  refine W.putFinK hx hb hown (hts _ hlink) hi hst hcf hin2 (by rw [q2]; exact h6) q1 q3 (by rw [hsl]; exact k2_hasslot (q4 k hk)) rfl rfl hdg fun H' e1 e2 e3 => ?_
  rw [hsl] at e1 ⊢
  have hat : va_at G.1 vwCl (z + i, .inr (ci, fs.set k v)) H' := ⟨_, hc, t_OB.to (V := updV (vp_V fs) k v) ⟨_, e1, q2, q3, t_set q4 hap hk v⟩ (fun j _ => vp_updV_set hl v j)⟩
  exact kk (va_up E i (.inr (ci, fs.set k v))) H' _ (va_up_self ..) (fun j hj => va_up_ne _ _ hj) (hH.set hat e2 e3 _) e2
theorem qe_aastA (hx : p.tables.exec = Jvm.exec) (hb : c.code = cc) (hK : qh_K G s) (hH : qh_H G z M E H0 H locs) {i k : Nat} (hi : i < M) (hk : k < M) {n : Nat} {f : Nat → Option Nat} {vs : List Value} (he : E i = qa_A G n f) (hv : E k = .inr (0, vs)) {x : Int32} {j : Nat} (hxj : x = nI j) (hj : j < n) (hn : n < 2 ^ 31) (hdg : decode cc pc = .ok (.aastore, 1))
    (kk : ∀ (E' : Nat → va_E) (H1 : Heap) (locs1 : List Loc), E' i = qa_A G n (va_up f j (some (z + k))) → (∀ j, j ≠ i → E' j = E j) → qh_H G z M E' H0 H1 locs1 → H1.size = H.size → W p l e R s m args below meth c H1 locs1 cells slots Q (F0 m (pc + 1) ls rest)) : W p l e R s m args below meth c H locs cells slots Q (F0 m pc ls (.ref (z + k) :: .int x :: .ref (z + i) :: rest)) := by
  have hat := hH.1.2 i hi
  rw [he] at hat
  have hatv := hH.1.2 k hk
  rw [hv] at hatv
  obtain ⟨r', hr', cellV, g1, g2, g3, -⟩ := hatv
  obtain ⟨h1, h2⟩ := qh_inI hxj hj hn
  have h0 : ¬ x < 0 := fun q => h1 (Or.inl q)
  have hcls := (hK.1 0 _ (show vwCl[0]? = some (RX0, TX0, 4) from rfl)).2
  obtain ⟨kA, comp, k1, k2, k3, -⟩ := (hK.2 2 _ rfl).2
  have hcomp : comp = G.1.1 0 := Option.some.inj (k3.symm.trans hcls.1)
  subst hcomp
  obtain ⟨kC, hkC, -⟩ := hcls.2
  have hat : H[z + i]? = some (arrV G.2.2.2.1 n (fun j => va_rf (f j))) := hat
  refine W.aast hx hb hat (fun q h => by cases h) (fun h => by cases h) k1 k2 rfl hkC ⟨h0, by rw [arrV_size, h2]; exact hj⟩ g1 (fun q h => by rw [g3] at h; cases h) (by rw [g2]; exact hkC) (by rw [g2]; exact va_assign hcls) rfl rfl hdg fun H1 e e2 oq => ?_
  refine kk (va_up E i (qa_A G n (va_up f j (some (z + k))))) H1 _ (va_up_self ..) (fun j hj => va_up_ne _ _ hj) (hH.set ?_ e2 oq _) e2
  show H1[z + i]? = some (arrV G.2.2.2.1 n (fun q => va_rf (va_up f j (some (z + k)) q)))
  rw [e, h2, arrV_store]
  congr 2
  funext q
  by_cases hq : q = j
  · subst hq
    simp [updV, va_up, va_rf]
  · simp [updV, va_up, hq]
theorem qe_aastS (hx : p.tables.exec = Jvm.exec) (hb : c.code = cc) (hK : qh_K G s) (hH : qh_H G z M E H0 H locs) {i k : Nat} (hi : i < M) (hk : k < M) {n : Nat} {f : Nat → Option Nat} {vs : List Value} (he : E i = qa_S G n f) (hv : E k = .inr (5, vs)) {x : Int32} {j : Nat} (hxj : x = nI j) (hj : j < n) (hn : n < 2 ^ 31) (hdg : decode cc pc = .ok (.aastore, 1))
    (kk : ∀ (E' : Nat → va_E) (H1 : Heap) (locs1 : List Loc), E' i = qa_S G n (va_up f j (some (z + k))) → (∀ j, j ≠ i → E' j = E j) → qh_H G z M E' H0 H1 locs1 → H1.size = H.size → W p l e R s m args below meth c H1 locs1 cells slots Q (F0 m (pc + 1) ls rest)) : W p l e R s m args below meth c H locs cells slots Q (F0 m pc ls (.ref (z + k) :: .int x :: .ref (z + i) :: rest)) := by
  have hat := hH.1.2 i hi
  rw [he] at hat
  have hatv := hH.1.2 k hk
  rw [hv] at hatv
  obtain ⟨r', hr', cellV, g1, g2, g3, -⟩ := hatv
  obtain ⟨h1, h2⟩ := qh_inI hxj hj hn
  have h0 : ¬ x < 0 := fun q => h1 (Or.inl q)
  have hcls := (hK.1 5 _ (show vwCl[5]? = some (RX5, TX5, 4) from rfl)).2
  obtain ⟨kA, comp, k1, k2, k3, -⟩ := (hK.2 3 _ rfl).2
  have hcomp : comp = G.1.1 5 := Option.some.inj (k3.symm.trans hcls.1)
  subst hcomp
  obtain ⟨kC, hkC, -⟩ := hcls.2
  have hat : H[z + i]? = some (arrV G.2.2.2.2 n (fun j => va_rf (f j))) := hat
  refine W.aast hx hb hat (fun q h => by cases h) (fun h => by cases h) k1 k2 rfl hkC ⟨h0, by rw [arrV_size, h2]; exact hj⟩ g1 (fun q h => by rw [g3] at h; cases h) (by rw [g2]; exact hkC) (by rw [g2]; exact va_assign hcls) rfl rfl hdg fun H1 e e2 oq => ?_
  refine kk (va_up E i (qa_S G n (va_up f j (some (z + k))))) H1 _ (va_up_self ..) (fun j hj => va_up_ne _ _ hj) (hH.set ?_ e2 oq _) e2
  show H1[z + i]? = some (arrV G.2.2.2.2 n (fun q => va_rf (va_up f j (some (z + k)) q)))
  rw [e, h2, arrV_store]
  congr 2
  funext q
  by_cases hq : q = j
  · subst hq
    simp [updV, va_up, va_rf]
  · simp [updV, va_up, hq]
/-- what a constructor (or a method that makes nothing, told with the size) leaves -/
theorem qe_after {M1 mc ms : Nat} {ok : (Nat → va_E) → Prop} {a : Array Value} (hr : va_Run p l e R s m args below meth c H locs cells slots mc ms (F0 m pc ls st0) rest (qe_Q G z M1 ok a) (fun q => z ≤ q)) (hS : va_S (fun q => z ≤ q) H0 H locs)
    (kk : ∀ (E' : Nat → va_E) (H1 : Heap) (locs1 : List Loc), ok E' → qh_H G z M1 E' H0 H1 locs1 → H1.size = z + M1 → W p l e R s m args below meth c H1 locs1 (cells + mc) (slots + ms) Q (F0 m (pc + 3) ls rest)) : W p l e R s m args below meth c H locs cells slots Q (F0 m pc ls st0) := by
  intro T hT X
  obtain ⟨v, st₀, t, T', L, h0, X', hL, e1, e2, ⟨E', hv, hok, hP, hz, hk⟩, st⟩ := hr T hT X
  cases hv
  rw [h0] at hz hk
  obtain ⟨t2, a1, b1⟩ := kk E' T'.heap (locs ++ L) hok ⟨by rw [e1]; exact hP.1, Nat.le_trans hS.1 (by rw [e1]; exact hz), fun q h1 h2 => by rw [e1, hk q (Nat.lt_of_lt_of_le h1 hS.1) h2]; exact hS.2.1 q h1 h2, fun q hq => by
      rcases List.mem_append.mp hq with h | h
      · exact hS.2.2 q h
      · exact hL q h⟩ (by rw [e1]; exact hP.2) T' rfl X'
  exact ⟨t2, st t2 a1, b1⟩
variable {y : MethodName} {bytes : ByteArray} {maxL nL n index i mc ms M1 : Nat} {ret : Option FieldType} {ws : List Cond} {rm : Room} {Ts : List Cond} {own host : String} {As : List Value}
theorem qe_runI {ok : (Nat → va_E) → Prop} (S : CallFix p m c cc nL s args Ts own) (hK : qh_K G s) (hN : qe_N s) (hH : qh_H G z M E H0 H locs) (hsz : H.size = z + M) (hM : Met l y ws rm (qe_Pre G z M E (.ref (z + i) :: As)) (qe_Q G z M1 ok) mc ms (fun q => z ≤ q)) (cw : CallB R s args own index y bytes maxL none ws rm mc ms n ∧ y.name = "<init>" ∧ (Cond.instanceMethod y).before args s = true)
    (hn : As.length = n) (hsize : ls.size = nL) (hstack : st0 = As.reverse ++ .ref (z + i) :: rest) (hW : (rest.map fun v => v.category).sum ≤ 8) (hdg : decode cc pc = .ok (.invokespecial index, 3)) (hf : cells + mc ≤ R.cells ∧ slots + ms ≤ R.slots)
    (kk : ∀ (E' : Nat → va_E) (H1 : Heap) (locs1 : List Loc), ok E' → qh_H G z M1 E' H0 H1 locs1 → H1.size = z + M1 → W p l e R s m args below meth c H1 locs1 (cells + mc) (slots + ms) Q (F0 m (pc + 3) ls rest)) : W p l e R s m args below meth c H locs cells slots Q (F0 m pc ls st0) :=
  qe_after (va_runI (As := As) (rest := rest) S hM cw ⟨qe_blind, fun U hU hW => ⟨rfl, ⟨by rw [hU]; exact hH.1, by rw [hU]; exact hsz⟩, va_K.moved hW.alike hK, qe_N.warm hW hN⟩⟩ rfl hn hsize hstack (lv_room hW) hdg hf) hH.2 kk
theorem qe_runIN {ok : (Nat → va_E) → Prop} (S : CallFix p m c cc nL s args Ts own) (hK : qh_K G s) (hN : qe_N s) (hH : qh_H G z M E H0 H locs) (hsz : H.size = z + M) (hM : Met l y ws rm (qe_Pre G z M E (.ref (z + i) :: As)) (qe_Q G z M1 ok) mc ms (fun q => z ≤ q)) (cw : va_CN R s args own index y host bytes maxL none ws rm mc ms n ∧ y.name = "<init>" ∧ (Cond.instanceMethod y).before args s = true)
    (hn : As.length = n) (hsize : ls.size = nL) (hstack : st0 = As.reverse ++ .ref (z + i) :: rest) (hW : (rest.map fun v => v.category).sum ≤ 8) (hdg : decode cc pc = .ok (.invokespecial index, 3)) (hf : cells + mc ≤ R.cells ∧ slots + ms ≤ R.slots)
    (kk : ∀ (E' : Nat → va_E) (H1 : Heap) (locs1 : List Loc), ok E' → qh_H G z M1 E' H0 H1 locs1 → H1.size = z + M1 → W p l e R s m args below meth c H1 locs1 (cells + mc) (slots + ms) Q (F0 m (pc + 3) ls rest)) : W p l e R s m args below meth c H locs cells slots Q (F0 m pc ls st0) :=
  qe_after (va_runIN (As := As) (rest := rest) S hM cw ⟨qe_blind, fun U hU hW => ⟨rfl, ⟨by rw [hU]; exact hH.1, by rw [hU]; exact hsz⟩, va_K.moved hW.alike hK, qe_N.warm hW hN⟩⟩ rfl hn hsize hstack (lv_room hW) hdg hf) hH.2 kk
theorem qe_runS {ok : (Nat → va_E) → Prop} (S : CallFix p m c cc nL s args Ts own) (hK : qh_K G s) (hN : qe_N s) (hH : qh_H G z M E H0 H locs) (hsz : H.size = z + M) (hM : Met l y ws rm (qe_Pre G z M E As) (qe_Q G z M1 ok) mc ms (fun q => z ≤ q)) (cw : CallB R s args own index y bytes maxL ret ws rm mc ms n ∧ (Cond.static y).before args s = true)
    (hn : As.length = n) (hsize : ls.size = nL) (hstack : st0 = As.reverse ++ rest) (hW : (rest.map fun v => v.category).sum ≤ 8) (hdg : decode cc pc = .ok (.invokestatic index, 3)) (hf : cells + mc ≤ R.cells ∧ slots + ms ≤ R.slots)
    (kk : ∀ (E' : Nat → va_E) (H1 : Heap) (locs1 : List Loc), ok E' → qh_H G z M1 E' H0 H1 locs1 → H1.size = z + M1 → W p l e R s m args below meth c H1 locs1 (cells + mc) (slots + ms) Q (F0 m (pc + 3) ls rest)) : W p l e R s m args below meth c H locs cells slots Q (F0 m pc ls st0) :=
  qe_after (va_runS (As := As) (rest := rest) S hM cw ⟨qe_blind, fun U hU hW => ⟨rfl, ⟨by rw [hU]; exact hH.1, by rw [hU]; exact hsz⟩, va_K.moved hW.alike hK, qe_N.warm hW hN⟩⟩ rfl hn hsize hstack (lv_room hW) hdg hf) hH.2 kk
end QEC
/-- the beginning of a constructor's contract -/
theorem qe_met {l : Launch} {G : qh_G} {z M M1 d mc ms : Nat} {E : Nat → va_E} {y : MethodName} {ws ws' : List Cond} {cc : ByteArray} {maxL : Nat} {av : List Value} {ok : (Nat → va_E) → Prop} (hy : plainName y.cls = true) (hw : ws = Cond.code y cc maxL none :: ws') (hn : (lg_sl av).length ≤ maxL)
    (body : ∀ (p : Program) (e : Env) (s : State) (m : MethodId) (args : Array Value) (below : List Frame) (meth : Method) (c : Code) (RR : Room) (QQ : State → Prop) (ls : Array Slot), p.tables.exec = Jvm.exec → c.code = cc → c.maxLocals = maxL → s.vm.findClass y.cls = some m.cls → meth.name = y.name → (∀ w ∈ ws, w.before args s = true) → RR.frames = d → RR.locals = 40 * d → RR.cells = mc → RR.slots = ms → qh_H G z M E s.heap s.heap [] → s.heap.size = z + M → qh_K G s → qe_N s → lv_has ls maxL (lv_args 0 av) →
      (∀ {H : Heap} {locs : List Loc} {pc : Nat} {ls : Array Slot} {E : Nat → va_E}, decode cc pc = .ok (.return_, 1) → qh_H G z M1 E s.heap H locs → H.size = z + M1 → ok E → W p l e RR s m args below meth c H locs mc ms QQ (F0 m pc ls [])) →
      W p l e RR s m args below meth c s.heap [] 0 0 QQ (F0 m 0 ls [])) : Met l y ws (qe_R d mc ms) (qe_Pre G z M E av) (qe_Q G z M1 ok) mc ms (fun q => z ≤ q) := by
  refine Met.ofW (cc := cc) (maxL := maxL) (ret := none) hy hw ?_
  intro p e s m args below meth c s₁ B hml hv
  obtain ⟨rfl, hP, hK, hN⟩ := hv
  have hts := atoms_spec (ws := ws) B.pre
  have hl := lv_entry av (n := maxL) hn
  rw [lg_entry_eq]
  refine body p e s m av.toArray below meth c (headSpec ws (qe_R d mc ms)).room _ _ B.exec B.bytes hml (findClass_of_methodNamed B.named) (name_of_methodNamed B.named B.method).1 hts rfl rfl rfl rfl (qh_H.start hP.1) hP.2 hK hN hl (fun hd hH hz hp => ?_)
  exact W.vret B.exec B.bytes B.returns (fun t ht _ => ⟨_, rfl, hp, ⟨by rw [ht]; exact hH.1, by rw [ht]; exact hz⟩, hH.2.F ht⟩) hH.2.2.2 hd B.notSynchronized
theorem qh_renA {G : qh_G} {z M i n : Nat} {E E1 : Nat → va_E} {H0 H : Heap} {locs : List Loc} {f g : Nat → Option Nat} (hH : qh_H G z M E1 H0 H locs) (h1 : E1 i = qa_A G n f) (hfr : ∀ j, j ≠ i → E1 j = E j) (hfg : ∀ k, k < n → f k = g k) : ∃ E2 : Nat → va_E, E2 i = qa_A G n g ∧ (∀ j, j ≠ i → E2 j = E j) ∧ qh_H G z M E2 H0 H locs := by
  refine ⟨va_up E1 i (qa_A G n g), va_up_self .., fun j hj => (va_up_ne _ _ hj).trans (hfr j hj), ⟨hH.1.1, fun j hj => ?_⟩, hH.2⟩
  by_cases hji : j = i
  · subst hji
    have h2 := hH.1.2 j hj
    rw [h1] at h2
    rw [va_up_self]
    have e : arrV G.2.2.2.1 n (fun j => va_rf (f j)) = arrV G.2.2.2.1 n (fun j => va_rf (g j)) := by
      unfold arrV
      congr 2
      funext q
      exact congrArg va_rf (hfg q.val q.isLt)
    have h3 : H[z + j]? = some (arrV G.2.2.2.1 n (fun j => va_rf (f j))) := h2
    rw [e] at h3
    exact h3
  · rw [va_up_ne _ _ hji]
    exact hH.1.2 j hj
theorem qh_renS {G : qh_G} {z M i n : Nat} {E E1 : Nat → va_E} {H0 H : Heap} {locs : List Loc} {f g : Nat → Option Nat} (hH : qh_H G z M E1 H0 H locs) (h1 : E1 i = qa_S G n f) (hfr : ∀ j, j ≠ i → E1 j = E j) (hfg : ∀ k, k < n → f k = g k) : ∃ E2 : Nat → va_E, E2 i = qa_S G n g ∧ (∀ j, j ≠ i → E2 j = E j) ∧ qh_H G z M E2 H0 H locs := by
  refine ⟨va_up E1 i (qa_S G n g), va_up_self .., fun j hj => (va_up_ne _ _ hj).trans (hfr j hj), ⟨hH.1.1, fun j hj => ?_⟩, hH.2⟩
  by_cases hji : j = i
  · subst hji
    have h2 := hH.1.2 j hj
    rw [h1] at h2
    rw [va_up_self]
    have e : arrV G.2.2.2.2 n (fun j => va_rf (f j)) = arrV G.2.2.2.2 n (fun j => va_rf (g j)) := by
      unfold arrV
      congr 2
      funext q
      exact congrArg va_rf (hfg q.val q.isLt)
    have h3 : H[z + j]? = some (arrV G.2.2.2.2 n (fun j => va_rf (f j))) := h2
    rw [e] at h3
    exact h3
  · rw [va_up_ne _ _ hji]
    exact hH.1.2 j hj
