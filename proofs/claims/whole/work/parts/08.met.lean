/-! THE BEGINNING OF A CONTRACT: room, end and arguments are variables in the body; what an end asks for comes as a hypothesis -/
def qh_End (p : Program) (l : Launch) (e : Env) (RR : Room) (s : State) (m : MethodId) (args : Array Value) (below : List Frame) (meth : Method) (c : Code) (G : qh_G) (z M : Nat) (cc : ByteArray) (QQ : State → Prop) (op : Instr) (mk : List Value → Option Value → Prop) (ok : Option Value → (Nat → va_E) → Prop) : Prop :=
  ∀ {H : Heap} {locs : List Loc} {pc : Nat} {ls : Array Slot} {st : List Value} {v : Option Value} {E : Nat → va_E}, decode cc pc = .ok (op, 1) → qh_H G z M E s.heap H locs → mk st v → ok v E → W p l e RR s m args below meth c H locs 0 0 QQ (F0 m pc ls st)
theorem qh_met {l : Launch} {G : qh_G} {z M d : Nat} {E : Nat → va_E} {y : MethodName} {ws ws' : List Cond} {cc : ByteArray} {maxL : Nat} {ret : Option FieldType} {av : List Value} {ok : Option Value → (Nat → va_E) → Prop} {op : Instr} {mk : List Value → Option Value → Prop} (hy : plainName y.cls = true) (hw : ws = Cond.code y cc maxL ret :: ws') (hn : (lg_sl av).length ≤ maxL)
    (hend : ∀ (p : Program) (e : Env) (s : State) (m : MethodId) (args : Array Value) (below : List Frame) (meth : Method) (c : Code) (RR : Room), p.tables.exec = Jvm.exec → c.code = cc → meth.sig.returnType = ret → meth.locks = false → qh_End p l e RR s m args below meth c G z M cc (MQ below (qh_Q G z M ok) args s 0 0 (fun q => z ≤ q)) op mk ok)
    (body : ∀ (p : Program) (e : Env) (s : State) (m : MethodId) (args : Array Value) (below : List Frame) (meth : Method) (c : Code) (RR : Room) (QQ : State → Prop) (ls : Array Slot), p.tables.exec = Jvm.exec → c.code = cc → c.maxLocals = maxL → s.vm.findClass y.cls = some m.cls → (∀ w ∈ ws, w.before args s = true) → RR.frames = d → RR.locals = 40 * d → qh_H G z M E s.heap s.heap [] → qh_K G s → lv_has ls maxL (lv_args 0 av) → qh_End p l e RR s m args below meth c G z M cc QQ op mk ok →
      W p l e RR s m args below meth c s.heap [] 0 0 QQ (F0 m 0 ls [])) : Met l y ws (qh_R d) (qh_Pre G z M E av) (qh_Q G z M ok) 0 0 (fun q => z ≤ q) := by
  refine Met.ofW (cc := cc) (maxL := maxL) (ret := ret) hy hw ?_
  intro p e s m args below meth c s₁ B hml hv
  obtain ⟨rfl, hP, hK⟩ := hv
  have hts := atoms_spec (ws := ws) B.pre
  have hl := lv_entry av (n := maxL) hn
  rw [lg_entry_eq]
  exact body p e s m av.toArray below meth c (headSpec ws (qh_R d)).room _ _ B.exec B.bytes hml (findClass_of_methodNamed B.named) hts rfl rfl (qh_H.start hP) hK hl (hend p e s m av.toArray below meth c _ B.exec B.bytes B.returns B.notSynchronized)
def qh_mi (st : List Value) (v : Option Value) : Prop := ∃ r : Int32, st = [.int r] ∧ v = some (.int r)
def qh_mz (st : List Value) (v : Option Value) : Prop := ∃ r : Int32, st = [.int r] ∧ v = some (.int r) ∧ (r = 0 ∨ r = 1)
def qh_ml (st : List Value) (v : Option Value) : Prop := ∃ r : Int64, st = [.long r] ∧ v = some (.long r)
def qh_mv (st : List Value) (v : Option Value) : Prop := st = [] ∧ v = none
def qh_ma (st : List Value) (v : Option Value) : Prop := ∃ r : Value, st = [r] ∧ v = some r ∧ (r = .null ∨ ∃ a, r = .ref a)
section QHM
variable {l : Launch} {G : qh_G} {z M d : Nat} {E : Nat → va_E} {y : MethodName} {ws ws' : List Cond} {cc : ByteArray} {maxL : Nat} {av : List Value}
theorem qh_metI {post : Int32 → (Nat → va_E) → Prop} (hy : plainName y.cls = true) (hw : ws = Cond.code y cc maxL (some .int) :: ws') (hn : (lg_sl av).length ≤ maxL)
    (body : ∀ (p : Program) (e : Env) (s : State) (m : MethodId) (args : Array Value) (below : List Frame) (meth : Method) (c : Code) (RR : Room) (QQ : State → Prop) (ls : Array Slot), p.tables.exec = Jvm.exec → c.code = cc → c.maxLocals = maxL → s.vm.findClass y.cls = some m.cls → (∀ w ∈ ws, w.before args s = true) → RR.frames = d → RR.locals = 40 * d → qh_H G z M E s.heap s.heap [] → qh_K G s → lv_has ls maxL (lv_args 0 av) → (∀ {H : Heap} {locs : List Loc} {pc : Nat} {ls : Array Slot} {r : Int32} {E : Nat → va_E}, decode cc pc = .ok (.ireturn, 1) → qh_H G z M E s.heap H locs → post r E → W p l e RR s m args below meth c H locs 0 0 QQ (F0 m pc ls [.int r])) →
      W p l e RR s m args below meth c s.heap [] 0 0 QQ (F0 m 0 ls [])) : Met l y ws (qh_R d) (qh_Pre G z M E av) (qh_Q G z M (qh_i post)) 0 0 (fun q => z ≤ q) := by
  refine qh_met (op := .ireturn) (mk := qh_mi) hy hw hn (fun p e s m args below meth c RR hx hb hr hlk => ?_) (fun p e s m args below meth c RR QQ ls hx hb hml ho hts h1 h2 hH hK hl hE => body p e s m args below meth c RR QQ ls hx hb hml ho hts h1 h2 hH hK hl (fun hd hH hp => hE hd hH ⟨_, rfl, rfl⟩ ⟨_, rfl, hp⟩))
  rintro H locs pc ls st v E hd hH ⟨r, rfl, rfl⟩ ⟨r', e1, hp⟩
  cases e1
  exact qh_iret hx hb hr hlk hH hd hp
theorem qh_metZ {post : Int32 → (Nat → va_E) → Prop} (hy : plainName y.cls = true) (hw : ws = Cond.code y cc maxL (some .boolean) :: ws') (hn : (lg_sl av).length ≤ maxL)
    (body : ∀ (p : Program) (e : Env) (s : State) (m : MethodId) (args : Array Value) (below : List Frame) (meth : Method) (c : Code) (RR : Room) (QQ : State → Prop) (ls : Array Slot), p.tables.exec = Jvm.exec → c.code = cc → c.maxLocals = maxL → s.vm.findClass y.cls = some m.cls → (∀ w ∈ ws, w.before args s = true) → RR.frames = d → RR.locals = 40 * d → qh_H G z M E s.heap s.heap [] → qh_K G s → lv_has ls maxL (lv_args 0 av) → (∀ {H : Heap} {locs : List Loc} {pc : Nat} {ls : Array Slot} {r : Int32} {E : Nat → va_E}, decode cc pc = .ok (.ireturn, 1) → qh_H G z M E s.heap H locs → r = 0 ∨ r = 1 → post r E → W p l e RR s m args below meth c H locs 0 0 QQ (F0 m pc ls [.int r])) →
      W p l e RR s m args below meth c s.heap [] 0 0 QQ (F0 m 0 ls [])) : Met l y ws (qh_R d) (qh_Pre G z M E av) (qh_Q G z M (qh_i post)) 0 0 (fun q => z ≤ q) := by
  refine qh_met (op := .ireturn) (mk := qh_mz) hy hw hn (fun p e s m args below meth c RR hx hb hr hlk => ?_) (fun p e s m args below meth c RR QQ ls hx hb hml ho hts h1 h2 hH hK hl hE => body p e s m args below meth c RR QQ ls hx hb hml ho hts h1 h2 hH hK hl (fun hd hH h01 hp => hE hd hH ⟨_, rfl, rfl, h01⟩ ⟨_, rfl, hp⟩))
  rintro H locs pc ls st v E hd hH ⟨r, rfl, rfl, h01⟩ ⟨r', e1, hp⟩
  cases e1
  exact qh_zret hx hb hr hlk hH hd (by rcases h01 with rfl | rfl <;> rfl) hp
theorem qh_metL {post : Int64 → (Nat → va_E) → Prop} (hy : plainName y.cls = true) (hw : ws = Cond.code y cc maxL (some .long) :: ws') (hn : (lg_sl av).length ≤ maxL)
    (body : ∀ (p : Program) (e : Env) (s : State) (m : MethodId) (args : Array Value) (below : List Frame) (meth : Method) (c : Code) (RR : Room) (QQ : State → Prop) (ls : Array Slot), p.tables.exec = Jvm.exec → c.code = cc → c.maxLocals = maxL → s.vm.findClass y.cls = some m.cls → (∀ w ∈ ws, w.before args s = true) → RR.frames = d → RR.locals = 40 * d → qh_H G z M E s.heap s.heap [] → qh_K G s → lv_has ls maxL (lv_args 0 av) → (∀ {H : Heap} {locs : List Loc} {pc : Nat} {ls : Array Slot} {r : Int64} {E : Nat → va_E}, decode cc pc = .ok (.lreturn, 1) → qh_H G z M E s.heap H locs → post r E → W p l e RR s m args below meth c H locs 0 0 QQ (F0 m pc ls [.long r])) →
      W p l e RR s m args below meth c s.heap [] 0 0 QQ (F0 m 0 ls [])) : Met l y ws (qh_R d) (qh_Pre G z M E av) (qh_Q G z M (qh_l post)) 0 0 (fun q => z ≤ q) := by
  refine qh_met (op := .lreturn) (mk := qh_ml) hy hw hn (fun p e s m args below meth c RR hx hb hr hlk => ?_) (fun p e s m args below meth c RR QQ ls hx hb hml ho hts h1 h2 hH hK hl hE => body p e s m args below meth c RR QQ ls hx hb hml ho hts h1 h2 hH hK hl (fun hd hH hp => hE hd hH ⟨_, rfl, rfl⟩ ⟨_, rfl, hp⟩))
  rintro H locs pc ls st v E hd hH ⟨r, rfl, rfl⟩ ⟨r', e1, hp⟩
  cases e1
  exact qh_lret hx hb hr hlk hH hd hp
theorem qh_metV {post : (Nat → va_E) → Prop} (hy : plainName y.cls = true) (hw : ws = Cond.code y cc maxL none :: ws') (hn : (lg_sl av).length ≤ maxL)
    (body : ∀ (p : Program) (e : Env) (s : State) (m : MethodId) (args : Array Value) (below : List Frame) (meth : Method) (c : Code) (RR : Room) (QQ : State → Prop) (ls : Array Slot), p.tables.exec = Jvm.exec → c.code = cc → c.maxLocals = maxL → s.vm.findClass y.cls = some m.cls → (∀ w ∈ ws, w.before args s = true) → RR.frames = d → RR.locals = 40 * d → qh_H G z M E s.heap s.heap [] → qh_K G s → lv_has ls maxL (lv_args 0 av) → (∀ {H : Heap} {locs : List Loc} {pc : Nat} {ls : Array Slot} {E : Nat → va_E}, decode cc pc = .ok (.return_, 1) → qh_H G z M E s.heap H locs → post E → W p l e RR s m args below meth c H locs 0 0 QQ (F0 m pc ls [])) →
      W p l e RR s m args below meth c s.heap [] 0 0 QQ (F0 m 0 ls [])) : Met l y ws (qh_R d) (qh_Pre G z M E av) (qh_Q G z M (qh_v post)) 0 0 (fun q => z ≤ q) := by
  refine qh_met (op := .return_) (mk := qh_mv) hy hw hn (fun p e s m args below meth c RR hx hb hr hlk => ?_) (fun p e s m args below meth c RR QQ ls hx hb hml ho hts h1 h2 hH hK hl hE => body p e s m args below meth c RR QQ ls hx hb hml ho hts h1 h2 hH hK hl (fun hd hH hp => hE hd hH ⟨rfl, rfl⟩ ⟨rfl, hp⟩))
  rintro H locs pc ls st v E hd hH ⟨rfl, rfl⟩ ⟨e1, hp⟩
  exact qh_vret hx hb hr hlk hH hd hp
theorem qh_metA {C : String} {post : Value → (Nat → va_E) → Prop} (hy : plainName y.cls = true) (hw : ws = Cond.code y cc maxL (some (.object C)) :: ws') (hn : (lg_sl av).length ≤ maxL)
    (body : ∀ (p : Program) (e : Env) (s : State) (m : MethodId) (args : Array Value) (below : List Frame) (meth : Method) (c : Code) (RR : Room) (QQ : State → Prop) (ls : Array Slot), p.tables.exec = Jvm.exec → c.code = cc → c.maxLocals = maxL → s.vm.findClass y.cls = some m.cls → (∀ w ∈ ws, w.before args s = true) → RR.frames = d → RR.locals = 40 * d → qh_H G z M E s.heap s.heap [] → qh_K G s → lv_has ls maxL (lv_args 0 av) → (∀ {H : Heap} {locs : List Loc} {pc : Nat} {ls : Array Slot} {r : Value} {E : Nat → va_E}, decode cc pc = .ok (.areturn, 1) → qh_H G z M E s.heap H locs → (r = .null ∨ ∃ a, r = .ref a) → post r E → W p l e RR s m args below meth c H locs 0 0 QQ (F0 m pc ls [r])) →
      W p l e RR s m args below meth c s.heap [] 0 0 QQ (F0 m 0 ls [])) : Met l y ws (qh_R d) (qh_Pre G z M E av) (qh_Q G z M (qh_a post)) 0 0 (fun q => z ≤ q) := by
  refine qh_met (op := .areturn) (mk := qh_ma) hy hw hn (fun p e s m args below meth c RR hx hb hr hlk => ?_) (fun p e s m args below meth c RR QQ ls hx hb hml ho hts h1 h2 hH hK hl hE => body p e s m args below meth c RR QQ ls hx hb hml ho hts h1 h2 hH hK hl (fun hd hH hr hp => hE hd hH ⟨_, rfl, rfl, hr⟩ ⟨_, rfl, hp⟩))
  rintro H locs pc ls st v E hd hH ⟨r, rfl, rfl, hr2⟩ ⟨r', e1, hp⟩
  cases e1
  exact qh_aret hx hb hr hlk hH hr2 hd hp
end QHM
/-! truth values as ints -/
def bI (c : Prop) [Decidable c] : Int32 := if c then 1 else 0
theorem bI_ne {c : Prop} [Decidable c] : ¬ bI c = 0 ↔ c := by
  unfold bI
  split <;> simp_all
theorem bI_eq {c : Prop} [Decidable c] : bI c = 0 ↔ ¬ c := by
  unfold bI
  split <;> simp_all
theorem bI_t {c : Prop} [Decidable c] (h : c) : bI c = 1 := if_pos h
theorem bI_f {c : Prop} [Decidable c] (h : ¬ c) : bI c = 0 := if_neg h
theorem bI_01 {c : Prop} [Decidable c] : bI c = 0 ∨ bI c = 1 := by
  unfold bI
  split <;> simp
theorem bI_1 {c : Prop} [Decidable c] (h : c) : (1 : Int32) = bI c := (bI_t h).symm
theorem bI_0 {c : Prop} [Decidable c] (h : ¬ c) : (0 : Int32) = bI c := (bI_f h).symm
theorem qn_inc (k : Nat) : nI k + Int32.ofInt 1 = nI (k + 1) := nI_1 k
theorem qn_inc6 (k : Nat) : nI k + Int32.ofInt 6 = nI (k + 6) := by
  rw [← nI_add]; rfl
section QHT
variable {p : Program} {l : Launch} {e : Env} {R : Room} {s : State} {m : MethodId} {args : Array Value} {below : List Frame} {meth : Method} {c : Code} {H : Heap} {locs : List Loc} {cells slots : Nat} {Q : State → Prop} {pc : Nat} {ls : Array Slot} {rest : List Value}
theorem qh_topi {x y : Int32} (h : x = y) (k : W p l e R s m args below meth c H locs cells slots Q (F0 m pc ls (.int y :: rest))) : W p l e R s m args below meth c H locs cells slots Q (F0 m pc ls (.int x :: rest)) := by rw [h]; exact k
theorem qh_topl {x y : Int64} (h : x = y) (k : W p l e R s m args below meth c H locs cells slots Q (F0 m pc ls (.long y :: rest))) : W p l e R s m args below meth c H locs cells slots Q (F0 m pc ls (.long x :: rest)) := by rw [h]; exact k
end QHT
theorem lg_cmp_ne (x y : Int64) : (¬ lg_cmp x y = 0) ↔ ¬ x = y := not_congr (lg_cmp_eq x y)
