/-! numbers of 64 bits by their bits -/
theorem lx_tn {n : Nat} (h : n < 2 ^ 64) : (lN n).toBitVec.toNat = n := Nat.mod_eq_of_lt h
theorem lx_shr {n k : Nat} (h : n < 2 ^ 63) (s : Int64) (hs : (s.toBitVec.smod 64).toNat = k) : lN n >>> s = lN (n / 2 ^ k) := by
  apply Int64.toInt_inj.mp
  have h2 : n / 2 ^ k ≤ n := Nat.div_le_self _ _
  have h3 : (lN n >>> s).toInt = (lN n).toInt >>> k := by
    show ((lN n).toBitVec.sshiftRight (s.toBitVec.smod 64).toNat).toInt = _
    rw [hs, BitVec.toInt_sshiftRight]
    rfl
  rw [h3, pk_lT h, pk_lT (by omega), Int.shiftRight_eq_div_pow]
  rfl
theorem lx_shl {n k : Nat} (s : Int64) (hs : (s.toBitVec.smod 64).toNat = k) (h : n * 2 ^ k < 2 ^ 64) : lN n <<< s = lN (n * 2 ^ k) := by
  apply Int64.toBitVec_inj.mp
  apply BitVec.eq_of_toNat_eq
  have hn : n < 2 ^ 64 := Nat.lt_of_le_of_lt (Nat.le_mul_of_pos_right n (Nat.two_pow_pos k)) h
  have h3 : (lN n <<< s).toBitVec.toNat = (lN n).toBitVec.toNat * 2 ^ k % 2 ^ 64 := by
    show ((lN n).toBitVec <<< (s.toBitVec.smod 64).toNat).toNat = _
    rw [hs, BitVec.toNat_shiftLeft, Nat.shiftLeft_eq]
  rw [h3, lx_tn hn, lx_tn h, Nat.mod_eq_of_lt h]
theorem lx_and {a b : Nat} (ha : a < 2 ^ 64) (hb : b < 2 ^ 64) : lN a &&& lN b = lN (a &&& b) := by
  apply Int64.toBitVec_inj.mp
  apply BitVec.eq_of_toNat_eq
  rw [Int64.toBitVec_and, BitVec.toNat_and, lx_tn ha, lx_tn hb, lx_tn (Nat.lt_of_le_of_lt Nat.and_le_left ha)]
theorem lx_or {a b : Nat} (ha : a < 2 ^ 64) (hb : b < 2 ^ 64) : lN a ||| lN b = lN (a ||| b) := by
  apply Int64.toBitVec_inj.mp
  apply BitVec.eq_of_toNat_eq
  rw [Int64.toBitVec_or, BitVec.toNat_or, lx_tn ha, lx_tn hb, lx_tn (Nat.or_lt_two_pow ha hb)]
theorem lx_ush {n k : Nat} (hn : n < 2 ^ 64) (s : Int32) (hs : ((s.toInt64.toUInt64 &&& Int64.toUInt64 63).toBitVec % 64).toNat = k) : ((lN n).toUInt64 >>> (s.toInt64.toUInt64 &&& Int64.toUInt64 63)).toInt64 = lN (n / 2 ^ k) := by
  apply Int64.toBitVec_inj.mp
  apply BitVec.eq_of_toNat_eq
  have e : ((lN n).toUInt64 >>> (s.toInt64.toUInt64 &&& Int64.toUInt64 63)).toInt64.toBitVec = (lN n).toBitVec >>> k := by
    rw [← hs]
    exact UInt64.toBitVec_shiftRight _ _
  rw [e, BitVec.toNat_ushiftRight, Nat.shiftRight_eq_div_pow, lx_tn hn, lx_tn (Nat.lt_of_le_of_lt (Nat.div_le_self _ _) hn)]
theorem sh64 {k : Nat} (h : k < 32) : (((nI k).toInt64 &&& 63).toBitVec.smod 64).toNat = k := by
  have hd : ∀ k, k < 32 → (((nI k).toInt64 &&& 63).toBitVec.smod 64).toNat = k := by decide +kernel
  exact hd k h
theorem lx_and1 {a : Nat} (ha : a < 2 ^ 63) : lN a &&& 1 = lN (a % 2) := by
  have h := lx_and (a := a) (b := 1) (by omega) (by decide)
  rw [Nat.and_one_is_mod] at h
  exact h
theorem lx_1s {s : Nat} (h : s < 32) : (1 : Int64) <<< ((nI s).toInt64 &&& 63) = lN (2 ^ s) := by
  have h2 := lx_shl (n := 1) ((nI s).toInt64 &&& 63) (sh64 h) (by rw [Nat.one_mul]; exact Nat.pow_lt_pow_right (by decide) (by omega))
  rw [Nat.one_mul] at h2
  exact h2
/-! how many bits are set: byte by byte -/
def popB (m c : Nat) : Nat := cntR (fun t => decide (m / 2 ^ t % 2 = 1)) 0 c
theorem cntR_app (q : Nat → Bool) (a b : Nat) : ∀ c, cntR q a (b + c) = cntR q a b + cntR q (a + b) c
  | 0 => rfl
  | c + 1 => by
    rw [show b + (c + 1) = (b + c) + 1 by omega, cntR_succ, cntR_app q a b c, cntR_succ, Nat.add_assoc, Nat.add_assoc a b c]
theorem cntR_sh {q q' : Nat → Bool} {a b : Nat} : ∀ {c : Nat}, (∀ k, k < c → q (a + k) = q' (b + k)) → cntR q a c = cntR q' b c
  | 0, _ => rfl
  | c + 1, h => by
    rw [cntR_succ, cntR_succ, cntR_sh (fun k hk => h k (by omega)), h c (by omega)]
theorem bit_lo {lo hi t : Nat} (ht : t < 8) : (lo + 256 * hi) / 2 ^ t % 2 = lo / 2 ^ t % 2 := by
  have e : 256 * hi = 2 ^ t * (2 * (2 ^ (7 - t) * hi)) := by
    rw [← Nat.mul_assoc, ← Nat.mul_assoc, ← Nat.pow_succ, ← Nat.pow_add, show t + 1 + (7 - t) = 8 by omega]
  rw [e, Nat.add_mul_div_left _ _ (Nat.two_pow_pos t), Nat.add_mul_mod_self_left]
theorem bit_hi {lo hi t : Nat} (hlo : lo < 256) : (lo + 256 * hi) / 2 ^ (8 + t) = hi / 2 ^ t := by
  rw [Nat.pow_add, ← Nat.div_div_eq_div_mul, show (2 : Nat) ^ 8 = 256 by decide, Nat.add_mul_div_left _ _ (by decide), Nat.div_eq_of_lt hlo, Nat.zero_add]
theorem pop_split {lo hi : Nat} (c : Nat) (hlo : lo < 256) : popB (lo + 256 * hi) (8 + c) = popB lo 8 + popB hi c := by
  unfold popB
  rw [cntR_app]
  congr 1
  · exact cntR_cong (fun k _ hk => by rw [bit_lo (by omega)])
  · refine cntR_sh (fun k hk => ?_)
    rw [show 0 + 8 + k = 8 + k by omega, bit_hi hlo, Nat.zero_add]
theorem and_split {lo k : Nat} (hi K : Nat) (h1 : lo < 256) (h2 : k < 256) : (lo + 256 * hi) &&& (k + 256 * K) = (lo &&& k) + 256 * (hi &&& K) := by
  have h3 : (lo &&& k) < 2 ^ 8 := Nat.lt_of_le_of_lt Nat.and_le_left h1
  apply Nat.eq_of_testBit_eq
  intro i
  have e : ∀ a b : Nat, a < 2 ^ 8 → (a + 256 * b).testBit i = if i < 8 then a.testBit i else b.testBit (i - 8) := fun a b ha => by
    have := Nat.testBit_two_pow_mul_add b ha i
    rw [Nat.add_comm] at this
    exact this
  rw [Nat.testBit_and, e lo hi h1, e k K h2, e _ _ h3]
  split
  · rw [Nat.testBit_and]
  · rw [Nat.testBit_and]
def bcA (m : Nat) : Nat := m - ((m / 2) &&& 6148914691236517205)
def bcB (m : Nat) : Nat := (bcA m &&& 3689348814741910323) + ((bcA m / 4) &&& 3689348814741910323)
def bcC (m : Nat) : Nat := (bcB m + bcB m / 16) &&& 1085102592571150095
def bcE (m : Nat) : Nat := (bcC m + bcC m / 256) + (bcC m + bcC m / 256) / 65536
def gA (K m : Nat) : Nat := m - ((m / 2) &&& K)
def gB (K K3 m : Nat) : Nat := (gA K m &&& K3) + ((gA K m / 4) &&& K3)
def gC (K K3 KF m : Nat) : Nat := (gB K K3 m + gB K K3 m / 16) &&& KF
theorem by_1 : ∀ y, y < 128 → ∀ b, b < 2 → (y + 128 * b) &&& 85 = y &&& 85 := by decide +kernel
theorem by_2 : ∀ y, y < 64 → ∀ b, b < 4 → (y + 64 * b) &&& 51 = y &&& 51 := by decide +kernel
theorem by_3 : ∀ y, y < 69 → ∀ b, b < 5 → (y + y / 16 + 16 * b) &&& 15 = (y + y / 16) &&& 15 := by decide +kernel
theorem by_4 : ∀ y, y < 256 → gB 85 51 y ≤ 68 ∧ gB 85 51 y % 16 ≤ 4 ∧ gC 85 51 15 y ≤ 8 ∧ gC 85 51 15 y = popB y 8 := by decide +kernel
theorem gA_split {lo : Nat} (hi K : Nat) (h : lo < 256) : gA (85 + 256 * K) (lo + 256 * hi) = gA 85 lo + 256 * gA K hi := by
  have e : (lo + 256 * hi) / 2 = (lo / 2 + 128 * (hi % 2)) + 256 * (hi / 2) := by omega
  have h1 : (lo / 2 &&& 85) ≤ lo / 2 := Nat.and_le_left
  have h2 : (hi / 2 &&& K) ≤ hi / 2 := Nat.and_le_left
  unfold gA
  rw [e, and_split _ _ (by omega) (by decide), by_1 (lo / 2) (by omega) (hi % 2) (by omega)]
  omega
theorem gA_le (K m : Nat) : gA K m ≤ m := Nat.sub_le _ _
theorem gB_split {lo : Nat} (hi K K3 : Nat) (h : lo < 256) : gB (85 + 256 * K) (51 + 256 * K3) (lo + 256 * hi) = gB 85 51 lo + 256 * gB K K3 hi := by
  unfold gB
  rw [gA_split hi K h]
  have h1 := gA_le 85 lo
  have e : (gA 85 lo + 256 * gA K hi) / 4 = (gA 85 lo / 4 + 64 * (gA K hi % 4)) + 256 * (gA K hi / 4) := by omega
  rw [e, and_split _ _ (by omega) (by decide), and_split _ _ (by omega) (by decide), by_2 (gA 85 lo / 4) (by omega) (gA K hi % 4) (by omega)]
  omega
theorem gC_split {lo : Nat} (hi K K3 KF : Nat) (h : lo < 256) (h4 : gB K K3 hi % 16 ≤ 4) : gC (85 + 256 * K) (51 + 256 * K3) (15 + 256 * KF) (lo + 256 * hi) = gC 85 51 15 lo + 256 * gC K K3 KF hi := by
  unfold gC
  rw [gB_split hi K K3 h]
  have h1 := (by_4 lo h).1
  have e : gB 85 51 lo + 256 * gB K K3 hi + (gB 85 51 lo + 256 * gB K K3 hi) / 16 = (gB 85 51 lo + gB 85 51 lo / 16 + 16 * (gB K K3 hi % 16)) + 256 * (gB K K3 hi + gB K K3 hi / 16) := by omega
  rw [e, and_split _ _ (by omega) (by decide), by_3 _ (by omega) _ (by omega)]
theorem gB_16 {lo : Nat} (hi K K3 : Nat) (h : lo < 256) : gB (85 + 256 * K) (51 + 256 * K3) (lo + 256 * hi) % 16 ≤ 4 := by
  rw [gB_split hi K K3 h]
  have h1 := (by_4 lo h).2.1
  omega
theorem gB_0 (K K3 : Nat) : gB K K3 0 = 0 := by
  simp [gB, gA]
theorem gC_0 (K K3 KF : Nat) : gC K K3 KF 0 = 0 := by
  simp [gC, gB, gA]
theorem bc_main {m : Nat} (h : m < 4294967296) : ∃ c0 c1 c2 c3, c0 ≤ 8 ∧ c1 ≤ 8 ∧ c2 ≤ 8 ∧ c3 ≤ 8 ∧ bcC m = c0 + 256 * (c1 + 256 * (c2 + 256 * c3)) ∧ popB m 32 = c0 + (c1 + (c2 + c3)) := by
  obtain ⟨l0, m1, h0, e0, hm1⟩ : ∃ l m', l < 256 ∧ m = l + 256 * m' ∧ m' < 16777216 := ⟨m % 256, m / 256, by omega, by omega, by omega⟩
  obtain ⟨l1, m2, h1, e1, hm2⟩ : ∃ l m', l < 256 ∧ m1 = l + 256 * m' ∧ m' < 65536 := ⟨m1 % 256, m1 / 256, by omega, by omega, by omega⟩
  obtain ⟨l2, m3, h2, e2, hm3⟩ : ∃ l m', l < 256 ∧ m2 = l + 256 * m' ∧ m' < 256 := ⟨m2 % 256, m2 / 256, by omega, by omega, by omega⟩
  have e3 : m3 = m3 + 256 * 0 := rfl
  have b0 := (by_4 l0 h0).2.2
  have b1 := (by_4 l1 h1).2.2
  have b2 := (by_4 l2 h2).2.2
  have b3 := (by_4 m3 hm3).2.2
  have n3 : gB 366503875925 219902325555 m3 % 16 ≤ 4 := gB_16 0 1431655765 858993459 hm3
  have n2 : gB 93824992236885 56294995342131 m2 % 16 ≤ 4 := by rw [e2]; exact gB_16 m3 366503875925 219902325555 h2
  have n1 : gB 24019198012642645 14411518807585587 m1 % 16 ≤ 4 := by rw [e1]; exact gB_16 m2 93824992236885 56294995342131 h1
  have n4 : gB 1431655765 858993459 0 % 16 ≤ 4 := by rw [gB_0]; decide
  have c3 : gC 366503875925 219902325555 64677154575 m3 = gC 85 51 15 m3 := by
    have q := gC_split 0 1431655765 858993459 252645135 hm3 n4
    rw [gC_0] at q
    exact q
  have c2 : gC 93824992236885 56294995342131 16557351571215 m2 = gC 85 51 15 l2 + 256 * gC 85 51 15 m3 := by
    rw [e2, ← c3]; exact gC_split m3 366503875925 219902325555 64677154575 h2 n3
  have c1 : gC 24019198012642645 14411518807585587 4238682002231055 m1 = gC 85 51 15 l1 + 256 * (gC 85 51 15 l2 + 256 * gC 85 51 15 m3) := by
    rw [← c2, e1]; exact gC_split m2 93824992236885 56294995342131 16557351571215 h1 n2
  have c0 : bcC m = gC 85 51 15 l0 + 256 * (gC 85 51 15 l1 + 256 * (gC 85 51 15 l2 + 256 * gC 85 51 15 m3)) := by
    rw [← c1, e0]; exact gC_split m1 24019198012642645 14411518807585587 4238682002231055 h0 n1
  refine ⟨_, _, _, _, b0.1, b1.1, b2.1, b3.1, c0, ?_⟩
  rw [b0.2, b1.2, b2.2, b3.2, e0, show 32 = 8 + 24 from rfl, pop_split 24 h0, e1, show 24 = 8 + 16 from rfl, pop_split 16 h1, e2, show 16 = 8 + 8 from rfl, pop_split 8 h2]
theorem bc_end {m c0 c1 c2 c3 : Nat} (h0 : c0 ≤ 8) (h1 : c1 ≤ 8) (h2 : c2 ≤ 8) (h3 : c3 ≤ 8) (hC : bcC m = c0 + 256 * (c1 + 256 * (c2 + 256 * c3))) : bcE m + bcE m / 4294967296 < 2 ^ 32 ∧ (bcE m + bcE m / 4294967296) % 2 ^ 7 = c0 + (c1 + (c2 + c3)) := by
  have e1 : bcC m / 256 = c1 + 256 * (c2 + 256 * c3) := by omega
  have e2 : (bcC m + bcC m / 256) / 65536 = (c2 + c3) + 256 * c3 := by rw [e1, hC]; omega
  have e3 : bcE m = (c0 + c1 + c2 + c3) + 256 * (c1 + c2 + c3 + 256 * (c2 + c3 + 256 * c3)) := by
    unfold bcE
    rw [e2, e1, hC]
    omega
  have e4 : bcE m / 4294967296 = 0 := by rw [e3]; omega
  rw [e4, e3]
  omega
theorem bc_bd {m : Nat} : ((m / 2) &&& 6148914691236517205) ≤ m ∧ bcA m ≤ m ∧ bcB m ≤ 7378697629483820646 := by
  have h1 : ((m / 2) &&& 6148914691236517205) ≤ m / 2 := Nat.and_le_left
  have h2 : (bcA m &&& 3689348814741910323) ≤ 3689348814741910323 := Nat.and_le_right
  have h3 : ((bcA m / 4) &&& 3689348814741910323) ≤ 3689348814741910323 := Nat.and_le_right
  refine ⟨by omega, Nat.sub_le _ _, ?_⟩
  unfold bcB
  omega
/-! which spans are looked into -/
def mkS (p : Nat → Bool) : Nat → Nat
  | 0 => 0
  | c + 1 => mkS p c + (if p c then 2 ^ c else 0)
theorem mk_lt (p : Nat → Bool) : ∀ c, mkS p c < 2 ^ c
  | 0 => Nat.one_pos
  | c + 1 => by
    have h := mk_lt p c
    rw [mkS, Nat.pow_succ]
    split <;> omega
theorem mk_bit (p : Nat → Bool) {t : Nat} : ∀ {c : Nat}, t < c → mkS p c / 2 ^ t % 2 = if p t then 1 else 0
  | 0, h => absurd h (Nat.not_lt_zero t)
  | c + 1, h => by
    rw [mkS]
    by_cases e : t = c
    · subst e
      have h1 := mk_lt p t
      by_cases q : p t = true
      · rw [if_pos q, if_pos q, Nat.add_div_right _ (Nat.two_pow_pos t), Nat.div_eq_of_lt h1]
      · rw [if_neg q, if_neg q, Nat.add_zero, Nat.div_eq_of_lt h1]
    · have ih := mk_bit p (t := t) (c := c) (by omega)
      rw [← ih]
      by_cases q : p c = true
      · rw [if_pos q, show 2 ^ c = 2 ^ t * (2 * 2 ^ (c - t - 1)) by rw [← Nat.mul_assoc, ← Nat.pow_succ, ← Nat.pow_add]; congr 1; omega, Nat.add_mul_div_left _ _ (Nat.two_pow_pos t), Nat.add_mul_mod_self_left]
      · rw [if_neg q, Nat.add_zero]
theorem mk_63 {p : Nat → Bool} {s : Nat} (h : s ≤ 32) : mkS p s < 2 ^ 63 := Nat.lt_of_lt_of_le (mk_lt p s) (Nat.pow_le_pow_right (by decide) (by omega))
theorem mk_32 (p : Nat → Bool) : mkS p 32 < 4294967296 := mk_lt p 32
theorem mk_0 {p : Nat → Bool} {s t : Nat} (ht : t < s) (h : mkS p s / 2 ^ t % 2 = 0) : p t = false := by
  rw [mk_bit p ht] at h
  cases q : p t with
  | false => rfl
  | true => rw [q] at h; exact absurd h (by decide)
theorem mk_1 {p : Nat → Bool} {s t : Nat} (ht : t < s) (h : ¬ mkS p s / 2 ^ t % 2 = 0) : p t = true := by
  rw [mk_bit p ht] at h
  cases q : p t with
  | true => rfl
  | false => rw [q] at h; exact absurd rfl h
theorem mk_no {p : Nat → Bool} {s : Nat} (h : p s = false) : mkS p (s + 1) = mkS p s := by
  rw [mkS, if_neg (by rw [h]; decide), Nat.add_zero]
theorem mk_or {p : Nat → Bool} {s : Nat} (hs : s < 32) (h : p s = true) : lN (mkS p s) ||| lN (2 ^ s) = lN (mkS p (s + 1)) := by
  have h1 := mk_lt p s
  have h2 : 2 ^ s < 2 ^ 64 := Nat.pow_lt_pow_right (by decide) (by omega)
  have h3 := Nat.two_pow_add_eq_or_of_lt h1 1
  rw [Nat.mul_one] at h3
  rw [lx_or (by omega) h2, mkS, if_pos h, Nat.add_comm, h3, Nat.or_comm]
theorem pop_mk {p : Nat → Bool} : popB (mkS p 32) 32 = cntR p 0 32 := by
  refine cntR_cong (fun k _ hk => ?_)
  rw [mk_bit p (by omega)]
  cases p k <;> rfl
theorem cnt_01 {p : Nat → Bool} (h : p 0 = false) : cntR p 0 32 = cntR p 1 31 := by
  have e := cntR_app p 0 1 31
  rw [show cntR p 0 1 = 0 by rw [cntR_succ, cntR, Nat.add_zero, h]; rfl, Nat.zero_add] at e
  exact e
/-- a span that is looked into: the first one, and each that is there, whose whole is looked into and opened -/
def lkG (ch : Nat → Bool) : Nat → Nat → Bool
  | 0, _ => false
  | fu + 1, s => if s = 0 then false else if s = 1 then true else ch s && lkG ch fu (s / 2)
theorem lkG_fu {ch : Nat → Bool} : ∀ {fu s : Nat}, s < 2 ^ fu → lkG ch (fu + 1) s = lkG ch fu s
  | 0, s, h => by
    have e : s = 0 := by omega
    subst e; rfl
  | fu + 1, s, h => by
    rw [Nat.pow_succ] at h
    rw [lkG, lkG_fu (show s / 2 < 2 ^ fu by omega)]
    rfl
def opB (n : Nat) (f : Nat → Int64) (a b : Nat) (v : Int64) (s : Nat) : Bool := match spN n s with
  | some (u, w) => decide (opn f u w a b v)
  | none => false
def lkC (n : Nat) (f : Nat → Int64) (a b : Nat) (v : Int64) (s : Nat) : Bool := decide (s < 32) && (spN n s).isSome && opB n f a b v (s / 2)
def lkF (n : Nat) (f : Nat → Int64) (a b : Nat) (v : Int64) (s : Nat) : Bool := lkG (lkC n f a b v) 6 s
def lokR (n : Nat) (f : Nat → Int64) (x y : Int32) (v : Int64) : Int32 := if rmR n x y v = 0 then nI (cntR (lkF n f x.toNatClampNeg y.toNatClampNeg v) 1 31) else rmR n x y v
section LK
variable {n : Nat} {f : Nat → Int64} {a b : Nat} {v : Int64}
theorem lk_rec {s : Nat} (h2 : 2 ≤ s) (h : s < 64) : lkF n f a b v s = (lkC n f a b v s && lkF n f a b v (s / 2)) := by
  have e : lkG (lkC n f a b v) 6 (s / 2) = lkG (lkC n f a b v) 5 (s / 2) := lkG_fu (by omega)
  unfold lkF
  rw [e, lkG, if_neg (by omega), if_neg (by omega)]
theorem lk_0 (n : Nat) (f : Nat → Int64) (a b : Nat) (v : Int64) : lkF n f a b v 0 = false := rfl
theorem lk_1 : lkF n f a b v 1 = true := rfl
theorem mk_2 (n : Nat) (f : Nat → Int64) (a b : Nat) (v : Int64) : (2 : Int64) = lN (mkS (lkF n f a b v) 2) := rfl
theorem lk_n1 {s : Nat} (h2 : 2 ≤ s) (h : s < 64) (hn : (spN n s).isSome = false) : lkF n f a b v s = false := by
  rw [lk_rec h2 h, lkC, hn]
  simp
theorem lk_n2 {s : Nat} (h2 : 2 ≤ s) (h : s < 64) (hn : lkF n f a b v (s / 2) = false) : lkF n f a b v s = false := by
  rw [lk_rec h2 h, hn, Bool.and_false]
theorem opB_of {s u w : Nat} (h : spN n s = some (u, w)) : opB n f a b v s = decide (opn f u w a b v) := by
  rw [opB, h]
theorem lk_n3 {s u w : Nat} (h2 : 2 ≤ s) (h : s < 64) (hsp : spN n (s / 2) = some (u, w)) (ho : ¬ opn f u w a b v) : lkF n f a b v s = false := by
  rw [lk_rec h2 h, lkC, opB_of hsp, decide_eq_false ho]
  simp
theorem lk_y {s u w : Nat} (h2 : 2 ≤ s) (h : s < 32) (hex : (spN n s).isSome = true) (hl : lkF n f a b v (s / 2) = true) (hsp : spN n (s / 2) = some (u, w)) (ho : opn f u w a b v) : lkF n f a b v s = true := by
  rw [lk_rec h2 (by omega), lkC, hex, hl, opB_of hsp, decide_eq_true ho, decide_eq_true h]
  rfl
theorem sp_up {s : Nat} (h2 : 2 ≤ s) (h : s < 2 ^ 31) (hex : (spN n s).isSome = true) : ∃ u w, spN n (s / 2) = some (u, w) := by
  rw [sp_rec h2 h] at hex
  cases e : spN n (s / 2) with
  | none => rw [e] at hex; cases hex
  | some q => exact ⟨q.1, q.2, rfl⟩
theorem lk_sp {s : Nat} (hn : 1 ≤ n) (hs : s < 32) (hl : lkF n f a b v s = true) : ∃ u w, spN n s = some (u, w) := by
  rcases (show s = 0 ∨ s = 1 ∨ 2 ≤ s by omega) with e | e | e
  · rw [e] at hl; cases hl
  · exact ⟨0, n - 1, by rw [e]; exact sp_1 (by omega)⟩
  · rw [lk_rec e (by omega), lkC] at hl
    simp only [Bool.and_eq_true] at hl
    cases q : spN n s with
    | none => rw [q] at hl; exact absurd hl.1.1.2 (by decide)
    | some p => exact ⟨p.1, p.2, rfl⟩
theorem lk_kids_no {s u w : Nat} (h1 : 1 ≤ s) (hs : s < 32) (hsp : spN n s = some (u, w)) (ho : ¬ opn f u w a b v) : lkF n f a b v (2 * s) = false ∧ lkF n f a b v (2 * s + 1) = false :=
  ⟨lk_n3 (by omega) (by omega) (by rw [show 2 * s / 2 = s by omega]; exact hsp) ho, lk_n3 (by omega) (by omega) (by rw [show (2 * s + 1) / 2 = s by omega]; exact hsp) ho⟩
theorem sec_one (f : Nat → Int64) (u : Nat) : secR f (maxR f u (u - u)) u (u + 1 - u) = LOSTv := by
  rw [Nat.sub_self, show u + 1 - u = 1 by omega, secR, maxR, Nat.add_zero, if_neg (by rw [i64_lt]; omega), secR]
theorem opn_two {u w : Nat} (huw : u ≤ w) (h : opn f u w a b v) : u < w := by
  rcases Nat.lt_or_ge u w with q | q
  · exact q
  · have e : w = u := by omega
    subst e
    rcases h.2.2.2 with x | x | x
    · exact absurd x h.1
    · exact absurd x h.2.1
    · exact absurd (sec_one f w) x.1
theorem lk_kids {s u w : Nat} (hn : n ≤ 16) (h1 : 1 ≤ s) (hs : s < 32) (hl : lkF n f a b v s = true) (hsp : spN n s = some (u, w)) (ho : opn f u w a b v) : 2 * s + 1 < 32 ∧ lkF n f a b v (2 * s) = true ∧ lkF n f a b v (2 * s + 1) = true := by
  have huw := opn_two (spG_bd hsp).1 ho
  have e0 : spN n (2 * s) = some (u, (u + w) / 2) := by
    rw [sp_rec (by omega) (by omega), show 2 * s / 2 = s by omega, hsp, spSt, if_neg (by omega), if_pos (by omega)]
  have e1 : spN n (2 * s + 1) = some ((u + w) / 2 + 1, w) := by
    rw [sp_rec (by omega) (by omega), show (2 * s + 1) / 2 = s by omega, hsp, spSt, if_neg (by omega), if_neg (by omega)]
  have h32 : 2 * s + 1 < 32 := by
    rcases Nat.lt_or_ge (2 * s + 1) 32 with q | q
    · exact q
    · rw [sp_big hn (2 * s + 2) (2 * s + 1) (by omega) q (by omega)] at e1
      cases e1
  exact ⟨h32, lk_y (by omega) (by omega) (by rw [e0]; rfl) (by rw [show 2 * s / 2 = s by omega]; exact hl) (by rw [show 2 * s / 2 = s by omega]; exact hsp) ho, lk_y (by omega) h32 (by rw [e1]; rfl) (by rw [show (2 * s + 1) / 2 = s by omega]; exact hl) (by rw [show (2 * s + 1) / 2 = s by omega]; exact hsp) ho⟩
end LK
/-! the model's row of spans: the i-th that is looked into stands at i -/
theorem cu_s (q : Nat → Bool) (x : Nat) : cntR q 1 (x + 1) = cntR q 1 x + (if q (x + 1) then 1 else 0) := by
  rw [cntR_succ, Nat.add_comm 1 x]
theorem cu_mono (q : Nat → Bool) (x : Nat) : ∀ d, cntR q 1 x ≤ cntR q 1 (x + d)
  | 0 => Nat.le_refl _
  | d + 1 => by
    have h := cu_mono q x d
    rw [← Nat.add_assoc, cu_s]
    omega
theorem cu_up {q : Nat → Bool} {x y : Nat} (h : x ≤ y) : cntR q 1 x ≤ cntR q 1 y := by
  have := cu_mono q x (y - x)
  rw [show x + (y - x) = y by omega] at this
  exact this
theorem cu_at {q : Nat → Bool} {t : Nat} (h1 : 1 ≤ t) : cntR q 1 t = cntR q 1 (t - 1) + (if q t then 1 else 0) := by
  have := cu_s q (t - 1)
  rw [show t - 1 + 1 = t by omega] at this
  exact this
theorem cu_none {q : Nat → Bool} {x y t : Nat} (h : cntR q 1 x = cntR q 1 y) (h1 : x < t) (h2 : t ≤ y) : q t = false := by
  cases e : q t with
  | false => rfl
  | true =>
    have a := cu_at (q := q) (t := t) (by omega)
    rw [e, if_pos rfl] at a
    have b := cu_up (q := q) (show x ≤ t - 1 by omega)
    have c := cu_up (q := q) h2
    omega
theorem cu_flat {q : Nat → Bool} {x : Nat} : ∀ {d : Nat}, (∀ t, x < t → t ≤ x + d → q t = false) → cntR q 1 (x + d) = cntR q 1 x
  | 0, _ => rfl
  | d + 1, h => by
    rw [← Nat.add_assoc, cu_s, h (x + d + 1) (by omega) (by omega), cu_flat (fun t h1 h2 => h t h1 (by omega))]
    rfl
section CU
variable {n : Nat} {f : Nat → Int64} {a b : Nat} {v : Int64} {k m cq s : Nat} {L0 : Nat → Int32}
theorem cu_0 (n : Nat) (f : Nat → Int64) (a b : Nat) (v : Int64) : (0 ≤ 1 ∧ 1 ≤ 1 ∧ 1 ≤ 32) ∧ cntR (lkF n f a b v) 1 (1 - 1) = 0 ∧ cntR (lkF n f a b v) 1 (2 * 1 - 1) = 1 := ⟨by decide, rfl, rfl⟩
theorem cu_B0 (n : Nat) (f : Nat → Int64) (a b : Nat) (v : Int64) (lq : Nat → Int32) : ∀ i, i < 1 → ∃ s, upd lq 0 1 i = nI s ∧ 1 ≤ s ∧ s < 32 ∧ lkF n f a b v s = true ∧ cntR (lkF n f a b v) 1 (s - 1) = i := by
  intro i hi
  have e : i = 0 := by omega
  subst e
  exact ⟨1, rfl, by decide, by decide, rfl, rfl⟩
theorem cu_31 (hA : (k ≤ m ∧ 1 ≤ cq ∧ cq ≤ 32) ∧ cntR (lkF n f a b v) 1 (cq - 1) = k ∧ cntR (lkF n f a b v) 1 (2 * cq - 1) = m) : m ≤ 31 := by
  have h1 : cntR (lkF n f a b v) 1 (31 + 32) = cntR (lkF n f a b v) 1 31 := cu_flat (fun t h1 h2 => by
    rw [lk_rec (by omega) (by omega), lkC, decide_eq_false (by omega)]
    simp)
  have h2 := cu_up (q := lkF n f a b v) (show 2 * cq - 1 ≤ 31 + 32 by omega)
  have h3 := cntR_le (lkF n f a b v) 1 31
  omega
/-- no span between is looked into: all up to the halves of s are counted -/
theorem cu_skip (hA : (k ≤ m ∧ 1 ≤ cq ∧ cq ≤ 32) ∧ cntR (lkF n f a b v) 1 (cq - 1) = k ∧ cntR (lkF n f a b v) 1 (2 * cq - 1) = m) (hl : lkF n f a b v s = true) (hs : s < 32) (hr : cntR (lkF n f a b v) 1 (s - 1) = k) : 1 ≤ s ∧ cntR (lkF n f a b v) 1 (2 * s - 1) = m ∧ cntR (lkF n f a b v) 1 s = k + 1 := by
  have h1 : 1 ≤ s := by
    rcases Nat.eq_zero_or_pos s with e | e
    · rw [e] at hl; cases hl
    · exact e
  have hat := cu_at (q := lkF n f a b v) h1
  rw [hl, if_pos rfl, hr] at hat
  have hcs : cq ≤ s := by
    rcases Nat.lt_or_ge s cq with q | q
    · have := cu_up (q := lkF n f a b v) (show s ≤ cq - 1 by omega)
      omega
    · exact q
  refine ⟨h1, ?_, hat⟩
  have hno : ∀ t, cq ≤ t → t < s → lkF n f a b v t = false := fun t h2 h3 => cu_none (hA.2.1.trans hr.symm) (show cq - 1 < t by omega) (by omega)
  have e := cu_flat (q := lkF n f a b v) (x := 2 * cq - 1) (d := 2 * (s - cq)) (fun t h2 h3 => lk_n2 (by omega) (by omega) (hno (t / 2) (by omega) (by omega)))
  rw [show 2 * cq - 1 + 2 * (s - cq) = 2 * s - 1 by omega] at e
  rw [e]
  exact hA.2.2
theorem cu_no (hA : (k ≤ m ∧ 1 ≤ cq ∧ cq ≤ 32) ∧ cntR (lkF n f a b v) 1 (cq - 1) = k ∧ cntR (lkF n f a b v) 1 (2 * cq - 1) = m) (hl : lkF n f a b v s = true) (hs : s < 32) (hr : cntR (lkF n f a b v) 1 (s - 1) = k) (h0 : lkF n f a b v (2 * s) = false) (h1 : lkF n f a b v (2 * s + 1) = false) :
    (k + 1 ≤ m ∧ 1 ≤ s + 1 ∧ s + 1 ≤ 32) ∧ cntR (lkF n f a b v) 1 (s + 1 - 1) = k + 1 ∧ cntR (lkF n f a b v) 1 (2 * (s + 1) - 1) = m := by
  obtain ⟨g1, g2, g3⟩ := cu_skip hA hl hs hr
  have e0 := cu_at (q := lkF n f a b v) (t := 2 * s) (by omega)
  have e1 := cu_at (q := lkF n f a b v) (t := 2 * s + 1) (by omega)
  rw [h0, if_neg (by decide)] at e0
  rw [h1, if_neg (by decide), show 2 * s + 1 - 1 = 2 * s by omega] at e1
  have e2 := cu_up (q := lkF n f a b v) (show s ≤ 2 * s + 1 by omega)
  refine ⟨by omega, ?_, ?_⟩
  · rw [show s + 1 - 1 = s by omega]; exact g3
  · rw [show 2 * (s + 1) - 1 = 2 * s + 1 by omega]; omega
theorem cu_yes (hA : (k ≤ m ∧ 1 ≤ cq ∧ cq ≤ 32) ∧ cntR (lkF n f a b v) 1 (cq - 1) = k ∧ cntR (lkF n f a b v) 1 (2 * cq - 1) = m) (hl : lkF n f a b v s = true) (hs : s < 32) (hr : cntR (lkF n f a b v) 1 (s - 1) = k) (_h32 : 2 * s + 1 < 32) (h0 : lkF n f a b v (2 * s) = true) (h1 : lkF n f a b v (2 * s + 1) = true) :
    (k + 1 ≤ m + 2 ∧ 1 ≤ s + 1 ∧ s + 1 ≤ 32) ∧ cntR (lkF n f a b v) 1 (s + 1 - 1) = k + 1 ∧ cntR (lkF n f a b v) 1 (2 * (s + 1) - 1) = m + 2 := by
  obtain ⟨g1, g2, g3⟩ := cu_skip hA hl hs hr
  have e0 := cu_at (q := lkF n f a b v) (t := 2 * s) (by omega)
  have e1 := cu_at (q := lkF n f a b v) (t := 2 * s + 1) (by omega)
  rw [h0, if_pos rfl] at e0
  rw [h1, if_pos rfl, show 2 * s + 1 - 1 = 2 * s by omega] at e1
  refine ⟨by omega, ?_, ?_⟩
  · rw [show s + 1 - 1 = s by omega]; exact g3
  · rw [show 2 * (s + 1) - 1 = 2 * s + 1 by omega]; omega
theorem cu_B (hB : ∀ i, i < m → ∃ s, L0 i = nI s ∧ 1 ≤ s ∧ s < 32 ∧ lkF n f a b v s = true ∧ cntR (lkF n f a b v) 1 (s - 1) = i) (hA : (k ≤ m ∧ 1 ≤ cq ∧ cq ≤ 32) ∧ cntR (lkF n f a b v) 1 (cq - 1) = k ∧ cntR (lkF n f a b v) 1 (2 * cq - 1) = m) (hl : lkF n f a b v s = true) (hs : s < 32) (hr : cntR (lkF n f a b v) 1 (s - 1) = k) (h32 : 2 * s + 1 < 32) (h0 : lkF n f a b v (2 * s) = true) (h1 : lkF n f a b v (2 * s + 1) = true) :
    ∀ i, i < m + 2 → ∃ s', upd (upd L0 m (nI (2 * s))) (m + 1) (nI (2 * s + 1)) i = nI s' ∧ 1 ≤ s' ∧ s' < 32 ∧ lkF n f a b v s' = true ∧ cntR (lkF n f a b v) 1 (s' - 1) = i := by
  obtain ⟨g1, g2, g3⟩ := cu_skip hA hl hs hr
  have e0 := cu_at (q := lkF n f a b v) (t := 2 * s) (by omega)
  rw [h0, if_pos rfl] at e0
  intro i hi
  rcases (show i < m ∨ i = m ∨ i = m + 1 by omega) with e | e | e
  · obtain ⟨s', q⟩ := hB i e
    exact ⟨s', by rw [pk_un (by omega), pk_un (by omega)]; exact q.1, q.2⟩
  · subst e
    exact ⟨2 * s, by rw [pk_un (by omega), pk_us], by omega, by omega, h0, g2⟩
  · subst e
    exact ⟨2 * s + 1, pk_us, by omega, h32, h1, by rw [show 2 * s + 1 - 1 = 2 * s by omega]; omega⟩
theorem cu_end (hA : (k ≤ m ∧ 1 ≤ cq ∧ cq ≤ 32) ∧ cntR (lkF n f a b v) 1 (cq - 1) = k ∧ cntR (lkF n f a b v) 1 (2 * cq - 1) = m) (hk : k = m) : cntR (lkF n f a b v) 1 31 = m := by
  have hno : ∀ fu t, t < fu → cq ≤ t → t < 64 → lkF n f a b v t = false := by
    intro fu
    induction fu with
    | zero => intro t h; exact absurd h (Nat.not_lt_zero t)
    | succ fu ih =>
      intro t h1 h2 h3
      rcases Nat.lt_or_ge (2 * cq - 1) t with q | q
      · exact lk_n2 (by omega) h3 (ih (t / 2) (by omega) (by omega) (by omega))
      · exact cu_none (x := cq - 1) (y := 2 * cq - 1) (by rw [hA.2.1, hA.2.2]; exact hk) (by omega) q
  have e := cu_flat (q := lkF n f a b v) (x := cq - 1) (d := 31 - (cq - 1)) (fun t h1 h2 => hno (t + 1) t (by omega) (by omega) (by omega))
  rw [show cq - 1 + (31 - (cq - 1)) = 31 by omega] at e
  rw [e, hA.2.1, hk]
end CU
theorem qn_inc2 (k : Nat) : nI k + Int32.ofInt 2 = nI (k + 2) := by
  rw [← nI_add]; rfl
theorem lok_1 {n : Nat} {f : Nat → Int64} {x y : Int32} {v : Int64} (h : ¬ ((¬ x < 0 ∧ x < nI n) ∧ (¬ y < 0 ∧ y < nI n))) : lokR n f x y v = -1 := by
  have e : rfR n x y = -1 := if_neg h
  have e2 : rmR n x y v = -1 := by rw [rmR, e, if_neg (by decide)]
  rw [lokR, if_neg (by rw [e2]; decide), e2]
theorem lok_2 {n : Nat} {f : Nat → Int64} {x y : Int32} {v : Int64} (h1 : ¬ x < 0 ∧ x < nI n) (h2 : ¬ y < 0 ∧ y < nI n) (h : y < x) : lokR n f x y v = -2 := by
  have e : rfR n x y = -2 := by rw [rfR, if_pos ⟨h1, h2⟩, if_pos h]
  have e2 : rmR n x y v = -2 := by rw [rmR, e, if_neg (by decide)]
  rw [lokR, if_neg (by rw [e2]; decide), e2]
theorem lok_2b {n : Nat} {f : Nat → Int64} {x y : Int32} {v : Int64} (h1 : ¬ x < 0 ∧ x < nI n) (h2 : ¬ y < 0 ∧ y < nI n) (h : ¬ y < x) (hv : ¬ (¬ v < -1000000000000 ∧ ¬ 1000000000000 < v)) : lokR n f x y v = -2 := by
  have e : rfR n x y = 0 := by rw [rfR, if_pos ⟨h1, h2⟩, if_neg h]
  have e2 : rmR n x y v = -2 := by
    rw [rmR, if_pos e, if_pos]
    by_cases w : v < -1000000000000
    · exact Or.inl w
    · by_cases w2 : 1000000000000 < v
      · exact Or.inr w2
      · exact absurd ⟨w, w2⟩ hv
  rw [lokR, if_neg (by rw [e2]; decide), e2]
set_option maxHeartbeats 1000000 in
set_option maxRecDepth 100000 in
theorem c_J13_bitCount_95d88 (l : Launch) (G : qh_G) (z M : Nat) (E : Nat → va_E) (m : Nat) (hm : m < 4294967296) : Met l yJ13_bitCount_95d88 wsJ13_bitCount_95d88 (qh_R 0) (qh_Pre G z M E [.long (lN m)]) (qh_Q G z M (qh_i (fun r E' => E = E' ∧ r = nI (popB m 32)))) 0 0 (fun q => z ≤ q) := by
  refine qh_metI (cc := cJ13_bitCount_95d88) (maxL := 2) (by decide) rfl (Nat.le_of_ble_eq_true rfl) ?_
  intro pZ eZ sZ mZ aZ bZ tZ cZ RR QQ ls hx hb hml hown hts hRf hRl hH hK hl hret
  have hown : sZ.vm.findClass RJ13 = some mZ.cls := hown
  have hl : lv_has ls 2 [(0, .long (lN m))] := hl
  obtain ⟨c0, c1, c2, c3, hc0, hc1, hc2, hc3, hC, hpop⟩ := bc_main hm
  obtain ⟨hA1, hA2, hB1⟩ := bc_bd (m := m)
  have k_314 := hts (.constantLong RJ13 314 (6148914691236517205)) (by decide +kernel)
  have k_316 := hts (.constantLong RJ13 316 (3689348814741910323)) (by decide +kernel)
  have k_318 := hts (.constantLong RJ13 318 (1085102592571150095)) (by decide +kernel)
  refine lv_lload_n hx hb dJ13_bitCount_95d88_0 rfl (lv_at hl 0 rfl) ?_
  refine lv_lload_n hx hb dJ13_bitCount_95d88_1 rfl (lv_at hl 0 rfl) ?_
  refine lv_iconst (v := 1) hx hb dJ13_bitCount_95d88_2 (by decide) ?_
  refine lv_lushr (v := lN (m / 2)) hx hb dJ13_bitCount_95d88_3 (lx_ush (k := 1) (by omega) 1 (by decide)) ?_
  refine lv_ldc2 hx hb hown k_314 dJ13_bitCount_95d88_4 ?_
  refine lv_land hx hb dJ13_bitCount_95d88_7 ?_
  refine qh_topl (y := lN ((m / 2) &&& 6148914691236517205)) (lx_and (b := 6148914691236517205) (by omega) (by decide)) ?_
  refine lv_lsub hx hb dJ13_bitCount_95d88_8 ?_
  refine qh_topl (y := lN (bcA m)) (lN_sub hA1) ?_
  refine lv_lstore_n (lv' := [(0, .long (lN (bcA m)))]) hx hb dJ13_bitCount_95d88_9 rfl hl (by decide) rfl (fun ls hl => ?_)
  refine lv_lload_n hx hb dJ13_bitCount_95d88_10 rfl (lv_at hl 0 rfl) ?_
  refine lv_ldc2 hx hb hown k_316 dJ13_bitCount_95d88_11 ?_
  refine lv_land hx hb dJ13_bitCount_95d88_14 ?_
  refine qh_topl (y := lN (bcA m &&& 3689348814741910323)) (lx_and (b := 3689348814741910323) (by omega) (by decide)) ?_
  refine lv_lload_n hx hb dJ13_bitCount_95d88_15 rfl (lv_at hl 0 rfl) ?_
  refine lv_iconst (v := 2) hx hb dJ13_bitCount_95d88_16 (by decide) ?_
  refine lv_lushr (v := lN (bcA m / 4)) hx hb dJ13_bitCount_95d88_17 (lx_ush (k := 2) (by omega) 2 (by decide)) ?_
  refine lv_ldc2 hx hb hown k_316 dJ13_bitCount_95d88_18 ?_
  refine lv_land hx hb dJ13_bitCount_95d88_21 ?_
  refine qh_topl (y := lN ((bcA m / 4) &&& 3689348814741910323)) (lx_and (b := 3689348814741910323) (by omega) (by decide)) ?_
  refine lv_ladd hx hb dJ13_bitCount_95d88_22 ?_
  refine qh_topl (y := lN (bcB m)) (lN_add _ _) ?_
  refine lv_lstore_n (lv' := [(0, .long (lN (bcB m)))]) hx hb dJ13_bitCount_95d88_23 rfl hl (by decide) rfl (fun ls hl => ?_)
  refine lv_lload_n hx hb dJ13_bitCount_95d88_24 rfl (lv_at hl 0 rfl) ?_
  refine lv_lload_n hx hb dJ13_bitCount_95d88_25 rfl (lv_at hl 0 rfl) ?_
  refine lv_iconst (v := 4) hx hb dJ13_bitCount_95d88_26 (by decide) ?_
  refine lv_lushr (v := lN (bcB m / 16)) hx hb dJ13_bitCount_95d88_27 (lx_ush (k := 4) (by omega) 4 (by decide)) ?_
  refine lv_ladd hx hb dJ13_bitCount_95d88_28 ?_
  refine qh_topl (y := lN (bcB m + bcB m / 16)) (lN_add _ _) ?_
  refine lv_ldc2 hx hb hown k_318 dJ13_bitCount_95d88_29 ?_
  refine lv_land hx hb dJ13_bitCount_95d88_32 ?_
  refine qh_topl (y := lN (bcC m)) (lx_and (b := 1085102592571150095) (by omega) (by decide)) ?_
  refine lv_lstore_n (lv' := [(0, .long (lN (bcC m)))]) hx hb dJ13_bitCount_95d88_33 rfl hl (by decide) rfl (fun ls hl => ?_)
  refine lv_lload_n hx hb dJ13_bitCount_95d88_34 rfl (lv_at hl 0 rfl) ?_
  refine lv_lload_n hx hb dJ13_bitCount_95d88_35 rfl (lv_at hl 0 rfl) ?_
  refine lv_bipush (v := 8) hx hb dJ13_bitCount_95d88_36 (by decide) ?_
  refine lv_lushr (v := lN (bcC m / 256)) hx hb dJ13_bitCount_95d88_38 (lx_ush (k := 8) (by omega) 8 (by decide)) ?_
  refine lv_ladd hx hb dJ13_bitCount_95d88_39 ?_
  refine qh_topl (y := lN (bcC m + bcC m / 256)) (lN_add _ _) ?_
  refine lv_lstore_n (lv' := [(0, .long (lN (bcC m + bcC m / 256)))]) hx hb dJ13_bitCount_95d88_40 rfl hl (by decide) rfl (fun ls hl => ?_)
  refine lv_lload_n hx hb dJ13_bitCount_95d88_41 rfl (lv_at hl 0 rfl) ?_
  refine lv_lload_n hx hb dJ13_bitCount_95d88_42 rfl (lv_at hl 0 rfl) ?_
  refine lv_bipush (v := 16) hx hb dJ13_bitCount_95d88_43 (by decide) ?_
  refine lv_lushr (v := lN ((bcC m + bcC m / 256) / 65536)) hx hb dJ13_bitCount_95d88_45 (lx_ush (k := 16) (by omega) 16 (by decide)) ?_
  refine lv_ladd hx hb dJ13_bitCount_95d88_46 ?_
  refine qh_topl (y := lN (bcE m)) (lN_add _ _) ?_
  refine lv_lstore_n (lv' := [(0, .long (lN (bcE m)))]) hx hb dJ13_bitCount_95d88_47 rfl hl (by decide) rfl (fun ls hl => ?_)
  refine lv_lload_n hx hb dJ13_bitCount_95d88_48 rfl (lv_at hl 0 rfl) ?_
  refine lv_lload_n hx hb dJ13_bitCount_95d88_49 rfl (lv_at hl 0 rfl) ?_
  refine lv_bipush (v := 32) hx hb dJ13_bitCount_95d88_50 (by decide) ?_
  refine lv_lushr (v := lN (bcE m / 4294967296)) hx hb dJ13_bitCount_95d88_52 (lx_ush (k := 32) (by rw [bcE]; omega) 32 (by decide)) ?_
  refine lv_ladd hx hb dJ13_bitCount_95d88_53 ?_
  refine qh_topl (y := lN (bcE m + bcE m / 4294967296)) (lN_add _ _) ?_
  refine lv_lstore_n (lv' := [(0, .long (lN (bcE m + bcE m / 4294967296)))]) hx hb dJ13_bitCount_95d88_54 rfl hl (by decide) rfl (fun ls hl => ?_)
  refine lv_lload_n hx hb dJ13_bitCount_95d88_55 rfl (lv_at hl 0 rfl) ?_
  refine lv_l2i (v := nI (bcE m + bcE m / 4294967296)) hx hb dJ13_bitCount_95d88_56 (lN_i _) ?_
  refine lv_bipush (v := 127) hx hb dJ13_bitCount_95d88_57 (by decide) ?_
  refine lv_iand hx hb dJ13_bitCount_95d88_59 ?_
  refine qh_topi (y := nI (popB m 32)) (by rw [pk_andN (bc_end hc0 hc1 hc2 hc3 hC).1 7 (by decide), hpop, (bc_end hc0 hc1 hc2 hc3 hC).2]) ?_
  exact hret dJ13_bitCount_95d88_60 hH (⟨rfl, rfl⟩)

set_option maxHeartbeats 1000000 in
set_option maxRecDepth 100000 in
theorem c_X8_looks (l : Launch) (G : qh_G) (z M : Nat) (E : Nat → va_E) (tr : Int32) (lf : Int32) (n : Nat) (f : Nat → Int64) (g : Nat → Int64) (bf : Nat → Int64) (m2 : Nat) (kd : Nat → Int32) (pa : Nat → Int32) (ln : Nat) (ts : Nat → Int32) (ga : Nat → Nat) (gb : Nat → Nat) (va : Nat → Int64) (rn : Nat) (cn : Nat → Nat) (vs : Nat → Int64) (hr : Nat → Int32) (la : Nat → Int32) (lg : Nat → Nat) (sc : Nat → Nat → Int32) (hM : 84 ≤ M) (hX : XE G z E tr lf n f g bf m2 kd pa ln ts ga gb va rn cn vs hr la lg sc) (hW : XW n m2 ln rn ga gb cn lg hr) (x : Int32) (y : Int32) (v : Int64) : Met l yX8_looks wsX8_looks (qh_R 4) (qh_Pre G z M E [.ref (z + 0), .int x, .int y, .long v]) (qh_Q G z M (qh_i (fun r E' => E = E' ∧ r = lokR n f x y v))) 0 0 (fun q => z ≤ q) := by
  refine qh_metI (cc := cX8_looks) (maxL := 10) (by decide) rfl (Nat.le_of_ble_eq_true rfl) ?_
  intro pZ eZ sZ mZ aZ bZ tZ cZ RR QQ ls hx hb hml hown hts hRf hRl hH hK hl hret
  have hown : sZ.vm.findClass RX8 = some mZ.cls := hown
  have hl : lv_has ls 10 [(0, .ref (z + 0)), (1, .int x), (2, .int y), (3, .long v)] := hl
  obtain ⟨tc, dg, hn0, tk, tp, gn, gk, gp, t0, a0, b0, v0, bg, tn, tf, tg, b_0, b_1, b_2, b_3, b_4, b_5, b_6, b_7, b_8, b_9, b_10, b_11, b_12, b_13, b_14, b_39, b_40, b_41, b_42, b_43, b_44, b_45, b_46, b_47, b_48, b_49, b_50, b_51, b_52, b_53, b_54, hacts, hsh⟩ := hX
  obtain ⟨⟨hn16, hm3, hl24, hr8⟩, hval, hcn, hlg, hhr⟩ := hW
  have in_X8 : ∀ w ∈ wsX80, w ∈ wsX8_looks := fun w h => List.mem_cons_of_mem _ (List.mem_append_left _ (List.mem_append_left _ (List.mem_append_right _ h)))
  have k_258 := hts (.constantLong RX8 258 (2)) (by decide +kernel)
  have f_64 : qh_F G sZ mZ aZ 64 8 9 := qh_F.of hts in_X8 hown hK rfl 9 (by decide) (by decide +kernel)
  refine lv_aload_n hx hb dX8_looks_0 rfl (lv_at hl 0 rfl) ?_
  refine lv_iload_n hx hb dX8_looks_1 rfl (lv_at hl 1 rfl) ?_
  refine lv_iload_n hx hb dX8_looks_2 rfl (lv_at hl 2 rfl) ?_
  refine lv_lload_n hx hb dX8_looks_3 rfl (lv_at hl 3 rfl) ?_
  refine qh_runV (As := [.int x, .int y, .long v]) (rest := []) (C := RX8) ⟨hx, hb, hml, hown, hts⟩ hK hH (c_X8_refusedAim l G z M E tr lf (hM) b_0 n x y v b_40) (cwV 3 hts gX8_looks_X8_refusedAim rfl rfl rfl (by decide +kernel) (by rw [hRf, hRl]; exact ⟨Nat.le_of_ble_eq_true rfl, Nat.le_of_ble_eq_true rfl⟩)) (by omega) b_0 rfl rfl hl.1 rfl (Nat.le_of_ble_eq_true rfl) dX8_looks_4 ⟨Nat.zero_le _, Nat.zero_le _⟩ (qh_kki fun r_4 E_1 H locs hpost hH => ?_)
  obtain ⟨rfl, rfl⟩ := hpost
  refine lv_istore (lv' := [(5, .int (rmR n x y v)), (0, .ref (z + 0)), (1, .int x), (2, .int y), (3, .long v)]) hx hb dX8_looks_7 hl (by decide) rfl (fun ls hl => ?_)
  refine lv_iload hx hb dX8_looks_9 (lv_at hl 0 rfl) ?_
  refine lv_if_eq (tgt := 17) hx hb dX8_looks_11 (by decide) (fun c_11 => ?_) (fun c_11 => ?_)
  · have hrf := rmR_ok c_11
    obtain ⟨a, b, hab, hbn, ea, eb⟩ := rfR_ok hn16 hrf
    have eA : x.toNatClampNeg = a := by rw [ea]; exact nI_clamp (by omega)
    have eB : y.toNatClampNeg = b := by rw [eb]; exact nI_clamp (by omega)
    have hl : lv_has ls 10 [(5, .int (rmR n x y v)), (0, .ref (z + 0)), (1, .int (nI a)), (2, .int y), (3, .long v)] := by rw [← ea]; exact hl
    have hl : lv_has ls 10 [(5, .int (rmR n x y v)), (0, .ref (z + 0)), (1, .int (nI a)), (2, .int (nI b)), (3, .long v)] := by rw [← eb]; exact hl
    refine lv_ldc2 hx hb hown k_258 dX8_looks_17 ?_
    refine qh_topl (y := lN (mkS (lkF n f a b v) 2)) (mk_2 n f a b v) ?_
    refine lv_lstore (lv' := [(6, .long (lN (mkS (lkF n f a b v) 2))), (5, .int (rmR n x y v)), (0, .ref (z + 0)), (1, .int (nI a)), (2, .int (nI b)), (3, .long v)]) hx hb dX8_looks_20 hl (by decide) rfl (fun ls hl => ?_)
    refine lv_iconst (v := 2) hx hb dX8_looks_22 (by decide) ?_
    refine lv_istore (lv' := [(8, .int 2), (6, .long (lN (mkS (lkF n f a b v) 2))), (5, .int (rmR n x y v)), (0, .ref (z + 0)), (1, .int (nI a)), (2, .int (nI b)), (3, .long v)]) hx hb dX8_looks_23 hl (by decide) rfl (fun ls hl => ?_)
    have L_25 : ∀ fu_25 : Nat, ∀ s : Nat, (2 ≤ s ∧ s ≤ 32) → (32 - s < fu_25) → ∀ (H : Heap) (locs : List Loc), qh_H G z M E sZ.heap H locs → ∀ ls : Array Slot, lv_has ls 10 [(0, .ref (z + 0)), (1, .int (nI a)), (2, .int (nI b)), (3, .long v), (6, .long (lN (mkS (lkF n f a b v) s))), (8, .int (nI s))] → W pZ l eZ RR sZ mZ aZ bZ tZ cZ H locs 0 0 QQ (F0 mZ 25 ls []) := by
      intro fu_25
      induction fu_25 with
      | zero =>
        intro s hs hfuel
        exact absurd hfuel (by omega)
      | succ fu_25 ih_25 =>
        intro s hs hfuel H locs hH ls hl
        refine lv_iload hx hb dX8_looks_25 (lv_at hl 5 rfl) ?_
        refine lv_bipush (v := 32) hx hb dX8_looks_27 (by decide) ?_
        refine lv_icmp_ge (tgt := 89) hx hb dX8_looks_29 (by decide) (fun c_29 => ?_) (fun c_29 => ?_)
        · have hk : 32 ≤ s := (nI_leI (by omega) (by omega)).mp c_29
          have hex : 32 = s := by omega
          subst hex
          refine lv_lload hx hb dX8_looks_89 (lv_at hl 4 rfl) ?_
          refine qh_runS (As := [.long (lN (mkS (lkF n f a b v) 32))]) (rest := []) ⟨hx, hb, hml, hown, hts⟩ hK hH (c_J13_bitCount_95d88 l G z M E _ (mk_32 ..)) (va_cwS 1 hts gX8_looks_J13_bitCount_95d88 rfl rfl rfl (by decide +kernel) (by rw [hRf, hRl]; exact ⟨Nat.le_of_ble_eq_true rfl, Nat.le_of_ble_eq_true rfl⟩)) rfl hl.1 rfl (Nat.le_of_ble_eq_true rfl) dX8_looks_91 ⟨Nat.zero_le _, Nat.zero_le _⟩ (qh_kki fun r_91 E_2 H locs hpost hH => ?_)
          obtain ⟨rfl, rfl⟩ := hpost
          exact hret dX8_looks_94 hH (⟨rfl, by rw [lokR, if_pos c_11, eA, eB, pop_mk, cnt_01 (lk_0 ..)]⟩)
        · have hk : ¬ 32 ≤ s := fun w => c_29 (nI_le w (by omega))
          have hm63 : mkS (lkF n f a b v) s < 2 ^ 63 := mk_63 (by omega)
          refine lv_iload hx hb dX8_looks_32 (lv_at hl 5 rfl) ?_
          refine lv_iconst (v := 2) hx hb dX8_looks_34 (by decide) ?_
          refine lv_idiv hx hb dX8_looks_35 (by decide) ?_
          refine qh_topi (y := nI (s / 2)) (pk_div (d := 2) (by omega) (by decide) (by decide)) ?_
          refine lv_istore (lv' := [(9, .int (nI (s / 2))), (0, .ref (z + 0)), (1, .int (nI a)), (2, .int (nI b)), (3, .long v), (6, .long (lN (mkS (lkF n f a b v) s))), (8, .int (nI s))]) hx hb dX8_looks_36 hl (by decide) rfl (fun ls hl => ?_)
          refine lv_aload_n hx hb dX8_looks_38 rfl (lv_at hl 1 rfl) ?_
          refine qh_get hx hb hH f_64 (by omega) b_0 rfl dX8_looks_39 ?_
          refine lv_iload hx hb dX8_looks_42 (lv_at hl 6 rfl) ?_
          refine qh_runV (As := [.int (nI s)]) (rest := []) (C := RX6) ⟨hx, hb, hml, hown, hts⟩ hK hH (c_X6_has l G z M E 49 50 51 n (nI s) (⟨by omega, by omega, by omega⟩) (by omega) b_49 b_50 b_51) (cwV 1 hts gX8_looks_X6_has rfl rfl rfl (by decide +kernel) (by rw [hRf, hRl]; exact ⟨Nat.le_of_ble_eq_true rfl, Nat.le_of_ble_eq_true rfl⟩)) (by omega) b_49 rfl rfl hl.1 rfl (Nat.le_of_ble_eq_true rfl) dX8_looks_44 ⟨Nat.zero_le _, Nat.zero_le _⟩ (qh_kki fun r_44 E_3 H locs hpost hH => ?_)
          obtain ⟨rfl, rfl⟩ := hpost
          refine lv_if_eq (tgt := 83) hx hb dX8_looks_47 (by decide) (fun c_47 => ?_) (fun c_47 => ?_)
          · have c_47 := bI_eq.mp c_47
            have hno : lkF n f a b v s = false := lk_n1 (by omega) (by omega) (spH_nI_no (by omega) (by omega) c_47)
            refine lv_iinc (v := nI (s + 1)) (lv' := [(8, .int (nI (s + 1))), (9, .int (nI (s / 2))), (0, .ref (z + 0)), (1, .int (nI a)), (2, .int (nI b)), (3, .long v), (6, .long (lN (mkS (lkF n f a b v) s)))]) hx hb dX8_looks_83 hl (k := 6) rfl (qn_inc s) (by decide) rfl (fun ls hl => ?_)
            refine lv_goto (tgt := 25) hx hb dX8_looks_86 (by decide) ?_
            rw [← mk_no hno] at hl
            exact ih_25 (s + 1) (by omega) (by omega) _ _ hH ls (lv_sub hl [2, 3, 4, 5, 6, 0] rfl)
          · have c_47 := bI_ne.mp c_47
            have hex := spH_nI (by omega) c_47
            obtain ⟨u, w, hsp⟩ := sp_up (show 2 ≤ s by omega) (by omega) hex
            have huw := sp_bd hn16 hsp
            have hsp2 : s / 2 < 32 := by omega
            refine lv_lload hx hb dX8_looks_50 (lv_at hl 5 rfl) ?_
            refine lv_iload hx hb dX8_looks_52 (lv_at hl 0 rfl) ?_
            refine lv_lshr (v := lN (mkS (lkF n f a b v) s / 2 ^ (s / 2))) hx hb dX8_looks_54 (lx_shr hm63 _ (sh64 (by omega))) ?_
            refine lv_lconst (v := 1) hx hb dX8_looks_55 (by decide) ?_
            refine lv_land hx hb dX8_looks_56 ?_
            refine qh_topl (y := lN (mkS (lkF n f a b v) s / 2 ^ (s / 2) % 2)) (lx_and1 (Nat.lt_of_le_of_lt (Nat.div_le_self ..) hm63)) ?_
            refine lv_lconst (v := 0) hx hb dX8_looks_57 (by decide) ?_
            refine W.lcmp hx hb dX8_looks_58 ?_
            refine lv_if_eq (tgt := 83) hx hb dX8_looks_59 (by decide) (fun c_59 => ?_) (fun c_59 => ?_)
            · have c_59 := (lg_cmp_eq _ _).mp c_59
              have hno : lkF n f a b v s = false := lk_n2 (by omega) (by omega) (mk_0 (by omega) ((pk_lEQ (b := 0) (by omega) (by decide)).mp c_59))
              refine lv_iinc (v := nI (s + 1)) (lv' := [(8, .int (nI (s + 1))), (9, .int (nI (s / 2))), (0, .ref (z + 0)), (1, .int (nI a)), (2, .int (nI b)), (3, .long v), (6, .long (lN (mkS (lkF n f a b v) s)))]) hx hb dX8_looks_83 hl (k := 6) rfl (qn_inc s) (by decide) rfl (fun ls hl => ?_)
              refine lv_goto (tgt := 25) hx hb dX8_looks_86 (by decide) ?_
              rw [← mk_no hno] at hl
              exact ih_25 (s + 1) (by omega) (by omega) _ _ hH ls (lv_sub hl [2, 3, 4, 5, 6, 0] rfl)
            · have c_59 := (lg_cmp_ne _ _).mp c_59
              have hlk2 : lkF n f a b v (s / 2) = true := mk_1 (s := s) (by omega) (fun q => c_59 (by rw [q]; rfl))
              refine lv_aload_n hx hb dX8_looks_62 rfl (lv_at hl 1 rfl) ?_
              refine lv_iload hx hb dX8_looks_63 (lv_at hl 0 rfl) ?_
              refine lv_iload_n hx hb dX8_looks_65 rfl (lv_at hl 2 rfl) ?_
              refine lv_iload_n hx hb dX8_looks_66 rfl (lv_at hl 3 rfl) ?_
              refine lv_lload_n hx hb dX8_looks_67 rfl (lv_at hl 4 rfl) ?_
              refine qh_runV (As := [.int (nI (s / 2)), .int (nI a), .int (nI b), .long v]) (rest := []) (C := RX8) ⟨hx, hb, hml, hown, hts⟩ hK hH (c_X8_mustOpen l G z M E tr lf (hM) b_0 n (s / 2) a b u w f g v (by omega) (⟨by omega, by omega⟩) (by omega) (hsp) (⟨by omega, by omega⟩) b_40 b_41 b_42 b_49 b_50 b_51) (cwV 4 hts gX8_looks_X8_mustOpen rfl rfl rfl (by decide +kernel) (by rw [hRf, hRl]; exact ⟨Nat.le_of_ble_eq_true rfl, Nat.le_of_ble_eq_true rfl⟩)) (by omega) b_0 rfl rfl hl.1 rfl (Nat.le_of_ble_eq_true rfl) dX8_looks_68 ⟨Nat.zero_le _, Nat.zero_le _⟩ (qh_kki fun r_68 E_4 H locs hpost hH => ?_)
              obtain ⟨rfl, rfl⟩ := hpost
              refine lv_if_eq (tgt := 83) hx hb dX8_looks_71 (by decide) (fun c_71 => ?_) (fun c_71 => ?_)
              · have c_71 := bI_eq.mp c_71
                have hno : lkF n f a b v s = false := lk_n3 (by omega) (by omega) hsp c_71
                refine lv_iinc (v := nI (s + 1)) (lv' := [(8, .int (nI (s + 1))), (9, .int (nI (s / 2))), (0, .ref (z + 0)), (1, .int (nI a)), (2, .int (nI b)), (3, .long v), (6, .long (lN (mkS (lkF n f a b v) s)))]) hx hb dX8_looks_83 hl (k := 6) rfl (qn_inc s) (by decide) rfl (fun ls hl => ?_)
                refine lv_goto (tgt := 25) hx hb dX8_looks_86 (by decide) ?_
                rw [← mk_no hno] at hl
                exact ih_25 (s + 1) (by omega) (by omega) _ _ hH ls (lv_sub hl [2, 3, 4, 5, 6, 0] rfl)
              · have c_71 := bI_ne.mp c_71
                have hyes : lkF n f a b v s = true := lk_y (by omega) (by omega) hex hlk2 hsp c_71
                refine lv_lload hx hb dX8_looks_74 (lv_at hl 5 rfl) ?_
                refine lv_lconst (v := 1) hx hb dX8_looks_76 (by decide) ?_
                refine lv_iload hx hb dX8_looks_77 (lv_at hl 6 rfl) ?_
                refine lv_lshl (v := lN (2 ^ s)) hx hb dX8_looks_79 (lx_1s (by omega)) ?_
                refine lv_lor hx hb dX8_looks_80 ?_
                refine qh_topl (y := lN (mkS (lkF n f a b v) (s + 1))) (mk_or (by omega) hyes) ?_
                refine lv_lstore (lv' := [(6, .long (lN (mkS (lkF n f a b v) (s + 1)))), (9, .int (nI (s / 2))), (0, .ref (z + 0)), (1, .int (nI a)), (2, .int (nI b)), (3, .long v), (8, .int (nI s))]) hx hb dX8_looks_81 hl (by decide) rfl (fun ls hl => ?_)
                refine lv_iinc (v := nI (s + 1)) (lv' := [(8, .int (nI (s + 1))), (6, .long (lN (mkS (lkF n f a b v) (s + 1)))), (9, .int (nI (s / 2))), (0, .ref (z + 0)), (1, .int (nI a)), (2, .int (nI b)), (3, .long v)]) hx hb dX8_looks_83 hl (k := 6) rfl (qn_inc s) (by decide) rfl (fun ls hl => ?_)
                refine lv_goto (tgt := 25) hx hb dX8_looks_86 (by decide) ?_
                exact ih_25 (s + 1) (by omega) (by omega) _ _ hH ls (lv_sub hl [3, 4, 5, 6, 1, 0] rfl)
    exact L_25 33 2 (by omega) (by omega) _ _ hH ls (lv_sub hl [3, 4, 5, 6, 1, 0] rfl)
  · refine lv_iload hx hb dX8_looks_14 (lv_at hl 0 rfl) ?_
    exact hret dX8_looks_16 hH (⟨rfl, by rw [lokR, if_neg c_11]⟩)

set_option maxHeartbeats 1000000 in
set_option maxRecDepth 100000 in
theorem c_X9_looks (l : Launch) (G : qh_G) (z M : Nat) (E : Nat → va_E) (tr : Int32) (lf : Int32) (n : Nat) (f : Nat → Int64) (g : Nat → Int64) (mb : Nat → Int64) (m2 : Nat) (kd : Nat → Int32) (pa : Nat → Int32) (ln : Nat) (ts : Nat → Int32) (ga : Nat → Nat) (gb : Nat → Nat) (va : Nat → Int64) (rn : Nat) (cn : Nat → Nat) (vs : Nat → Int64) (so : Nat → Int32) (sg : Nat → Int32) (ce : Nat → Int32) (hM : 84 ≤ M) (hX : ME G z E tr lf n f g mb m2 kd pa ln ts ga gb va rn cn vs so sg ce) (hW : MW n m2 ln rn ga gb cn ts va kd so sg) (x : Int32) (y : Int32) (v : Int64) (lq : Nat → Int32) (b_81 : E 81 = qa_I G 64 lq) : Met l yX9_looks wsX9_looks (qh_R 3) (qh_Pre G z M E [.ref (z + 63), .int x, .int y, .long v]) (qh_Q G z M (qh_i (fun r E' => r = lokR n f x y v ∧ ME G z E' tr lf n f g mb m2 kd pa ln ts ga gb va rn cn vs so sg ce ∧ (∃ lq' : Nat → Int32, E' 81 = qa_I G 64 lq') ∧ ∀ x9, x9 < 63 → E' x9 = E x9))) 0 0 (fun q => z ≤ q) := by
  refine qh_metI (cc := cX9_looks) (maxL := 7) (by decide) rfl (Nat.le_of_ble_eq_true rfl) ?_
  intro pZ eZ sZ mZ aZ bZ tZ cZ RR QQ ls hx hb hml hown hts hRf hRl hH hK hl hret
  have hown : sZ.vm.findClass RX9 = some mZ.cls := hown
  have hl : lv_has ls 7 [(0, .ref (z + 63)), (1, .int x), (2, .int y), (3, .long v)] := hl
  obtain ⟨pt, rm, rh, sf, sl, r1, r2, r3, k1, k2, b_63, b_64, b_65, b_66, b_67, b_68, b_69, b_70, b_71, b_72, b_73, b_74, b_75, b_76, b_77, b_78, b_79, b_80, b_82, b_83⟩ := hX
  obtain ⟨⟨hn16, hm3, hl24, hr8⟩, hval, hcn, hok, hvh, hkd, hso⟩ := hW
  have in_X9 : ∀ w ∈ wsX90, w ∈ wsX9_looks := fun w h => List.mem_cons_of_mem _ (List.mem_append_right _ h)
  have k_149 := hts (.constantLong RX9 149 (-1000000000000)) (by decide +kernel)
  have k_151 := hts (.constantLong RX9 151 (1000000000000)) (by decide +kernel)
  have f_62 : qh_F G sZ mZ aZ 62 9 27 := qh_F.of hts in_X9 hown hK rfl 27 (by decide) (by decide +kernel)
  refine lv_aload_n hx hb dX9_looks_0 rfl (lv_at hl 0 rfl) ?_
  refine lv_iload_n hx hb dX9_looks_1 rfl (lv_at hl 1 rfl) ?_
  refine qh_runV (As := [.int x]) (rest := []) (C := RX9) ⟨hx, hb, hml, hown, hts⟩ hK hH (c_X9_isCell l G z M E lf tr n m2 ln pt rm rh sf sl rn (hM) b_63 x) (cwV 1 hts gX9_looks_X9_isCell rfl rfl rfl (by decide +kernel) (by rw [hRf, hRl]; exact ⟨Nat.le_of_ble_eq_true rfl, Nat.le_of_ble_eq_true rfl⟩)) (by omega) b_63 rfl rfl hl.1 rfl (Nat.le_of_ble_eq_true rfl) dX9_looks_2 ⟨Nat.zero_le _, Nat.zero_le _⟩ (qh_kki fun r_2 E_1 H locs hpost hH => ?_)
  obtain ⟨rfl, rfl⟩ := hpost
  refine lv_if_eq (tgt := 16) hx hb dX9_looks_5 (by decide) (fun c_5 => ?_) (fun c_5 => ?_)
  · have c_5 := bI_eq.mp c_5
    have hD : lokR n f x y v = -1 := lok_1 (fun u => c_5 u.1)
    refine lv_iconst (v := (-1)) hx hb dX9_looks_16 (by decide) ?_
    exact hret dX9_looks_17 hH (⟨by rw [hD], ⟨_, _, _, _, _, _, _, _, _, _, b_63, b_64, b_65, b_66, b_67, b_68, b_69, b_70, b_71, b_72, b_73, b_74, b_75, b_76, b_77, b_78, b_79, b_80, b_82, b_83⟩, ⟨_, b_81⟩, (fun x9 h9 => rfl)⟩)
  · have c_5 := bI_ne.mp c_5
    refine lv_aload_n hx hb dX9_looks_8 rfl (lv_at hl 0 rfl) ?_
    refine lv_iload_n hx hb dX9_looks_9 rfl (lv_at hl 2 rfl) ?_
    refine qh_runV (As := [.int y]) (rest := []) (C := RX9) ⟨hx, hb, hml, hown, hts⟩ hK hH (c_X9_isCell l G z M E lf tr n m2 ln pt rm rh sf sl rn (hM) b_63 y) (cwV 1 hts gX9_looks_X9_isCell rfl rfl rfl (by decide +kernel) (by rw [hRf, hRl]; exact ⟨Nat.le_of_ble_eq_true rfl, Nat.le_of_ble_eq_true rfl⟩)) (by omega) b_63 rfl rfl hl.1 rfl (Nat.le_of_ble_eq_true rfl) dX9_looks_10 ⟨Nat.zero_le _, Nat.zero_le _⟩ (qh_kki fun r_10 E_2 H locs hpost hH => ?_)
    obtain ⟨rfl, rfl⟩ := hpost
    refine lv_if_ne (tgt := 18) hx hb dX9_looks_13 (by decide) (fun c_13 => ?_) (fun c_13 => ?_)
    · have c_13 := bI_ne.mp c_13
      refine lv_iload_n hx hb dX9_looks_18 rfl (lv_at hl 1 rfl) ?_
      refine lv_iload_n hx hb dX9_looks_19 rfl (lv_at hl 2 rfl) ?_
      refine lv_icmp_gt (tgt := 36) hx hb dX9_looks_20 (by decide) (fun c_20 => ?_) (fun c_20 => ?_)
      · have hD : lokR n f x y v = -2 := lok_2 c_5 c_13 c_20
        refine lv_bipush (v := (-2)) hx hb dX9_looks_36 (by decide) ?_
        exact hret dX9_looks_38 hH (⟨by rw [hD], ⟨_, _, _, _, _, _, _, _, _, _, b_63, b_64, b_65, b_66, b_67, b_68, b_69, b_70, b_71, b_72, b_73, b_74, b_75, b_76, b_77, b_78, b_79, b_80, b_82, b_83⟩, ⟨_, b_81⟩, (fun x9 h9 => rfl)⟩)
      · refine lv_lload_n hx hb dX9_looks_23 rfl (lv_at hl 3 rfl) ?_
        refine lv_ldc2 hx hb hown k_149 dX9_looks_24 ?_
        refine lv_ldc2 hx hb hown k_151 dX9_looks_27 ?_
        refine qh_runS (As := [.long v, .long (-1000000000000), .long 1000000000000]) (rest := []) ⟨hx, hb, hml, hown, hts⟩ hK hH (c_X9_isBetween l G z M E v (-1000000000000) 1000000000000) (va_cwS 3 hts gX9_looks_X9_isBetween rfl rfl rfl (by decide +kernel) (by rw [hRf, hRl]; exact ⟨Nat.le_of_ble_eq_true rfl, Nat.le_of_ble_eq_true rfl⟩)) rfl hl.1 rfl (Nat.le_of_ble_eq_true rfl) dX9_looks_30 ⟨Nat.zero_le _, Nat.zero_le _⟩ (qh_kki fun r_30 E_3 H locs hpost hH => ?_)
        obtain ⟨rfl, rfl⟩ := hpost
        refine lv_if_ne (tgt := 39) hx hb dX9_looks_33 (by decide) (fun c_33 => ?_) (fun c_33 => ?_)
        · have c_33 := bI_ne.mp c_33
          have hrf : rfR n x y = 0 := canB_of c_5 c_13 (fun w => c_20 w)
          have hrm : rmR n x y v = 0 := refV_z c_5 c_13 (fun w => c_20 w) c_33
          obtain ⟨a, b, hab, hbn, ea, eb⟩ := rfR_ok hn16 hrf
          have eA : x.toNatClampNeg = a := by rw [ea]; exact nI_clamp (by omega)
          have eB : y.toNatClampNeg = b := by rw [eb]; exact nI_clamp (by omega)
          have hl : lv_has ls 7 [(0, .ref (z + 63)), (1, .int (nI a)), (2, .int y), (3, .long v)] := by rw [← ea]; exact hl
          have hl : lv_has ls 7 [(0, .ref (z + 63)), (1, .int (nI a)), (2, .int (nI b)), (3, .long v)] := by rw [← eb]; exact hl
          refine lv_aload_n hx hb dX9_looks_39 rfl (lv_at hl 0 rfl) ?_
          refine qh_get hx hb hH f_62 (by omega) b_63 rfl dX9_looks_40 ?_
          refine lv_iconst (v := 0) hx hb dX9_looks_43 (by decide) ?_
          refine lv_iconst (v := 1) hx hb dX9_looks_44 (by decide) ?_
          refine qh_iast hx hb hK hH (by omega) b_81 (j := 0) (rfl) (by decide) (by omega) dX9_looks_45 (fun E_4 H locs h_81 hfr hH _ => ?_)
          have hF : ∀ x9, x9 ≠ 81 → E_4 x9 = E x9 := fun x9 a0 => hfr x9 a0
          refine lv_iconst (v := 1) hx hb dX9_looks_46 (by decide) ?_
          refine lv_istore (lv' := [(5, .int 1), (0, .ref (z + 63)), (1, .int (nI a)), (2, .int (nI b)), (3, .long v)]) hx hb dX9_looks_47 hl (by decide) rfl (fun ls hl => ?_)
          refine lv_iconst (v := 0) hx hb dX9_looks_49 (by decide) ?_
          refine lv_istore (lv' := [(6, .int 0), (5, .int 1), (0, .ref (z + 63)), (1, .int (nI a)), (2, .int (nI b)), (3, .long v)]) hx hb dX9_looks_50 hl (by decide) rfl (fun ls hl => ?_)
          have L_52 : ∀ fu_52 : Nat, ∀ k : Nat, ∀ m : Nat, ∀ cq : Nat, ∀ L0 : Nat → Int32, ∀ sf0 : Int32, ∀ sl0 : Int32, ((k ≤ m ∧ 1 ≤ cq ∧ cq ≤ 32) ∧ cntR (lkF n f a b v) 1 (cq - 1) = k ∧ cntR (lkF n f a b v) 1 (2 * cq - 1) = m) → (∀ i, i < m → ∃ s, L0 i = nI s ∧ 1 ≤ s ∧ s < 32 ∧ lkF n f a b v s = true ∧ cntR (lkF n f a b v) 1 (s - 1) = i) → (64 - k < fu_52) → ∀ Ek : Nat → va_E, Ek 81 = qa_I G 64 L0 → Ek 63 = .inr (9, [.int lf, .int tr, .ref (z + 64), .ref (z + 65), .ref (z + 66), .int (nI n), .int (nI m2), .ref (z + 67), .ref (z + 68), .ref (z + 69), .ref (z + 70), .ref (z + 71), .int (nI ln), .ref (z + 72), .ref (z + 73), .ref (z + 74), .ref (z + 75), .int pt, .int rm, .int rh, .ref (z + 76), .ref (z + 77), .ref (z + 78), .ref (z + 79), .ref (z + 80), .int sf0, .int sl0, .ref (z + 81), .int (nI rn), .ref (z + 82), .ref (z + 83)]) → (∀ x9, x9 ≠ 81 → x9 ≠ 63 → Ek x9 = E x9) → ∀ (H : Heap) (locs : List Loc), qh_H G z M Ek sZ.heap H locs → ∀ ls : Array Slot, lv_has ls 7 [(0, .ref (z + 63)), (1, .int (nI a)), (2, .int (nI b)), (3, .long v), (5, .int (nI m)), (6, .int (nI k))] → W pZ l eZ RR sZ mZ aZ bZ tZ cZ H locs 0 0 QQ (F0 mZ 52 ls []) := by
            intro fu_52
            induction fu_52 with
            | zero =>
              intro k m cq L0 sf0 sl0 hA hB hfuel
              exact absurd hfuel (by omega)
            | succ fu_52 ih_52 =>
              intro k m cq L0 sf0 sl0 hA hB hfuel Ek h_81 h_63 hF H locs hH ls hl
              have hm31 : m ≤ 31 := cu_31 hA
              refine lv_iload hx hb dX9_looks_52 (lv_at hl 5 rfl) ?_
              refine lv_iload hx hb dX9_looks_54 (lv_at hl 4 rfl) ?_
              refine lv_icmp_ge (tgt := 126) hx hb dX9_looks_56 (by decide) (fun c_56 => ?_) (fun c_56 => ?_)
              · have hk : m ≤ k := (nI_leI (by omega) (by omega)).mp c_56
                have hend := cu_end hA (show k = m by omega)
                refine lv_iload hx hb dX9_looks_126 (lv_at hl 4 rfl) ?_
                exact hret dX9_looks_128 hH (⟨by rw [lokR, if_pos hrm, eA, eB, hend], ⟨_, _, _, _, _, _, _, _, _, _, h_63, ((hF 64 (by decide) (by decide)).trans b_64), ((hF 65 (by decide) (by decide)).trans b_65), ((hF 66 (by decide) (by decide)).trans b_66), ((hF 67 (by decide) (by decide)).trans b_67), ((hF 68 (by decide) (by decide)).trans b_68), ((hF 69 (by decide) (by decide)).trans b_69), ((hF 70 (by decide) (by decide)).trans b_70), ((hF 71 (by decide) (by decide)).trans b_71), ((hF 72 (by decide) (by decide)).trans b_72), ((hF 73 (by decide) (by decide)).trans b_73), ((hF 74 (by decide) (by decide)).trans b_74), ((hF 75 (by decide) (by decide)).trans b_75), ((hF 76 (by decide) (by decide)).trans b_76), ((hF 77 (by decide) (by decide)).trans b_77), ((hF 78 (by decide) (by decide)).trans b_78), ((hF 79 (by decide) (by decide)).trans b_79), ((hF 80 (by decide) (by decide)).trans b_80), ((hF 82 (by decide) (by decide)).trans b_82), ((hF 83 (by decide) (by decide)).trans b_83)⟩, ⟨_, h_81⟩, (fun x9 h9 => hF x9 (by omega) (by omega))⟩)
              · have hk : ¬ m ≤ k := fun w => c_56 (nI_le w (by omega))
                obtain ⟨s, es, hs1, hs32, hlk, hrk⟩ := hB k (by omega)
                obtain ⟨u, w, hsp⟩ := lk_sp (show 1 ≤ n by omega) hs32 hlk
                have huw := sp_bd hn16 hsp
                have hsm : spM n (nI s) = some (u, w) := (spM_nI hs1 (by omega)).trans hsp
                refine lv_aload_n hx hb dX9_looks_59 rfl (lv_at hl 0 rfl) ?_
                refine lv_aload_n hx hb dX9_looks_60 rfl (lv_at hl 0 rfl) ?_
                refine qh_get hx hb hH f_62 (by omega) h_63 rfl dX9_looks_61 ?_
                refine lv_iload hx hb dX9_looks_64 (lv_at hl 5 rfl) ?_
                refine qh_iald hx hb hK hH (by omega) h_81 (j := k) (rfl) (by omega) (by omega) dX9_looks_66 ?_
                refine qh_topi (y := nI s) (es) ?_
                refine qh_runV (As := [.int (nI s)]) (rest := []) (C := RX9) ⟨hx, hb, hml, hown, hts⟩ hK hH (c_X9_findSpan l G z M Ek lf tr n m2 ln pt rm rh sf0 sl0 rn (hM) h_63 (nI s) (by omega)) (cwV 1 hts gX9_looks_X9_findSpan rfl rfl rfl (by decide +kernel) (by rw [hRf, hRl]; exact ⟨Nat.le_of_ble_eq_true rfl, Nat.le_of_ble_eq_true rfl⟩)) (by omega) h_63 rfl rfl hl.1 rfl (Nat.le_of_ble_eq_true rfl) dX9_looks_67 ⟨Nat.zero_le _, Nat.zero_le _⟩ (qh_kki fun r_67 E_5 H locs hpost hH => ?_)
                obtain ⟨sf1, sl1, h_63, hmt, hfr⟩ := hpost
                rw [hsm] at hmt
                obtain ⟨rfl, rfl, rfl⟩ := hmt
                have h_81 := (hfr 81 (by decide)).trans h_81
                have hF : ∀ x9, x9 ≠ 81 → x9 ≠ 63 → E_5 x9 = E x9 := fun x9 a0 a1 => (hfr x9 a1).trans (hF x9 a0 a1)
                refine lv_pop hx hb dX9_looks_70 rfl ?_
                refine lv_aload_n hx hb dX9_looks_71 rfl (lv_at hl 0 rfl) ?_
                refine lv_iload_n hx hb dX9_looks_72 rfl (lv_at hl 1 rfl) ?_
                refine lv_iload_n hx hb dX9_looks_73 rfl (lv_at hl 2 rfl) ?_
                refine lv_lload_n hx hb dX9_looks_74 rfl (lv_at hl 3 rfl) ?_
                refine qh_runV (As := [.int (nI a), .int (nI b), .long v]) (rest := []) (C := RX9) ⟨hx, hb, hml, hown, hts⟩ hK hH (c_X9_opens l G z M E_5 lf tr n m2 ln pt rm rh rn u w a b f v (hM) h_63 (⟨by omega, by omega⟩) (⟨by omega, by omega⟩) ((hF 67 (by decide) (by decide)).trans b_67)) (cwV 3 hts gX9_looks_X9_opens rfl rfl rfl (by decide +kernel) (by rw [hRf, hRl]; exact ⟨Nat.le_of_ble_eq_true rfl, Nat.le_of_ble_eq_true rfl⟩)) (by omega) h_63 rfl rfl hl.1 rfl (Nat.le_of_ble_eq_true rfl) dX9_looks_75 ⟨Nat.zero_le _, Nat.zero_le _⟩ (qh_kki fun r_75 E_6 H locs hpost hH => ?_)
                obtain ⟨rfl, rfl⟩ := hpost
                refine lv_if_eq (tgt := 120) hx hb dX9_looks_78 (by decide) (fun c_78 => ?_) (fun c_78 => ?_)
                · have c_78 := bI_eq.mp c_78
                  have hn2 := lk_kids_no (n := n) hs1 hs32 hsp c_78
                  refine lv_iinc (v := nI (k + 1)) (lv' := [(6, .int (nI (k + 1))), (0, .ref (z + 63)), (1, .int (nI a)), (2, .int (nI b)), (3, .long v), (5, .int (nI m))]) hx hb dX9_looks_120 hl (k := 5) rfl (qn_inc k) (by decide) rfl (fun ls hl => ?_)
                  refine lv_goto (tgt := 52) hx hb dX9_looks_123 (by decide) ?_
                  exact ih_52 (k + 1) m (s + 1) _ _ _ (cu_no hA hlk hs32 hrk hn2.1 hn2.2) hB (by omega) E_5 h_81 h_63 (fun x9 a0 a1 => hF x9 a0 a1) _ _ hH ls (lv_sub hl [1, 2, 3, 4, 5, 0] rfl)
                · have c_78 := bI_ne.mp c_78
                  have hy2 := lk_kids hn16 hs1 hs32 hlk hsp c_78
                  refine lv_aload_n hx hb dX9_looks_81 rfl (lv_at hl 0 rfl) ?_
                  refine qh_get hx hb hH f_62 (by omega) h_63 rfl dX9_looks_82 ?_
                  refine lv_iload hx hb dX9_looks_85 (lv_at hl 4 rfl) ?_
                  refine lv_iconst (v := 2) hx hb dX9_looks_87 (by decide) ?_
                  refine lv_aload_n hx hb dX9_looks_88 rfl (lv_at hl 0 rfl) ?_
                  refine qh_get hx hb hH f_62 (by omega) h_63 rfl dX9_looks_89 ?_
                  refine lv_iload hx hb dX9_looks_92 (lv_at hl 5 rfl) ?_
                  refine qh_iald hx hb hK hH (by omega) h_81 (j := k) (rfl) (by omega) (by omega) dX9_looks_94 ?_
                  refine qh_topi (y := nI s) (es) ?_
                  refine lv_imul hx hb dX9_looks_95 ?_
                  refine qh_topi (y := nI (2 * s)) (pk_mul 2 s) ?_
                  refine qh_iast hx hb hK hH (by omega) h_81 (j := m) (rfl) (by omega) (by omega) dX9_looks_96 (fun E_7 H locs h_81 hfr hH _ => ?_)
                  have h_63 := (hfr 63 (by decide)).trans h_63
                  have hF : ∀ x9, x9 ≠ 81 → x9 ≠ 63 → E_7 x9 = E x9 := fun x9 a0 a1 => (hfr x9 a0).trans (hF x9 a0 a1)
                  refine lv_aload_n hx hb dX9_looks_97 rfl (lv_at hl 0 rfl) ?_
                  refine qh_get hx hb hH f_62 (by omega) h_63 rfl dX9_looks_98 ?_
                  refine lv_iload hx hb dX9_looks_101 (lv_at hl 4 rfl) ?_
                  refine lv_iconst (v := 1) hx hb dX9_looks_103 (by decide) ?_
                  refine lv_iadd hx hb dX9_looks_104 ?_
                  refine qh_topi (y := nI (m + 1)) (nI_1 m) ?_
                  refine lv_iconst (v := 2) hx hb dX9_looks_105 (by decide) ?_
                  refine lv_aload_n hx hb dX9_looks_106 rfl (lv_at hl 0 rfl) ?_
                  refine qh_get hx hb hH f_62 (by omega) h_63 rfl dX9_looks_107 ?_
                  refine lv_iload hx hb dX9_looks_110 (lv_at hl 5 rfl) ?_
                  refine qh_iald hx hb hK hH (by omega) h_81 (j := k) (rfl) (by omega) (by omega) dX9_looks_112 ?_
                  refine qh_topi (y := nI s) (by rw [pk_un (by omega)]; exact es) ?_
                  refine lv_imul hx hb dX9_looks_113 ?_
                  refine qh_topi (y := nI (2 * s)) (pk_mul 2 s) ?_
                  refine lv_iconst (v := 1) hx hb dX9_looks_114 (by decide) ?_
                  refine lv_iadd hx hb dX9_looks_115 ?_
                  refine qh_topi (y := nI (2 * s + 1)) (nI_1 _) ?_
                  refine qh_iast hx hb hK hH (by omega) h_81 (j := m + 1) (rfl) (by omega) (by omega) dX9_looks_116 (fun E_8 H locs h_81 hfr hH _ => ?_)
                  have h_63 := (hfr 63 (by decide)).trans h_63
                  have hF : ∀ x9, x9 ≠ 81 → x9 ≠ 63 → E_8 x9 = E x9 := fun x9 a0 a1 => (hfr x9 a0).trans (hF x9 a0 a1)
                  refine lv_iinc (v := nI (m + 2)) (lv' := [(5, .int (nI (m + 2))), (0, .ref (z + 63)), (1, .int (nI a)), (2, .int (nI b)), (3, .long v), (6, .int (nI k))]) hx hb dX9_looks_117 hl (k := 4) rfl (qn_inc2 m) (by decide) rfl (fun ls hl => ?_)
                  refine lv_iinc (v := nI (k + 1)) (lv' := [(6, .int (nI (k + 1))), (5, .int (nI (m + 2))), (0, .ref (z + 63)), (1, .int (nI a)), (2, .int (nI b)), (3, .long v)]) hx hb dX9_looks_120 hl (k := 5) rfl (qn_inc k) (by decide) rfl (fun ls hl => ?_)
                  refine lv_goto (tgt := 52) hx hb dX9_looks_123 (by decide) ?_
                  exact ih_52 (k + 1) (m + 2) (s + 1) _ _ _ (cu_yes hA hlk hs32 hrk hy2.1 hy2.2.1 hy2.2.2) (cu_B hB hA hlk hs32 hrk hy2.1 hy2.2.1 hy2.2.2) (by omega) E_8 h_81 h_63 (fun x9 a0 a1 => hF x9 a0 a1) _ _ hH ls (lv_sub hl [2, 3, 4, 5, 1, 0] rfl)
          exact L_52 65 0 1 1 _ _ _ (cu_0 n f a b v) (cu_B0 n f a b v lq) (by omega) E_4 h_81 ((hF 63 (by decide)).trans b_63) (fun x9 a0 a1 => hF x9 a0) _ _ hH ls (lv_sub hl [2, 3, 4, 5, 1, 0] rfl)
        · have c_33 := bI_eq.mp c_33
          have hD : lokR n f x y v = -2 := lok_2b c_5 c_13 c_20 c_33
          refine lv_bipush (v := (-2)) hx hb dX9_looks_36 (by decide) ?_
          exact hret dX9_looks_38 hH (⟨by rw [hD], ⟨_, _, _, _, _, _, _, _, _, _, b_63, b_64, b_65, b_66, b_67, b_68, b_69, b_70, b_71, b_72, b_73, b_74, b_75, b_76, b_77, b_78, b_79, b_80, b_82, b_83⟩, ⟨_, b_81⟩, (fun x9 h9 => rfl)⟩)
    · have c_13 := bI_eq.mp c_13
      have hD : lokR n f x y v = -1 := lok_1 (fun u => c_13 u.2)
      refine lv_iconst (v := (-1)) hx hb dX9_looks_16 (by decide) ?_
      exact hret dX9_looks_17 hH (⟨by rw [hD], ⟨_, _, _, _, _, _, _, _, _, _, b_63, b_64, b_65, b_66, b_67, b_68, b_69, b_70, b_71, b_72, b_73, b_74, b_75, b_76, b_77, b_78, b_79, b_80, b_82, b_83⟩, ⟨_, b_81⟩, (fun x9 h9 => rfl)⟩)
