/-! pure words: numbers of 64 bits, what is known of a run of them -/
theorem i64_lt {x y : Int64} : x < y ↔ x.toInt < y.toInt := Int64.lt_iff_toInt_lt
theorem i64_le {x y : Int64} : x ≤ y ↔ x.toInt ≤ y.toInt := Int64.le_iff_toInt_le
theorem i64_eq {x y : Int64} : x = y ↔ x.toInt = y.toInt := Int64.toInt_inj.symm
theorem i32_lt {x y : Int32} : x < y ↔ x.toInt < y.toInt := Int32.lt_iff_toInt_lt
theorem i32_le {x y : Int32} : x ≤ y ↔ x.toInt ≤ y.toInt := Int32.le_iff_toInt_le
theorem i32_eq {x y : Int32} : x = y ↔ x.toInt = y.toInt := Int32.toInt_inj.symm
def mx (x y : Int64) : Int64 := if x < y then y else x
def mn (x y : Int64) : Int64 := if y < x then y else x
theorem mx_cls (x y : Int64) : (if y < x then x else y) = mx x y := by
  unfold mx
  split <;> split
  · rename_i h1 h2
    rw [i64_lt] at h1 h2
    omega
  · rfl
  · rfl
  · rename_i h1 h2
    rw [i64_lt] at h1 h2
    rw [i64_eq]
    omega
theorem mn_cls (x y : Int64) : (if x < y then x else y) = mn x y := by
  unfold mn
  split <;> split
  · rename_i h1 h2
    rw [i64_lt] at h1 h2
    omega
  · rfl
  · rfl
  · rename_i h1 h2
    rw [i64_lt] at h1 h2
    rw [i64_eq]
    omega
theorem mx_self (x : Int64) : mx x x = x := by
  unfold mx
  split <;> rfl
theorem mn_self (x : Int64) : mn x x = x := by
  unfold mn
  split <;> rfl
def LOSTv : Int64 := -9223372036854775808
def sumR (f : Nat → Int64) (a : Nat) : Nat → Int64
  | 0 => 0
  | n + 1 => sumR f a n + f (a + n)
def maxR (f : Nat → Int64) (a : Nat) : Nat → Int64
  | 0 => f a
  | n + 1 => mx (maxR f a n) (f (a + (n + 1)))
def minR (f : Nat → Int64) (a : Nat) : Nat → Int64
  | 0 => f a
  | n + 1 => mn (minR f a n) (f (a + (n + 1)))
def secR (f : Nat → Int64) (g : Int64) (a : Nat) : Nat → Int64
  | 0 => LOSTv
  | n + 1 => if f (a + n) < g then mx (secR f g a n) (f (a + n)) else secR f g a n
/-- how many of n places from a on -/
def cntR (q : Nat → Bool) (a : Nat) : Nat → Nat
  | 0 => 0
  | n + 1 => cntR q a n + (if q (a + n) then 1 else 0)
/-- whether x stands among n places from a on -/
def anyR (f : Nat → Int64) (x : Int64) (a : Nat) : Nat → Bool
  | 0 => false
  | n + 1 => anyR f x a n || decide (f (a + n) = x)
def unlR (f : Nat → Int64) (a n : Nat) : Nat := cntR (fun k => !anyR f (f k) a (k - a)) a n
theorem cntR_le (q : Nat → Bool) (a : Nat) : ∀ n, cntR q a n ≤ n
  | 0 => Nat.le_refl 0
  | n + 1 => by
    have := cntR_le q a n
    show cntR q a n + _ ≤ n + 1
    split <;> omega
theorem cntR_cong {q q' : Nat → Bool} {a : Nat} : ∀ {n : Nat}, (∀ k, a ≤ k → k < a + n → q k = q' k) → cntR q a n = cntR q' a n
  | 0, _ => rfl
  | n + 1, h => by
    show cntR q a n + _ = cntR q' a n + _
    rw [cntR_cong (n := n) (fun k h1 h2 => h k h1 (by omega)), h (a + n) (by omega) (by omega)]
theorem cntR_succ (q : Nat → Bool) (a n : Nat) : cntR q a (n + 1) = cntR q a n + (if q (a + n) then 1 else 0) := rfl
theorem sumR_cong {f f' : Nat → Int64} {a : Nat} : ∀ {n : Nat}, (∀ k, a ≤ k → k < a + n → f k = f' k) → sumR f a n = sumR f' a n
  | 0, _ => rfl
  | n + 1, h => by
    show sumR f a n + _ = sumR f' a n + _
    rw [sumR_cong (n := n) (fun k h1 h2 => h k h1 (by omega)), h (a + n) (by omega) (by omega)]
theorem maxR_cong {f f' : Nat → Int64} {a : Nat} : ∀ {n : Nat}, (∀ k, a ≤ k → k ≤ a + n → f k = f' k) → maxR f a n = maxR f' a n
  | 0, h => h a (Nat.le_refl a) (Nat.le_refl a)
  | n + 1, h => by
    show mx (maxR f a n) _ = mx (maxR f' a n) _
    rw [maxR_cong (n := n) (fun k h1 h2 => h k h1 (by omega)), h (a + (n + 1)) (by omega) (by omega)]
theorem minR_cong {f f' : Nat → Int64} {a : Nat} : ∀ {n : Nat}, (∀ k, a ≤ k → k ≤ a + n → f k = f' k) → minR f a n = minR f' a n
  | 0, h => h a (Nat.le_refl a) (Nat.le_refl a)
  | n + 1, h => by
    show mn (minR f a n) _ = mn (minR f' a n) _
    rw [minR_cong (n := n) (fun k h1 h2 => h k h1 (by omega)), h (a + (n + 1)) (by omega) (by omega)]
theorem secR_cong {f f' : Nat → Int64} {g : Int64} {a : Nat} : ∀ {n : Nat}, (∀ k, a ≤ k → k < a + n → f k = f' k) → secR f g a n = secR f' g a n
  | 0, _ => rfl
  | n + 1, h => by
    show (if f (a + n) < g then mx (secR f g a n) (f (a + n)) else secR f g a n) = _
    rw [secR_cong (n := n) (fun k h1 h2 => h k h1 (by omega)), h (a + n) (by omega) (by omega)]
    rfl
theorem anyR_cong {f f' : Nat → Int64} {x : Int64} {a : Nat} : ∀ {n : Nat}, (∀ k, a ≤ k → k < a + n → f k = f' k) → anyR f x a n = anyR f' x a n
  | 0, _ => rfl
  | n + 1, h => by
    show (anyR f x a n || _) = (anyR f' x a n || _)
    rw [anyR_cong (n := n) (fun k h1 h2 => h k h1 (by omega)), h (a + n) (by omega) (by omega)]
theorem unlR_cong {f f' : Nat → Int64} {a n : Nat} (h : ∀ k, a ≤ k → k < a + n → f k = f' k) : unlR f a n = unlR f' a n := by
  refine cntR_cong (fun k h1 h2 => ?_)
  rw [h k h1 h2, anyR_cong (f' := f') (fun j h3 h4 => h j h3 (by omega))]
theorem mx_ge_l (x y : Int64) : x ≤ mx x y := by
  unfold mx
  split
  · rename_i h
    rw [i64_lt] at h
    rw [i64_le]
    omega
  · rw [i64_le]
    omega
theorem mx_ge_r (x y : Int64) : y ≤ mx x y := by
  unfold mx
  split
  · rw [i64_le]
    omega
  · rename_i h
    rw [i64_lt] at h
    rw [i64_le]
    omega
theorem maxR_ge (f : Nat → Int64) (a : Nat) : ∀ n k, a ≤ k → k ≤ a + n → f k ≤ maxR f a n
  | 0, k, h1, h2 => by
    have : k = a := by omega
    subst this
    rw [i64_le]
    show (f k).toInt ≤ (f k).toInt
    omega
  | n + 1, k, h1, h2 => by
    by_cases h : k = a + (n + 1)
    · subst h
      exact mx_ge_r _ _
    · have h3 := maxR_ge f a n k h1 (by omega)
      have h4 := mx_ge_l (maxR f a n) (f (a + (n + 1)))
      show f k ≤ mx (maxR f a n) (f (a + (n + 1)))
      rw [i64_le] at h3 h4 ⊢
      omega
/-- a number behind an act of a sort: 1 CAP, 2 FLOOR, else ADD -/
def chg (x : Int64) (t : Int32) (y : Int64) : Int64 := if t = 1 then mn x y else if t = 2 then mx x y else x + y
def actF (f : Nat → Int64) (t : Int32) (y : Int64) (a n : Nat) : Nat → Int64 := fun k => if a ≤ k ∧ k < a + n then chg (f k) t y else f k
def hisF (h f : Nat → Int64) (t : Int32) (y : Int64) (a n : Nat) : Nat → Int64 := fun k => if a ≤ k ∧ k < a + n then mx (h k) (chg (f k) t y) else h k
theorem actF_0 (f : Nat → Int64) (t : Int32) (y : Int64) (a : Nat) : actF f t y a 0 = f := by
  funext k
  simp only [actF]
  rw [if_neg (by omega)]
theorem hisF_0 (h f : Nat → Int64) (t : Int32) (y : Int64) (a : Nat) : hisF h f t y a 0 = h := by
  funext k
  simp only [hisF]
  rw [if_neg (by omega)]
theorem actF_at (f : Nat → Int64) (t : Int32) (y : Int64) (a n : Nat) : actF f t y a n (a + n) = f (a + n) := by
  simp only [actF]
  rw [if_neg (by omega)]
theorem hisF_at (h f : Nat → Int64) (t : Int32) (y : Int64) (a n : Nat) : hisF h f t y a n (a + n) = h (a + n) := by
  simp only [hisF]
  rw [if_neg (by omega)]
theorem actF_s (f : Nat → Int64) (t : Int32) (y : Int64) (a n : Nat) : vp_updL (actF f t y a n) (a + n) (chg (f (a + n)) t y) = actF f t y a (n + 1) := by
  funext k
  simp only [vp_updL, actF]
  by_cases h : k = a + n
  · subst h
    rw [if_pos rfl, if_pos (by omega)]
  · rw [if_neg h]
    by_cases h2 : a ≤ k ∧ k < a + n
    · rw [if_pos h2, if_pos (by omega)]
    · rw [if_neg h2, if_neg (by omega)]
theorem hisF_s (h f : Nat → Int64) (t : Int32) (y : Int64) (a n : Nat) : vp_updL (hisF h f t y a n) (a + n) (mx (h (a + n)) (chg (f (a + n)) t y)) = hisF h f t y a (n + 1) := by
  funext k
  simp only [vp_updL, hisF]
  by_cases h1 : k = a + n
  · subst h1
    rw [if_pos rfl, if_pos (by omega)]
  · rw [if_neg h1]
    by_cases h2 : a ≤ k ∧ k < a + n
    · rw [if_pos h2, if_pos (by omega)]
    · rw [if_neg h2, if_neg (by omega)]
/-! the strength of a helper -/
def stv (k p : Int32) : Int32 := if k = 1 then p + 1 else if k = 2 then 2 * p else p
/-- a long between 0 and a small count -/
theorem lN_of {h : Int64} {c : Nat} (hc : c < 2 ^ 31) (h1 : ¬ h < 0 ∧ h < (nI c).toInt64) : ∃ j : Nat, j < c ∧ h = lN j := by
  obtain ⟨k, hk, rfl⟩ := pk_lOf h1.1
  rw [nI_l hc] at h1
  exact ⟨k, (pk_lLT hk (by omega)).mp h1.2, rfl⟩
theorem nI_of_in {k : Int32} {c : Nat} (hc : c < 2 ^ 31) (h1 : ¬ k < 0 ∧ k < nI c) : ∃ j : Nat, j < c ∧ k = nI j := by
  obtain ⟨j, hj, rfl⟩ := nI_of h1.1
  exact ⟨j, (nI_ltI hj hc).mp h1.2, rfl⟩
theorem nI_has {j c : Nat} (hj : j < c) (hc : c < 2 ^ 31) : ¬ nI j < 0 ∧ nI j < nI c := ⟨nI_pos (by omega), nI_lt hj hc⟩
theorem lN_has {j c : Nat} (hj : j < c) (hc : c < 2 ^ 31) : ¬ lN j < 0 ∧ lN j < (nI c).toInt64 := by
  rw [nI_l hc]
  refine ⟨?_, (pk_lLT (by omega) (by omega)).mpr hj⟩
  rw [i64_lt, pk_lT (by omega)]
  show ¬ ((j : Int) < 0)
  omega
/-! cells that hold the same -/
theorem qh_renI {G : qh_G} {z M i n : Nat} {E E1 : Nat → va_E} {H0 H : Heap} {locs : List Loc} {f g : Nat → Int32} (hH : qh_H G z M E1 H0 H locs) (h1 : E1 i = qa_I G n f) (hfr : ∀ j, j ≠ i → E1 j = E j) (hfg : ∀ k, k < n → f k = g k) : ∃ E2 : Nat → va_E, E2 i = qa_I G n g ∧ (∀ j, j ≠ i → E2 j = E j) ∧ qh_H G z M E2 H0 H locs := by
  refine ⟨va_up E1 i (qa_I G n g), va_up_self .., fun j hj => (va_up_ne _ _ hj).trans (hfr j hj), ⟨hH.1.1, fun j hj => ?_⟩, hH.2⟩
  by_cases hji : j = i
  · subst hji
    have h2 := hH.1.2 j hj
    rw [h1] at h2
    rw [va_up_self]
    have e : arrV G.2.1 n (fun j => .int (f j)) = arrV G.2.1 n (fun j => .int (g j)) := by
      unfold arrV
      congr 2
      funext q
      exact congrArg Value.int (hfg q.val q.isLt)
    have h3 : H[z + j]? = some (arrV G.2.1 n (fun j => .int (f j))) := h2
    rw [e] at h3
    exact h3
  · rw [va_up_ne _ _ hji]
    exact hH.1.2 j hj
theorem qh_renJ {G : qh_G} {z M i n : Nat} {E E1 : Nat → va_E} {H0 H : Heap} {locs : List Loc} {f g : Nat → Int64} (hH : qh_H G z M E1 H0 H locs) (h1 : E1 i = qa_J G n f) (hfr : ∀ j, j ≠ i → E1 j = E j) (hfg : ∀ k, k < n → f k = g k) : ∃ E2 : Nat → va_E, E2 i = qa_J G n g ∧ (∀ j, j ≠ i → E2 j = E j) ∧ qh_H G z M E2 H0 H locs := by
  refine ⟨va_up E1 i (qa_J G n g), va_up_self .., fun j hj => (va_up_ne _ _ hj).trans (hfr j hj), ⟨hH.1.1, fun j hj => ?_⟩, hH.2⟩
  by_cases hji : j = i
  · subst hji
    have h2 := hH.1.2 j hj
    rw [h1] at h2
    rw [va_up_self]
    have e : arrV G.2.2.1 n (fun j => .long (f j)) = arrV G.2.2.1 n (fun j => .long (g j)) := by
      unfold arrV
      congr 2
      funext q
      exact congrArg Value.long (hfg q.val q.isLt)
    have h3 : H[z + j]? = some (arrV G.2.2.1 n (fun j => .long (f j))) := h2
    rw [e] at h3
    exact h3
  · rw [va_up_ne _ _ hji]
    exact hH.1.2 j hj
theorem cpy_0 {α : Type} {f g : Nat → α} {n k : Nat} (h : k < n) : va_cpy f g 0 0 n k = f k := by
  simp only [va_cpy]
  rw [if_pos (by omega)]
  congr 1
  omega
