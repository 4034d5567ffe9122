/-! Euclid: how many turns are enough -/
def Suf : Nat → Nat → Nat → Prop
  | 0, _, y => y = 0
  | n + 1, x, y => y = 0 ∨ Suf n y (x % y)
theorem suf_s {n : Nat} : ∀ {x y : Nat}, Suf n x y → Suf (n + 1) x y := by
  induction n with
  | zero => intro x y h; exact Or.inl h
  | succ n ih =>
    intro x y h
    have h' : y = 0 ∨ Suf n y (x % y) := h
    rcases h' with h' | h'
    · exact Or.inl h'
    · exact Or.inr (ih h')
theorem suf_le {n m x y : Nat} (h : Suf n x y) (hm : n ≤ m) : Suf m x y := by
  induction hm with
  | refl => exact h
  | step _ ih => exact suf_s ih
theorem suf_y (n : Nat) : ∀ (x y : Nat), y ≤ n → Suf n x y := by
  induction n with
  | zero => intro x y h; exact Nat.le_zero.mp h
  | succ n ih =>
    intro x y h
    by_cases e : y = 0
    · exact Or.inl e
    · exact Or.inr (ih y (x % y) (by have := Nat.mod_lt x (Nat.pos_of_ne_zero e); omega))
theorem mod_half {y r : Nat} (hr : ¬ r = 0) (h : r < y) : y % r + r ≤ y := by
  have e := Nat.mod_add_div y r
  have q : 1 ≤ y / r := (Nat.le_div_iff_mul_le (Nat.pos_of_ne_zero hr)).mpr (by omega)
  have m : r * 1 ≤ r * (y / r) := Nat.mul_le_mul_left r q
  omega
theorem suf_2 (k : Nat) : ∀ (x y : Nat), y < 2 ^ k → Suf (2 * k) x y := by
  induction k with
  | zero => intro x y h; show y = 0; rw [Nat.pow_zero] at h; omega
  | succ k ih =>
    intro x y h
    show y = 0 ∨ Suf (2 * k + 1) y (x % y)
    by_cases e : y = 0
    · exact Or.inl e
    · refine Or.inr ?_
      show x % y = 0 ∨ Suf (2 * k) (x % y) (y % (x % y))
      by_cases e2 : x % y = 0
      · exact Or.inl e2
      · refine Or.inr (ih _ _ ?_)
        have h1 := Nat.mod_lt x (Nat.pos_of_ne_zero e)
        have h2 := Nat.mod_lt y (Nat.pos_of_ne_zero e2)
        have h3 := mod_half e2 h1
        rw [Nat.pow_succ] at h
        omega
theorem lr_nat {x y : Int64} (hx : 0 ≤ x.toInt) (h0 : 0 ≤ y.toInt) (hy : ¬ y = 0) : 0 ≤ (x - x / y * y).toInt ∧ (x - x / y * y).toInt.toNat = x.toInt.toNat % y.toInt.toNat := by
  rw [lr_toInt x y hy, Int.tmod_eq_emod_of_nonneg hx]
  have hy0 : y.toInt ≠ 0 := fun h => hy (Int64.toInt_inj.mp (by rw [h]; rfl))
  refine ⟨Int.emod_nonneg _ hy0, ?_⟩
  have e := Int.toNat_emod hx h0
  exact e
theorem gL_suf (n : Nat) : ∀ (m : Nat) (x y : Int64), 0 ≤ x.toInt → 0 ≤ y.toInt → Suf n x.toInt.toNat y.toInt.toNat → Suf m x.toInt.toNat y.toInt.toNat → gL n x y = gL m x y := by
  have z : ∀ y : Int64, 0 ≤ y.toInt → y.toInt.toNat = 0 → y = 0 := fun y h e => Int64.toInt_inj.mp (by rw [show (0 : Int64).toInt = 0 from rfl]; omega)
  induction n with
  | zero =>
    intro m x y hx hy h1 _
    rw [z y hy h1, gL_0, gL_0]
  | succ n ih =>
    intro m x y hx hy h1 h2
    by_cases e : y = 0
    · rw [e, gL_0, gL_0]
    · have ne : ¬ y.toInt.toNat = 0 := fun q => e (z y hy q)
      cases m with
      | zero => exact absurd h2 ne
      | succ m =>
        have r1 : Suf n y.toInt.toNat (x.toInt.toNat % y.toInt.toNat) := (show _ ∨ _ from h1).resolve_left ne
        have r2 : Suf m y.toInt.toNat (x.toInt.toNat % y.toInt.toNat) := (show _ ∨ _ from h2).resolve_left ne
        obtain ⟨l1, l2⟩ := lr_nat hx hy e
        rw [← l2] at r1 r2
        show (if y = 0 then x else gL n y (x - x / y * y)) = (if y = 0 then x else gL m y (x - x / y * y))
        rw [if_neg e, if_neg e]
        exact ih m y _ hy l1 r1 r2
theorem aJ_nn {a : Int64} (h : -9223372036854775808 < a.toInt) : 0 ≤ (aJ a).toInt := by
  unfold aJ
  have b := Int64.toInt_lt a
  by_cases c : a < 0
  · rw [if_pos c]
    rw [Int64.lt_iff_toInt_lt, show (0 : Int64).toInt = 0 from rfl] at c
    rw [Int64.toInt_neg, Int.bmod_eq_of_le (by omega) (by omega)]
    omega
  · rw [if_neg c]
    rw [Int64.lt_iff_toInt_lt, show (0 : Int64).toInt = 0 from rfl] at c
    omega
/-- 128 turns of Euclid are as good as any -/
theorem gJ_128 {a b : Int64} (ha : -9223372036854775808 < a.toInt) (hb : -9223372036854775808 < b.toInt) : gL 128 (aJ a) (aJ b) = gJ a b := by
  have nb := aJ_nn hb
  refine gL_suf 128 _ _ _ (aJ_nn ha) nb (suf_le (suf_2 63 _ _ ?_) (by decide)) (suf_y _ _ _ ?_)
  · have := Int64.toInt_lt (aJ b)
    omega
  · omega
/-! the bounds go as far as they can -/
theorem wd_lo (l q B : Int64) : -B + (l + B - q) = l - q := by
  rw [Int64.sub_eq_add_neg, Int64.sub_eq_add_neg, Int64.add_comm l B, Int64.add_assoc B l, ← Int64.add_assoc, Int64.add_left_neg, Int64.zero_add]
theorem wd_hi (u q B : Int64) : B - (B - u - q) = u + q := by
  rw [Int64.sub_eq_add_neg B (B - u - q), Int64.neg_sub, Int64.sub_eq_add_neg, Int64.neg_sub, ← Int64.add_assoc, Int64.add_comm B q, Int64.add_assoc q, Int64.add_comm B, Int64.sub_add_cancel, Int64.add_comm]
/-! what is cut -/
theorem up_div {d s : Int} (hs : 0 < s) : (d + s - 1) / s * s = if d % s = 0 then d else d - d % s + s := by
  have e := Int.mul_ediv_add_emod d s
  have h1 := Int.emod_nonneg d (show s ≠ 0 by omega)
  have h2 := Int.emod_lt_of_pos d hs
  by_cases h : d % s = 0
  · rw [if_pos h]
    have q : (d + s - 1) / s = d / s := by
      have z : d + s - 1 = (s - 1) + s * (d / s) := by omega
      rw [z, Int.add_mul_ediv_left _ _ (show s ≠ 0 by omega), Int.ediv_eq_zero_of_lt (by omega) (by omega)]
      omega
    rw [q, Int.mul_comm]
    omega
  · rw [if_neg h]
    have q : (d + s - 1) / s = d / s + 1 := by
      have z : d + s - 1 = (d % s - 1) + s * (d / s + 1) := by rw [Int.mul_add]; omega
      rw [z, Int.add_mul_ediv_left _ _ (show s ≠ 0 by omega), Int.ediv_eq_zero_of_lt (by omega) (by omega)]
      omega
    rw [q, Int.add_mul, Int.mul_comm (d / s)]
    omega
/-! the lowest bit -/
def lob (w n : Nat) : Nat := n &&& (2 ^ w - n)
theorem lob_odd {w a : Nat} (h : a < 2 ^ w) : lob (w + 1) (2 * a + 1) = 1 := by
  apply Nat.eq_of_testBit_eq
  intro i
  unfold lob
  rw [Nat.testBit_and]
  have p : 2 ^ (w + 1) = 2 * 2 ^ w := by rw [Nat.pow_succ, Nat.mul_comm]
  cases i with
  | zero =>
    rw [Nat.testBit_zero, Nat.testBit_zero, Nat.testBit_zero]
    have e1 : (2 * a + 1) % 2 = 1 := by omega
    have e2 : (2 ^ (w + 1) - (2 * a + 1)) % 2 = 1 := by omega
    rw [e1, e2]
    decide
  | succ i =>
    rw [Nat.testBit_add_one, Nat.testBit_add_one, Nat.testBit_add_one]
    have e1 : (2 * a + 1) / 2 = a := by omega
    have e2 : (2 ^ (w + 1) - (2 * a + 1)) / 2 = 2 ^ w - (a + 1) := by omega
    rw [e1, e2, Nat.testBit_two_pow_sub_succ h, show 1 / 2 = 0 from rfl, Nat.zero_testBit]
    cases a.testBit i <;> simp
theorem lob_even {w a : Nat} : lob (w + 1) (2 * a) = 2 * lob w a := by
  have p : 2 ^ (w + 1) = 2 * 2 ^ w := by rw [Nat.pow_succ, Nat.mul_comm]
  unfold lob
  apply Nat.eq_of_testBit_eq
  intro i
  rw [Nat.testBit_and]
  cases i with
  | zero =>
    rw [Nat.testBit_zero, Nat.testBit_zero, Nat.testBit_zero]
    have e1 : (2 * a) % 2 = 0 := by omega
    have e2 : (2 * (a &&& (2 ^ w - a))) % 2 = 0 := by omega
    rw [e1, e2]
    simp
  | succ i =>
    rw [Nat.testBit_add_one, Nat.testBit_add_one, Nat.testBit_add_one]
    have e1 : 2 * a / 2 = a := by omega
    have e2 : (2 ^ (w + 1) - 2 * a) / 2 = 2 ^ w - a := by omega
    have e3 : 2 * (a &&& (2 ^ w - a)) / 2 = a &&& (2 ^ w - a) := by omega
    rw [e1, e2, e3, Nat.testBit_and]
theorem odd_gcd (a k : Nat) : Nat.gcd (2 * a + 1) (2 ^ k) = 1 := by
  have h : Nat.gcd (2 * a + 1) 2 = 1 := by rw [Nat.gcd_comm, Nat.gcd_rec, show (2 * a + 1) % 2 = 1 by omega, Nat.gcd_one_left]
  exact Nat.Coprime.pow_right k h
theorem lob_pos (w : Nat) : ∀ n : Nat, 0 < n → n < 2 ^ w → 0 < lob w n := by
  induction w with
  | zero => intro n h0 h; rw [Nat.pow_zero] at h; omega
  | succ w ih =>
    intro n h0 h
    rw [Nat.pow_succ] at h
    by_cases e : n % 2 = 0
    · have z : n = 2 * (n / 2) := by omega
      rw [z, lob_even]
      have := ih (n / 2) (by omega) (by omega)
      omega
    · have z : n = 2 * (n / 2) + 1 := by omega
      rw [z, lob_odd (by omega)]
      decide
/-- gcd with a power of two -/
theorem gcd_lob (k : Nat) : ∀ (w n : Nat), 0 < n → n < 2 ^ w → Nat.gcd n (2 ^ k) = min (lob w n) (2 ^ k) := by
  induction k with
  | zero =>
    intro w n h0 h
    rw [Nat.pow_zero, Nat.gcd_one_right]
    have := lob_pos w n h0 h
    omega
  | succ k ih =>
    intro w n h0 h
    cases w with
    | zero => rw [Nat.pow_zero] at h; omega
    | succ w =>
      rw [Nat.pow_succ] at h
      have p : 2 ^ (k + 1) = 2 * 2 ^ k := by rw [Nat.pow_succ, Nat.mul_comm]
      by_cases e : n % 2 = 0
      · have z : n = 2 * (n / 2) := by omega
        rw [z, lob_even, p, Nat.gcd_mul_left, ih w (n / 2) (by omega) (by omega)]
        omega
      · have z : n = 2 * (n / 2) + 1 := by omega
        have q : 0 < 2 ^ k := Nat.pow_pos (by decide)
        rw [z, lob_odd (by omega), odd_gcd, p]
        omega
/-- Euclid gives the gcd -/
theorem gL_gcd (n : Nat) : ∀ x y : Int64, 0 ≤ x.toInt → 0 ≤ y.toInt → Suf n x.toInt.toNat y.toInt.toNat → (gL n x y).toInt = (Nat.gcd x.toInt.toNat y.toInt.toNat : Int) := by
  have z : ∀ y : Int64, 0 ≤ y.toInt → y.toInt.toNat = 0 → y = 0 := fun y h e => Int64.toInt_inj.mp (by rw [show (0 : Int64).toInt = 0 from rfl]; omega)
  have g0 : ∀ (n : Nat) (x : Int64), 0 ≤ x.toInt → (gL n x 0).toInt = (Nat.gcd x.toInt.toNat (0 : Int64).toInt.toNat : Int) := by
    intro n x hx
    rw [gL_0, show (0 : Int64).toInt.toNat = 0 from rfl, Nat.gcd_zero_right]
    omega
  induction n with
  | zero =>
    intro x y hx hy h
    rw [z y hy h]
    exact g0 _ x hx
  | succ n ih =>
    intro x y hx hy h
    by_cases e : y = 0
    · rw [e]
      exact g0 _ x hx
    · have ne : ¬ y.toInt.toNat = 0 := fun q => e (z y hy q)
      have r1 : Suf n y.toInt.toNat (x.toInt.toNat % y.toInt.toNat) := (show _ ∨ _ from h).resolve_left ne
      obtain ⟨l1, l2⟩ := lr_nat hx hy e
      rw [← l2] at r1
      show (if y = 0 then x else gL n y (x - x / y * y)).toInt = _
      rw [if_neg e, ih y _ hy l1 r1, l2, Nat.gcd_comm x.toInt.toNat y.toInt.toNat, Nat.gcd_rec y.toInt.toNat x.toInt.toNat, Nat.gcd_comm (x.toInt.toNat % y.toInt.toNat) y.toInt.toNat]
theorem gJ_gcd {a b : Int64} (ha : -9223372036854775808 < a.toInt) (hb : -9223372036854775808 < b.toInt) : (gJ a b).toInt = (Nat.gcd (aJ a).toInt.toNat (aJ b).toInt.toNat : Int) := by
  have nb := aJ_nn hb
  exact gL_gcd _ _ _ (aJ_nn ha) nb (suf_y _ _ _ (by omega))
