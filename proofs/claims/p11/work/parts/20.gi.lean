/-! bounds of numbers -/
def Rg (lo hi : Int) (x : Int32) : Prop := lo ≤ x.toInt ∧ x.toInt ≤ hi
def Rl (lo hi : Int) (x : Int64) : Prop := lo ≤ x.toInt ∧ x.toInt ≤ hi
section RG
variable {a b c d lo hi : Int} {x y : Int32}
theorem rg_all (x : Int32) : Rg (-2147483648) 2147483647 x := ⟨Int32.le_toInt x, Int.le_of_lt_add_one (Int32.toInt_lt x)⟩
theorem rg_w (h : Rg a b x) (h1 : lo ≤ a := by decide) (h2 : b ≤ hi := by decide) : Rg lo hi x := ⟨Int.le_trans h1 h.1, Int.le_trans h.2 h2⟩
theorem bmod_in {n : Int} (h1 : -2147483648 ≤ n) (h2 : n ≤ 2147483647) : n.bmod (2 ^ 32) = n := Int.bmod_eq_of_le (by omega) (by omega)
theorem rg_add (hx : Rg a b x) (hy : Rg c d y) (h1 : lo ≤ a + c := by decide) (h2 : b + d ≤ hi := by decide) (h3 : -2147483648 ≤ lo := by decide) (h4 : hi ≤ 2147483647 := by decide) : Rg lo hi (x + y) := by
  obtain ⟨x1, x2⟩ := hx
  obtain ⟨y1, y2⟩ := hy
  have e : (x + y).toInt = x.toInt + y.toInt := by rw [Int32.toInt_add, bmod_in (by omega) (by omega)]
  exact ⟨by rw [e]; omega, by rw [e]; omega⟩
theorem rg_sub (hx : Rg a b x) (hy : Rg c d y) (h1 : lo ≤ a - d := by decide) (h2 : b - c ≤ hi := by decide) (h3 : -2147483648 ≤ lo := by decide) (h4 : hi ≤ 2147483647 := by decide) : Rg lo hi (x - y) := by
  obtain ⟨x1, x2⟩ := hx
  obtain ⟨y1, y2⟩ := hy
  have e : (x - y).toInt = x.toInt - y.toInt := by rw [Int32.toInt_sub, bmod_in (by omega) (by omega)]
  exact ⟨by rw [e]; omega, by rw [e]; omega⟩
theorem rg_mul (hx : Rg a b x) (hy : Rg c d y) (ha : 0 ≤ a := by decide) (hc : 0 ≤ c := by decide) (h1 : lo ≤ a * c := by decide) (h2 : b * d ≤ hi := by decide) (h3 : 0 ≤ lo := by decide) (h4 : hi ≤ 2147483647 := by decide) : Rg lo hi (x * y) := by
  obtain ⟨x1, x2⟩ := hx
  obtain ⟨y1, y2⟩ := hy
  have l : a * c ≤ x.toInt * y.toInt := Int.mul_le_mul x1 y1 hc (by omega)
  have r : x.toInt * y.toInt ≤ b * d := Int.mul_le_mul x2 y2 (by omega) (by omega)
  have e : (x * y).toInt = x.toInt * y.toInt := by rw [Int32.toInt_mul, bmod_in (by omega) (by omega)]
  exact ⟨by rw [e]; omega, by rw [e]; omega⟩
theorem rg_and (hy : Rg c d y) (hc : 0 ≤ c := by decide) : Rg 0 d (x &&& y) := by
  have e : (x &&& y).toInt = ((x &&& y).toBitVec.toNat : Int) ∧ ((x &&& y).toBitVec.toNat : Int) ≤ y.toInt := by
    have h0 : 0 ≤ y.toInt := Int.le_trans hc hy.1
    have h1 : (x &&& y).toBitVec.toNat ≤ y.toBitVec.toNat := by
      show (x.toBitVec &&& y.toBitVec).toNat ≤ _
      rw [BitVec.toNat_and]
      exact Nat.and_le_right
    have h2 : y.toInt = (y.toBitVec.toNat : Int) := by
      have h3 : y.toBitVec.toInt = _ := BitVec.toInt_eq_toNat_cond y.toBitVec
      have h4 := y.toBitVec.isLt
      have h5 : y.toInt = y.toBitVec.toInt := rfl
      rw [h5] at h0 ⊢
      rw [h3] at h0 ⊢
      split at h0
      · split
        · rfl
        · omega
      · omega
    have h6 : y.toInt ≤ 2147483647 := (rg_all y).2
    constructor
    · show (x &&& y).toBitVec.toInt = _
      rw [BitVec.toInt_eq_toNat_cond]
      split
      · rfl
      · omega
    · omega
  exact ⟨by rw [e.1]; omega, by rw [e.1]; exact Int.le_trans e.2 hy.2⟩
theorem rg_lt_l (hx : Rg a b x) (hy : Rg c d y) (h : x < y) (h2 : d - 1 ≤ hi := by decide) : Rg a hi x := by
  have := Int32.lt_iff_toInt_lt.mp h
  exact ⟨hx.1, by have := hy.2; omega⟩
theorem rg_lt_r (hx : Rg a b x) (hy : Rg c d y) (h : x < y) (h2 : lo ≤ a + 1 := by decide) : Rg lo d y := by
  have := Int32.lt_iff_toInt_lt.mp h
  exact ⟨by have := hx.1; omega, hy.2⟩
theorem rg_le_l (hx : Rg a b x) (hy : Rg c d y) (h : x ≤ y) (h2 : d ≤ hi := by decide) : Rg a hi x := by
  have := Int32.le_iff_toInt_le.mp h
  exact ⟨hx.1, by have := hy.2; omega⟩
theorem rg_le_r (hx : Rg a b x) (hy : Rg c d y) (h : x ≤ y) (h2 : lo ≤ a := by decide) : Rg lo d y := by
  have := Int32.le_iff_toInt_le.mp h
  exact ⟨by have := hx.1; omega, hy.2⟩
theorem nlt_le (h : ¬ x < y) : y ≤ x := Int32.not_lt.mp h
theorem nle_lt (h : ¬ x ≤ y) : y < x := Int32.not_le.mp h
theorem rg_eq_l (_ : Rg a b x) (hy : Rg c d y) (h : x = y) : Rg c d x := h ▸ hy
theorem rg_eq_r (hx : Rg a b x) (_ : Rg c d y) (h : x = y) : Rg a b y := h ▸ hx
theorem rg_ne_lo (hx : Rg a b x) (hy : Rg c d y) (h : ¬ x = y) (h1 : c = a := by decide) (h2 : d = a := by decide) (h3 : lo ≤ a + 1 := by decide) : Rg lo b x := by
  have h9 : x.toInt ≠ y.toInt := fun e => h (Int32.toInt_inj.mp e)
  obtain ⟨x1, x2⟩ := hx
  obtain ⟨y1, y2⟩ := hy
  exact ⟨by omega, x2⟩
theorem rg_ne_hi (hx : Rg a b x) (hy : Rg c d y) (h : ¬ x = y) (h1 : c = b := by decide) (h2 : d = b := by decide) (h3 : b - 1 ≤ hi := by decide) : Rg a hi x := by
  have h9 : x.toInt ≠ y.toInt := fun e => h (Int32.toInt_inj.mp e)
  obtain ⟨x1, x2⟩ := hx
  obtain ⟨y1, y2⟩ := hy
  exact ⟨x1, by omega⟩
theorem rg_in {n : Nat} (h : Rg a b x) (h1 : 0 ≤ a := by decide) (h2 : b < (n : Int) := by decide) : vp_in x n := by
  obtain ⟨x1, x2⟩ := h
  intro h
  rcases h with h | h
  · have := Int32.lt_iff_toInt_lt.mp h
    have e : (0 : Int32).toInt = 0 := rfl
    omega
  · have e : x.toNatClampNeg = x.toInt.toNat := rfl
    omega
theorem rg_cl {n : Nat} (h : Rg a b x) (h1 : 0 ≤ a := by decide) (h2 : b < (n : Int) := by decide) : x.toNatClampNeg < n := by
  obtain ⟨x1, x2⟩ := h
  have e : x.toNatClampNeg = x.toInt.toNat := rfl
  omega
/-- a count goes up -/
theorem rg_up (h : Rg a b x) (h1 : b < 2147483647 := by decide) : (2147483648 - (x + 1).toInt).toNat < (2147483648 - x.toInt).toNat := by
  have h0 := rg_all x
  have e : (x + 1).toInt = x.toInt + 1 := by
    rw [Int32.toInt_add, show (1 : Int32).toInt = 1 from rfl, bmod_in (by have := h0.1; omega) (by have := h.2; omega)]
  have := h.2
  rw [e]
  omega
theorem rg_i2l (h : Rg a b x) : Rl a b x.toInt64 := by
  have e : x.toInt64.toInt = x.toInt := Int32.toInt_toInt64 x
  exact ⟨by rw [e]; exact h.1, by rw [e]; exact h.2⟩
theorem rg_cast {x y : Int32} (e : x = y) (h : Rg lo hi y) : Rg lo hi x := e ▸ h
theorem rg_eqc {x : Int32} {v : Int32} (h : Rg lo hi x) (h1 : lo = v.toInt := by decide) (h2 : hi = v.toInt := by decide) : x = v := by
  obtain ⟨x1, x2⟩ := h
  exact Int32.toInt_inj.mp (by omega)
theorem rg_nec {x : Int32} {v : Int32} (h : Rg lo hi x) (h1 : v.toInt < lo ∨ hi < v.toInt := by decide) : ¬ x = v := by
  intro e
  obtain ⟨x1, x2⟩ := h
  rw [e] at x1 x2
  omega
theorem rg_01 (h : Rg 0 1 x) : x = 0 ∨ x = 1 := by
  obtain ⟨x1, x2⟩ := h
  by_cases h0 : x.toInt = 0
  · exact Or.inl (Int32.toInt_inj.mp h0)
  · exact Or.inr (Int32.toInt_inj.mp (by rw [show (1 : Int32).toInt = 1 from rfl]; omega))
theorem rg_nar (h : Rg 0 1 x) : narrow .boolean (.int x) = .int x := by
  rcases rg_01 h with h | h <;> subst h <;> rfl
theorem rg_fit (h : Rg 0 1 x) : fits .boolean (.int x) = true := by
  rcases rg_01 h with h | h <;> subst h <;> rfl
theorem rg_nar2 (h : Rg 0 1 x) : vp_nar .boolean x = x := by
  rcases rg_01 h with h | h <;> subst h <;> rfl
end RG
section RL
variable {a b c d lo hi : Int} {x y : Int64}
theorem rl_all (x : Int64) : Rl (-9223372036854775808) 9223372036854775807 x := ⟨Int64.le_toInt x, Int.le_of_lt_add_one (Int64.toInt_lt x)⟩
theorem rl_w (h : Rl a b x) (h1 : lo ≤ a := by decide) (h2 : b ≤ hi := by decide) : Rl lo hi x := ⟨Int.le_trans h1 h.1, Int.le_trans h.2 h2⟩
theorem rl_l2i (h : Rl a b x) (h1 : -2147483648 ≤ a := by decide) (h2 : b ≤ 2147483647 := by decide) : Rg a b x.toInt32 := by
  obtain ⟨x1, x2⟩ := h
  have e : x.toInt32.toInt = x.toInt := by rw [Int64.toInt_toInt32, bmod_in (by omega) (by omega)]
  exact ⟨by rw [e]; exact x1, by rw [e]; exact x2⟩
end RL
/-! the shape of the heap: bounds of int fields (by class * 64 + field); kinds and lengths behind references -/
def rgT : List (Nat × Int × Int) := [(65, 0, 200), (195, 0, 1), (322, 0, 1), (389, 0, 1), (390, 0, 1), (391, 0, 1), (392, 0, 1), (393, 0, 1), (642, 0, 200), (653, 0, 1), (654, 0, 200), (662, 0, 1), (663, 0, 1), (664, -2, 199), (667, 0, 1), (668, 0, 1), (669, 0, 1), (670, 0, 1), (671, 0, 1), (672, 0, 15), (674, 0, 7), (676, 0, 1)]
def rfT : List (Nat × Nat × Nat) := [(0, 7, 0), (1, 7, 0), (64, 32, 200), (128, 7, 0), (129, 7, 0), (130, 7, 0), (192, 1, 0), (256, 1, 0), (257, 3, 0), (258, 35, 200), (259, 8, 0), (260, 2, 0), (261, 0, 0), (262, 7, 0), (263, 7, 0), (264, 7, 0), (320, 8, 0), (384, 1, 0), (385, 3, 0), (386, 33, 24), (387, 33, 24), (512, 33, 24), (513, 33, 24), (514, 33, 24), (576, 1, 0), (577, 3, 0), (578, 8, 0), (579, 4, 0), (580, 6, 0),
  (641, 32, 200), (643, 32, 4940), (644, 33, 4940), (645, 33, 4940), (646, 33, 4940), (647, 32, 201), (648, 34, 201), (649, 32, 202), (650, 32, 202), (651, 32, 202), (652, 33, 202), (665, 33, 24), (666, 33, 24)]
/-- a thing of the kind kd (and the length n, an array), not one of those that are being made -/
def Oa (S : Hp) (E : List Nat) (kd n b : Nat) : Prop := b ∈ hp_L S ∧ b ∉ E ∧ hp_K S b = kd ∧ (32 ≤ kd → hp_N S b = n)
def OKc (S : Hp) (E : List Nat) (a : Nat) : Prop :=
  (∀ r ∈ rgT, r.1 / 64 = hp_K S a → Rg r.2.1 r.2.2 (hp_I S r.1 a)) ∧ (∀ r ∈ rfT, r.1 / 64 = hp_K S a → ∃ b, hp_R S r.1 a = some b ∧ Oa S E r.2.1 r.2.2 b) ∧
  (hp_K S a = 32 → hp_N S a = 202 → ∀ i, Rg (-1) 31 (hp_i S a i)) ∧ (hp_K S a = 34 → ∀ i, Rg 0 1 (hp_i S a i)) ∧ (hp_K S a = 35 → ∀ i b, hp_r S a i = some b → Oa S E 5 0 b)
def GI (S : Hp) (E : List Nat) : Prop := ∀ a ∈ hp_L S, a ∉ E → OKc S E a
/-- arrays of 24 longs: the fields that hold them, and what ws says of them -/
def owT : List (Nat × Nat) := [(512, 9994), (513, 9994), (514, 9994), (387, 9993), (386, 9992), (665, 9991), (666, 9990)]
def Ow (ws : List Nat) (S : Hp) (a : Nat) : Prop := ∃ r ∈ owT, r.2 ∈ ws ∧ ∃ q ∈ hp_L S, hp_K S q = r.1 / 64 ∧ hp_R S r.1 q = some a
/-- the arrays of what is new are new -/
def NF (S T : Hp) : Prop := ∀ q ∈ hp_L T, q ∉ hp_L S → ∀ r ∈ owT, hp_K T q = r.1 / 64 → ∀ a, hp_R T r.1 q = some a → a ∉ hp_L S
def Aj (ws : List Nat) (S T : Hp) : Prop := (∀ a ∈ hp_L S, hp_N S a = 24 → hp_j T a = hp_j S a ∨ Ow ws S a) ∧ NF S T
theorem nf_L {S T : Hp} (h : hp_L T = hp_L S) : NF S T := fun q hq hn => absurd (h ▸ hq) hn
theorem aj_L {S T : Hp} {ws : List Nat} (h : hp_L T = hp_L S) (hj : hp_j T = hp_j S) : Aj ws S T := ⟨fun a _ _ => Or.inl (by rw [hj]), nf_L h⟩
theorem aj_j {S : Hp} {ws : List Nat} {o : Nat} {f : Nat → Int64} (h : ¬ hp_N S o = 24 ∨ Ow ws S o) : Aj ws S (sp_j S o f) := by
  refine ⟨fun a ha hn => ?_, nf_L (hq_L_j ..)⟩
  by_cases e : a = o
  · subst e; exact h.elim (fun q => absurd hn q) Or.inr
  · left; rw [hq_j_j, va_up_ne _ _ e]
theorem aj_tr {S T U : Hp} {ws vs : List Nat} (h1 : ∀ a ∈ hp_L S, a ∈ hp_L T ∧ hp_K T a = hp_K S a ∧ hp_N T a = hp_N S a) (h2 : ∀ a ∈ hp_L S, ∀ k, hp_R T k a = hp_R S k a) (k1 : ∀ a ∈ hp_L T, a ∈ hp_L U ∧ hp_K U a = hp_K T a ∧ hp_N U a = hp_N T a) (k2 : ∀ a ∈ hp_L T, ∀ k, hp_R U k a = hp_R T k a) (hA : Aj ws S T) (hB : Aj vs T U) (hs : ∀ k ∈ vs, k ∈ ws) : Aj ws S U := by
  refine ⟨fun a ha hn => ?_, fun q hq hqn r hr hk a e ha => ?_⟩
  · rcases hB.1 a (h1 a ha).1 ((h1 a ha).2.2.trans hn) with e | ⟨r, hr, hw, q, hq, hk, e⟩
    · rcases hA.1 a ha hn with e2 | e2
      · exact Or.inl (e.trans e2)
      · exact Or.inr e2
    · by_cases hs0 : q ∈ hp_L S
      · exact Or.inr ⟨r, hr, hs _ hw, q, hs0, (h1 q hs0).2.1.symm.trans hk, (h2 q hs0 r.1).symm.trans e⟩
      · exact absurd ha (hA.2 q hq hs0 r hr hk a e)
  · by_cases hT : q ∈ hp_L T
    · exact hA.2 q hT hqn r hr ((k1 q hT).2.1.symm.trans hk) a ((k2 q hT r.1).symm.trans e) ha
    · exact hB.2 q hq hT r hr hk a e (h1 a ha).1
/-- long fields of spans and states, the reference's arrays: 9987 not in ws: those fields stay; 9989: arrays of 4940; 9988: arrays of 201 and 202 -/
def jkT : List Nat := [448, 449, 450, 518]
abbrev AH (ws : List Nat) (m : Nat) : Prop := (¬ m = 4940 ∨ 9989 ∈ ws) ∧ ((¬ m = 201 ∧ ¬ m = 202) ∨ 9988 ∈ ws)
def Ak (ws : List Nat) (S T : Hp) : Prop := (9987 ∉ ws → ∀ k ∈ jkT, ∀ a ∈ hp_L S, hp_J T k a = hp_J S k a) ∧ (9989 ∉ ws → ∀ a ∈ hp_L S, hp_N S a = 4940 → hp_i T a = hp_i S a ∧ hp_j T a = hp_j S a) ∧ (9988 ∉ ws → ∀ a ∈ hp_L S, hp_N S a = 201 ∨ hp_N S a = 202 → hp_i T a = hp_i S a ∧ hp_j T a = hp_j S a)
theorem ak_L {S T : Hp} {ws : List Nat} (hJ : hp_J T = hp_J S) (hi : hp_i T = hp_i S) (hj : hp_j T = hp_j S) : Ak ws S T := ⟨fun _ _ _ _ _ => by rw [hJ], fun _ _ _ _ => ⟨by rw [hi], by rw [hj]⟩, fun _ _ _ _ => ⟨by rw [hi], by rw [hj]⟩⟩
theorem ak_tr {S T U : Hp} {ws vs : List Nat} (h1 : ∀ a ∈ hp_L S, a ∈ hp_L T ∧ hp_K T a = hp_K S a ∧ hp_N T a = hp_N S a) (hA : Ak ws S T) (hB : Ak vs T U) (hs : ∀ k ∈ vs, k ∈ ws) : Ak ws S U := by
  refine ⟨fun hw k hk a ha => (hB.1 (fun h => hw (hs _ h)) k hk a (h1 a ha).1).trans (hA.1 hw k hk a ha), fun hw a ha q => ?_, fun hw a ha q => ?_⟩
  · obtain ⟨a1, a2⟩ := hA.2.1 hw a ha q
    obtain ⟨b1, b2⟩ := hB.2.1 (fun h => hw (hs _ h)) a (h1 a ha).1 ((h1 a ha).2.2.trans q)
    exact ⟨b1.trans a1, b2.trans a2⟩
  · obtain ⟨a1, a2⟩ := hA.2.2 hw a ha q
    obtain ⟨b1, b2⟩ := hB.2.2 (fun h => hw (hs _ h)) a (h1 a ha).1 (by rw [(h1 a ha).2.2]; exact q)
    exact ⟨b1.trans a1, b2.trans a2⟩
/-- what is left as it was: live addresses, kinds, lengths, references of what is made; int fields but those of ws; 9999 in ws: points may have come; 9998 not in ws: what is BAD stays so; 9997 not in ws: a RUN that is somewhere stays so; 9996, 9999 not in ws: what lies in arrays of one element stays -/
def Af (_ ws : List Nat) (S T : Hp) : Prop := (∀ a ∈ hp_L S, a ∈ hp_L T ∧ hp_K T a = hp_K S a ∧ hp_N T a = hp_N S a) ∧ (∀ a ∈ hp_L S, ∀ k, hp_R T k a = hp_R S k a) ∧ (∀ k, k ∉ ws → ∀ a ∈ hp_L S, hp_I T k a = hp_I S k a) ∧ (9999 ∉ ws → hp_L T = hp_L S ∧ hp_r T = hp_r S) ∧ (9998 ∉ ws → ∀ a ∈ hp_L S, hp_I T 662 a = 0 → hp_I S 662 a = 0) ∧ (9997 ∉ ws → ∀ a ∈ hp_L S, ¬ hp_I S 664 a = -1 → ¬ hp_I T 664 a = -1) ∧ (9999 ∉ ws → 9996 ∉ ws → ∀ a ∈ hp_L S, hp_N S a = 1 → hp_j T a = hp_j S a) ∧ (9995 ∉ ws → ∀ a ∈ hp_L S, hp_N S a = 200 → hp_i T a = hp_i S a) ∧ Aj ws S T ∧ Ak ws S T
section GIS
variable {S T U : Hp} {E ws vs : List Nat} {kd n o a b i k : Nat} {x : Int32} {y : Int64}
theorem af_rf : Af E ws S S := ⟨fun a h => ⟨h, rfl, rfl⟩, fun _ _ _ => rfl, fun _ _ _ _ => rfl, fun _ => ⟨rfl, rfl⟩, fun _ _ _ h => h, fun _ _ _ h => h, fun _ _ _ _ _ => rfl, fun _ _ _ _ => rfl, aj_L rfl rfl, ak_L rfl rfl rfl⟩
theorem af_tr (h1 : Af E ws S T) (h2 : Af E vs T U) (hs : ∀ k ∈ vs, k ∈ ws := by decide) : Af E ws S U := by
  refine ⟨fun a ha => ?_, fun a ha k => ?_, fun k hk a ha => ?_, fun hk => ?_, fun hk a ha q => ?_, fun hk a ha q => ?_, fun hj hk a ha q => ?_, fun hk a ha q => ?_, aj_tr h1.1 h1.2.1 h2.1 h2.2.1 h1.2.2.2.2.2.2.2.2.1 h2.2.2.2.2.2.2.2.2.1 hs, ak_tr h1.1 h1.2.2.2.2.2.2.2.2.2 h2.2.2.2.2.2.2.2.2.2 hs⟩
  · obtain ⟨b1, b2, b3⟩ := h1.1 a ha
    obtain ⟨c1, c2, c3⟩ := h2.1 a b1
    exact ⟨c1, c2.trans b2, c3.trans b3⟩
  · exact (h2.2.1 a (h1.1 a ha).1 k).trans (h1.2.1 a ha k)
  · exact (h2.2.2.1 k (fun h => hk (hs k h)) a (h1.1 a ha).1).trans (h1.2.2.1 k hk a ha)
  · obtain ⟨c1, c2⟩ := h2.2.2.2.1 (fun h => hk (hs _ h))
    obtain ⟨b1, b2⟩ := h1.2.2.2.1 hk
    exact ⟨c1.trans b1, c2.trans b2⟩
  · exact h1.2.2.2.2.1 hk a ha (h2.2.2.2.2.1 (fun h => hk (hs _ h)) a (h1.1 a ha).1 q)
  · exact h2.2.2.2.2.2.1 (fun h => hk (hs _ h)) a (h1.1 a ha).1 (h1.2.2.2.2.2.1 hk a ha q)
  · exact (h2.2.2.2.2.2.2.1 (fun h => hj (hs _ h)) (fun h => hk (hs _ h)) a (h1.1 a ha).1 ((h1.1 a ha).2.2.trans q)).trans (h1.2.2.2.2.2.2.1 hj hk a ha q)
  · exact (h2.2.2.2.2.2.2.2.1 (fun h => hk (hs _ h)) a (h1.1 a ha).1 ((h1.1 a ha).2.2.trans q)).trans (h1.2.2.2.2.2.2.2.1 hk a ha q)
theorem af_I (hk : i ∈ ws := by decide) (h1 : i = 662 → 9998 ∉ ws → x = 0 → hp_I S 662 o = 0) (h2 : i = 664 → 9997 ∉ ws → ¬ hp_I S 664 o = -1 → ¬ x = -1) : Af E ws S (sp_I S i o x) := by
  refine ⟨fun a h => ⟨by rw [hq_L_I]; exact h, by rw [hq_K_I], by rw [hq_N_I]⟩, fun _ _ _ => by rw [hq_R_I], fun k h a _ => ?_, fun _ => ⟨hq_L_I .., hq_r_I ..⟩, fun hw a _ q => ?_, fun hw a _ q => ?_, fun _ _ _ _ _ => by rw [hq_j_I], fun _ _ _ _ => by rw [hq_i_I], aj_L (hq_L_I ..) (hq_j_I ..), ak_L (hq_J_I ..) (hq_i_I ..) (hq_j_I ..)⟩
  · rw [hq_I_I, up_2, if_neg (fun (e : k = i) => h (by rw [e]; exact hk))]
  · rw [hq_I_I, up_2] at q
    split at q
    next e =>
      unfold va_up at q
      split at q
      next e2 => rw [e2]; exact h1 e.symm hw q
      next => exact q
    next => exact q
  · rw [hq_I_I, up_2]
    split
    next e =>
      unfold va_up
      split
      next e2 => exact h2 e.symm hw (e2 ▸ q)
      next => exact q
    next => exact q
theorem af_J (hk : i ∉ jkT ∨ 9987 ∈ ws) : Af E ws S (sp_J S i o y) := ⟨fun a h => ⟨by rw [hq_L_J]; exact h, by rw [hq_K_J], by rw [hq_N_J]⟩, fun _ _ _ => by rw [hq_R_J], fun _ _ _ _ => by rw [hq_I_J], fun _ => ⟨hq_L_J .., hq_r_J ..⟩, fun _ _ _ q => by rw [hq_I_J] at q; exact q, fun _ _ _ q => by rw [hq_I_J]; exact q, fun _ _ _ _ _ => by rw [hq_j_J], fun _ _ _ _ => by rw [hq_i_J], aj_L (hq_L_J ..) (hq_j_J ..), fun hw k hk2 a _ => by rw [hq_J_J, up_2, if_neg (fun (e : k = i) => hk.elim (fun h => h (e ▸ hk2)) hw)], fun _ _ _ _ => ⟨by rw [hq_i_J], by rw [hq_j_J]⟩, fun _ _ _ _ => ⟨by rw [hq_i_J], by rw [hq_j_J]⟩⟩
theorem af_i {f : Nat → Int32} (h9 : ¬ hp_N S o = 200 ∨ 9995 ∈ ws) (h40 : AH ws (hp_N S o)) : Af E ws S (sp_i S o f) := ⟨fun a h => ⟨by rw [hq_L_i]; exact h, by rw [hq_K_i], by rw [hq_N_i]⟩, fun _ _ _ => by rw [hq_R_i], fun _ _ _ _ => by rw [hq_I_i], fun _ => ⟨hq_L_i .., hq_r_i ..⟩, fun _ _ _ q => by rw [hq_I_i] at q; exact q, fun _ _ _ q => by rw [hq_I_i]; exact q, fun _ _ _ _ _ => by rw [hq_j_i], fun hk a _ q => by rw [hq_i_i, va_up, if_neg (fun (e : a = o) => h9.elim (fun h => h (e ▸ q)) hk)], aj_L (hq_L_i ..) (hq_j_i ..), fun _ _ _ _ _ => by rw [hq_J_i], fun hw a _ q => ⟨by rw [hq_i_i, va_up, if_neg (fun (e : a = o) => h40.1.elim (fun h => h (e ▸ q)) hw)], by rw [hq_j_i]⟩, fun hw a _ q => ⟨by rw [hq_i_i, va_up, if_neg (fun (e : a = o) => h40.2.elim (fun h => (e ▸ q : hp_N S o = 201 ∨ hp_N S o = 202).elim h.1 h.2) hw)], by rw [hq_j_i]⟩⟩
theorem af_j {f : Nat → Int64} (h9 : ¬ hp_N S o = 1 ∨ 9996 ∈ ws) (h24 : ¬ hp_N S o = 24 ∨ Ow ws S o) (h40 : AH ws (hp_N S o)) : Af E ws S (sp_j S o f) := ⟨fun a h => ⟨by rw [hq_L_j]; exact h, by rw [hq_K_j], by rw [hq_N_j]⟩, fun _ _ _ => by rw [hq_R_j], fun _ _ _ _ => by rw [hq_I_j], fun _ => ⟨hq_L_j .., hq_r_j ..⟩, fun _ _ _ q => by rw [hq_I_j] at q; exact q, fun _ _ _ q => by rw [hq_I_j]; exact q, fun _ hk a _ q => by rw [hq_j_j, va_up, if_neg (fun (e : a = o) => h9.elim (fun h => h (e ▸ q)) hk)], fun _ _ _ _ => by rw [hq_i_j], aj_j h24, fun _ _ _ _ _ => by rw [hq_J_j], fun hw a _ q => ⟨by rw [hq_i_j], by rw [hq_j_j, va_up, if_neg (fun (e : a = o) => h40.1.elim (fun h => h (e ▸ q)) hw)]⟩, fun hw a _ q => ⟨by rw [hq_i_j], by rw [hq_j_j, va_up, if_neg (fun (e : a = o) => h40.2.elim (fun h => (e ▸ q : hp_N S o = 201 ∨ hp_N S o = 202).elim h.1 h.2) hw)]⟩⟩
theorem oa_af (h : Oa S E kd n b) (hA : Af E ws S T) : Oa T E kd n b := by
  obtain ⟨h1, h2, h3, h4⟩ := h
  obtain ⟨a1, a2, a3⟩ := hA.1 b h1
  exact ⟨a1, h2, a2.trans h3, fun q => a3.trans (h4 q)⟩
theorem oa_fa (h : Oa T E kd n b) (hA : Af E ws S T) (hw : 9999 ∉ ws := by decide) : Oa S E kd n b := by
  obtain ⟨h1, h2, h3, h4⟩ := h
  rw [(hA.2.2.2.1 hw).1] at h1
  obtain ⟨a1, a2, a3⟩ := hA.1 b h1
  exact ⟨h1, h2, a2.symm.trans h3, fun q => a3.symm.trans (h4 q)⟩
theorem ob_af (h : Oa S E kd n b) (hA : Af E ws S T) : ob T kd b := ⟨(hA.1 b h.1).1, (hA.1 b h.1).2.1.trans h.2.2.1⟩
theorem n_af (h : Oa S E kd n b) (hA : Af E ws S T) (hk : 32 ≤ kd := by decide) : hp_N T b = n := (hA.1 b h.1).2.2.trans (h.2.2.2 hk)
theorem r_af (h : Oa S E kd n o) (hA : Af E ws S T) {q : Option Nat} (hr : hp_R S k o = q) : hp_R T k o = q := (hA.2.1 o h.1 k).trans hr
theorem i_af (h : Oa S E kd n o) (hA : Af E ws S T) (hk : k ∉ ws := by decide) : hp_I T k o = hp_I S k o := hA.2.2.1 k hk o h.1
theorem mo_af (h : Oa S E kd n o) (hA : Af E ws S T) (q : hp_I T 662 o = 0) (hk : 9998 ∉ ws := by decide) : hp_I S 662 o = 0 := hA.2.2.2.2.1 hk o h.1 q
theorem he_af (h : Oa S E kd n o) (hA : Af E ws S T) (q : ¬ hp_I S 664 o = -1) (hk : 9997 ∉ ws := by decide) : ¬ hp_I T 664 o = -1 := hA.2.2.2.2.2.1 hk o h.1 q
theorem j_af (h : Oa S E 33 1 o) (hA : Af E ws S T) (h1 : 9999 ∉ ws := by decide) (h2 : 9996 ∉ ws := by decide) : hp_j T o = hp_j S o := hA.2.2.2.2.2.2.1 h1 h2 o h.1 (h.2.2.2 (by decide))
theorem b_af (h : Oa S E 32 200 o) (hA : Af E ws S T) (h1 : 9995 ∉ ws := by decide) : hp_i T o = hp_i S o := hA.2.2.2.2.2.2.2.1 h1 o h.1 (h.2.2.2 (by decide))
theorem aj_af (hA : Af E ws S T) : Aj ws S T := hA.2.2.2.2.2.2.2.2.1
theorem ak_af (hA : Af E ws S T) : Ak ws S T := hA.2.2.2.2.2.2.2.2.2
theorem jk_af (h : Oa S E kd n o) (hA : Af E ws S T) (h1 : k ∈ jkT := by decide) (h2 : 9987 ∉ ws := by decide) : hp_J T k o = hp_J S k o := (ak_af hA).1 h2 k h1 o h.1
theorem a49_af (h : Oa S E kd 4940 o) (hA : Af E ws S T) (hk : 32 ≤ kd := by decide) (h2 : 9989 ∉ ws := by decide) : hp_i T o = hp_i S o ∧ hp_j T o = hp_j S o := (ak_af hA).2.1 h2 o h.1 (h.2.2.2 hk)
theorem a20_af (h : Oa S E kd n o) (hA : Af E ws S T) (hn : n = 201 ∨ n = 202 := by decide) (hk : 32 ≤ kd := by decide) (h2 : 9988 ∉ ws := by decide) : hp_i T o = hp_i S o ∧ hp_j T o = hp_j S o := (ak_af hA).2.2 h2 o h.1 (by rw [h.2.2.2 hk]; exact hn)
/-- references that are held once: long arrays of states and runs, states, spans, the reference's arrays -/
def uqT : List Nat := [64, 258, 579, 512, 513, 514, 386, 387, 320, 259, 578, 128, 129, 130, 0, 1, 262, 263, 264, 260, 261, 641, 643, 644, 645, 646, 647, 648, 649, 650, 651, 652, 665, 666]
def UQ (S : Hp) : Prop := (∀ q ∈ hp_L S, ∀ k ∈ uqT, hp_K S q = k / 64 → ∀ b, hp_R S k q = some b → b ∈ hp_L S) ∧ ∀ q ∈ hp_L S, ∀ k ∈ uqT, hp_K S q = k / 64 → ∀ p ∈ hp_L S, ∀ l ∈ uqT, hp_K S p = l / 64 → ∀ b, hp_R S k q = some b → hp_R S l p = some b → q = p ∧ k = l
theorem uq_eq (h : UQ S) (hL : hp_L T = hp_L S) (hK : ∀ a ∈ hp_L S, hp_K T a = hp_K S a) (hR : ∀ a ∈ hp_L S, ∀ k, hp_R T k a = hp_R S k a) : UQ T := by
  refine ⟨fun q hq k hk e b eb => ?_, fun q hq k hk e p hp l hl e2 b eb eb2 => ?_⟩
  · rw [hL] at hq ⊢
    exact h.1 q hq k hk ((hK q hq).symm.trans e) b ((hR q hq k).symm.trans eb)
  · rw [hL] at hq hp
    exact h.2 q hq k hk ((hK q hq).symm.trans e) p hp l hl ((hK p hp).symm.trans e2) b ((hR q hq k).symm.trans eb) ((hR p hp l).symm.trans eb2)
theorem uq_af (h : UQ S) (hA : Af E ws S T) (hw : 9999 ∉ ws := by decide) : UQ T := uq_eq h (hA.2.2.2.1 hw).1 (fun a ha => (hA.1 a ha).2.1) hA.2.1
/-- nobody holds b -/
def NH (S : Hp) (b : Nat) : Prop := ∀ q ∈ hp_L S, ∀ k ∈ uqT, hp_K S q = k / 64 → ¬ hp_R S k q = some b
theorem uq_R {j b : Nat} (h : UQ S) (hb : b ∈ hp_L S) (hn : j ∈ uqT → NH S b) : UQ (sp_R S j o (some b)) := by
  have hh : ∀ q ∈ hp_L S, ∀ k ∈ uqT, hp_K S q = k / 64 → ∀ c, hp_R (sp_R S j o (some b)) k q = some c → (k = j ∧ q = o ∧ c = b) ∨ hp_R S k q = some c := by
    intro q hq k hk e c ec
    rw [hq_R_R, up_2] at ec
    split at ec
    next ek =>
      unfold va_up at ec
      split at ec
      next eq => exact Or.inl ⟨ek, eq, (Option.some.inj ec).symm⟩
      next => exact Or.inr ec
    next => exact Or.inr ec
  refine ⟨fun q hq k hk e c ec => ?_, fun q hq k hk e p hp l hl e2 c ec ec2 => ?_⟩
  · rw [hq_L_R] at hq ⊢
    rw [hq_K_R] at e
    rcases hh q hq k hk e c ec with ⟨-, -, r⟩ | r
    · rw [r]; exact hb
    · exact h.1 q hq k hk e c r
  · rw [hq_L_R] at hq hp
    rw [hq_K_R] at e e2
    rcases hh q hq k hk e c ec with ⟨r1, r2, r3⟩ | r
    · rcases hh p hp l hl e2 c ec2 with ⟨t1, t2, t3⟩ | t
      · exact ⟨r2.trans t2.symm, r1.trans t1.symm⟩
      · exact absurd (r3 ▸ t) (hn (r1 ▸ hk) p hp l hl e2)
    · rcases hh p hp l hl e2 c ec2 with ⟨t1, t2, t3⟩ | t
      · exact absurd (t3 ▸ r) (hn (t1 ▸ hl) q hq k hk e)
      · exact h.2 q hq k hk e p hp l hl e2 c r t
theorem uq_a {n : Nat} (h : UQ S) (ha : a ∉ hp_L S) (hkd : 32 ≤ kd) : UQ (nw_a S kd a n) := by
  have hh : ∀ q ∈ hp_L (nw_a S kd a n), ∀ k ∈ uqT, hp_K (nw_a S kd a n) q = k / 64 → q ∈ hp_L S ∧ hp_K S q = k / 64 := by
    intro q hq k hk e
    rw [hq_L_a] at hq
    rcases List.mem_append.mp hq with z | z
    · rw [hq_K_a, va_up_ne _ _ (fun (e : q = a) => ha (e ▸ z))] at e
      exact ⟨z, e⟩
    · rw [List.mem_singleton.mp z, hq_K_a, va_up_self] at e
      exact absurd ((show ∀ k ∈ uqT, k / 64 < 32 by decide) k hk) (by omega)
  refine ⟨fun q hq k hk e b eb => ?_, fun q hq k hk e p hp l hl e2 b eb eb2 => ?_⟩
  · obtain ⟨z1, z2⟩ := hh q hq k hk e
    rw [hq_R_a] at eb
    rw [hq_L_a]
    exact List.mem_append_left _ (h.1 q z1 k hk z2 b eb)
  · obtain ⟨z1, z2⟩ := hh q hq k hk e
    obtain ⟨y1, y2⟩ := hh p hp l hl e2
    rw [hq_R_a] at eb eb2
    exact h.2 q z1 k hk z2 p y1 l hl y2 b eb eb2
theorem uq_o {c : Nat} (h : UQ S) (ha : a ∉ hp_L S) : UQ (nw_o S c a) := by
  have hh : ∀ q ∈ hp_L (nw_o S c a), ∀ k ∈ uqT, hp_K (nw_o S c a) q = k / 64 → ∀ b, hp_R (nw_o S c a) k q = some b → q ∈ hp_L S ∧ hp_K S q = k / 64 ∧ hp_R S k q = some b := by
    intro q hq k hk e b eb
    rw [hq_L_o] at hq
    rw [hq_R_o, cr_2] at eb
    by_cases z : q = a
    · rw [if_pos z] at eb; cases eb
    · rw [if_neg z] at eb
      rw [hq_K_o, va_up_ne _ _ z] at e
      rcases List.mem_append.mp hq with y | y
      · exact ⟨y, e, eb⟩
      · exact absurd (List.mem_singleton.mp y) z
  refine ⟨fun q hq k hk e b eb => ?_, fun q hq k hk e p hp l hl e2 b eb eb2 => ?_⟩
  · obtain ⟨z1, z2, z3⟩ := hh q hq k hk e b eb
    rw [hq_L_o]
    exact List.mem_append_left _ (h.1 q z1 k hk z2 b z3)
  · obtain ⟨z1, z2, z3⟩ := hh q hq k hk e b eb
    obtain ⟨y1, y2, y3⟩ := hh p hp l hl e2 b eb2
    exact h.2 q z1 k hk z2 p y1 l hl y2 b z3 y3
theorem nh_a {n : Nat} (h : UQ S) (ha : a ∉ hp_L S) (hkd : 32 ≤ kd) : NH (nw_a S kd a n) a := fun q hq k hk e eb => by
  rw [hq_L_a] at hq
  rw [hq_R_a] at eb
  rcases List.mem_append.mp hq with z | z
  · rw [hq_K_a, va_up_ne _ _ (fun (e : q = a) => ha (e ▸ z))] at e
    exact ha (h.1 q z k hk e a eb)
  · rw [List.mem_singleton.mp z, hq_K_a, va_up_self] at e
    exact absurd ((show ∀ k ∈ uqT, k / 64 < 32 by decide) k hk) (by omega)
theorem nh_o {c : Nat} (h : UQ S) (ha : a ∉ hp_L S) : NH (nw_o S c a) a := fun q hq k hk e eb => by
  rw [hq_L_o] at hq
  rw [hq_R_o, cr_2] at eb
  by_cases z : q = a
  · rw [if_pos z] at eb; cases eb
  · rw [if_neg z] at eb
    rw [hq_K_o, va_up_ne _ _ z] at e
    rcases List.mem_append.mp hq with y | y
    · exact ha (h.1 q y k hk e a eb)
    · exact z (List.mem_singleton.mp y)
theorem ow_af (h : Ow ws S a) (hA : Af E vs S T) : Ow ws T a := by
  obtain ⟨r, hr, hw, q, hq, hk, e⟩ := h
  exact ⟨r, hr, hw, q, (hA.1 q hq).1, (hA.1 q hq).2.1.trans hk, (hA.2.1 q hq r.1).trans e⟩
theorem ow_mk (f : Nat) {c : Nat} (ho : Oa S E c 0 o) (hr : hp_R S k o = some a) (hc : k / 64 = c := by decide) (hf : (k, f) ∈ owT := by decide) (hw : f ∈ ws := by decide) : Ow ws S a := ⟨(k, f), hf, hw, o, ho.1, ho.2.2.1.trans hc.symm, hr⟩
/-- the array a lies behind the field k alone -/
def NA (S : Hp) (a k : Nat) : Prop := ∀ q ∈ hp_L S, ∀ r ∈ owT, hp_K S q = r.1 / 64 → hp_R S r.1 q = some a → r.1 = k
theorem na_af (h : NA S a k) (ha : a ∈ hp_L S) (hA : Af E ws S T) : NA T a k := fun q hq r hr hk e => by
  by_cases hs : q ∈ hp_L S
  · exact h q hs r hr ((hA.1 q hs).2.1.symm.trans hk) ((hA.2.1 q hs r.1).symm.trans e)
  · exact absurd ha ((aj_af hA).2 q hq hs r hr hk a e)
theorem j24_af (h : NA S a k) (ha : Oa S E 33 24 a) (hA : Af E ws S T) (hw : ∀ r ∈ owT, r.1 = k → r.2 ∉ ws := by decide) : hp_j T a = hp_j S a := by
  rcases (aj_af hA).1 a ha.1 (ha.2.2.2 (by decide)) with e | ⟨r, hr, hw2, q, hq, hk, e⟩
  · exact e
  · exact absurd hw2 (hw r hr (h q hq r hr hk e))
theorem gi_R (h : GI S E) (ho : Oa S E (k / 64) n o) (kd m : Nat) (hm : (k, kd, m) ∈ rfT := by decide) : ∃ b, hp_R S k o = some b ∧ Oa S E kd m b := (h o ho.1 ho.2.1).2.1 (k, kd, m) hm ho.2.2.1.symm
theorem gi_I (h : GI S E) (ho : Oa S E (k / 64) n o) (lo hi : Int) (hm : (k, lo, hi) ∈ rgT := by decide) : Rg lo hi (hp_I S k o) := (h o ho.1 ho.2.1).1 (k, lo, hi) hm ho.2.2.1.symm
theorem gi_i (h : GI S E) (ho : Oa S E 32 202 o) : Rg (-1) 31 (hp_i S o i) := (h o ho.1 ho.2.1).2.2.1 ho.2.2.1 (ho.2.2.2 (by decide)) i
theorem gi_z (h : GI S E) (ho : Oa S E 34 n o) : Rg 0 1 (hp_i S o i) := (h o ho.1 ho.2.1).2.2.2.1 ho.2.2.1 i
theorem gi_r (h : GI S E) (ho : Oa S E 35 n o) (hb : hp_r S o i = some b) : Oa S E 5 0 b := (h o ho.1 ho.2.1).2.2.2.2 ho.2.2.1 i b hb
theorem gi_mk (h : GI S E) (hL : hp_L T = hp_L S) (hK : hp_K T = hp_K S) (hN : hp_N T = hp_N S) (hR : hp_R T = hp_R S) (hr : hp_r T = hp_r S) (hI : ∀ a ∈ hp_L S, a ∉ E → ∀ r ∈ rgT, r.1 / 64 = hp_K S a → Rg r.2.1 r.2.2 (hp_I T r.1 a)) (hi : ∀ a ∈ hp_L S, a ∉ E → (hp_K S a = 32 → hp_N S a = 202 → ∀ i, Rg (-1) 31 (hp_i T a i)) ∧ (hp_K S a = 34 → ∀ i, Rg 0 1 (hp_i T a i))) : GI T E := by
  intro a ha hE
  rw [hL] at ha
  obtain ⟨g1, g2, g3, g4, g5⟩ := h a ha hE
  have hO : ∀ kd n b, Oa S E kd n b → Oa T E kd n b := fun kd n b q => by
    unfold Oa
    rw [hL, hK, hN]
    exact q
  refine ⟨fun r hr' e => ?_, fun r hr' e => ?_, ?_, ?_, fun e i b q => ?_⟩
  · rw [hK] at e
    exact hI a ha hE r hr' e
  · rw [hK] at e
    obtain ⟨b, b1, b2⟩ := g2 r hr' e
    exact ⟨b, by rw [hR]; exact b1, hO _ _ _ b2⟩
  · rw [hK, hN]
    exact (hi a ha hE).1
  · rw [hK]
    exact (hi a ha hE).2
  · rw [hK] at e
    rw [hr] at q
    exact hO _ _ _ (g5 e i b q)
theorem gi_old (h : GI S E) : (∀ a ∈ hp_L S, a ∉ E → ∀ r ∈ rgT, r.1 / 64 = hp_K S a → Rg r.2.1 r.2.2 (hp_I S r.1 a)) ∧ (∀ a ∈ hp_L S, a ∉ E → (hp_K S a = 32 → hp_N S a = 202 → ∀ i, Rg (-1) 31 (hp_i S a i)) ∧ (hp_K S a = 34 → ∀ i, Rg 0 1 (hp_i S a i))) :=
  ⟨fun a ha hE => (h a ha hE).1, fun a ha hE => ⟨(h a ha hE).2.2.1, (h a ha hE).2.2.2.1⟩⟩
theorem gp_J (h : GI S E) : GI (sp_J S i o y) E := gi_mk h (hq_L_J ..) (hq_K_J ..) (hq_N_J ..) (hq_R_J ..) (hq_r_J ..) (by rw [hq_I_J]; exact (gi_old h).1) (by rw [hq_i_J]; exact (gi_old h).2)
theorem gp_j {f : Nat → Int64} (h : GI S E) : GI (sp_j S o f) E := gi_mk h (hq_L_j ..) (hq_K_j ..) (hq_N_j ..) (hq_R_j ..) (hq_r_j ..) (by rw [hq_I_j]; exact (gi_old h).1) (by rw [hq_i_j]; exact (gi_old h).2)
theorem gp_I0 (h : GI S E) (hv : ∀ r ∈ rgT, r.1 = i → Rg r.2.1 r.2.2 x) : GI (sp_I S i o x) E := by
  refine gi_mk h (hq_L_I ..) (hq_K_I ..) (hq_N_I ..) (hq_R_I ..) (hq_r_I ..) (fun a ha hE r hr e => ?_) (by rw [hq_i_I]; exact (gi_old h).2)
  rw [hq_I_I, up_2]
  split
  next q =>
    unfold va_up
    split
    · exact hv r hr q
    · exact (gi_old h).1 a ha hE r hr e
  next => exact (gi_old h).1 a ha hE r hr e
theorem gp_I (h : GI S E) (hi : ∀ r ∈ rgT, r.1 ≠ i := by decide) : GI (sp_I S i o x) E := gp_I0 h (fun r hr e => absurd e (hi r hr))
theorem gp_Ir {lo hi : Int} (h : GI S E) (hx : Rg lo hi x) (hi : ∀ r ∈ rgT, r.1 = i → r.2.1 ≤ lo ∧ hi ≤ r.2.2 := by decide) : GI (sp_I S i o x) E := gp_I0 h (fun r hr e => rg_w hx (hi r hr e).1 (hi r hr e).2)
theorem gp_i0 (h : GI S E) (h32 : hp_K S o = 32 → hp_N S o = 202 → Rg (-1) 31 x) (h34 : hp_K S o = 34 → Rg 0 1 x) : GI (sp_i S o (upd (hp_i S o) i x)) E := by
  refine gi_mk h (hq_L_i ..) (hq_K_i ..) (hq_N_i ..) (hq_R_i ..) (hq_r_i ..) (by rw [hq_I_i]; exact (gi_old h).1) (fun a ha hE => ?_)
  obtain ⟨g1, g2⟩ := (gi_old h).2 a ha hE
  rw [hq_i_i]
  by_cases e : a = o
  · subst e
    rw [va_up_self]
    refine ⟨fun q q2 j => ?_, fun q j => ?_⟩
    · unfold upd
      split
      · exact h32 q q2
      · exact g1 q q2 j
    · unfold upd
      split
      · exact h34 q
      · exact g2 q j
  · rw [va_up_ne _ _ e]
    exact ⟨g1, g2⟩
theorem gp_i (h : GI S E) (ho : Oa S E 32 n o) (hn : n ≠ 202 := by decide) : GI (sp_i S o (upd (hp_i S o) i x)) E := gp_i0 h (fun _ q => absurd ((ho.2.2.2 (by decide)).symm.trans q) hn) (fun q => absurd (ho.2.2.1.symm.trans q) (by decide))
theorem gp_iR (h : GI S E) (ho : Oa S E 32 202 o) (hx : Rg (-1) 31 x) : GI (sp_i S o (upd (hp_i S o) i x)) E := gp_i0 h (fun _ _ => hx) (fun q => absurd (ho.2.2.1.symm.trans q) (by decide))
theorem gp_z (h : GI S E) (ho : Oa S E 34 n o) (hx : Rg 0 1 x) : GI (sp_i S o (upd (hp_i S o) i x)) E := gp_i0 h (fun q _ => absurd (ho.2.2.1.symm.trans q) (by decide)) (fun _ => hx)
end GIS
