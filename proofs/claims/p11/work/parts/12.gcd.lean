theorem lr_toInt (x y : Int64) (hy : ¬ y = 0) : (x - x / y * y).toInt = x.toInt.tmod y.toInt := by
  have hy0 : y.toInt ≠ 0 := fun h => hy (Int64.toInt_inj.mp (by rw [h]; rfl))
  have h1 : (x - x / y * y).toInt = (x.toInt - (x.toInt.tdiv y.toInt) * y.toInt).bmod (2 ^ 64) := by
    rw [Int64.toInt_sub, Int64.toInt_mul, Int64.toInt_div]
    simp [Int.sub_bmod_bmod, Int.bmod_mul_bmod]
  rw [h1, show x.toInt - x.toInt.tdiv y.toInt * y.toInt = x.toInt.tmod y.toInt by rw [Int.tmod_def, Int.mul_comm]]
  have b1 := Int64.le_toInt y
  have b2 := Int64.toInt_lt y
  have c1 : (x.toInt.tmod y.toInt).natAbs < y.toInt.natAbs := by
    rw [Int.natAbs_tmod]
    exact Nat.mod_lt _ (Int.natAbs_pos.mpr hy0)
  have d1 := Int64.le_toInt x
  have d2 := Int64.toInt_lt x
  apply Int.bmod_eq_of_le_mul_two <;> omega
theorem lr_lt (x y : Int64) (hy : ¬ y = 0) : (x - x / y * y).toInt.natAbs < y.toInt.natAbs := by
  have hy0 : y.toInt ≠ 0 := fun h => hy (Int64.toInt_inj.mp (by rw [h]; rfl))
  rw [lr_toInt x y hy, Int.natAbs_tmod]
  exact Nat.mod_lt _ (Int.natAbs_pos.mpr hy0)
/-- Euclid, with fuel -/
def gL : Nat → Int64 → Int64 → Int64
  | 0, x, _ => x
  | n + 1, x, y => if y = 0 then x else gL n y (x - x / y * y)
def aJ (a : Int64) : Int64 := if a < 0 then -a else a
def gJ (a b : Int64) : Int64 := gL (aJ b).toInt.natAbs (aJ a) (aJ b)
theorem gL_0 (n : Nat) (x : Int64) : gL n x 0 = x := by cases n <;> simp [gL]
theorem lp_gcd {xi : SX} {S : Hp} {kc nc : Nat} {P : Po} : ∀ (n : Nat) (x y : Int64), y.toInt.natAbs ≤ n → P (.inl (some (.long (gL n x y)))) S kc nc → TT xi M_X10_gcd 28 [(4, .long x), (6, .long y)] [] S kc nc P := by
  intro n
  induction n with
  | zero =>
    intro x y hn hP
    have hy : y = 0 := Int64.toInt_inj.mp (by have : y.toInt = 0 := by omega
                                              rw [this]; rfl)
    subst hy
    refine tt_lload (j := 1) dX10_gcd_28 rfl ?_
    refine tt_lconst (v := 0) dX10_gcd_30 (by decide) ?_
    refine tt_lcmp dX10_gcd_31 ?_
    refine tt_if_eq (tgt := 53) dX10_gcd_32 (by decide) (fun _ => ?_) (fun q => absurd (by decide) q)
    refine tt_lload (j := 0) dX10_gcd_53 rfl ?_
    refine tt_lreturn dX10_gcd_55 rfl ?_
    rw [gL_0] at hP
    exact hP
  | succ n ih =>
    intro x y hn hP
    refine tt_lload (j := 1) dX10_gcd_28 rfl ?_
    refine tt_lconst (v := 0) dX10_gcd_30 (by decide) ?_
    refine tt_lcmp dX10_gcd_31 ?_
    refine tt_if_eq (tgt := 53) dX10_gcd_32 (by decide) (fun q => ?_) (fun q => ?_)
    · rw [lg_cmp_eq] at q
      subst q
      refine tt_lload (j := 0) dX10_gcd_53 rfl ?_
      refine tt_lreturn dX10_gcd_55 rfl ?_
      rw [gL_0] at hP
      exact hP
    · rw [lg_cmp_eq] at q
      refine tt_lload (j := 0) dX10_gcd_35 rfl ?_
      refine tt_lload (j := 1) dX10_gcd_37 rfl ?_
      refine tt_lrem dX10_gcd_39 q ?_
      refine tt_lstore (ks := [0, 1, 2]) dX10_gcd_40 (by decide) rfl ?_
      refine tt_lload (j := 2) dX10_gcd_42 rfl ?_
      refine tt_lstore (ks := [0, 1, 2]) dX10_gcd_44 (by decide) rfl ?_
      refine tt_lload (j := 1) dX10_gcd_46 rfl ?_
      refine tt_lstore (ks := [1, 0]) dX10_gcd_48 (by decide) rfl ?_
      refine tt_goto (tgt := 28) dX10_gcd_50 (by decide) ?_
      refine ih y _ (by have := lr_lt x y q; omega) ?_
      simp only [gL, q, if_false] at hP
      exact hP
set_option maxHeartbeats 4000000 in
theorem cm_gcd {xi : SX} {S : Hp} {kc nc : Nat} {P : Po} {a b : Int64} (hP : P (.inl (some (.long (gJ a b)))) S kc nc) : TT xi M_X10_gcd 0 [(0, .long a), (2, .long b)] [] S kc nc P := by
  suffices hm1 : ∀ z1 : Int64, z1 = (if a < 0 then (-a) else a) → TT xi M_X10_gcd 12 [(0, .long a), (2, .long b)] [.long z1] S kc nc P by
    refine tt_lload_n (j := 0) dX10_gcd_0 rfl ?_
    refine tt_lconst (v := 0) dX10_gcd_1 (by decide) ?_
    refine tt_lcmp dX10_gcd_2 ?_
    refine tt_if_ge (tgt := 11) dX10_gcd_3 (by decide) (fun q => ?_) (fun q => ?_)
    · replace q : (a < 0) = False := by simpa [lg_cmp_ge, ← Int64.not_lt] using q
      refine tt_lload_n (j := 0) dX10_gcd_11 rfl ?_
      exact hm1 _ (by simp only [q, ↓reduceIte])
    · replace q : (a < 0) = True := by simpa [lg_cmp_ge, ← Int64.not_lt] using q
      refine tt_lload_n (j := 0) dX10_gcd_6 rfl ?_
      refine tt_lneg dX10_gcd_7 ?_
      refine tt_goto (tgt := 12) dX10_gcd_8 (by decide) ?_
      exact hm1 _ (by simp only [q, ↓reduceIte])
  intro z1 hz1
  refine tt_lstore (ks := [0, 1, 2]) dX10_gcd_12 (by decide) rfl ?_
  suffices hm2 : ∀ z2 : Int64, z2 = (if b < 0 then (-b) else b) → TT xi M_X10_gcd 26 [(4, .long z1), (0, .long a), (2, .long b)] [.long z2] S kc nc P by
    refine tt_lload_n (j := 2) dX10_gcd_14 rfl ?_
    refine tt_lconst (v := 0) dX10_gcd_15 (by decide) ?_
    refine tt_lcmp dX10_gcd_16 ?_
    refine tt_if_ge (tgt := 25) dX10_gcd_17 (by decide) (fun q => ?_) (fun q => ?_)
    · replace q : (b < 0) = False := by simpa [lg_cmp_ge, ← Int64.not_lt] using q
      refine tt_lload_n (j := 2) dX10_gcd_25 rfl ?_
      exact hm2 _ (by simp only [q, ↓reduceIte])
    · replace q : (b < 0) = True := by simpa [lg_cmp_ge, ← Int64.not_lt] using q
      refine tt_lload_n (j := 2) dX10_gcd_20 rfl ?_
      refine tt_lneg dX10_gcd_21 ?_
      refine tt_goto (tgt := 26) dX10_gcd_22 (by decide) ?_
      exact hm2 _ (by simp only [q, ↓reduceIte])
  intro z2 hz2
  refine tt_lstore (ks := [1, 0]) dX10_gcd_26 (by decide) rfl ?_
  refine lp_gcd z2.toInt.natAbs z1 z2 (Nat.le_refl _) ?_
  subst hz1 hz2
  exact hP
