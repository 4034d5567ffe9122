def Z_X10_isIn  (y0 : Int64) (y2 : Int64) (y4 : Int64) : Int32 :=
  if y0 < y2 then
    0
  else
    if y4 < y0 then
      0
    else
      1
theorem zl_X10_isIn_0  {y0 : Int64} {y2 : Int64} {y4 : Int64} (h0 : y0 < y2) : Z_X10_isIn y0 y2 y4 = 0 := by unfold Z_X10_isIn; exact if_pos h0
theorem zl_X10_isIn_1  {y0 : Int64} {y2 : Int64} {y4 : Int64} (h0 : ¬ y0 < y2) (h1 : y4 < y0) : Z_X10_isIn y0 y2 y4 = 0 := by unfold Z_X10_isIn; exact Eq.trans (if_neg h0) (if_pos h1)
theorem zl_X10_isIn_2  {y0 : Int64} {y2 : Int64} {y4 : Int64} (h0 : ¬ y0 < y2) (h1 : ¬ y4 < y0) : Z_X10_isIn y0 y2 y4 = 1 := by unfold Z_X10_isIn; exact Eq.trans (if_neg h0) (if_neg h1)
set_option maxHeartbeats 40000000 in
theorem cz_X10_isIn {xi : SX} {S : Hp} {E : List Nat} {kc nc : Nat} {P : Po} {y0 : Int64} {y2 : Int64} {y4 : Int64} (hG : GI S E)  (hP : ∀ r T x y, PV E [] S kc nc (rI 0 1) (fun v T => T = S ∧ v = some (.int (Z_X10_isIn y0 y2 y4))) [] r T x y → P r T x y) : TT xi M_X10_isIn 0 [(0, .long y0), (2, .long y2), (4, .long y4)] [] S kc nc P := by
  have hA : Af E [] S S := af_rf
  refine tt_lload_n (j := 0) dX10_isIn_0 rfl ?_
  refine tt_lload_n (j := 1) dX10_isIn_1 rfl ?_
  refine tt_lcmp dX10_isIn_2 ?_
  refine tt_if_lt (tgt := 17) dX10_isIn_3 rfl (fun q101 => ?_) (fun q101 => ?_)
  · skip
    refine tt_iconst (v := 0) dX10_isIn_17 rfl ?_
    have hF : Z_X10_isIn y0 y2 y4 = 0 := by
      exact zl_X10_isIn_0 (lc_lt_t q101)
    exact tt_ireturn dX10_isIn_18 .boolean rfl rfl (hP _ _ _ _ ⟨hG, hA, Or.inl ⟨_, rfl, ⟨_, rfl, rg_w (⟨by decide, by decide⟩ : Rg 0 0 0)⟩, ⟨rfl, congrArg (fun q => some (Value.int q)) hF.symm⟩, rfl, rfl⟩⟩)
  · skip
    refine tt_lload_n (j := 0) dX10_isIn_6 rfl ?_
    refine tt_lload (j := 2) dX10_isIn_7 rfl ?_
    refine tt_lcmp dX10_isIn_9 ?_
    refine tt_if_gt (tgt := 17) dX10_isIn_10 rfl (fun q102 => ?_) (fun q102 => ?_)
    · skip
      refine tt_iconst (v := 0) dX10_isIn_17 rfl ?_
      have hF : Z_X10_isIn y0 y2 y4 = 0 := by
        exact zl_X10_isIn_1 (Int64.not_lt.mpr (lc_lt_f q101)) (lc_gt_t q102)
      exact tt_ireturn dX10_isIn_18 .boolean rfl rfl (hP _ _ _ _ ⟨hG, hA, Or.inl ⟨_, rfl, ⟨_, rfl, rg_w (⟨by decide, by decide⟩ : Rg 0 0 0)⟩, ⟨rfl, congrArg (fun q => some (Value.int q)) hF.symm⟩, rfl, rfl⟩⟩)
    · skip
      refine tt_iconst (v := 1) dX10_isIn_13 rfl ?_
      refine tt_goto (tgt := 18) dX10_isIn_14 rfl ?_
      have hF : Z_X10_isIn y0 y2 y4 = 1 := by
        exact zl_X10_isIn_2 (Int64.not_lt.mpr (lc_lt_f q101)) (Int64.not_lt.mpr (lc_gt_f q102))
      exact tt_ireturn dX10_isIn_18 .boolean rfl rfl (hP _ _ _ _ ⟨hG, hA, Or.inl ⟨_, rfl, ⟨_, rfl, rg_w (⟨by decide, by decide⟩ : Rg 1 1 1)⟩, ⟨rfl, congrArg (fun q => some (Value.int q)) hF.symm⟩, rfl, rfl⟩⟩)
def Z_X10_isPlace  (x0 : Int32) : Int32 :=
  if x0 < 0 then
    0
  else
    if 24 ≤ x0 then
      0
    else
      1
theorem zl_X10_isPlace_0  {x0 : Int32} (h0 : x0 < 0) : Z_X10_isPlace x0 = 0 := by unfold Z_X10_isPlace; exact if_pos h0
theorem zl_X10_isPlace_1  {x0 : Int32} (h0 : ¬ x0 < 0) (h1 : 24 ≤ x0) : Z_X10_isPlace x0 = 0 := by unfold Z_X10_isPlace; exact Eq.trans (if_neg h0) (if_pos h1)
theorem zl_X10_isPlace_2  {x0 : Int32} (h0 : ¬ x0 < 0) (h1 : ¬ 24 ≤ x0) : Z_X10_isPlace x0 = 1 := by unfold Z_X10_isPlace; exact Eq.trans (if_neg h0) (if_neg h1)
set_option maxHeartbeats 40000000 in
theorem cz_X10_isPlace {xi : SX} {S : Hp} {E : List Nat} {kc nc : Nat} {P : Po} {x0 : Int32} (hG : GI S E)  (hP : ∀ r T x y, PV E [] S kc nc (rI 0 1) (fun v T => T = S ∧ v = some (.int (Z_X10_isPlace x0))) [] r T x y → P r T x y) : TT xi M_X10_isPlace 0 [(0, .int x0)] [] S kc nc P := by
  have hA : Af E [] S S := af_rf
  refine tt_iload_n (j := 0) dX10_isPlace_0 rfl ?_
  refine tt_if_lt (tgt := 14) dX10_isPlace_1 rfl (fun q101 => ?_) (fun q101 => ?_)
  · skip
    have h102 : Rg (-2147483648) (-1) x0 := rg_lt_l (rg_all x0) (⟨by decide, by decide⟩ : Rg 0 0 0) q101
    refine tt_iconst (v := 0) dX10_isPlace_14 rfl ?_
    have hF : Z_X10_isPlace x0 = 0 := by
      exact zl_X10_isPlace_0 q101
    exact tt_ireturn dX10_isPlace_15 .boolean rfl rfl (hP _ _ _ _ ⟨hG, hA, Or.inl ⟨_, rfl, ⟨_, rfl, rg_w (⟨by decide, by decide⟩ : Rg 0 0 0)⟩, ⟨rfl, congrArg (fun q => some (Value.int q)) hF.symm⟩, rfl, rfl⟩⟩)
  · skip
    have h103 : Rg 0 2147483647 x0 := rg_le_r (⟨by decide, by decide⟩ : Rg 0 0 0) (rg_all x0) (nlt_le q101)
    refine tt_iload_n (j := 0) dX10_isPlace_4 rfl ?_
    refine tt_bipush (v := 24) dX10_isPlace_5 rfl ?_
    refine tt_icmp_ge (tgt := 14) dX10_isPlace_7 rfl (fun q104 => ?_) (fun q104 => ?_)
    · skip
      have h105 : Rg 24 2147483647 x0 := rg_le_r (⟨by decide, by decide⟩ : Rg 24 24 24) h103 q104
      refine tt_iconst (v := 0) dX10_isPlace_14 rfl ?_
      have hF : Z_X10_isPlace x0 = 0 := by
        exact zl_X10_isPlace_1 q101 q104
      exact tt_ireturn dX10_isPlace_15 .boolean rfl rfl (hP _ _ _ _ ⟨hG, hA, Or.inl ⟨_, rfl, ⟨_, rfl, rg_w (⟨by decide, by decide⟩ : Rg 0 0 0)⟩, ⟨rfl, congrArg (fun q => some (Value.int q)) hF.symm⟩, rfl, rfl⟩⟩)
    · skip
      have h106 : Rg 0 23 x0 := rg_lt_l h103 (⟨by decide, by decide⟩ : Rg 24 24 24) (nle_lt q104)
      refine tt_iconst (v := 1) dX10_isPlace_10 rfl ?_
      refine tt_goto (tgt := 15) dX10_isPlace_11 rfl ?_
      have hF : Z_X10_isPlace x0 = 1 := by
        exact zl_X10_isPlace_2 q101 q104
      exact tt_ireturn dX10_isPlace_15 .boolean rfl rfl (hP _ _ _ _ ⟨hG, hA, Or.inl ⟨_, rfl, ⟨_, rfl, rg_w (⟨by decide, by decide⟩ : Rg 1 1 1)⟩, ⟨rfl, congrArg (fun q => some (Value.int q)) hF.symm⟩, rfl, rfl⟩⟩)
theorem ip_z {x : Int32} (h : ¬ Z_X10_isPlace x = 0) : Rg 0 23 x := by
  unfold Z_X10_isPlace at h
  by_cases h1 : x < 0
  · exact absurd (if_pos h1) h
  · by_cases h2 : 24 ≤ x
    · exact absurd (Eq.trans (if_neg h1) (if_pos h2)) h
    · have a := Int32.le_iff_toInt_le.mp (Int32.not_lt.mp h1)
      have b := Int32.lt_iff_toInt_lt.mp (Int32.not_le.mp h2)
      rw [show (0 : Int32).toInt = 0 from rfl] at a
      rw [show (24 : Int32).toInt = 24 from rfl] at b
      exact ⟨a, by omega⟩
theorem isn_z {y : Int64} {n : Int32} (h : ¬ Z_X10_isIn y 0 (n - 1 : Int32).toInt64 = 0) (hn : Rg 0 200 n) : Rl 0 199 y := by
  obtain ⟨n1, n2⟩ := hn
  have e : (n - 1 : Int32).toInt = n.toInt - 1 := by rw [Int32.toInt_sub, show (1 : Int32).toInt = 1 from rfl, bmod_in (by omega) (by omega)]
  unfold Z_X10_isIn at h
  by_cases h1 : y < 0
  · exact absurd (if_pos h1) h
  · by_cases h2 : (n - 1 : Int32).toInt64 < y
    · exact absurd (Eq.trans (if_neg h1) (if_pos h2)) h
    · rw [Int64.lt_iff_toInt_lt, show (0 : Int64).toInt = 0 from rfl] at h1
      rw [Int64.lt_iff_toInt_lt, Int32.toInt_toInt64, e] at h2
      exact ⟨by omega, by omega⟩
theorem cz_X10_gcd {xi : SX} {S : Hp} {E : List Nat} {kc nc : Nat} {P : Po} {a b : Int64} (hG : GI S E) (hP0 : ∀ r T x y, PV E [] S kc nc rJ (fun v T => T = S ∧ v = some (.long (gJ a b))) [] r T x y → P r T x y) : TT xi M_X10_gcd 0 [(0, .long a), (2, .long b)] [] S kc nc P := cm_gcd (hP0 _ _ _ _ ⟨hG, af_rf, Or.inl ⟨_, rfl, ⟨_, rfl⟩, ⟨rfl, rfl⟩, rfl, rfl⟩⟩)
/-- a number all of whose bits below its highest are set; fu rounds more are enough -/
def Ofu (fu : Nat) (m : Int64) : Prop := ∃ j : Nat, j ≤ 63 ∧ 63 < fu + j ∧ m.toInt = 2 ^ j - 1
theorem of_0 : Ofu 64 0 := ⟨0, by decide, by decide, by decide⟩
theorem of_z {m : Int64} (h : Ofu 0 m) : False := by obtain ⟨j, h1, h2, -⟩ := h; omega
theorem of_n {fu : Nat} {m y : Int64} (h : Ofu (fu + 1) m) (hc : m < y) : Ofu fu (2 * m + 1) := by
  obtain ⟨j, h1, h2, h3⟩ := h
  have hy := Int64.toInt_lt y
  rw [Int64.lt_iff_toInt_lt] at hc
  have hj : j < 63 := by
    rcases Nat.lt_or_ge j 63 with q | q
    · exact q
    · have e : j = 63 := by omega
      subst e
      rw [h3] at hc
      omega
  refine ⟨j + 1, by omega, by omega, ?_⟩
  have hp : (2 : Int) ^ (j + 1) = 2 * 2 ^ j := by rw [Int.pow_succ, Int.mul_comm]
  have hb : (2 : Int) ^ (j + 1) ≤ 2 ^ 63 := by exact_mod_cast Nat.pow_le_pow_right (by decide) (by omega)
  have hq : (0 : Int) < 2 ^ j := Int.pow_pos (by decide)
  rw [Int64.toInt_add, Int64.toInt_mul, h3, show (2 : Int64).toInt = 2 from rfl, show (1 : Int64).toInt = 1 from rfl, Int.bmod_add_bmod, hp]
  rw [hp] at hb
  rw [Int.bmod_eq_of_le (by omega) (by omega)]
  omega
def Z_X10_make (R : Nat → Nat → Nat) (σ : SG) (o0 : Nat) (x1 : Int32) (x2 : Int32) (y3 : Int64) (y5 : Int64) (y7 : Int64) : SG :=
  if x2 = 1 then
    if y3 < ((-2305843009213693952) : Int64) then
      if y3 = y5 then
        (uj (uj (uj (ui σ (R 643 o0) (x1 : Int32).toNatClampNeg 2) (R 644 o0) (x1 : Int32).toNatClampNeg y3) (R 645 o0) (x1 : Int32).toNatClampNeg y5) (R 646 o0) (x1 : Int32).toNatClampNeg 0)
      else
        (uj (uj (uj (ui σ (R 643 o0) (x1 : Int32).toNatClampNeg 2) (R 644 o0) (x1 : Int32).toNatClampNeg y3) (R 645 o0) (x1 : Int32).toNatClampNeg y5) (R 646 o0) (x1 : Int32).toNatClampNeg y7)
    else
      if (2305843009213693952 : Int64) < y5 then
        if y3 = y5 then
          (uj (uj (uj (ui σ (R 643 o0) (x1 : Int32).toNatClampNeg 2) (R 644 o0) (x1 : Int32).toNatClampNeg y3) (R 645 o0) (x1 : Int32).toNatClampNeg y5) (R 646 o0) (x1 : Int32).toNatClampNeg 0)
        else
          (uj (uj (uj (ui σ (R 643 o0) (x1 : Int32).toNatClampNeg 2) (R 644 o0) (x1 : Int32).toNatClampNeg y3) (R 645 o0) (x1 : Int32).toNatClampNeg y5) (R 646 o0) (x1 : Int32).toNatClampNeg y7)
      else
        if y5 < ((-2305843009213693952) : Int64) then
          if y3 = y5 then
            (uj (uj (uj (ui σ (R 643 o0) (x1 : Int32).toNatClampNeg 2) (R 644 o0) (x1 : Int32).toNatClampNeg y3) (R 645 o0) (x1 : Int32).toNatClampNeg y5) (R 646 o0) (x1 : Int32).toNatClampNeg 0)
          else
            (uj (uj (uj (ui σ (R 643 o0) (x1 : Int32).toNatClampNeg 2) (R 644 o0) (x1 : Int32).toNatClampNeg y3) (R 645 o0) (x1 : Int32).toNatClampNeg y5) (R 646 o0) (x1 : Int32).toNatClampNeg y7)
        else
          if (2305843009213693952 : Int64) < y3 then
            if y3 = y5 then
              (uj (uj (uj (ui σ (R 643 o0) (x1 : Int32).toNatClampNeg 2) (R 644 o0) (x1 : Int32).toNatClampNeg y3) (R 645 o0) (x1 : Int32).toNatClampNeg y5) (R 646 o0) (x1 : Int32).toNatClampNeg 0)
            else
              (uj (uj (uj (ui σ (R 643 o0) (x1 : Int32).toNatClampNeg 2) (R 644 o0) (x1 : Int32).toNatClampNeg y3) (R 645 o0) (x1 : Int32).toNatClampNeg y5) (R 646 o0) (x1 : Int32).toNatClampNeg y7)
          else
            if y3 = y5 then
              (uj (uj (uj (ui σ (R 643 o0) (x1 : Int32).toNatClampNeg x2) (R 644 o0) (x1 : Int32).toNatClampNeg y3) (R 645 o0) (x1 : Int32).toNatClampNeg y5) (R 646 o0) (x1 : Int32).toNatClampNeg 0)
            else
              (uj (uj (uj (ui σ (R 643 o0) (x1 : Int32).toNatClampNeg x2) (R 644 o0) (x1 : Int32).toNatClampNeg y3) (R 645 o0) (x1 : Int32).toNatClampNeg y5) (R 646 o0) (x1 : Int32).toNatClampNeg y7)
  else
    if y3 = y5 then
      (uj (uj (uj (ui σ (R 643 o0) (x1 : Int32).toNatClampNeg x2) (R 644 o0) (x1 : Int32).toNatClampNeg y3) (R 645 o0) (x1 : Int32).toNatClampNeg y5) (R 646 o0) (x1 : Int32).toNatClampNeg 0)
    else
      (uj (uj (uj (ui σ (R 643 o0) (x1 : Int32).toNatClampNeg x2) (R 644 o0) (x1 : Int32).toNatClampNeg y3) (R 645 o0) (x1 : Int32).toNatClampNeg y5) (R 646 o0) (x1 : Int32).toNatClampNeg y7)
theorem zl_X10_make_0 {R : Nat → Nat → Nat} {σ : SG} {o0 : Nat} {x1 : Int32} {x2 : Int32} {y3 : Int64} {y5 : Int64} {y7 : Int64} (h0 : x2 = 1) (h1 : y3 < ((-2305843009213693952) : Int64)) (h2 : y3 = y5) : Z_X10_make R σ o0 x1 x2 y3 y5 y7 = (uj (uj (uj (ui σ (R 643 o0) (x1 : Int32).toNatClampNeg 2) (R 644 o0) (x1 : Int32).toNatClampNeg y3) (R 645 o0) (x1 : Int32).toNatClampNeg y5) (R 646 o0) (x1 : Int32).toNatClampNeg 0) := by unfold Z_X10_make; exact Eq.trans (if_pos h0) (Eq.trans (if_pos h1) (if_pos h2))
theorem zl_X10_make_1 {R : Nat → Nat → Nat} {σ : SG} {o0 : Nat} {x1 : Int32} {x2 : Int32} {y3 : Int64} {y5 : Int64} {y7 : Int64} (h0 : x2 = 1) (h1 : y3 < ((-2305843009213693952) : Int64)) (h2 : ¬ y3 = y5) : Z_X10_make R σ o0 x1 x2 y3 y5 y7 = (uj (uj (uj (ui σ (R 643 o0) (x1 : Int32).toNatClampNeg 2) (R 644 o0) (x1 : Int32).toNatClampNeg y3) (R 645 o0) (x1 : Int32).toNatClampNeg y5) (R 646 o0) (x1 : Int32).toNatClampNeg y7) := by unfold Z_X10_make; exact Eq.trans (if_pos h0) (Eq.trans (if_pos h1) (if_neg h2))
theorem zl_X10_make_2 {R : Nat → Nat → Nat} {σ : SG} {o0 : Nat} {x1 : Int32} {x2 : Int32} {y3 : Int64} {y5 : Int64} {y7 : Int64} (h0 : x2 = 1) (h1 : ¬ y3 < ((-2305843009213693952) : Int64)) (h2 : (2305843009213693952 : Int64) < y5) (h3 : y3 = y5) : Z_X10_make R σ o0 x1 x2 y3 y5 y7 = (uj (uj (uj (ui σ (R 643 o0) (x1 : Int32).toNatClampNeg 2) (R 644 o0) (x1 : Int32).toNatClampNeg y3) (R 645 o0) (x1 : Int32).toNatClampNeg y5) (R 646 o0) (x1 : Int32).toNatClampNeg 0) := by unfold Z_X10_make; exact Eq.trans (if_pos h0) (Eq.trans (if_neg h1) (Eq.trans (if_pos h2) (if_pos h3)))
theorem zl_X10_make_3 {R : Nat → Nat → Nat} {σ : SG} {o0 : Nat} {x1 : Int32} {x2 : Int32} {y3 : Int64} {y5 : Int64} {y7 : Int64} (h0 : x2 = 1) (h1 : ¬ y3 < ((-2305843009213693952) : Int64)) (h2 : (2305843009213693952 : Int64) < y5) (h3 : ¬ y3 = y5) : Z_X10_make R σ o0 x1 x2 y3 y5 y7 = (uj (uj (uj (ui σ (R 643 o0) (x1 : Int32).toNatClampNeg 2) (R 644 o0) (x1 : Int32).toNatClampNeg y3) (R 645 o0) (x1 : Int32).toNatClampNeg y5) (R 646 o0) (x1 : Int32).toNatClampNeg y7) := by unfold Z_X10_make; exact Eq.trans (if_pos h0) (Eq.trans (if_neg h1) (Eq.trans (if_pos h2) (if_neg h3)))
theorem zl_X10_make_4 {R : Nat → Nat → Nat} {σ : SG} {o0 : Nat} {x1 : Int32} {x2 : Int32} {y3 : Int64} {y5 : Int64} {y7 : Int64} (h0 : x2 = 1) (h1 : ¬ y3 < ((-2305843009213693952) : Int64)) (h2 : ¬ (2305843009213693952 : Int64) < y5) (h3 : y5 < ((-2305843009213693952) : Int64)) (h4 : y3 = y5) : Z_X10_make R σ o0 x1 x2 y3 y5 y7 = (uj (uj (uj (ui σ (R 643 o0) (x1 : Int32).toNatClampNeg 2) (R 644 o0) (x1 : Int32).toNatClampNeg y3) (R 645 o0) (x1 : Int32).toNatClampNeg y5) (R 646 o0) (x1 : Int32).toNatClampNeg 0) := by unfold Z_X10_make; exact Eq.trans (if_pos h0) (Eq.trans (if_neg h1) (Eq.trans (if_neg h2) (Eq.trans (if_pos h3) (if_pos h4))))
theorem zl_X10_make_5 {R : Nat → Nat → Nat} {σ : SG} {o0 : Nat} {x1 : Int32} {x2 : Int32} {y3 : Int64} {y5 : Int64} {y7 : Int64} (h0 : x2 = 1) (h1 : ¬ y3 < ((-2305843009213693952) : Int64)) (h2 : ¬ (2305843009213693952 : Int64) < y5) (h3 : y5 < ((-2305843009213693952) : Int64)) (h4 : ¬ y3 = y5) : Z_X10_make R σ o0 x1 x2 y3 y5 y7 = (uj (uj (uj (ui σ (R 643 o0) (x1 : Int32).toNatClampNeg 2) (R 644 o0) (x1 : Int32).toNatClampNeg y3) (R 645 o0) (x1 : Int32).toNatClampNeg y5) (R 646 o0) (x1 : Int32).toNatClampNeg y7) := by unfold Z_X10_make; exact Eq.trans (if_pos h0) (Eq.trans (if_neg h1) (Eq.trans (if_neg h2) (Eq.trans (if_pos h3) (if_neg h4))))
theorem zl_X10_make_6 {R : Nat → Nat → Nat} {σ : SG} {o0 : Nat} {x1 : Int32} {x2 : Int32} {y3 : Int64} {y5 : Int64} {y7 : Int64} (h0 : x2 = 1) (h1 : ¬ y3 < ((-2305843009213693952) : Int64)) (h2 : ¬ (2305843009213693952 : Int64) < y5) (h3 : ¬ y5 < ((-2305843009213693952) : Int64)) (h4 : (2305843009213693952 : Int64) < y3) (h5 : y3 = y5) : Z_X10_make R σ o0 x1 x2 y3 y5 y7 = (uj (uj (uj (ui σ (R 643 o0) (x1 : Int32).toNatClampNeg 2) (R 644 o0) (x1 : Int32).toNatClampNeg y3) (R 645 o0) (x1 : Int32).toNatClampNeg y5) (R 646 o0) (x1 : Int32).toNatClampNeg 0) := by unfold Z_X10_make; exact Eq.trans (if_pos h0) (Eq.trans (if_neg h1) (Eq.trans (if_neg h2) (Eq.trans (if_neg h3) (Eq.trans (if_pos h4) (if_pos h5)))))
theorem zl_X10_make_7 {R : Nat → Nat → Nat} {σ : SG} {o0 : Nat} {x1 : Int32} {x2 : Int32} {y3 : Int64} {y5 : Int64} {y7 : Int64} (h0 : x2 = 1) (h1 : ¬ y3 < ((-2305843009213693952) : Int64)) (h2 : ¬ (2305843009213693952 : Int64) < y5) (h3 : ¬ y5 < ((-2305843009213693952) : Int64)) (h4 : (2305843009213693952 : Int64) < y3) (h5 : ¬ y3 = y5) : Z_X10_make R σ o0 x1 x2 y3 y5 y7 = (uj (uj (uj (ui σ (R 643 o0) (x1 : Int32).toNatClampNeg 2) (R 644 o0) (x1 : Int32).toNatClampNeg y3) (R 645 o0) (x1 : Int32).toNatClampNeg y5) (R 646 o0) (x1 : Int32).toNatClampNeg y7) := by unfold Z_X10_make; exact Eq.trans (if_pos h0) (Eq.trans (if_neg h1) (Eq.trans (if_neg h2) (Eq.trans (if_neg h3) (Eq.trans (if_pos h4) (if_neg h5)))))
theorem zl_X10_make_8 {R : Nat → Nat → Nat} {σ : SG} {o0 : Nat} {x1 : Int32} {x2 : Int32} {y3 : Int64} {y5 : Int64} {y7 : Int64} (h0 : x2 = 1) (h1 : ¬ y3 < ((-2305843009213693952) : Int64)) (h2 : ¬ (2305843009213693952 : Int64) < y5) (h3 : ¬ y5 < ((-2305843009213693952) : Int64)) (h4 : ¬ (2305843009213693952 : Int64) < y3) (h5 : y3 = y5) : Z_X10_make R σ o0 x1 x2 y3 y5 y7 = (uj (uj (uj (ui σ (R 643 o0) (x1 : Int32).toNatClampNeg x2) (R 644 o0) (x1 : Int32).toNatClampNeg y3) (R 645 o0) (x1 : Int32).toNatClampNeg y5) (R 646 o0) (x1 : Int32).toNatClampNeg 0) := by unfold Z_X10_make; exact Eq.trans (if_pos h0) (Eq.trans (if_neg h1) (Eq.trans (if_neg h2) (Eq.trans (if_neg h3) (Eq.trans (if_neg h4) (if_pos h5)))))
theorem zl_X10_make_9 {R : Nat → Nat → Nat} {σ : SG} {o0 : Nat} {x1 : Int32} {x2 : Int32} {y3 : Int64} {y5 : Int64} {y7 : Int64} (h0 : x2 = 1) (h1 : ¬ y3 < ((-2305843009213693952) : Int64)) (h2 : ¬ (2305843009213693952 : Int64) < y5) (h3 : ¬ y5 < ((-2305843009213693952) : Int64)) (h4 : ¬ (2305843009213693952 : Int64) < y3) (h5 : ¬ y3 = y5) : Z_X10_make R σ o0 x1 x2 y3 y5 y7 = (uj (uj (uj (ui σ (R 643 o0) (x1 : Int32).toNatClampNeg x2) (R 644 o0) (x1 : Int32).toNatClampNeg y3) (R 645 o0) (x1 : Int32).toNatClampNeg y5) (R 646 o0) (x1 : Int32).toNatClampNeg y7) := by unfold Z_X10_make; exact Eq.trans (if_pos h0) (Eq.trans (if_neg h1) (Eq.trans (if_neg h2) (Eq.trans (if_neg h3) (Eq.trans (if_neg h4) (if_neg h5)))))
theorem zl_X10_make_10 {R : Nat → Nat → Nat} {σ : SG} {o0 : Nat} {x1 : Int32} {x2 : Int32} {y3 : Int64} {y5 : Int64} {y7 : Int64} (h0 : ¬ x2 = 1) (h1 : y3 = y5) : Z_X10_make R σ o0 x1 x2 y3 y5 y7 = (uj (uj (uj (ui σ (R 643 o0) (x1 : Int32).toNatClampNeg x2) (R 644 o0) (x1 : Int32).toNatClampNeg y3) (R 645 o0) (x1 : Int32).toNatClampNeg y5) (R 646 o0) (x1 : Int32).toNatClampNeg 0) := by unfold Z_X10_make; exact Eq.trans (if_neg h0) (if_pos h1)
theorem zl_X10_make_11 {R : Nat → Nat → Nat} {σ : SG} {o0 : Nat} {x1 : Int32} {x2 : Int32} {y3 : Int64} {y5 : Int64} {y7 : Int64} (h0 : ¬ x2 = 1) (h1 : ¬ y3 = y5) : Z_X10_make R σ o0 x1 x2 y3 y5 y7 = (uj (uj (uj (ui σ (R 643 o0) (x1 : Int32).toNatClampNeg x2) (R 644 o0) (x1 : Int32).toNatClampNeg y3) (R 645 o0) (x1 : Int32).toNatClampNeg y5) (R 646 o0) (x1 : Int32).toNatClampNeg y7) := by unfold Z_X10_make; exact Eq.trans (if_neg h0) (if_neg h1)
set_option maxHeartbeats 40000000 in
theorem cz_X10_make {xi : SX} {S : Hp} {E : List Nat} {kc nc : Nat} {P : Po} {o0 : Nat} {x1 : Int32} {x2 : Int32} {y3 : Int64} {y5 : Int64} {y7 : Int64} {R : Nat → Nat → Nat} (hG : GI S E) (h0 : Oa S E 10 0 o0) (h1 : Rg 0 4939 x1) (hR : RK S R) (hP : ∀ r T x y, PV E [9989] S kc nc rV (fun v T => sg T = Z_X10_make R (sg S) o0 x1 x2 y3 y5 y7) [] r T x y → P r T x y) : TT xi M_X10_make 0 [(0, .ref o0), (1, .int x1), (2, .int x2), (3, .long y3), (5, .long y5), (7, .long y7)] [] S kc nc P := by
  have hA : Af E [9989] S S := af_rf
  refine tt_iload_n (j := 2) dX10_make_0 rfl ?_
  refine tt_iconst (v := 1) dX10_make_1 rfl ?_
  refine tt_icmp_ne (tgt := 43) dX10_make_2 rfl (fun q101 => ?_) (fun q101 => ?_)
  · skip
    refine tt_iconst (v := 0) dX10_make_43 rfl ?_
    refine tt_istore (ks := [0, 1, 2, 3, 4, 5, 6]) (L' := [(9, .int 0), (0, .ref o0), (1, .int x1), (2, .int x2), (3, .long y3), (5, .long y5), (7, .long y7)]) dX10_make_44 (by decide) rfl ?_
    refine tt_aload_n (j := 1) dX10_make_46 rfl ?_
    have hr102 := rk_R (k := 643) hR h0 32 4940
    have ho103 := rk_O (k := 643) hG hR h0 32 4940
    refine gt_gR (id := 643) dX10_make_47 fl_10_13 rfl rfl h0 hA hr102 ?_
    refine tt_iload_n (j := 2) dX10_make_50 rfl ?_
    refine tt_iload (j := 0) dX10_make_51 rfl ?_
    refine tt_if_eq (tgt := 60) dX10_make_53 rfl (fun _ => ?_) (fun q => absurd q (by decide))
    refine tt_iload_n (j := 3) dX10_make_60 rfl ?_
    refine gx_iS dX10_make_61 ho103 hA (Or.inl (by decide)) (rg_in h1) hG (by decide) (show sg S = (sg S) from rfl) (fun S104 hG105 hA106 e107 => ?_)
    refine tt_aload_n (j := 1) dX10_make_62 rfl ?_
    have hr108 := rk_R (k := 644) hR h0 33 4940
    have ho109 := rk_O (k := 644) hG hR h0 33 4940
    refine gt_gR (id := 644) dX10_make_63 fl_10_16 rfl rfl h0 hA106 hr108 ?_
    refine tt_iload_n (j := 2) dX10_make_66 rfl ?_
    refine tt_lload_n (j := 4) dX10_make_67 rfl ?_
    refine gx_lS dX10_make_68 ho109 hA106 (rg_in h1) hG105 (Or.inl (by decide)) (Or.inl (by decide)) e107 (fun S110 hG111 hA112 e113 => ?_)
    refine tt_aload_n (j := 1) dX10_make_69 rfl ?_
    have hr114 := rk_R (k := 645) hR h0 33 4940
    have ho115 := rk_O (k := 645) hG hR h0 33 4940
    refine gt_gR (id := 645) dX10_make_70 fl_10_20 rfl rfl h0 hA112 hr114 ?_
    refine tt_iload_n (j := 2) dX10_make_73 rfl ?_
    refine tt_lload (j := 5) dX10_make_74 rfl ?_
    refine gx_lS dX10_make_76 ho115 hA112 (rg_in h1) hG111 (Or.inl (by decide)) (Or.inl (by decide)) e113 (fun S116 hG117 hA118 e119 => ?_)
    refine tt_aload_n (j := 1) dX10_make_77 rfl ?_
    have hr120 := rk_R (k := 646) hR h0 33 4940
    have ho121 := rk_O (k := 646) hG hR h0 33 4940
    refine gt_gR (id := 646) dX10_make_78 fl_10_23 rfl rfl h0 hA118 hr120 ?_
    refine tt_iload_n (j := 2) dX10_make_81 rfl ?_
    refine tt_lload_n (j := 4) dX10_make_82 rfl ?_
    refine tt_lload (j := 5) dX10_make_83 rfl ?_
    refine tt_lcmp dX10_make_85 ?_
    refine tt_if_ne (tgt := 93) dX10_make_86 rfl (fun q122 => ?_) (fun q122 => ?_)
    · skip
      refine tt_lload (j := 6) dX10_make_93 rfl ?_
      refine gx_lS dX10_make_95 ho121 hA118 (rg_in h1) hG117 (Or.inl (by decide)) (Or.inl (by decide)) e119 (fun S123 hG124 hA125 e126 => ?_)
      have hF : Z_X10_make R (sg S) o0 x1 x2 y3 y5 y7 = (uj (uj (uj (ui (sg S) (R 643 o0) (x1 : Int32).toNatClampNeg x2) (R 644 o0) (x1 : Int32).toNatClampNeg y3) (R 645 o0) (x1 : Int32).toNatClampNeg y5) (R 646 o0) (x1 : Int32).toNatClampNeg y7) := by
        exact zl_X10_make_11 q101 (lc_ne_t q122)
      exact tt_vreturn dX10_make_96 rfl (hP _ _ _ _ ⟨hG124, hA125, Or.inl ⟨_, rfl, rfl, Eq.trans e126 hF.symm, rfl, rfl⟩⟩)
    · skip
      refine tt_lconst (v := 0) dX10_make_89 rfl ?_
      refine tt_goto (tgt := 95) dX10_make_90 rfl ?_
      refine gx_lS dX10_make_95 ho121 hA118 (rg_in h1) hG117 (Or.inl (by decide)) (Or.inl (by decide)) e119 (fun S127 hG128 hA129 e130 => ?_)
      have hF : Z_X10_make R (sg S) o0 x1 x2 y3 y5 y7 = (uj (uj (uj (ui (sg S) (R 643 o0) (x1 : Int32).toNatClampNeg x2) (R 644 o0) (x1 : Int32).toNatClampNeg y3) (R 645 o0) (x1 : Int32).toNatClampNeg y5) (R 646 o0) (x1 : Int32).toNatClampNeg 0) := by
        exact zl_X10_make_10 q101 (lc_ne_f q122)
      exact tt_vreturn dX10_make_96 rfl (hP _ _ _ _ ⟨hG128, hA129, Or.inl ⟨_, rfl, rfl, Eq.trans e130 hF.symm, rfl, rfl⟩⟩)
  · skip
    have h131 : Rg 1 1 x2 := rg_eq_l (rg_all x2) (⟨by decide, by decide⟩ : Rg 1 1 1) q101
    refine tt_lload_n (j := 3) dX10_make_5 rfl ?_
    refine tt_ldc2 (v := (-2305843009213693952)) dX10_make_6 kl_10_158 ?_
    refine tt_lcmp dX10_make_9 ?_
    refine tt_if_lt (tgt := 39) dX10_make_10 rfl (fun q132 => ?_) (fun q132 => ?_)
    · skip
      refine tt_iconst (v := 1) dX10_make_39 rfl ?_
      refine tt_goto (tgt := 44) dX10_make_40 rfl ?_
      refine tt_istore (ks := [0, 1, 2, 3, 4, 5, 6]) (L' := [(9, .int 1), (0, .ref o0), (1, .int x1), (2, .int x2), (3, .long y3), (5, .long y5), (7, .long y7)]) dX10_make_44 (by decide) rfl ?_
      refine tt_aload_n (j := 1) dX10_make_46 rfl ?_
      have hr133 := rk_R (k := 643) hR h0 32 4940
      have ho134 := rk_O (k := 643) hG hR h0 32 4940
      refine gt_gR (id := 643) dX10_make_47 fl_10_13 rfl rfl h0 hA hr133 ?_
      refine tt_iload_n (j := 2) dX10_make_50 rfl ?_
      refine tt_iload (j := 0) dX10_make_51 rfl ?_
      refine tt_if_eq (tgt := 60) dX10_make_53 rfl (fun q => absurd q (by decide)) (fun _ => ?_)
      refine tt_iconst (v := 2) dX10_make_56 rfl ?_
      refine tt_goto (tgt := 61) dX10_make_57 rfl ?_
      refine gx_iS dX10_make_61 ho134 hA (Or.inl (by decide)) (rg_in h1) hG (by decide) (show sg S = (sg S) from rfl) (fun S135 hG136 hA137 e138 => ?_)
      refine tt_aload_n (j := 1) dX10_make_62 rfl ?_
      have hr139 := rk_R (k := 644) hR h0 33 4940
      have ho140 := rk_O (k := 644) hG hR h0 33 4940
      refine gt_gR (id := 644) dX10_make_63 fl_10_16 rfl rfl h0 hA137 hr139 ?_
      refine tt_iload_n (j := 2) dX10_make_66 rfl ?_
      refine tt_lload_n (j := 4) dX10_make_67 rfl ?_
      refine gx_lS dX10_make_68 ho140 hA137 (rg_in h1) hG136 (Or.inl (by decide)) (Or.inl (by decide)) e138 (fun S141 hG142 hA143 e144 => ?_)
      refine tt_aload_n (j := 1) dX10_make_69 rfl ?_
      have hr145 := rk_R (k := 645) hR h0 33 4940
      have ho146 := rk_O (k := 645) hG hR h0 33 4940
      refine gt_gR (id := 645) dX10_make_70 fl_10_20 rfl rfl h0 hA143 hr145 ?_
      refine tt_iload_n (j := 2) dX10_make_73 rfl ?_
      refine tt_lload (j := 5) dX10_make_74 rfl ?_
      refine gx_lS dX10_make_76 ho146 hA143 (rg_in h1) hG142 (Or.inl (by decide)) (Or.inl (by decide)) e144 (fun S147 hG148 hA149 e150 => ?_)
      refine tt_aload_n (j := 1) dX10_make_77 rfl ?_
      have hr151 := rk_R (k := 646) hR h0 33 4940
      have ho152 := rk_O (k := 646) hG hR h0 33 4940
      refine gt_gR (id := 646) dX10_make_78 fl_10_23 rfl rfl h0 hA149 hr151 ?_
      refine tt_iload_n (j := 2) dX10_make_81 rfl ?_
      refine tt_lload_n (j := 4) dX10_make_82 rfl ?_
      refine tt_lload (j := 5) dX10_make_83 rfl ?_
      refine tt_lcmp dX10_make_85 ?_
      refine tt_if_ne (tgt := 93) dX10_make_86 rfl (fun q153 => ?_) (fun q153 => ?_)
      · skip
        refine tt_lload (j := 6) dX10_make_93 rfl ?_
        refine gx_lS dX10_make_95 ho152 hA149 (rg_in h1) hG148 (Or.inl (by decide)) (Or.inl (by decide)) e150 (fun S154 hG155 hA156 e157 => ?_)
        have hF : Z_X10_make R (sg S) o0 x1 x2 y3 y5 y7 = (uj (uj (uj (ui (sg S) (R 643 o0) (x1 : Int32).toNatClampNeg 2) (R 644 o0) (x1 : Int32).toNatClampNeg y3) (R 645 o0) (x1 : Int32).toNatClampNeg y5) (R 646 o0) (x1 : Int32).toNatClampNeg y7) := by
          exact zl_X10_make_1 q101 (lc_lt_t q132) (lc_ne_t q153)
        exact tt_vreturn dX10_make_96 rfl (hP _ _ _ _ ⟨hG155, hA156, Or.inl ⟨_, rfl, rfl, Eq.trans e157 hF.symm, rfl, rfl⟩⟩)
      · skip
        refine tt_lconst (v := 0) dX10_make_89 rfl ?_
        refine tt_goto (tgt := 95) dX10_make_90 rfl ?_
        refine gx_lS dX10_make_95 ho152 hA149 (rg_in h1) hG148 (Or.inl (by decide)) (Or.inl (by decide)) e150 (fun S158 hG159 hA160 e161 => ?_)
        have hF : Z_X10_make R (sg S) o0 x1 x2 y3 y5 y7 = (uj (uj (uj (ui (sg S) (R 643 o0) (x1 : Int32).toNatClampNeg 2) (R 644 o0) (x1 : Int32).toNatClampNeg y3) (R 645 o0) (x1 : Int32).toNatClampNeg y5) (R 646 o0) (x1 : Int32).toNatClampNeg 0) := by
          exact zl_X10_make_0 q101 (lc_lt_t q132) (lc_ne_f q153)
        exact tt_vreturn dX10_make_96 rfl (hP _ _ _ _ ⟨hG159, hA160, Or.inl ⟨_, rfl, rfl, Eq.trans e161 hF.symm, rfl, rfl⟩⟩)
    · skip
      refine tt_lload (j := 4) dX10_make_13 rfl ?_
      refine tt_ldc2 (v := 2305843009213693952) dX10_make_15 kl_10_160 ?_
      refine tt_lcmp dX10_make_18 ?_
      refine tt_if_gt (tgt := 39) dX10_make_19 rfl (fun q162 => ?_) (fun q162 => ?_)
      · skip
        refine tt_iconst (v := 1) dX10_make_39 rfl ?_
        refine tt_goto (tgt := 44) dX10_make_40 rfl ?_
        refine tt_istore (ks := [0, 1, 2, 3, 4, 5, 6]) (L' := [(9, .int 1), (0, .ref o0), (1, .int x1), (2, .int x2), (3, .long y3), (5, .long y5), (7, .long y7)]) dX10_make_44 (by decide) rfl ?_
        refine tt_aload_n (j := 1) dX10_make_46 rfl ?_
        have hr163 := rk_R (k := 643) hR h0 32 4940
        have ho164 := rk_O (k := 643) hG hR h0 32 4940
        refine gt_gR (id := 643) dX10_make_47 fl_10_13 rfl rfl h0 hA hr163 ?_
        refine tt_iload_n (j := 2) dX10_make_50 rfl ?_
        refine tt_iload (j := 0) dX10_make_51 rfl ?_
        refine tt_if_eq (tgt := 60) dX10_make_53 rfl (fun q => absurd q (by decide)) (fun _ => ?_)
        refine tt_iconst (v := 2) dX10_make_56 rfl ?_
        refine tt_goto (tgt := 61) dX10_make_57 rfl ?_
        refine gx_iS dX10_make_61 ho164 hA (Or.inl (by decide)) (rg_in h1) hG (by decide) (show sg S = (sg S) from rfl) (fun S165 hG166 hA167 e168 => ?_)
        refine tt_aload_n (j := 1) dX10_make_62 rfl ?_
        have hr169 := rk_R (k := 644) hR h0 33 4940
        have ho170 := rk_O (k := 644) hG hR h0 33 4940
        refine gt_gR (id := 644) dX10_make_63 fl_10_16 rfl rfl h0 hA167 hr169 ?_
        refine tt_iload_n (j := 2) dX10_make_66 rfl ?_
        refine tt_lload_n (j := 4) dX10_make_67 rfl ?_
        refine gx_lS dX10_make_68 ho170 hA167 (rg_in h1) hG166 (Or.inl (by decide)) (Or.inl (by decide)) e168 (fun S171 hG172 hA173 e174 => ?_)
        refine tt_aload_n (j := 1) dX10_make_69 rfl ?_
        have hr175 := rk_R (k := 645) hR h0 33 4940
        have ho176 := rk_O (k := 645) hG hR h0 33 4940
        refine gt_gR (id := 645) dX10_make_70 fl_10_20 rfl rfl h0 hA173 hr175 ?_
        refine tt_iload_n (j := 2) dX10_make_73 rfl ?_
        refine tt_lload (j := 5) dX10_make_74 rfl ?_
        refine gx_lS dX10_make_76 ho176 hA173 (rg_in h1) hG172 (Or.inl (by decide)) (Or.inl (by decide)) e174 (fun S177 hG178 hA179 e180 => ?_)
        refine tt_aload_n (j := 1) dX10_make_77 rfl ?_
        have hr181 := rk_R (k := 646) hR h0 33 4940
        have ho182 := rk_O (k := 646) hG hR h0 33 4940
        refine gt_gR (id := 646) dX10_make_78 fl_10_23 rfl rfl h0 hA179 hr181 ?_
        refine tt_iload_n (j := 2) dX10_make_81 rfl ?_
        refine tt_lload_n (j := 4) dX10_make_82 rfl ?_
        refine tt_lload (j := 5) dX10_make_83 rfl ?_
        refine tt_lcmp dX10_make_85 ?_
        refine tt_if_ne (tgt := 93) dX10_make_86 rfl (fun q183 => ?_) (fun q183 => ?_)
        · skip
          refine tt_lload (j := 6) dX10_make_93 rfl ?_
          refine gx_lS dX10_make_95 ho182 hA179 (rg_in h1) hG178 (Or.inl (by decide)) (Or.inl (by decide)) e180 (fun S184 hG185 hA186 e187 => ?_)
          have hF : Z_X10_make R (sg S) o0 x1 x2 y3 y5 y7 = (uj (uj (uj (ui (sg S) (R 643 o0) (x1 : Int32).toNatClampNeg 2) (R 644 o0) (x1 : Int32).toNatClampNeg y3) (R 645 o0) (x1 : Int32).toNatClampNeg y5) (R 646 o0) (x1 : Int32).toNatClampNeg y7) := by
            exact zl_X10_make_3 q101 (Int64.not_lt.mpr (lc_lt_f q132)) (lc_gt_t q162) (lc_ne_t q183)
          exact tt_vreturn dX10_make_96 rfl (hP _ _ _ _ ⟨hG185, hA186, Or.inl ⟨_, rfl, rfl, Eq.trans e187 hF.symm, rfl, rfl⟩⟩)
        · skip
          refine tt_lconst (v := 0) dX10_make_89 rfl ?_
          refine tt_goto (tgt := 95) dX10_make_90 rfl ?_
          refine gx_lS dX10_make_95 ho182 hA179 (rg_in h1) hG178 (Or.inl (by decide)) (Or.inl (by decide)) e180 (fun S188 hG189 hA190 e191 => ?_)
          have hF : Z_X10_make R (sg S) o0 x1 x2 y3 y5 y7 = (uj (uj (uj (ui (sg S) (R 643 o0) (x1 : Int32).toNatClampNeg 2) (R 644 o0) (x1 : Int32).toNatClampNeg y3) (R 645 o0) (x1 : Int32).toNatClampNeg y5) (R 646 o0) (x1 : Int32).toNatClampNeg 0) := by
            exact zl_X10_make_2 q101 (Int64.not_lt.mpr (lc_lt_f q132)) (lc_gt_t q162) (lc_ne_f q183)
          exact tt_vreturn dX10_make_96 rfl (hP _ _ _ _ ⟨hG189, hA190, Or.inl ⟨_, rfl, rfl, Eq.trans e191 hF.symm, rfl, rfl⟩⟩)
      · skip
        refine tt_lload (j := 4) dX10_make_22 rfl ?_
        refine tt_ldc2 (v := (-2305843009213693952)) dX10_make_24 kl_10_158 ?_
        refine tt_lcmp dX10_make_27 ?_
        refine tt_if_lt (tgt := 39) dX10_make_28 rfl (fun q192 => ?_) (fun q192 => ?_)
        · skip
          refine tt_iconst (v := 1) dX10_make_39 rfl ?_
          refine tt_goto (tgt := 44) dX10_make_40 rfl ?_
          refine tt_istore (ks := [0, 1, 2, 3, 4, 5, 6]) (L' := [(9, .int 1), (0, .ref o0), (1, .int x1), (2, .int x2), (3, .long y3), (5, .long y5), (7, .long y7)]) dX10_make_44 (by decide) rfl ?_
          refine tt_aload_n (j := 1) dX10_make_46 rfl ?_
          have hr193 := rk_R (k := 643) hR h0 32 4940
          have ho194 := rk_O (k := 643) hG hR h0 32 4940
          refine gt_gR (id := 643) dX10_make_47 fl_10_13 rfl rfl h0 hA hr193 ?_
          refine tt_iload_n (j := 2) dX10_make_50 rfl ?_
          refine tt_iload (j := 0) dX10_make_51 rfl ?_
          refine tt_if_eq (tgt := 60) dX10_make_53 rfl (fun q => absurd q (by decide)) (fun _ => ?_)
          refine tt_iconst (v := 2) dX10_make_56 rfl ?_
          refine tt_goto (tgt := 61) dX10_make_57 rfl ?_
          refine gx_iS dX10_make_61 ho194 hA (Or.inl (by decide)) (rg_in h1) hG (by decide) (show sg S = (sg S) from rfl) (fun S195 hG196 hA197 e198 => ?_)
          refine tt_aload_n (j := 1) dX10_make_62 rfl ?_
          have hr199 := rk_R (k := 644) hR h0 33 4940
          have ho200 := rk_O (k := 644) hG hR h0 33 4940
          refine gt_gR (id := 644) dX10_make_63 fl_10_16 rfl rfl h0 hA197 hr199 ?_
          refine tt_iload_n (j := 2) dX10_make_66 rfl ?_
          refine tt_lload_n (j := 4) dX10_make_67 rfl ?_
          refine gx_lS dX10_make_68 ho200 hA197 (rg_in h1) hG196 (Or.inl (by decide)) (Or.inl (by decide)) e198 (fun S201 hG202 hA203 e204 => ?_)
          refine tt_aload_n (j := 1) dX10_make_69 rfl ?_
          have hr205 := rk_R (k := 645) hR h0 33 4940
          have ho206 := rk_O (k := 645) hG hR h0 33 4940
          refine gt_gR (id := 645) dX10_make_70 fl_10_20 rfl rfl h0 hA203 hr205 ?_
          refine tt_iload_n (j := 2) dX10_make_73 rfl ?_
          refine tt_lload (j := 5) dX10_make_74 rfl ?_
          refine gx_lS dX10_make_76 ho206 hA203 (rg_in h1) hG202 (Or.inl (by decide)) (Or.inl (by decide)) e204 (fun S207 hG208 hA209 e210 => ?_)
          refine tt_aload_n (j := 1) dX10_make_77 rfl ?_
          have hr211 := rk_R (k := 646) hR h0 33 4940
          have ho212 := rk_O (k := 646) hG hR h0 33 4940
          refine gt_gR (id := 646) dX10_make_78 fl_10_23 rfl rfl h0 hA209 hr211 ?_
          refine tt_iload_n (j := 2) dX10_make_81 rfl ?_
          refine tt_lload_n (j := 4) dX10_make_82 rfl ?_
          refine tt_lload (j := 5) dX10_make_83 rfl ?_
          refine tt_lcmp dX10_make_85 ?_
          refine tt_if_ne (tgt := 93) dX10_make_86 rfl (fun q213 => ?_) (fun q213 => ?_)
          · skip
            refine tt_lload (j := 6) dX10_make_93 rfl ?_
            refine gx_lS dX10_make_95 ho212 hA209 (rg_in h1) hG208 (Or.inl (by decide)) (Or.inl (by decide)) e210 (fun S214 hG215 hA216 e217 => ?_)
            have hF : Z_X10_make R (sg S) o0 x1 x2 y3 y5 y7 = (uj (uj (uj (ui (sg S) (R 643 o0) (x1 : Int32).toNatClampNeg 2) (R 644 o0) (x1 : Int32).toNatClampNeg y3) (R 645 o0) (x1 : Int32).toNatClampNeg y5) (R 646 o0) (x1 : Int32).toNatClampNeg y7) := by
              exact zl_X10_make_5 q101 (Int64.not_lt.mpr (lc_lt_f q132)) (Int64.not_lt.mpr (lc_gt_f q162)) (lc_lt_t q192) (lc_ne_t q213)
            exact tt_vreturn dX10_make_96 rfl (hP _ _ _ _ ⟨hG215, hA216, Or.inl ⟨_, rfl, rfl, Eq.trans e217 hF.symm, rfl, rfl⟩⟩)
          · skip
            refine tt_lconst (v := 0) dX10_make_89 rfl ?_
            refine tt_goto (tgt := 95) dX10_make_90 rfl ?_
            refine gx_lS dX10_make_95 ho212 hA209 (rg_in h1) hG208 (Or.inl (by decide)) (Or.inl (by decide)) e210 (fun S218 hG219 hA220 e221 => ?_)
            have hF : Z_X10_make R (sg S) o0 x1 x2 y3 y5 y7 = (uj (uj (uj (ui (sg S) (R 643 o0) (x1 : Int32).toNatClampNeg 2) (R 644 o0) (x1 : Int32).toNatClampNeg y3) (R 645 o0) (x1 : Int32).toNatClampNeg y5) (R 646 o0) (x1 : Int32).toNatClampNeg 0) := by
              exact zl_X10_make_4 q101 (Int64.not_lt.mpr (lc_lt_f q132)) (Int64.not_lt.mpr (lc_gt_f q162)) (lc_lt_t q192) (lc_ne_f q213)
            exact tt_vreturn dX10_make_96 rfl (hP _ _ _ _ ⟨hG219, hA220, Or.inl ⟨_, rfl, rfl, Eq.trans e221 hF.symm, rfl, rfl⟩⟩)
        · skip
          refine tt_lload_n (j := 3) dX10_make_31 rfl ?_
          refine tt_ldc2 (v := 2305843009213693952) dX10_make_32 kl_10_160 ?_
          refine tt_lcmp dX10_make_35 ?_
          refine tt_if_le (tgt := 43) dX10_make_36 rfl (fun q222 => ?_) (fun q222 => ?_)
          · skip
            refine tt_iconst (v := 0) dX10_make_43 rfl ?_
            refine tt_istore (ks := [0, 1, 2, 3, 4, 5, 6]) (L' := [(9, .int 0), (0, .ref o0), (1, .int x1), (2, .int x2), (3, .long y3), (5, .long y5), (7, .long y7)]) dX10_make_44 (by decide) rfl ?_
            refine tt_aload_n (j := 1) dX10_make_46 rfl ?_
            have hr223 := rk_R (k := 643) hR h0 32 4940
            have ho224 := rk_O (k := 643) hG hR h0 32 4940
            refine gt_gR (id := 643) dX10_make_47 fl_10_13 rfl rfl h0 hA hr223 ?_
            refine tt_iload_n (j := 2) dX10_make_50 rfl ?_
            refine tt_iload (j := 0) dX10_make_51 rfl ?_
            refine tt_if_eq (tgt := 60) dX10_make_53 rfl (fun _ => ?_) (fun q => absurd q (by decide))
            refine tt_iload_n (j := 3) dX10_make_60 rfl ?_
            refine gx_iS dX10_make_61 ho224 hA (Or.inl (by decide)) (rg_in h1) hG (by decide) (show sg S = (sg S) from rfl) (fun S225 hG226 hA227 e228 => ?_)
            refine tt_aload_n (j := 1) dX10_make_62 rfl ?_
            have hr229 := rk_R (k := 644) hR h0 33 4940
            have ho230 := rk_O (k := 644) hG hR h0 33 4940
            refine gt_gR (id := 644) dX10_make_63 fl_10_16 rfl rfl h0 hA227 hr229 ?_
            refine tt_iload_n (j := 2) dX10_make_66 rfl ?_
            refine tt_lload_n (j := 4) dX10_make_67 rfl ?_
            refine gx_lS dX10_make_68 ho230 hA227 (rg_in h1) hG226 (Or.inl (by decide)) (Or.inl (by decide)) e228 (fun S231 hG232 hA233 e234 => ?_)
            refine tt_aload_n (j := 1) dX10_make_69 rfl ?_
            have hr235 := rk_R (k := 645) hR h0 33 4940
            have ho236 := rk_O (k := 645) hG hR h0 33 4940
            refine gt_gR (id := 645) dX10_make_70 fl_10_20 rfl rfl h0 hA233 hr235 ?_
            refine tt_iload_n (j := 2) dX10_make_73 rfl ?_
            refine tt_lload (j := 5) dX10_make_74 rfl ?_
            refine gx_lS dX10_make_76 ho236 hA233 (rg_in h1) hG232 (Or.inl (by decide)) (Or.inl (by decide)) e234 (fun S237 hG238 hA239 e240 => ?_)
            refine tt_aload_n (j := 1) dX10_make_77 rfl ?_
            have hr241 := rk_R (k := 646) hR h0 33 4940
            have ho242 := rk_O (k := 646) hG hR h0 33 4940
            refine gt_gR (id := 646) dX10_make_78 fl_10_23 rfl rfl h0 hA239 hr241 ?_
            refine tt_iload_n (j := 2) dX10_make_81 rfl ?_
            refine tt_lload_n (j := 4) dX10_make_82 rfl ?_
            refine tt_lload (j := 5) dX10_make_83 rfl ?_
            refine tt_lcmp dX10_make_85 ?_
            refine tt_if_ne (tgt := 93) dX10_make_86 rfl (fun q243 => ?_) (fun q243 => ?_)
            · skip
              refine tt_lload (j := 6) dX10_make_93 rfl ?_
              refine gx_lS dX10_make_95 ho242 hA239 (rg_in h1) hG238 (Or.inl (by decide)) (Or.inl (by decide)) e240 (fun S244 hG245 hA246 e247 => ?_)
              have hF : Z_X10_make R (sg S) o0 x1 x2 y3 y5 y7 = (uj (uj (uj (ui (sg S) (R 643 o0) (x1 : Int32).toNatClampNeg x2) (R 644 o0) (x1 : Int32).toNatClampNeg y3) (R 645 o0) (x1 : Int32).toNatClampNeg y5) (R 646 o0) (x1 : Int32).toNatClampNeg y7) := by
                exact zl_X10_make_9 q101 (Int64.not_lt.mpr (lc_lt_f q132)) (Int64.not_lt.mpr (lc_gt_f q162)) (Int64.not_lt.mpr (lc_lt_f q192)) (Int64.not_lt.mpr (lc_le_t q222)) (lc_ne_t q243)
              exact tt_vreturn dX10_make_96 rfl (hP _ _ _ _ ⟨hG245, hA246, Or.inl ⟨_, rfl, rfl, Eq.trans e247 hF.symm, rfl, rfl⟩⟩)
            · skip
              refine tt_lconst (v := 0) dX10_make_89 rfl ?_
              refine tt_goto (tgt := 95) dX10_make_90 rfl ?_
              refine gx_lS dX10_make_95 ho242 hA239 (rg_in h1) hG238 (Or.inl (by decide)) (Or.inl (by decide)) e240 (fun S248 hG249 hA250 e251 => ?_)
              have hF : Z_X10_make R (sg S) o0 x1 x2 y3 y5 y7 = (uj (uj (uj (ui (sg S) (R 643 o0) (x1 : Int32).toNatClampNeg x2) (R 644 o0) (x1 : Int32).toNatClampNeg y3) (R 645 o0) (x1 : Int32).toNatClampNeg y5) (R 646 o0) (x1 : Int32).toNatClampNeg 0) := by
                exact zl_X10_make_8 q101 (Int64.not_lt.mpr (lc_lt_f q132)) (Int64.not_lt.mpr (lc_gt_f q162)) (Int64.not_lt.mpr (lc_lt_f q192)) (Int64.not_lt.mpr (lc_le_t q222)) (lc_ne_f q243)
              exact tt_vreturn dX10_make_96 rfl (hP _ _ _ _ ⟨hG249, hA250, Or.inl ⟨_, rfl, rfl, Eq.trans e251 hF.symm, rfl, rfl⟩⟩)
          · skip
            refine tt_iconst (v := 1) dX10_make_39 rfl ?_
            refine tt_goto (tgt := 44) dX10_make_40 rfl ?_
            refine tt_istore (ks := [0, 1, 2, 3, 4, 5, 6]) (L' := [(9, .int 1), (0, .ref o0), (1, .int x1), (2, .int x2), (3, .long y3), (5, .long y5), (7, .long y7)]) dX10_make_44 (by decide) rfl ?_
            refine tt_aload_n (j := 1) dX10_make_46 rfl ?_
            have hr252 := rk_R (k := 643) hR h0 32 4940
            have ho253 := rk_O (k := 643) hG hR h0 32 4940
            refine gt_gR (id := 643) dX10_make_47 fl_10_13 rfl rfl h0 hA hr252 ?_
            refine tt_iload_n (j := 2) dX10_make_50 rfl ?_
            refine tt_iload (j := 0) dX10_make_51 rfl ?_
            refine tt_if_eq (tgt := 60) dX10_make_53 rfl (fun q => absurd q (by decide)) (fun _ => ?_)
            refine tt_iconst (v := 2) dX10_make_56 rfl ?_
            refine tt_goto (tgt := 61) dX10_make_57 rfl ?_
            refine gx_iS dX10_make_61 ho253 hA (Or.inl (by decide)) (rg_in h1) hG (by decide) (show sg S = (sg S) from rfl) (fun S254 hG255 hA256 e257 => ?_)
            refine tt_aload_n (j := 1) dX10_make_62 rfl ?_
            have hr258 := rk_R (k := 644) hR h0 33 4940
            have ho259 := rk_O (k := 644) hG hR h0 33 4940
            refine gt_gR (id := 644) dX10_make_63 fl_10_16 rfl rfl h0 hA256 hr258 ?_
            refine tt_iload_n (j := 2) dX10_make_66 rfl ?_
            refine tt_lload_n (j := 4) dX10_make_67 rfl ?_
            refine gx_lS dX10_make_68 ho259 hA256 (rg_in h1) hG255 (Or.inl (by decide)) (Or.inl (by decide)) e257 (fun S260 hG261 hA262 e263 => ?_)
            refine tt_aload_n (j := 1) dX10_make_69 rfl ?_
            have hr264 := rk_R (k := 645) hR h0 33 4940
            have ho265 := rk_O (k := 645) hG hR h0 33 4940
            refine gt_gR (id := 645) dX10_make_70 fl_10_20 rfl rfl h0 hA262 hr264 ?_
            refine tt_iload_n (j := 2) dX10_make_73 rfl ?_
            refine tt_lload (j := 5) dX10_make_74 rfl ?_
            refine gx_lS dX10_make_76 ho265 hA262 (rg_in h1) hG261 (Or.inl (by decide)) (Or.inl (by decide)) e263 (fun S266 hG267 hA268 e269 => ?_)
            refine tt_aload_n (j := 1) dX10_make_77 rfl ?_
            have hr270 := rk_R (k := 646) hR h0 33 4940
            have ho271 := rk_O (k := 646) hG hR h0 33 4940
            refine gt_gR (id := 646) dX10_make_78 fl_10_23 rfl rfl h0 hA268 hr270 ?_
            refine tt_iload_n (j := 2) dX10_make_81 rfl ?_
            refine tt_lload_n (j := 4) dX10_make_82 rfl ?_
            refine tt_lload (j := 5) dX10_make_83 rfl ?_
            refine tt_lcmp dX10_make_85 ?_
            refine tt_if_ne (tgt := 93) dX10_make_86 rfl (fun q272 => ?_) (fun q272 => ?_)
            · skip
              refine tt_lload (j := 6) dX10_make_93 rfl ?_
              refine gx_lS dX10_make_95 ho271 hA268 (rg_in h1) hG267 (Or.inl (by decide)) (Or.inl (by decide)) e269 (fun S273 hG274 hA275 e276 => ?_)
              have hF : Z_X10_make R (sg S) o0 x1 x2 y3 y5 y7 = (uj (uj (uj (ui (sg S) (R 643 o0) (x1 : Int32).toNatClampNeg 2) (R 644 o0) (x1 : Int32).toNatClampNeg y3) (R 645 o0) (x1 : Int32).toNatClampNeg y5) (R 646 o0) (x1 : Int32).toNatClampNeg y7) := by
                exact zl_X10_make_7 q101 (Int64.not_lt.mpr (lc_lt_f q132)) (Int64.not_lt.mpr (lc_gt_f q162)) (Int64.not_lt.mpr (lc_lt_f q192)) (lc_le_f q222) (lc_ne_t q272)
              exact tt_vreturn dX10_make_96 rfl (hP _ _ _ _ ⟨hG274, hA275, Or.inl ⟨_, rfl, rfl, Eq.trans e276 hF.symm, rfl, rfl⟩⟩)
            · skip
              refine tt_lconst (v := 0) dX10_make_89 rfl ?_
              refine tt_goto (tgt := 95) dX10_make_90 rfl ?_
              refine gx_lS dX10_make_95 ho271 hA268 (rg_in h1) hG267 (Or.inl (by decide)) (Or.inl (by decide)) e269 (fun S277 hG278 hA279 e280 => ?_)
              have hF : Z_X10_make R (sg S) o0 x1 x2 y3 y5 y7 = (uj (uj (uj (ui (sg S) (R 643 o0) (x1 : Int32).toNatClampNeg 2) (R 644 o0) (x1 : Int32).toNatClampNeg y3) (R 645 o0) (x1 : Int32).toNatClampNeg y5) (R 646 o0) (x1 : Int32).toNatClampNeg 0) := by
                exact zl_X10_make_6 q101 (Int64.not_lt.mpr (lc_lt_f q132)) (Int64.not_lt.mpr (lc_gt_f q162)) (Int64.not_lt.mpr (lc_lt_f q192)) (lc_le_f q222) (lc_ne_f q272)
              exact tt_vreturn dX10_make_96 rfl (hP _ _ _ _ ⟨hG278, hA279, Or.inl ⟨_, rfl, rfl, Eq.trans e280 hF.symm, rfl, rfl⟩⟩)
def Z_X10_copy (R : Nat → Nat → Nat) (σ : SG) (o0 : Nat) (x1 : Int32) (x2 : Int32) : SG :=
  (uj (uj (uj (ui σ (R 643 o0) (x1 : Int32).toNatClampNeg (mi σ (R 643 o0) (x2 : Int32).toNatClampNeg)) (R 644 o0) (x1 : Int32).toNatClampNeg (mj (ui σ (R 643 o0) (x1 : Int32).toNatClampNeg (mi σ (R 643 o0) (x2 : Int32).toNatClampNeg)) (R 644 o0) (x2 : Int32).toNatClampNeg)) (R 645 o0) (x1 : Int32).toNatClampNeg (mj (uj (ui σ (R 643 o0) (x1 : Int32).toNatClampNeg (mi σ (R 643 o0) (x2 : Int32).toNatClampNeg)) (R 644 o0) (x1 : Int32).toNatClampNeg (mj (ui σ (R 643 o0) (x1 : Int32).toNatClampNeg (mi σ (R 643 o0) (x2 : Int32).toNatClampNeg)) (R 644 o0) (x2 : Int32).toNatClampNeg)) (R 645 o0) (x2 : Int32).toNatClampNeg)) (R 646 o0) (x1 : Int32).toNatClampNeg (mj (uj (uj (ui σ (R 643 o0) (x1 : Int32).toNatClampNeg (mi σ (R 643 o0) (x2 : Int32).toNatClampNeg)) (R 644 o0) (x1 : Int32).toNatClampNeg (mj (ui σ (R 643 o0) (x1 : Int32).toNatClampNeg (mi σ (R 643 o0) (x2 : Int32).toNatClampNeg)) (R 644 o0) (x2 : Int32).toNatClampNeg)) (R 645 o0) (x1 : Int32).toNatClampNeg (mj (uj (ui σ (R 643 o0) (x1 : Int32).toNatClampNeg (mi σ (R 643 o0) (x2 : Int32).toNatClampNeg)) (R 644 o0) (x1 : Int32).toNatClampNeg (mj (ui σ (R 643 o0) (x1 : Int32).toNatClampNeg (mi σ (R 643 o0) (x2 : Int32).toNatClampNeg)) (R 644 o0) (x2 : Int32).toNatClampNeg)) (R 645 o0) (x2 : Int32).toNatClampNeg)) (R 646 o0) (x2 : Int32).toNatClampNeg))
theorem zl_X10_copy_0 {R : Nat → Nat → Nat} {σ : SG} {o0 : Nat} {x1 : Int32} {x2 : Int32}  : Z_X10_copy R σ o0 x1 x2 = (uj (uj (uj (ui σ (R 643 o0) (x1 : Int32).toNatClampNeg (mi σ (R 643 o0) (x2 : Int32).toNatClampNeg)) (R 644 o0) (x1 : Int32).toNatClampNeg (mj (ui σ (R 643 o0) (x1 : Int32).toNatClampNeg (mi σ (R 643 o0) (x2 : Int32).toNatClampNeg)) (R 644 o0) (x2 : Int32).toNatClampNeg)) (R 645 o0) (x1 : Int32).toNatClampNeg (mj (uj (ui σ (R 643 o0) (x1 : Int32).toNatClampNeg (mi σ (R 643 o0) (x2 : Int32).toNatClampNeg)) (R 644 o0) (x1 : Int32).toNatClampNeg (mj (ui σ (R 643 o0) (x1 : Int32).toNatClampNeg (mi σ (R 643 o0) (x2 : Int32).toNatClampNeg)) (R 644 o0) (x2 : Int32).toNatClampNeg)) (R 645 o0) (x2 : Int32).toNatClampNeg)) (R 646 o0) (x1 : Int32).toNatClampNeg (mj (uj (uj (ui σ (R 643 o0) (x1 : Int32).toNatClampNeg (mi σ (R 643 o0) (x2 : Int32).toNatClampNeg)) (R 644 o0) (x1 : Int32).toNatClampNeg (mj (ui σ (R 643 o0) (x1 : Int32).toNatClampNeg (mi σ (R 643 o0) (x2 : Int32).toNatClampNeg)) (R 644 o0) (x2 : Int32).toNatClampNeg)) (R 645 o0) (x1 : Int32).toNatClampNeg (mj (uj (ui σ (R 643 o0) (x1 : Int32).toNatClampNeg (mi σ (R 643 o0) (x2 : Int32).toNatClampNeg)) (R 644 o0) (x1 : Int32).toNatClampNeg (mj (ui σ (R 643 o0) (x1 : Int32).toNatClampNeg (mi σ (R 643 o0) (x2 : Int32).toNatClampNeg)) (R 644 o0) (x2 : Int32).toNatClampNeg)) (R 645 o0) (x2 : Int32).toNatClampNeg)) (R 646 o0) (x2 : Int32).toNatClampNeg)) := rfl
set_option maxHeartbeats 40000000 in
theorem cz_X10_copy {xi : SX} {S : Hp} {E : List Nat} {kc nc : Nat} {P : Po} {o0 : Nat} {x1 : Int32} {x2 : Int32} {R : Nat → Nat → Nat} (hG : GI S E) (h0 : Oa S E 10 0 o0) (h1 : Rg 0 4939 x1) (h2 : Rg 0 4939 x2) (hR : RK S R) (hP : ∀ r T x y, PV E [9989] S kc nc rV (fun v T => sg T = Z_X10_copy R (sg S) o0 x1 x2) [] r T x y → P r T x y) : TT xi M_X10_copy 0 [(0, .ref o0), (1, .int x1), (2, .int x2)] [] S kc nc P := by
  have hA : Af E [9989] S S := af_rf
  refine tt_aload_n (j := 0) dX10_copy_0 rfl ?_
  have hr101 := rk_R (k := 643) hR h0 32 4940
  have ho102 := rk_O (k := 643) hG hR h0 32 4940
  refine gt_gR (id := 643) dX10_copy_1 fl_10_13 rfl rfl h0 hA hr101 ?_
  refine tt_iload_n (j := 1) dX10_copy_4 rfl ?_
  refine tt_aload_n (j := 0) dX10_copy_5 rfl ?_
  refine gt_gR (id := 643) dX10_copy_6 fl_10_13 rfl rfl h0 hA hr101 ?_
  refine tt_iload_n (j := 2) dX10_copy_9 rfl ?_
  refine gx_iL (v := (mi (sg S) (R 643 o0) (x2 : Int32).toNatClampNeg)) dX10_copy_10 ho102 hA (rg_in h2) (sg_i (a := (R 643 o0)) (i := (x2 : Int32).toNatClampNeg) (show sg S = (sg S) from rfl)) ?_
  refine gx_iS dX10_copy_11 ho102 hA (Or.inl (by decide)) (rg_in h1) hG (by decide) (show sg S = (sg S) from rfl) (fun S103 hG104 hA105 e106 => ?_)
  refine tt_aload_n (j := 0) dX10_copy_12 rfl ?_
  have hr107 := rk_R (k := 644) hR h0 33 4940
  have ho108 := rk_O (k := 644) hG hR h0 33 4940
  refine gt_gR (id := 644) dX10_copy_13 fl_10_16 rfl rfl h0 hA105 hr107 ?_
  refine tt_iload_n (j := 1) dX10_copy_16 rfl ?_
  refine tt_aload_n (j := 0) dX10_copy_17 rfl ?_
  refine gt_gR (id := 644) dX10_copy_18 fl_10_16 rfl rfl h0 hA105 hr107 ?_
  refine tt_iload_n (j := 2) dX10_copy_21 rfl ?_
  refine gt_lLv (v := (mj (ui (sg S) (R 643 o0) (x1 : Int32).toNatClampNeg (mi (sg S) (R 643 o0) (x2 : Int32).toNatClampNeg)) (R 644 o0) (x2 : Int32).toNatClampNeg)) dX10_copy_22 ho108 hA105 (rg_in h2) (sg_j (a := (R 644 o0)) (i := (x2 : Int32).toNatClampNeg) e106) ?_
  refine gx_lS dX10_copy_23 ho108 hA105 (rg_in h1) hG104 (Or.inl (by decide)) (Or.inl (by decide)) e106 (fun S109 hG110 hA111 e112 => ?_)
  refine tt_aload_n (j := 0) dX10_copy_24 rfl ?_
  have hr113 := rk_R (k := 645) hR h0 33 4940
  have ho114 := rk_O (k := 645) hG hR h0 33 4940
  refine gt_gR (id := 645) dX10_copy_25 fl_10_20 rfl rfl h0 hA111 hr113 ?_
  refine tt_iload_n (j := 1) dX10_copy_28 rfl ?_
  refine tt_aload_n (j := 0) dX10_copy_29 rfl ?_
  refine gt_gR (id := 645) dX10_copy_30 fl_10_20 rfl rfl h0 hA111 hr113 ?_
  refine tt_iload_n (j := 2) dX10_copy_33 rfl ?_
  refine gt_lLv (v := (mj (uj (ui (sg S) (R 643 o0) (x1 : Int32).toNatClampNeg (mi (sg S) (R 643 o0) (x2 : Int32).toNatClampNeg)) (R 644 o0) (x1 : Int32).toNatClampNeg (mj (ui (sg S) (R 643 o0) (x1 : Int32).toNatClampNeg (mi (sg S) (R 643 o0) (x2 : Int32).toNatClampNeg)) (R 644 o0) (x2 : Int32).toNatClampNeg)) (R 645 o0) (x2 : Int32).toNatClampNeg)) dX10_copy_34 ho114 hA111 (rg_in h2) (sg_j (a := (R 645 o0)) (i := (x2 : Int32).toNatClampNeg) e112) ?_
  refine gx_lS dX10_copy_35 ho114 hA111 (rg_in h1) hG110 (Or.inl (by decide)) (Or.inl (by decide)) e112 (fun S115 hG116 hA117 e118 => ?_)
  refine tt_aload_n (j := 0) dX10_copy_36 rfl ?_
  have hr119 := rk_R (k := 646) hR h0 33 4940
  have ho120 := rk_O (k := 646) hG hR h0 33 4940
  refine gt_gR (id := 646) dX10_copy_37 fl_10_23 rfl rfl h0 hA117 hr119 ?_
  refine tt_iload_n (j := 1) dX10_copy_40 rfl ?_
  refine tt_aload_n (j := 0) dX10_copy_41 rfl ?_
  refine gt_gR (id := 646) dX10_copy_42 fl_10_23 rfl rfl h0 hA117 hr119 ?_
  refine tt_iload_n (j := 2) dX10_copy_45 rfl ?_
  refine gt_lLv (v := (mj (uj (uj (ui (sg S) (R 643 o0) (x1 : Int32).toNatClampNeg (mi (sg S) (R 643 o0) (x2 : Int32).toNatClampNeg)) (R 644 o0) (x1 : Int32).toNatClampNeg (mj (ui (sg S) (R 643 o0) (x1 : Int32).toNatClampNeg (mi (sg S) (R 643 o0) (x2 : Int32).toNatClampNeg)) (R 644 o0) (x2 : Int32).toNatClampNeg)) (R 645 o0) (x1 : Int32).toNatClampNeg (mj (uj (ui (sg S) (R 643 o0) (x1 : Int32).toNatClampNeg (mi (sg S) (R 643 o0) (x2 : Int32).toNatClampNeg)) (R 644 o0) (x1 : Int32).toNatClampNeg (mj (ui (sg S) (R 643 o0) (x1 : Int32).toNatClampNeg (mi (sg S) (R 643 o0) (x2 : Int32).toNatClampNeg)) (R 644 o0) (x2 : Int32).toNatClampNeg)) (R 645 o0) (x2 : Int32).toNatClampNeg)) (R 646 o0) (x2 : Int32).toNatClampNeg)) dX10_copy_46 ho120 hA117 (rg_in h2) (sg_j (a := (R 646 o0)) (i := (x2 : Int32).toNatClampNeg) e118) ?_
  refine gx_lS dX10_copy_47 ho120 hA117 (rg_in h1) hG116 (Or.inl (by decide)) (Or.inl (by decide)) e118 (fun S121 hG122 hA123 e124 => ?_)
  have hF : Z_X10_copy R (sg S) o0 x1 x2 = (uj (uj (uj (ui (sg S) (R 643 o0) (x1 : Int32).toNatClampNeg (mi (sg S) (R 643 o0) (x2 : Int32).toNatClampNeg)) (R 644 o0) (x1 : Int32).toNatClampNeg (mj (ui (sg S) (R 643 o0) (x1 : Int32).toNatClampNeg (mi (sg S) (R 643 o0) (x2 : Int32).toNatClampNeg)) (R 644 o0) (x2 : Int32).toNatClampNeg)) (R 645 o0) (x1 : Int32).toNatClampNeg (mj (uj (ui (sg S) (R 643 o0) (x1 : Int32).toNatClampNeg (mi (sg S) (R 643 o0) (x2 : Int32).toNatClampNeg)) (R 644 o0) (x1 : Int32).toNatClampNeg (mj (ui (sg S) (R 643 o0) (x1 : Int32).toNatClampNeg (mi (sg S) (R 643 o0) (x2 : Int32).toNatClampNeg)) (R 644 o0) (x2 : Int32).toNatClampNeg)) (R 645 o0) (x2 : Int32).toNatClampNeg)) (R 646 o0) (x1 : Int32).toNatClampNeg (mj (uj (uj (ui (sg S) (R 643 o0) (x1 : Int32).toNatClampNeg (mi (sg S) (R 643 o0) (x2 : Int32).toNatClampNeg)) (R 644 o0) (x1 : Int32).toNatClampNeg (mj (ui (sg S) (R 643 o0) (x1 : Int32).toNatClampNeg (mi (sg S) (R 643 o0) (x2 : Int32).toNatClampNeg)) (R 644 o0) (x2 : Int32).toNatClampNeg)) (R 645 o0) (x1 : Int32).toNatClampNeg (mj (uj (ui (sg S) (R 643 o0) (x1 : Int32).toNatClampNeg (mi (sg S) (R 643 o0) (x2 : Int32).toNatClampNeg)) (R 644 o0) (x1 : Int32).toNatClampNeg (mj (ui (sg S) (R 643 o0) (x1 : Int32).toNatClampNeg (mi (sg S) (R 643 o0) (x2 : Int32).toNatClampNeg)) (R 644 o0) (x2 : Int32).toNatClampNeg)) (R 645 o0) (x2 : Int32).toNatClampNeg)) (R 646 o0) (x2 : Int32).toNatClampNeg)) := by
    rfl
  exact tt_vreturn dX10_copy_48 rfl (hP _ _ _ _ ⟨hG122, hA123, Or.inl ⟨_, rfl, rfl, Eq.trans e124 hF.symm, rfl, rfl⟩⟩)
def Z_X10_isSame (R : Nat → Nat → Nat) (σ : SG) (o0 : Nat) (x1 : Int32) (x2 : Int32) : Int32 :=
  if (mi σ (R 643 o0) (x1 : Int32).toNatClampNeg) = (mi σ (R 643 o0) (x2 : Int32).toNatClampNeg) then
    if (mi σ (R 643 o0) (x1 : Int32).toNatClampNeg) = 1 then
      if (mj σ (R 644 o0) (x1 : Int32).toNatClampNeg) = (mj σ (R 644 o0) (x2 : Int32).toNatClampNeg) then
        if (mj σ (R 645 o0) (x1 : Int32).toNatClampNeg) = (mj σ (R 645 o0) (x2 : Int32).toNatClampNeg) then
          if (mj σ (R 646 o0) (x1 : Int32).toNatClampNeg) = (mj σ (R 646 o0) (x2 : Int32).toNatClampNeg) then
            1
          else
            0
        else
          0
      else
        0
    else
      1
  else
    0
theorem zl_X10_isSame_0 {R : Nat → Nat → Nat} {σ : SG} {o0 : Nat} {x1 : Int32} {x2 : Int32} (h0 : (mi σ (R 643 o0) (x1 : Int32).toNatClampNeg) = (mi σ (R 643 o0) (x2 : Int32).toNatClampNeg)) (h1 : (mi σ (R 643 o0) (x1 : Int32).toNatClampNeg) = 1) (h2 : (mj σ (R 644 o0) (x1 : Int32).toNatClampNeg) = (mj σ (R 644 o0) (x2 : Int32).toNatClampNeg)) (h3 : (mj σ (R 645 o0) (x1 : Int32).toNatClampNeg) = (mj σ (R 645 o0) (x2 : Int32).toNatClampNeg)) (h4 : (mj σ (R 646 o0) (x1 : Int32).toNatClampNeg) = (mj σ (R 646 o0) (x2 : Int32).toNatClampNeg)) : Z_X10_isSame R σ o0 x1 x2 = 1 := by unfold Z_X10_isSame; exact Eq.trans (if_pos h0) (Eq.trans (if_pos h1) (Eq.trans (if_pos h2) (Eq.trans (if_pos h3) (if_pos h4))))
theorem zl_X10_isSame_1 {R : Nat → Nat → Nat} {σ : SG} {o0 : Nat} {x1 : Int32} {x2 : Int32} (h0 : (mi σ (R 643 o0) (x1 : Int32).toNatClampNeg) = (mi σ (R 643 o0) (x2 : Int32).toNatClampNeg)) (h1 : (mi σ (R 643 o0) (x1 : Int32).toNatClampNeg) = 1) (h2 : (mj σ (R 644 o0) (x1 : Int32).toNatClampNeg) = (mj σ (R 644 o0) (x2 : Int32).toNatClampNeg)) (h3 : (mj σ (R 645 o0) (x1 : Int32).toNatClampNeg) = (mj σ (R 645 o0) (x2 : Int32).toNatClampNeg)) (h4 : ¬ (mj σ (R 646 o0) (x1 : Int32).toNatClampNeg) = (mj σ (R 646 o0) (x2 : Int32).toNatClampNeg)) : Z_X10_isSame R σ o0 x1 x2 = 0 := by unfold Z_X10_isSame; exact Eq.trans (if_pos h0) (Eq.trans (if_pos h1) (Eq.trans (if_pos h2) (Eq.trans (if_pos h3) (if_neg h4))))
theorem zl_X10_isSame_2 {R : Nat → Nat → Nat} {σ : SG} {o0 : Nat} {x1 : Int32} {x2 : Int32} (h0 : (mi σ (R 643 o0) (x1 : Int32).toNatClampNeg) = (mi σ (R 643 o0) (x2 : Int32).toNatClampNeg)) (h1 : (mi σ (R 643 o0) (x1 : Int32).toNatClampNeg) = 1) (h2 : (mj σ (R 644 o0) (x1 : Int32).toNatClampNeg) = (mj σ (R 644 o0) (x2 : Int32).toNatClampNeg)) (h3 : ¬ (mj σ (R 645 o0) (x1 : Int32).toNatClampNeg) = (mj σ (R 645 o0) (x2 : Int32).toNatClampNeg)) : Z_X10_isSame R σ o0 x1 x2 = 0 := by unfold Z_X10_isSame; exact Eq.trans (if_pos h0) (Eq.trans (if_pos h1) (Eq.trans (if_pos h2) (if_neg h3)))
theorem zl_X10_isSame_3 {R : Nat → Nat → Nat} {σ : SG} {o0 : Nat} {x1 : Int32} {x2 : Int32} (h0 : (mi σ (R 643 o0) (x1 : Int32).toNatClampNeg) = (mi σ (R 643 o0) (x2 : Int32).toNatClampNeg)) (h1 : (mi σ (R 643 o0) (x1 : Int32).toNatClampNeg) = 1) (h2 : ¬ (mj σ (R 644 o0) (x1 : Int32).toNatClampNeg) = (mj σ (R 644 o0) (x2 : Int32).toNatClampNeg)) : Z_X10_isSame R σ o0 x1 x2 = 0 := by unfold Z_X10_isSame; exact Eq.trans (if_pos h0) (Eq.trans (if_pos h1) (if_neg h2))
theorem zl_X10_isSame_4 {R : Nat → Nat → Nat} {σ : SG} {o0 : Nat} {x1 : Int32} {x2 : Int32} (h0 : (mi σ (R 643 o0) (x1 : Int32).toNatClampNeg) = (mi σ (R 643 o0) (x2 : Int32).toNatClampNeg)) (h1 : ¬ (mi σ (R 643 o0) (x1 : Int32).toNatClampNeg) = 1) : Z_X10_isSame R σ o0 x1 x2 = 1 := by unfold Z_X10_isSame; exact Eq.trans (if_pos h0) (if_neg h1)
theorem zl_X10_isSame_5 {R : Nat → Nat → Nat} {σ : SG} {o0 : Nat} {x1 : Int32} {x2 : Int32} (h0 : ¬ (mi σ (R 643 o0) (x1 : Int32).toNatClampNeg) = (mi σ (R 643 o0) (x2 : Int32).toNatClampNeg)) : Z_X10_isSame R σ o0 x1 x2 = 0 := by unfold Z_X10_isSame; exact if_neg h0
set_option maxHeartbeats 40000000 in
theorem cz_X10_isSame {xi : SX} {S : Hp} {E : List Nat} {kc nc : Nat} {P : Po} {o0 : Nat} {x1 : Int32} {x2 : Int32} {R : Nat → Nat → Nat} (hG : GI S E) (h0 : Oa S E 10 0 o0) (h1 : Rg 0 4939 x1) (h2 : Rg 0 4939 x2) (hR : RK S R) (hP : ∀ r T x y, PV E [] S kc nc (rI 0 1) (fun v T => T = S ∧ v = some (.int (Z_X10_isSame R (sg S) o0 x1 x2))) [] r T x y → P r T x y) : TT xi M_X10_isSame 0 [(0, .ref o0), (1, .int x1), (2, .int x2)] [] S kc nc P := by
  have hA : Af E [] S S := af_rf
  refine tt_aload_n (j := 0) dX10_isSame_0 rfl ?_
  have hr101 := rk_R (k := 643) hR h0 32 4940
  have ho102 := rk_O (k := 643) hG hR h0 32 4940
  refine gt_gR (id := 643) dX10_isSame_1 fl_10_13 rfl rfl h0 hA hr101 ?_
  refine tt_iload_n (j := 1) dX10_isSame_4 rfl ?_
  refine gx_iL (v := (mi (sg S) (R 643 o0) (x1 : Int32).toNatClampNeg)) dX10_isSame_5 ho102 hA (rg_in h1) (sg_i (a := (R 643 o0)) (i := (x1 : Int32).toNatClampNeg) (show sg S = (sg S) from rfl)) ?_
  refine tt_aload_n (j := 0) dX10_isSame_6 rfl ?_
  refine gt_gR (id := 643) dX10_isSame_7 fl_10_13 rfl rfl h0 hA hr101 ?_
  refine tt_iload_n (j := 2) dX10_isSame_10 rfl ?_
  refine gx_iL (v := (mi (sg S) (R 643 o0) (x2 : Int32).toNatClampNeg)) dX10_isSame_11 ho102 hA (rg_in h2) (sg_i (a := (R 643 o0)) (i := (x2 : Int32).toNatClampNeg) (show sg S = (sg S) from rfl)) ?_
  refine tt_icmp_ne (tgt := 77) dX10_isSame_12 rfl (fun q103 => ?_) (fun q103 => ?_)
  · skip
    refine tt_iconst (v := 0) dX10_isSame_77 rfl ?_
    have hF : Z_X10_isSame R (sg S) o0 x1 x2 = 0 := by
      exact zl_X10_isSame_5 q103
    exact tt_ireturn dX10_isSame_78 .boolean rfl rfl (hP _ _ _ _ ⟨hG, hA, Or.inl ⟨_, rfl, ⟨_, rfl, rg_w (⟨by decide, by decide⟩ : Rg 0 0 0)⟩, ⟨rfl, congrArg (fun q => some (Value.int q)) hF.symm⟩, rfl, rfl⟩⟩)
  · skip
    refine tt_aload_n (j := 0) dX10_isSame_15 rfl ?_
    refine gt_gR (id := 643) dX10_isSame_16 fl_10_13 rfl rfl h0 hA hr101 ?_
    refine tt_iload_n (j := 1) dX10_isSame_19 rfl ?_
    refine gx_iL (v := (mi (sg S) (R 643 o0) (x1 : Int32).toNatClampNeg)) dX10_isSame_20 ho102 hA (rg_in h1) (sg_i (a := (R 643 o0)) (i := (x1 : Int32).toNatClampNeg) (show sg S = (sg S) from rfl)) ?_
    refine tt_iconst (v := 1) dX10_isSame_21 rfl ?_
    refine tt_icmp_ne (tgt := 73) dX10_isSame_22 rfl (fun q104 => ?_) (fun q104 => ?_)
    · skip
      refine tt_iconst (v := 1) dX10_isSame_73 rfl ?_
      refine tt_goto (tgt := 78) dX10_isSame_74 rfl ?_
      have hF : Z_X10_isSame R (sg S) o0 x1 x2 = 1 := by
        exact zl_X10_isSame_4 q103 q104
      exact tt_ireturn dX10_isSame_78 .boolean rfl rfl (hP _ _ _ _ ⟨hG, hA, Or.inl ⟨_, rfl, ⟨_, rfl, rg_w (⟨by decide, by decide⟩ : Rg 1 1 1)⟩, ⟨rfl, congrArg (fun q => some (Value.int q)) hF.symm⟩, rfl, rfl⟩⟩)
    · skip
      have h105 : Rg 1 1 (mi (sg S) (R 643 o0) (x1 : Int32).toNatClampNeg) := rg_eq_l (rg_all (mi (sg S) (R 643 o0) (x1 : Int32).toNatClampNeg)) (⟨by decide, by decide⟩ : Rg 1 1 1) q104
      refine tt_aload_n (j := 0) dX10_isSame_25 rfl ?_
      have hr106 := rk_R (k := 644) hR h0 33 4940
      have ho107 := rk_O (k := 644) hG hR h0 33 4940
      refine gt_gR (id := 644) dX10_isSame_26 fl_10_16 rfl rfl h0 hA hr106 ?_
      refine tt_iload_n (j := 1) dX10_isSame_29 rfl ?_
      refine gt_lLv (v := (mj (sg S) (R 644 o0) (x1 : Int32).toNatClampNeg)) dX10_isSame_30 ho107 hA (rg_in h1) (sg_j (a := (R 644 o0)) (i := (x1 : Int32).toNatClampNeg) (show sg S = (sg S) from rfl)) ?_
      refine tt_aload_n (j := 0) dX10_isSame_31 rfl ?_
      refine gt_gR (id := 644) dX10_isSame_32 fl_10_16 rfl rfl h0 hA hr106 ?_
      refine tt_iload_n (j := 2) dX10_isSame_35 rfl ?_
      refine gt_lLv (v := (mj (sg S) (R 644 o0) (x2 : Int32).toNatClampNeg)) dX10_isSame_36 ho107 hA (rg_in h2) (sg_j (a := (R 644 o0)) (i := (x2 : Int32).toNatClampNeg) (show sg S = (sg S) from rfl)) ?_
      refine tt_lcmp dX10_isSame_37 ?_
      refine tt_if_ne (tgt := 77) dX10_isSame_38 rfl (fun q108 => ?_) (fun q108 => ?_)
      · skip
        refine tt_iconst (v := 0) dX10_isSame_77 rfl ?_
        have hF : Z_X10_isSame R (sg S) o0 x1 x2 = 0 := by
          exact zl_X10_isSame_3 q103 q104 (lc_ne_t q108)
        exact tt_ireturn dX10_isSame_78 .boolean rfl rfl (hP _ _ _ _ ⟨hG, hA, Or.inl ⟨_, rfl, ⟨_, rfl, rg_w (⟨by decide, by decide⟩ : Rg 0 0 0)⟩, ⟨rfl, congrArg (fun q => some (Value.int q)) hF.symm⟩, rfl, rfl⟩⟩)
      · skip
        refine tt_aload_n (j := 0) dX10_isSame_41 rfl ?_
        have hr109 := rk_R (k := 645) hR h0 33 4940
        have ho110 := rk_O (k := 645) hG hR h0 33 4940
        refine gt_gR (id := 645) dX10_isSame_42 fl_10_20 rfl rfl h0 hA hr109 ?_
        refine tt_iload_n (j := 1) dX10_isSame_45 rfl ?_
        refine gt_lLv (v := (mj (sg S) (R 645 o0) (x1 : Int32).toNatClampNeg)) dX10_isSame_46 ho110 hA (rg_in h1) (sg_j (a := (R 645 o0)) (i := (x1 : Int32).toNatClampNeg) (show sg S = (sg S) from rfl)) ?_
        refine tt_aload_n (j := 0) dX10_isSame_47 rfl ?_
        refine gt_gR (id := 645) dX10_isSame_48 fl_10_20 rfl rfl h0 hA hr109 ?_
        refine tt_iload_n (j := 2) dX10_isSame_51 rfl ?_
        refine gt_lLv (v := (mj (sg S) (R 645 o0) (x2 : Int32).toNatClampNeg)) dX10_isSame_52 ho110 hA (rg_in h2) (sg_j (a := (R 645 o0)) (i := (x2 : Int32).toNatClampNeg) (show sg S = (sg S) from rfl)) ?_
        refine tt_lcmp dX10_isSame_53 ?_
        refine tt_if_ne (tgt := 77) dX10_isSame_54 rfl (fun q111 => ?_) (fun q111 => ?_)
        · skip
          refine tt_iconst (v := 0) dX10_isSame_77 rfl ?_
          have hF : Z_X10_isSame R (sg S) o0 x1 x2 = 0 := by
            exact zl_X10_isSame_2 q103 q104 (lc_ne_f q108) (lc_ne_t q111)
          exact tt_ireturn dX10_isSame_78 .boolean rfl rfl (hP _ _ _ _ ⟨hG, hA, Or.inl ⟨_, rfl, ⟨_, rfl, rg_w (⟨by decide, by decide⟩ : Rg 0 0 0)⟩, ⟨rfl, congrArg (fun q => some (Value.int q)) hF.symm⟩, rfl, rfl⟩⟩)
        · skip
          refine tt_aload_n (j := 0) dX10_isSame_57 rfl ?_
          have hr112 := rk_R (k := 646) hR h0 33 4940
          have ho113 := rk_O (k := 646) hG hR h0 33 4940
          refine gt_gR (id := 646) dX10_isSame_58 fl_10_23 rfl rfl h0 hA hr112 ?_
          refine tt_iload_n (j := 1) dX10_isSame_61 rfl ?_
          refine gt_lLv (v := (mj (sg S) (R 646 o0) (x1 : Int32).toNatClampNeg)) dX10_isSame_62 ho113 hA (rg_in h1) (sg_j (a := (R 646 o0)) (i := (x1 : Int32).toNatClampNeg) (show sg S = (sg S) from rfl)) ?_
          refine tt_aload_n (j := 0) dX10_isSame_63 rfl ?_
          refine gt_gR (id := 646) dX10_isSame_64 fl_10_23 rfl rfl h0 hA hr112 ?_
          refine tt_iload_n (j := 2) dX10_isSame_67 rfl ?_
          refine gt_lLv (v := (mj (sg S) (R 646 o0) (x2 : Int32).toNatClampNeg)) dX10_isSame_68 ho113 hA (rg_in h2) (sg_j (a := (R 646 o0)) (i := (x2 : Int32).toNatClampNeg) (show sg S = (sg S) from rfl)) ?_
          refine tt_lcmp dX10_isSame_69 ?_
          refine tt_if_ne (tgt := 77) dX10_isSame_70 rfl (fun q114 => ?_) (fun q114 => ?_)
          · skip
            refine tt_iconst (v := 0) dX10_isSame_77 rfl ?_
            have hF : Z_X10_isSame R (sg S) o0 x1 x2 = 0 := by
              exact zl_X10_isSame_1 q103 q104 (lc_ne_f q108) (lc_ne_f q111) (lc_ne_t q114)
            exact tt_ireturn dX10_isSame_78 .boolean rfl rfl (hP _ _ _ _ ⟨hG, hA, Or.inl ⟨_, rfl, ⟨_, rfl, rg_w (⟨by decide, by decide⟩ : Rg 0 0 0)⟩, ⟨rfl, congrArg (fun q => some (Value.int q)) hF.symm⟩, rfl, rfl⟩⟩)
          · skip
            refine tt_iconst (v := 1) dX10_isSame_73 rfl ?_
            refine tt_goto (tgt := 78) dX10_isSame_74 rfl ?_
            have hF : Z_X10_isSame R (sg S) o0 x1 x2 = 1 := by
              exact zl_X10_isSame_0 q103 q104 (lc_ne_f q108) (lc_ne_f q111) (lc_ne_f q114)
            exact tt_ireturn dX10_isSame_78 .boolean rfl rfl (hP _ _ _ _ ⟨hG, hA, Or.inl ⟨_, rfl, ⟨_, rfl, rg_w (⟨by decide, by decide⟩ : Rg 1 1 1)⟩, ⟨rfl, congrArg (fun q => some (Value.int q)) hF.symm⟩, rfl, rfl⟩⟩)
def Z_X10_isOne (R : Nat → Nat → Nat) (σ : SG) (o0 : Nat) (x1 : Int32) : Int32 :=
  if (mi σ (R 643 o0) (x1 : Int32).toNatClampNeg) = 1 then
    if (mj σ (R 644 o0) (x1 : Int32).toNatClampNeg) = (mj σ (R 645 o0) (x1 : Int32).toNatClampNeg) then
      1
    else
      0
  else
    0
theorem zl_X10_isOne_0 {R : Nat → Nat → Nat} {σ : SG} {o0 : Nat} {x1 : Int32} (h0 : (mi σ (R 643 o0) (x1 : Int32).toNatClampNeg) = 1) (h1 : (mj σ (R 644 o0) (x1 : Int32).toNatClampNeg) = (mj σ (R 645 o0) (x1 : Int32).toNatClampNeg)) : Z_X10_isOne R σ o0 x1 = 1 := by unfold Z_X10_isOne; exact Eq.trans (if_pos h0) (if_pos h1)
theorem zl_X10_isOne_1 {R : Nat → Nat → Nat} {σ : SG} {o0 : Nat} {x1 : Int32} (h0 : (mi σ (R 643 o0) (x1 : Int32).toNatClampNeg) = 1) (h1 : ¬ (mj σ (R 644 o0) (x1 : Int32).toNatClampNeg) = (mj σ (R 645 o0) (x1 : Int32).toNatClampNeg)) : Z_X10_isOne R σ o0 x1 = 0 := by unfold Z_X10_isOne; exact Eq.trans (if_pos h0) (if_neg h1)
theorem zl_X10_isOne_2 {R : Nat → Nat → Nat} {σ : SG} {o0 : Nat} {x1 : Int32} (h0 : ¬ (mi σ (R 643 o0) (x1 : Int32).toNatClampNeg) = 1) : Z_X10_isOne R σ o0 x1 = 0 := by unfold Z_X10_isOne; exact if_neg h0
set_option maxHeartbeats 40000000 in
theorem cz_X10_isOne {xi : SX} {S : Hp} {E : List Nat} {kc nc : Nat} {P : Po} {o0 : Nat} {x1 : Int32} {R : Nat → Nat → Nat} (hG : GI S E) (h0 : Oa S E 10 0 o0) (h1 : Rg 0 4939 x1) (hR : RK S R) (hP : ∀ r T x y, PV E [] S kc nc (rI 0 1) (fun v T => T = S ∧ v = some (.int (Z_X10_isOne R (sg S) o0 x1))) [] r T x y → P r T x y) : TT xi M_X10_isOne 0 [(0, .ref o0), (1, .int x1)] [] S kc nc P := by
  have hA : Af E [] S S := af_rf
  refine tt_aload_n (j := 0) dX10_isOne_0 rfl ?_
  have hr101 := rk_R (k := 643) hR h0 32 4940
  have ho102 := rk_O (k := 643) hG hR h0 32 4940
  refine gt_gR (id := 643) dX10_isOne_1 fl_10_13 rfl rfl h0 hA hr101 ?_
  refine tt_iload_n (j := 1) dX10_isOne_4 rfl ?_
  refine gx_iL (v := (mi (sg S) (R 643 o0) (x1 : Int32).toNatClampNeg)) dX10_isOne_5 ho102 hA (rg_in h1) (sg_i (a := (R 643 o0)) (i := (x1 : Int32).toNatClampNeg) (show sg S = (sg S) from rfl)) ?_
  refine tt_iconst (v := 1) dX10_isOne_6 rfl ?_
  refine tt_icmp_ne (tgt := 30) dX10_isOne_7 rfl (fun q103 => ?_) (fun q103 => ?_)
  · skip
    refine tt_iconst (v := 0) dX10_isOne_30 rfl ?_
    have hF : Z_X10_isOne R (sg S) o0 x1 = 0 := by
      exact zl_X10_isOne_2 q103
    exact tt_ireturn dX10_isOne_31 .boolean rfl rfl (hP _ _ _ _ ⟨hG, hA, Or.inl ⟨_, rfl, ⟨_, rfl, rg_w (⟨by decide, by decide⟩ : Rg 0 0 0)⟩, ⟨rfl, congrArg (fun q => some (Value.int q)) hF.symm⟩, rfl, rfl⟩⟩)
  · skip
    have h104 : Rg 1 1 (mi (sg S) (R 643 o0) (x1 : Int32).toNatClampNeg) := rg_eq_l (rg_all (mi (sg S) (R 643 o0) (x1 : Int32).toNatClampNeg)) (⟨by decide, by decide⟩ : Rg 1 1 1) q103
    refine tt_aload_n (j := 0) dX10_isOne_10 rfl ?_
    have hr105 := rk_R (k := 644) hR h0 33 4940
    have ho106 := rk_O (k := 644) hG hR h0 33 4940
    refine gt_gR (id := 644) dX10_isOne_11 fl_10_16 rfl rfl h0 hA hr105 ?_
    refine tt_iload_n (j := 1) dX10_isOne_14 rfl ?_
    refine gt_lLv (v := (mj (sg S) (R 644 o0) (x1 : Int32).toNatClampNeg)) dX10_isOne_15 ho106 hA (rg_in h1) (sg_j (a := (R 644 o0)) (i := (x1 : Int32).toNatClampNeg) (show sg S = (sg S) from rfl)) ?_
    refine tt_aload_n (j := 0) dX10_isOne_16 rfl ?_
    have hr107 := rk_R (k := 645) hR h0 33 4940
    have ho108 := rk_O (k := 645) hG hR h0 33 4940
    refine gt_gR (id := 645) dX10_isOne_17 fl_10_20 rfl rfl h0 hA hr107 ?_
    refine tt_iload_n (j := 1) dX10_isOne_20 rfl ?_
    refine gt_lLv (v := (mj (sg S) (R 645 o0) (x1 : Int32).toNatClampNeg)) dX10_isOne_21 ho108 hA (rg_in h1) (sg_j (a := (R 645 o0)) (i := (x1 : Int32).toNatClampNeg) (show sg S = (sg S) from rfl)) ?_
    refine tt_lcmp dX10_isOne_22 ?_
    refine tt_if_ne (tgt := 30) dX10_isOne_23 rfl (fun q109 => ?_) (fun q109 => ?_)
    · skip
      refine tt_iconst (v := 0) dX10_isOne_30 rfl ?_
      have hF : Z_X10_isOne R (sg S) o0 x1 = 0 := by
        exact zl_X10_isOne_1 q103 (lc_ne_t q109)
      exact tt_ireturn dX10_isOne_31 .boolean rfl rfl (hP _ _ _ _ ⟨hG, hA, Or.inl ⟨_, rfl, ⟨_, rfl, rg_w (⟨by decide, by decide⟩ : Rg 0 0 0)⟩, ⟨rfl, congrArg (fun q => some (Value.int q)) hF.symm⟩, rfl, rfl⟩⟩)
    · skip
      refine tt_iconst (v := 1) dX10_isOne_26 rfl ?_
      refine tt_goto (tgt := 31) dX10_isOne_27 rfl ?_
      have hF : Z_X10_isOne R (sg S) o0 x1 = 1 := by
        exact zl_X10_isOne_0 q103 (lc_ne_f q109)
      exact tt_ireturn dX10_isOne_31 .boolean rfl rfl (hP _ _ _ _ ⟨hG, hA, Or.inl ⟨_, rfl, ⟨_, rfl, rg_w (⟨by decide, by decide⟩ : Rg 1 1 1)⟩, ⟨rfl, congrArg (fun q => some (Value.int q)) hF.symm⟩, rfl, rfl⟩⟩)
def Z_X10_isNumber (R : Nat → Nat → Nat) (σ : SG) (o0 : Nat) (x1 : Int32) (y2 : Int64) : Int32 :=
  if (Z_X10_isOne R σ o0 (x1)) = 0 then
    0
  else
    if (mj σ (R 644 o0) (x1 : Int32).toNatClampNeg) = y2 then
      1
    else
      0
theorem zl_X10_isNumber_0 {R : Nat → Nat → Nat} {σ : SG} {o0 : Nat} {x1 : Int32} {y2 : Int64} (h0 : (Z_X10_isOne R σ o0 (x1)) = 0) : Z_X10_isNumber R σ o0 x1 y2 = 0 := by unfold Z_X10_isNumber; exact if_pos h0
theorem zl_X10_isNumber_1 {R : Nat → Nat → Nat} {σ : SG} {o0 : Nat} {x1 : Int32} {y2 : Int64} (h0 : ¬ (Z_X10_isOne R σ o0 (x1)) = 0) (h1 : (mj σ (R 644 o0) (x1 : Int32).toNatClampNeg) = y2) : Z_X10_isNumber R σ o0 x1 y2 = 1 := by unfold Z_X10_isNumber; exact Eq.trans (if_neg h0) (if_pos h1)
theorem zl_X10_isNumber_2 {R : Nat → Nat → Nat} {σ : SG} {o0 : Nat} {x1 : Int32} {y2 : Int64} (h0 : ¬ (Z_X10_isOne R σ o0 (x1)) = 0) (h1 : ¬ (mj σ (R 644 o0) (x1 : Int32).toNatClampNeg) = y2) : Z_X10_isNumber R σ o0 x1 y2 = 0 := by unfold Z_X10_isNumber; exact Eq.trans (if_neg h0) (if_neg h1)
set_option maxHeartbeats 40000000 in
theorem cz_X10_isNumber {xi : SX} {S : Hp} {E : List Nat} {kc nc : Nat} {P : Po} {o0 : Nat} {x1 : Int32} {y2 : Int64} {R : Nat → Nat → Nat} (hG : GI S E) (h0 : Oa S E 10 0 o0) (h1 : Rg 0 4939 x1) (hR : RK S R) (hP : ∀ r T x y, PV E [] S kc nc (rI 0 1) (fun v T => T = S ∧ v = some (.int (Z_X10_isNumber R (sg S) o0 x1 y2))) [] r T x y → P r T x y) : TT xi M_X10_isNumber 0 [(0, .ref o0), (1, .int x1), (2, .long y2)] [] S kc nc P := by
  have hA : Af E [] S S := af_rf
  refine tt_aload_n (j := 0) dX10_isNumber_0 rfl ?_
  refine tt_iload_n (j := 1) dX10_isNumber_1 rfl ?_
  refine gt_VIp (As := [.int x1]) dX10_isNumber_2 ca_X10_162 ⟨by decide, by decide⟩ h0 hA rfl (Nat.le_of_ble_eq_true rfl) (Nat.le_of_ble_eq_true rfl) (by decide) (cz_X10_isOne hG (oa_af h0 hA) (rg_w h1) hR (fun _ _ _ _ h => h)) rfl (fun _ h => nomatch h) (fun _ _ q => q.1) (fun x101 h102 hx103 => ?_)
  obtain rfl : Z_X10_isOne R (sg S) o0 (x1) = x101 := ((ei_w hx103.2).trans (congrArg (fun q9 => Z_X10_isOne R q9 o0 (x1)) (show sg S = (sg S) from rfl))).symm
  refine tt_if_eq (tgt := 23) dX10_isNumber_5 rfl (fun q104 => ?_) (fun q104 => ?_)
  · skip
    have h105 : Rg 0 0 (Z_X10_isOne R (sg S) o0 (x1)) := rg_eq_l h102 (⟨by decide, by decide⟩ : Rg 0 0 0) q104
    refine tt_iconst (v := 0) dX10_isNumber_23 rfl ?_
    have hF : Z_X10_isNumber R (sg S) o0 x1 y2 = 0 := by
      exact zl_X10_isNumber_0 q104
    exact tt_ireturn dX10_isNumber_24 .boolean rfl rfl (hP _ _ _ _ ⟨hG, hA, Or.inl ⟨_, rfl, ⟨_, rfl, rg_w (⟨by decide, by decide⟩ : Rg 0 0 0)⟩, ⟨rfl, congrArg (fun q => some (Value.int q)) hF.symm⟩, rfl, rfl⟩⟩)
  · skip
    have h106 : Rg 1 1 (Z_X10_isOne R (sg S) o0 (x1)) := rg_ne_lo h102 (⟨by decide, by decide⟩ : Rg 0 0 0) q104
    refine tt_aload_n (j := 0) dX10_isNumber_8 rfl ?_
    have hr107 := rk_R (k := 644) hR h0 33 4940
    have ho108 := rk_O (k := 644) hG hR h0 33 4940
    refine gt_gR (id := 644) dX10_isNumber_9 fl_10_16 rfl rfl h0 hA hr107 ?_
    refine tt_iload_n (j := 1) dX10_isNumber_12 rfl ?_
    refine gt_lLv (v := (mj (sg S) (R 644 o0) (x1 : Int32).toNatClampNeg)) dX10_isNumber_13 ho108 hA (rg_in h1) (sg_j (a := (R 644 o0)) (i := (x1 : Int32).toNatClampNeg) (show sg S = (sg S) from rfl)) ?_
    refine tt_lload_n (j := 2) dX10_isNumber_14 rfl ?_
    refine tt_lcmp dX10_isNumber_15 ?_
    refine tt_if_ne (tgt := 23) dX10_isNumber_16 rfl (fun q109 => ?_) (fun q109 => ?_)
    · skip
      refine tt_iconst (v := 0) dX10_isNumber_23 rfl ?_
      have hF : Z_X10_isNumber R (sg S) o0 x1 y2 = 0 := by
        exact zl_X10_isNumber_2 q104 (lc_ne_t q109)
      exact tt_ireturn dX10_isNumber_24 .boolean rfl rfl (hP _ _ _ _ ⟨hG, hA, Or.inl ⟨_, rfl, ⟨_, rfl, rg_w (⟨by decide, by decide⟩ : Rg 0 0 0)⟩, ⟨rfl, congrArg (fun q => some (Value.int q)) hF.symm⟩, rfl, rfl⟩⟩)
    · skip
      refine tt_iconst (v := 1) dX10_isNumber_19 rfl ?_
      refine tt_goto (tgt := 24) dX10_isNumber_20 rfl ?_
      have hF : Z_X10_isNumber R (sg S) o0 x1 y2 = 1 := by
        exact zl_X10_isNumber_1 q104 (lc_ne_f q109)
      exact tt_ireturn dX10_isNumber_24 .boolean rfl rfl (hP _ _ _ _ ⟨hG, hA, Or.inl ⟨_, rfl, ⟨_, rfl, rg_w (⟨by decide, by decide⟩ : Rg 1 1 1)⟩, ⟨rfl, congrArg (fun q => some (Value.int q)) hF.symm⟩, rfl, rfl⟩⟩)
def Z_X10_one (R : Nat → Nat → Nat) (σ : SG) (o0 : Nat) (x1 : Int32) (y2 : Int64) : SG :=
  let d106 := Z_X10_make R σ o0 (x1) (1) (y2) (y2) (0)
  d106
theorem zl_X10_one_0 {R : Nat → Nat → Nat} {σ : SG} {o0 : Nat} {x1 : Int32} {y2 : Int64}  : Z_X10_one R σ o0 x1 y2 = (Z_X10_make R σ o0 (x1) (1) (y2) (y2) (0)) := rfl
set_option maxHeartbeats 40000000 in
theorem cz_X10_one {xi : SX} {S : Hp} {E : List Nat} {kc nc : Nat} {P : Po} {o0 : Nat} {x1 : Int32} {y2 : Int64} {R : Nat → Nat → Nat} (hG : GI S E) (h0 : Oa S E 10 0 o0) (h1 : Rg 0 4939 x1) (hR : RK S R) (hP : ∀ r T x y, PV E [9989] S kc nc rV (fun v T => sg T = Z_X10_one R (sg S) o0 x1 y2) [] r T x y → P r T x y) : TT xi M_X10_one 0 [(0, .ref o0), (1, .int x1), (2, .long y2)] [] S kc nc P := by
  have hA : Af E [9989] S S := af_rf
  refine tt_aload_n (j := 0) dX10_one_0 rfl ?_
  refine tt_iload_n (j := 1) dX10_one_1 rfl ?_
  refine tt_iconst (v := 1) dX10_one_2 rfl ?_
  refine tt_lload_n (j := 2) dX10_one_3 rfl ?_
  refine tt_lload_n (j := 2) dX10_one_4 rfl ?_
  refine tt_lconst (v := 0) dX10_one_5 rfl ?_
  refine gt_Vv (As := [.int x1, .int 1, .long y2, .long y2, .long 0]) dX10_one_6 ca_X10_165 ⟨by decide, by decide⟩ h0 hA rfl (Nat.le_of_ble_eq_true rfl) (Nat.le_of_ble_eq_true rfl) (by decide) (cz_X10_make hG (oa_af h0 hA) (rg_w h1) hR (fun _ _ _ _ h => h)) rfl (fun _ h => nomatch h) (fun S101 hx105 hG102 hB103 hA104 => ?_)
  obtain ⟨d106, hd107⟩ : ∃ q, Z_X10_make R (sg S) o0 (x1) (1) (y2) (y2) (0) = q := ⟨_, rfl⟩
  have hq108 := (congrArg (fun q9 => Z_X10_make R q9 o0 (x1) (1) (y2) (y2) (0)) (show sg S = (sg S) from rfl)).trans hd107
  have hs109 := hx105.trans hq108
  have hF : Z_X10_one R (sg S) o0 x1 y2 = d106 := by
    subst hd107
    rfl
  exact tt_vreturn dX10_one_9 rfl (hP _ _ _ _ ⟨hG102, hA104, Or.inl ⟨_, rfl, rfl, Eq.trans hs109 hF.symm, rfl, rfl⟩⟩)
def Z_X10_contains (R : Nat → Nat → Nat) (σ : SG) (o0 : Nat) (x1 : Int32) (y2 : Int64) : Int32 :=
  if (mi σ (R 643 o0) (x1 : Int32).toNatClampNeg) = 2 then
    1
  else
    if (mi σ (R 643 o0) (x1 : Int32).toNatClampNeg) = 1 then
      if (Z_X10_isIn (y2) ((mj σ (R 644 o0) (x1 : Int32).toNatClampNeg)) ((mj σ (R 645 o0) (x1 : Int32).toNatClampNeg))) = 0 then
        0
      else
        if (mj σ (R 646 o0) (x1 : Int32).toNatClampNeg) = (0 : Int64) then
          1
        else
          if ((y2 - (mj σ (R 644 o0) (x1 : Int32).toNatClampNeg)) - (y2 - (mj σ (R 644 o0) (x1 : Int32).toNatClampNeg)) / (mj σ (R 646 o0) (x1 : Int32).toNatClampNeg) * (mj σ (R 646 o0) (x1 : Int32).toNatClampNeg)) = (0 : Int64) then
            1
          else
            0
    else
      0
theorem zl_X10_contains_0 {R : Nat → Nat → Nat} {σ : SG} {o0 : Nat} {x1 : Int32} {y2 : Int64} (h0 : (mi σ (R 643 o0) (x1 : Int32).toNatClampNeg) = 2) : Z_X10_contains R σ o0 x1 y2 = 1 := by unfold Z_X10_contains; exact if_pos h0
theorem zl_X10_contains_1 {R : Nat → Nat → Nat} {σ : SG} {o0 : Nat} {x1 : Int32} {y2 : Int64} (h0 : ¬ (mi σ (R 643 o0) (x1 : Int32).toNatClampNeg) = 2) (h1 : (mi σ (R 643 o0) (x1 : Int32).toNatClampNeg) = 1) (h2 : (Z_X10_isIn (y2) ((mj σ (R 644 o0) (x1 : Int32).toNatClampNeg)) ((mj σ (R 645 o0) (x1 : Int32).toNatClampNeg))) = 0) : Z_X10_contains R σ o0 x1 y2 = 0 := by unfold Z_X10_contains; exact Eq.trans (if_neg h0) (Eq.trans (if_pos h1) (if_pos h2))
theorem zl_X10_contains_2 {R : Nat → Nat → Nat} {σ : SG} {o0 : Nat} {x1 : Int32} {y2 : Int64} (h0 : ¬ (mi σ (R 643 o0) (x1 : Int32).toNatClampNeg) = 2) (h1 : (mi σ (R 643 o0) (x1 : Int32).toNatClampNeg) = 1) (h2 : ¬ (Z_X10_isIn (y2) ((mj σ (R 644 o0) (x1 : Int32).toNatClampNeg)) ((mj σ (R 645 o0) (x1 : Int32).toNatClampNeg))) = 0) (h3 : (mj σ (R 646 o0) (x1 : Int32).toNatClampNeg) = (0 : Int64)) : Z_X10_contains R σ o0 x1 y2 = 1 := by unfold Z_X10_contains; exact Eq.trans (if_neg h0) (Eq.trans (if_pos h1) (Eq.trans (if_neg h2) (if_pos h3)))
theorem zl_X10_contains_3 {R : Nat → Nat → Nat} {σ : SG} {o0 : Nat} {x1 : Int32} {y2 : Int64} (h0 : ¬ (mi σ (R 643 o0) (x1 : Int32).toNatClampNeg) = 2) (h1 : (mi σ (R 643 o0) (x1 : Int32).toNatClampNeg) = 1) (h2 : ¬ (Z_X10_isIn (y2) ((mj σ (R 644 o0) (x1 : Int32).toNatClampNeg)) ((mj σ (R 645 o0) (x1 : Int32).toNatClampNeg))) = 0) (h3 : ¬ (mj σ (R 646 o0) (x1 : Int32).toNatClampNeg) = (0 : Int64)) (h4 : ((y2 - (mj σ (R 644 o0) (x1 : Int32).toNatClampNeg)) - (y2 - (mj σ (R 644 o0) (x1 : Int32).toNatClampNeg)) / (mj σ (R 646 o0) (x1 : Int32).toNatClampNeg) * (mj σ (R 646 o0) (x1 : Int32).toNatClampNeg)) = (0 : Int64)) : Z_X10_contains R σ o0 x1 y2 = 1 := by unfold Z_X10_contains; exact Eq.trans (if_neg h0) (Eq.trans (if_pos h1) (Eq.trans (if_neg h2) (Eq.trans (if_neg h3) (if_pos h4))))
theorem zl_X10_contains_4 {R : Nat → Nat → Nat} {σ : SG} {o0 : Nat} {x1 : Int32} {y2 : Int64} (h0 : ¬ (mi σ (R 643 o0) (x1 : Int32).toNatClampNeg) = 2) (h1 : (mi σ (R 643 o0) (x1 : Int32).toNatClampNeg) = 1) (h2 : ¬ (Z_X10_isIn (y2) ((mj σ (R 644 o0) (x1 : Int32).toNatClampNeg)) ((mj σ (R 645 o0) (x1 : Int32).toNatClampNeg))) = 0) (h3 : ¬ (mj σ (R 646 o0) (x1 : Int32).toNatClampNeg) = (0 : Int64)) (h4 : ¬ ((y2 - (mj σ (R 644 o0) (x1 : Int32).toNatClampNeg)) - (y2 - (mj σ (R 644 o0) (x1 : Int32).toNatClampNeg)) / (mj σ (R 646 o0) (x1 : Int32).toNatClampNeg) * (mj σ (R 646 o0) (x1 : Int32).toNatClampNeg)) = (0 : Int64)) : Z_X10_contains R σ o0 x1 y2 = 0 := by unfold Z_X10_contains; exact Eq.trans (if_neg h0) (Eq.trans (if_pos h1) (Eq.trans (if_neg h2) (Eq.trans (if_neg h3) (if_neg h4))))
theorem zl_X10_contains_5 {R : Nat → Nat → Nat} {σ : SG} {o0 : Nat} {x1 : Int32} {y2 : Int64} (h0 : ¬ (mi σ (R 643 o0) (x1 : Int32).toNatClampNeg) = 2) (h1 : ¬ (mi σ (R 643 o0) (x1 : Int32).toNatClampNeg) = 1) : Z_X10_contains R σ o0 x1 y2 = 0 := by unfold Z_X10_contains; exact Eq.trans (if_neg h0) (if_neg h1)
set_option maxHeartbeats 40000000 in
theorem cz_X10_contains {xi : SX} {S : Hp} {E : List Nat} {kc nc : Nat} {P : Po} {o0 : Nat} {x1 : Int32} {y2 : Int64} {R : Nat → Nat → Nat} (hG : GI S E) (h0 : Oa S E 10 0 o0) (h1 : Rg 0 4939 x1) (hR : RK S R) (hP : ∀ r T x y, PV E [] S kc nc (rI 0 1) (fun v T => T = S ∧ v = some (.int (Z_X10_contains R (sg S) o0 x1 y2))) [] r T x y → P r T x y) : TT xi M_X10_contains 0 [(0, .ref o0), (1, .int x1), (2, .long y2)] [] S kc nc P := by
  have hA : Af E [] S S := af_rf
  refine tt_aload_n (j := 0) dX10_contains_0 rfl ?_
  have hr101 := rk_R (k := 643) hR h0 32 4940
  have ho102 := rk_O (k := 643) hG hR h0 32 4940
  refine gt_gR (id := 643) dX10_contains_1 fl_10_13 rfl rfl h0 hA hr101 ?_
  refine tt_iload_n (j := 1) dX10_contains_4 rfl ?_
  refine gx_iL (v := (mi (sg S) (R 643 o0) (x1 : Int32).toNatClampNeg)) dX10_contains_5 ho102 hA (rg_in h1) (sg_i (a := (R 643 o0)) (i := (x1 : Int32).toNatClampNeg) (show sg S = (sg S) from rfl)) ?_
  refine tt_iconst (v := 2) dX10_contains_6 rfl ?_
  refine tt_icmp_eq (tgt := 70) dX10_contains_7 rfl (fun q103 => ?_) (fun q103 => ?_)
  · skip
    have h104 : Rg 2 2 (mi (sg S) (R 643 o0) (x1 : Int32).toNatClampNeg) := rg_eq_l (rg_all (mi (sg S) (R 643 o0) (x1 : Int32).toNatClampNeg)) (⟨by decide, by decide⟩ : Rg 2 2 2) q103
    refine tt_iconst (v := 1) dX10_contains_70 rfl ?_
    refine tt_goto (tgt := 75) dX10_contains_71 rfl ?_
    have hF : Z_X10_contains R (sg S) o0 x1 y2 = 1 := by
      exact zl_X10_contains_0 q103
    exact tt_ireturn dX10_contains_75 .boolean rfl rfl (hP _ _ _ _ ⟨hG, hA, Or.inl ⟨_, rfl, ⟨_, rfl, rg_w (⟨by decide, by decide⟩ : Rg 1 1 1)⟩, ⟨rfl, congrArg (fun q => some (Value.int q)) hF.symm⟩, rfl, rfl⟩⟩)
  · skip
    refine tt_aload_n (j := 0) dX10_contains_10 rfl ?_
    refine gt_gR (id := 643) dX10_contains_11 fl_10_13 rfl rfl h0 hA hr101 ?_
    refine tt_iload_n (j := 1) dX10_contains_14 rfl ?_
    refine gx_iL (v := (mi (sg S) (R 643 o0) (x1 : Int32).toNatClampNeg)) dX10_contains_15 ho102 hA (rg_in h1) (sg_i (a := (R 643 o0)) (i := (x1 : Int32).toNatClampNeg) (show sg S = (sg S) from rfl)) ?_
    refine tt_iconst (v := 1) dX10_contains_16 rfl ?_
    refine tt_icmp_ne (tgt := 74) dX10_contains_17 rfl (fun q105 => ?_) (fun q105 => ?_)
    · skip
      refine tt_iconst (v := 0) dX10_contains_74 rfl ?_
      have hF : Z_X10_contains R (sg S) o0 x1 y2 = 0 := by
        exact zl_X10_contains_5 q103 q105
      exact tt_ireturn dX10_contains_75 .boolean rfl rfl (hP _ _ _ _ ⟨hG, hA, Or.inl ⟨_, rfl, ⟨_, rfl, rg_w (⟨by decide, by decide⟩ : Rg 0 0 0)⟩, ⟨rfl, congrArg (fun q => some (Value.int q)) hF.symm⟩, rfl, rfl⟩⟩)
    · skip
      have h106 : Rg 1 1 (mi (sg S) (R 643 o0) (x1 : Int32).toNatClampNeg) := rg_eq_l (rg_all (mi (sg S) (R 643 o0) (x1 : Int32).toNatClampNeg)) (⟨by decide, by decide⟩ : Rg 1 1 1) q105
      refine tt_lload_n (j := 2) dX10_contains_20 rfl ?_
      refine tt_aload_n (j := 0) dX10_contains_21 rfl ?_
      have hr107 := rk_R (k := 644) hR h0 33 4940
      have ho108 := rk_O (k := 644) hG hR h0 33 4940
      refine gt_gR (id := 644) dX10_contains_22 fl_10_16 rfl rfl h0 hA hr107 ?_
      refine tt_iload_n (j := 1) dX10_contains_25 rfl ?_
      refine gt_lLv (v := (mj (sg S) (R 644 o0) (x1 : Int32).toNatClampNeg)) dX10_contains_26 ho108 hA (rg_in h1) (sg_j (a := (R 644 o0)) (i := (x1 : Int32).toNatClampNeg) (show sg S = (sg S) from rfl)) ?_
      refine tt_aload_n (j := 0) dX10_contains_27 rfl ?_
      have hr109 := rk_R (k := 645) hR h0 33 4940
      have ho110 := rk_O (k := 645) hG hR h0 33 4940
      refine gt_gR (id := 645) dX10_contains_28 fl_10_20 rfl rfl h0 hA hr109 ?_
      refine tt_iload_n (j := 1) dX10_contains_31 rfl ?_
      refine gt_lLv (v := (mj (sg S) (R 645 o0) (x1 : Int32).toNatClampNeg)) dX10_contains_32 ho110 hA (rg_in h1) (sg_j (a := (R 645 o0)) (i := (x1 : Int32).toNatClampNeg) (show sg S = (sg S) from rfl)) ?_
      refine gt_SIp (As := [.long y2, .long (mj (sg S) (R 644 o0) (x1 : Int32).toNatClampNeg), .long (mj (sg S) (R 645 o0) (x1 : Int32).toNatClampNeg)]) dX10_contains_33 ca_X10_67 ⟨by decide, by decide⟩ hA (Nat.le_of_ble_eq_true rfl) (Nat.le_of_ble_eq_true rfl) (by decide) (cz_X10_isIn hG  (fun _ _ _ _ h => h)) rfl (fun _ h => nomatch h) (fun _ _ q => q.1) (fun x111 h112 hx113 => ?_)
      obtain rfl : Z_X10_isIn (y2) ((mj (sg S) (R 644 o0) (x1 : Int32).toNatClampNeg)) ((mj (sg S) (R 645 o0) (x1 : Int32).toNatClampNeg)) = x111 := ((ei_w hx113.2).trans rfl).symm
      refine tt_if_eq (tgt := 74) dX10_contains_36 rfl (fun q114 => ?_) (fun q114 => ?_)
      · skip
        have h115 : Rg 0 0 (Z_X10_isIn (y2) ((mj (sg S) (R 644 o0) (x1 : Int32).toNatClampNeg)) ((mj (sg S) (R 645 o0) (x1 : Int32).toNatClampNeg))) := rg_eq_l h112 (⟨by decide, by decide⟩ : Rg 0 0 0) q114
        refine tt_iconst (v := 0) dX10_contains_74 rfl ?_
        have hF : Z_X10_contains R (sg S) o0 x1 y2 = 0 := by
          exact zl_X10_contains_1 q103 q105 q114
        exact tt_ireturn dX10_contains_75 .boolean rfl rfl (hP _ _ _ _ ⟨hG, hA, Or.inl ⟨_, rfl, ⟨_, rfl, rg_w (⟨by decide, by decide⟩ : Rg 0 0 0)⟩, ⟨rfl, congrArg (fun q => some (Value.int q)) hF.symm⟩, rfl, rfl⟩⟩)
      · skip
        refine tt_aload_n (j := 0) dX10_contains_39 rfl ?_
        have hr116 := rk_R (k := 646) hR h0 33 4940
        have ho117 := rk_O (k := 646) hG hR h0 33 4940
        refine gt_gR (id := 646) dX10_contains_40 fl_10_23 rfl rfl h0 hA hr116 ?_
        refine tt_iload_n (j := 1) dX10_contains_43 rfl ?_
        refine gt_lLv (v := (mj (sg S) (R 646 o0) (x1 : Int32).toNatClampNeg)) dX10_contains_44 ho117 hA (rg_in h1) (sg_j (a := (R 646 o0)) (i := (x1 : Int32).toNatClampNeg) (show sg S = (sg S) from rfl)) ?_
        refine tt_lconst (v := 0) dX10_contains_45 rfl ?_
        refine tt_lcmp dX10_contains_46 ?_
        refine tt_if_eq (tgt := 70) dX10_contains_47 rfl (fun q118 => ?_) (fun q118 => ?_)
        · skip
          refine tt_iconst (v := 1) dX10_contains_70 rfl ?_
          refine tt_goto (tgt := 75) dX10_contains_71 rfl ?_
          have hF : Z_X10_contains R (sg S) o0 x1 y2 = 1 := by
            exact zl_X10_contains_2 q103 q105 q114 (lc_eq_t q118)
          exact tt_ireturn dX10_contains_75 .boolean rfl rfl (hP _ _ _ _ ⟨hG, hA, Or.inl ⟨_, rfl, ⟨_, rfl, rg_w (⟨by decide, by decide⟩ : Rg 1 1 1)⟩, ⟨rfl, congrArg (fun q => some (Value.int q)) hF.symm⟩, rfl, rfl⟩⟩)
        · skip
          refine tt_lload_n (j := 2) dX10_contains_50 rfl ?_
          refine tt_aload_n (j := 0) dX10_contains_51 rfl ?_
          refine gt_gR (id := 644) dX10_contains_52 fl_10_16 rfl rfl h0 hA hr107 ?_
          refine tt_iload_n (j := 1) dX10_contains_55 rfl ?_
          refine gt_lLv (v := (mj (sg S) (R 644 o0) (x1 : Int32).toNatClampNeg)) dX10_contains_56 ho108 hA (rg_in h1) (sg_j (a := (R 644 o0)) (i := (x1 : Int32).toNatClampNeg) (show sg S = (sg S) from rfl)) ?_
          refine tt_lsub dX10_contains_57 ?_
          refine tt_aload_n (j := 0) dX10_contains_58 rfl ?_
          refine gt_gR (id := 646) dX10_contains_59 fl_10_23 rfl rfl h0 hA hr116 ?_
          refine tt_iload_n (j := 1) dX10_contains_62 rfl ?_
          refine gt_lLv (v := (mj (sg S) (R 646 o0) (x1 : Int32).toNatClampNeg)) dX10_contains_63 ho117 hA (rg_in h1) (sg_j (a := (R 646 o0)) (i := (x1 : Int32).toNatClampNeg) (show sg S = (sg S) from rfl)) ?_
          refine tt_lrem dX10_contains_64 (lc_eq_f q118) ?_
          refine tt_lconst (v := 0) dX10_contains_65 rfl ?_
          refine tt_lcmp dX10_contains_66 ?_
          refine tt_if_ne (tgt := 74) dX10_contains_67 rfl (fun q119 => ?_) (fun q119 => ?_)
          · skip
            refine tt_iconst (v := 0) dX10_contains_74 rfl ?_
            have hF : Z_X10_contains R (sg S) o0 x1 y2 = 0 := by
              exact zl_X10_contains_4 q103 q105 q114 (lc_eq_f q118) (lc_ne_t q119)
            exact tt_ireturn dX10_contains_75 .boolean rfl rfl (hP _ _ _ _ ⟨hG, hA, Or.inl ⟨_, rfl, ⟨_, rfl, rg_w (⟨by decide, by decide⟩ : Rg 0 0 0)⟩, ⟨rfl, congrArg (fun q => some (Value.int q)) hF.symm⟩, rfl, rfl⟩⟩)
          · skip
            refine tt_iconst (v := 1) dX10_contains_70 rfl ?_
            refine tt_goto (tgt := 75) dX10_contains_71 rfl ?_
            have hF : Z_X10_contains R (sg S) o0 x1 y2 = 1 := by
              exact zl_X10_contains_3 q103 q105 q114 (lc_eq_f q118) (lc_ne_f q119)
            exact tt_ireturn dX10_contains_75 .boolean rfl rfl (hP _ _ _ _ ⟨hG, hA, Or.inl ⟨_, rfl, ⟨_, rfl, rg_w (⟨by decide, by decide⟩ : Rg 1 1 1)⟩, ⟨rfl, congrArg (fun q => some (Value.int q)) hF.symm⟩, rfl, rfl⟩⟩)
def Z_X10_isPlain (R : Nat → Nat → Nat) (σ : SG) (o0 : Nat) (x1 : Int32) (x2 : Int32) (x3 : Int32) : SG × Int32 :=
  if (mi σ (R 643 o0) (x2 : Int32).toNatClampNeg) = 0 then
    ((ui σ (R 643 o0) (x1 : Int32).toNatClampNeg 0), 1)
  else
    if (mi σ (R 643 o0) (x3 : Int32).toNatClampNeg) = 0 then
      ((ui σ (R 643 o0) (x1 : Int32).toNatClampNeg 0), 1)
    else
      if (mi σ (R 643 o0) (x2 : Int32).toNatClampNeg) = 2 then
        ((ui σ (R 643 o0) (x1 : Int32).toNatClampNeg 2), 1)
      else
        if (mi σ (R 643 o0) (x3 : Int32).toNatClampNeg) = 2 then
          ((ui σ (R 643 o0) (x1 : Int32).toNatClampNeg 2), 1)
        else
          (σ, 0)
theorem zl_X10_isPlain_0 {R : Nat → Nat → Nat} {σ : SG} {o0 : Nat} {x1 : Int32} {x2 : Int32} {x3 : Int32} (h0 : (mi σ (R 643 o0) (x2 : Int32).toNatClampNeg) = 0) : Z_X10_isPlain R σ o0 x1 x2 x3 = ((ui σ (R 643 o0) (x1 : Int32).toNatClampNeg 0), 1) := by unfold Z_X10_isPlain; exact if_pos h0
theorem zl_X10_isPlain_1 {R : Nat → Nat → Nat} {σ : SG} {o0 : Nat} {x1 : Int32} {x2 : Int32} {x3 : Int32} (h0 : ¬ (mi σ (R 643 o0) (x2 : Int32).toNatClampNeg) = 0) (h1 : (mi σ (R 643 o0) (x3 : Int32).toNatClampNeg) = 0) : Z_X10_isPlain R σ o0 x1 x2 x3 = ((ui σ (R 643 o0) (x1 : Int32).toNatClampNeg 0), 1) := by unfold Z_X10_isPlain; exact Eq.trans (if_neg h0) (if_pos h1)
theorem zl_X10_isPlain_2 {R : Nat → Nat → Nat} {σ : SG} {o0 : Nat} {x1 : Int32} {x2 : Int32} {x3 : Int32} (h0 : ¬ (mi σ (R 643 o0) (x2 : Int32).toNatClampNeg) = 0) (h1 : ¬ (mi σ (R 643 o0) (x3 : Int32).toNatClampNeg) = 0) (h2 : (mi σ (R 643 o0) (x2 : Int32).toNatClampNeg) = 2) : Z_X10_isPlain R σ o0 x1 x2 x3 = ((ui σ (R 643 o0) (x1 : Int32).toNatClampNeg 2), 1) := by unfold Z_X10_isPlain; exact Eq.trans (if_neg h0) (Eq.trans (if_neg h1) (if_pos h2))
theorem zl_X10_isPlain_3 {R : Nat → Nat → Nat} {σ : SG} {o0 : Nat} {x1 : Int32} {x2 : Int32} {x3 : Int32} (h0 : ¬ (mi σ (R 643 o0) (x2 : Int32).toNatClampNeg) = 0) (h1 : ¬ (mi σ (R 643 o0) (x3 : Int32).toNatClampNeg) = 0) (h2 : ¬ (mi σ (R 643 o0) (x2 : Int32).toNatClampNeg) = 2) (h3 : (mi σ (R 643 o0) (x3 : Int32).toNatClampNeg) = 2) : Z_X10_isPlain R σ o0 x1 x2 x3 = ((ui σ (R 643 o0) (x1 : Int32).toNatClampNeg 2), 1) := by unfold Z_X10_isPlain; exact Eq.trans (if_neg h0) (Eq.trans (if_neg h1) (Eq.trans (if_neg h2) (if_pos h3)))
theorem zl_X10_isPlain_4 {R : Nat → Nat → Nat} {σ : SG} {o0 : Nat} {x1 : Int32} {x2 : Int32} {x3 : Int32} (h0 : ¬ (mi σ (R 643 o0) (x2 : Int32).toNatClampNeg) = 0) (h1 : ¬ (mi σ (R 643 o0) (x3 : Int32).toNatClampNeg) = 0) (h2 : ¬ (mi σ (R 643 o0) (x2 : Int32).toNatClampNeg) = 2) (h3 : ¬ (mi σ (R 643 o0) (x3 : Int32).toNatClampNeg) = 2) : Z_X10_isPlain R σ o0 x1 x2 x3 = (σ, 0) := by unfold Z_X10_isPlain; exact Eq.trans (if_neg h0) (Eq.trans (if_neg h1) (Eq.trans (if_neg h2) (if_neg h3)))
set_option maxHeartbeats 40000000 in
theorem cz_X10_isPlain {xi : SX} {S : Hp} {E : List Nat} {kc nc : Nat} {P : Po} {o0 : Nat} {x1 : Int32} {x2 : Int32} {x3 : Int32} {R : Nat → Nat → Nat} (hG : GI S E) (h0 : Oa S E 10 0 o0) (h1 : Rg 0 4939 x1) (h2 : Rg 0 4939 x2) (h3 : Rg 0 4939 x3) (hR : RK S R) (hP : ∀ r T x y, PV E [9989] S kc nc (rI 0 1) (fun v T => v = some (.int (Z_X10_isPlain R (sg S) o0 x1 x2 x3).2) ∧ sg T = (Z_X10_isPlain R (sg S) o0 x1 x2 x3).1) [] r T x y → P r T x y) : TT xi M_X10_isPlain 0 [(0, .ref o0), (1, .int x1), (2, .int x2), (3, .int x3)] [] S kc nc P := by
  have hA : Af E [9989] S S := af_rf
  refine tt_aload_n (j := 0) dX10_isPlain_0 rfl ?_
  have hr101 := rk_R (k := 643) hR h0 32 4940
  have ho102 := rk_O (k := 643) hG hR h0 32 4940
  refine gt_gR (id := 643) dX10_isPlain_1 fl_10_13 rfl rfl h0 hA hr101 ?_
  refine tt_iload_n (j := 2) dX10_isPlain_4 rfl ?_
  refine gx_iL (v := (mi (sg S) (R 643 o0) (x2 : Int32).toNatClampNeg)) dX10_isPlain_5 ho102 hA (rg_in h2) (sg_i (a := (R 643 o0)) (i := (x2 : Int32).toNatClampNeg) (show sg S = (sg S) from rfl)) ?_
  refine tt_if_eq (tgt := 18) dX10_isPlain_6 rfl (fun q103 => ?_) (fun q103 => ?_)
  · skip
    have h104 : Rg 0 0 (mi (sg S) (R 643 o0) (x2 : Int32).toNatClampNeg) := rg_eq_l (rg_all (mi (sg S) (R 643 o0) (x2 : Int32).toNatClampNeg)) (⟨by decide, by decide⟩ : Rg 0 0 0) q103
    refine tt_aload_n (j := 0) dX10_isPlain_18 rfl ?_
    refine gt_gR (id := 643) dX10_isPlain_19 fl_10_13 rfl rfl h0 hA hr101 ?_
    refine tt_iload_n (j := 1) dX10_isPlain_22 rfl ?_
    refine tt_iconst (v := 0) dX10_isPlain_23 rfl ?_
    refine gx_iS dX10_isPlain_24 ho102 hA (Or.inl (by decide)) (rg_in h1) hG (by decide) (show sg S = (sg S) from rfl) (fun S105 hG106 hA107 e108 => ?_)
    refine tt_iconst (v := 1) dX10_isPlain_25 rfl ?_
    have hF : Z_X10_isPlain R (sg S) o0 x1 x2 x3 = ((ui (sg S) (R 643 o0) (x1 : Int32).toNatClampNeg 0), 1) := by
      exact zl_X10_isPlain_0 q103
    exact tt_ireturn dX10_isPlain_26 .boolean rfl rfl (hP _ _ _ _ ⟨hG106, hA107, Or.inl ⟨_, rfl, ⟨_, rfl, rg_w (⟨by decide, by decide⟩ : Rg 1 1 1)⟩, ⟨congrArg (fun q => some (Value.int q.2)) hF.symm, Eq.trans e108 (congrArg Prod.fst hF).symm⟩, rfl, rfl⟩⟩)
  · skip
    refine tt_aload_n (j := 0) dX10_isPlain_9 rfl ?_
    refine gt_gR (id := 643) dX10_isPlain_10 fl_10_13 rfl rfl h0 hA hr101 ?_
    refine tt_iload_n (j := 3) dX10_isPlain_13 rfl ?_
    refine gx_iL (v := (mi (sg S) (R 643 o0) (x3 : Int32).toNatClampNeg)) dX10_isPlain_14 ho102 hA (rg_in h3) (sg_i (a := (R 643 o0)) (i := (x3 : Int32).toNatClampNeg) (show sg S = (sg S) from rfl)) ?_
    refine tt_if_ne (tgt := 27) dX10_isPlain_15 rfl (fun q109 => ?_) (fun q109 => ?_)
    · skip
      refine tt_aload_n (j := 0) dX10_isPlain_27 rfl ?_
      refine gt_gR (id := 643) dX10_isPlain_28 fl_10_13 rfl rfl h0 hA hr101 ?_
      refine tt_iload_n (j := 2) dX10_isPlain_31 rfl ?_
      refine gx_iL (v := (mi (sg S) (R 643 o0) (x2 : Int32).toNatClampNeg)) dX10_isPlain_32 ho102 hA (rg_in h2) (sg_i (a := (R 643 o0)) (i := (x2 : Int32).toNatClampNeg) (show sg S = (sg S) from rfl)) ?_
      refine tt_iconst (v := 2) dX10_isPlain_33 rfl ?_
      refine tt_icmp_eq (tgt := 47) dX10_isPlain_34 rfl (fun q110 => ?_) (fun q110 => ?_)
      · skip
        have h111 : Rg 2 2 (mi (sg S) (R 643 o0) (x2 : Int32).toNatClampNeg) := rg_eq_l (rg_all (mi (sg S) (R 643 o0) (x2 : Int32).toNatClampNeg)) (⟨by decide, by decide⟩ : Rg 2 2 2) q110
        refine tt_aload_n (j := 0) dX10_isPlain_47 rfl ?_
        refine gt_gR (id := 643) dX10_isPlain_48 fl_10_13 rfl rfl h0 hA hr101 ?_
        refine tt_iload_n (j := 1) dX10_isPlain_51 rfl ?_
        refine tt_iconst (v := 2) dX10_isPlain_52 rfl ?_
        refine gx_iS dX10_isPlain_53 ho102 hA (Or.inl (by decide)) (rg_in h1) hG (by decide) (show sg S = (sg S) from rfl) (fun S112 hG113 hA114 e115 => ?_)
        refine tt_iconst (v := 1) dX10_isPlain_54 rfl ?_
        have hF : Z_X10_isPlain R (sg S) o0 x1 x2 x3 = ((ui (sg S) (R 643 o0) (x1 : Int32).toNatClampNeg 2), 1) := by
          exact zl_X10_isPlain_2 q103 q109 q110
        exact tt_ireturn dX10_isPlain_55 .boolean rfl rfl (hP _ _ _ _ ⟨hG113, hA114, Or.inl ⟨_, rfl, ⟨_, rfl, rg_w (⟨by decide, by decide⟩ : Rg 1 1 1)⟩, ⟨congrArg (fun q => some (Value.int q.2)) hF.symm, Eq.trans e115 (congrArg Prod.fst hF).symm⟩, rfl, rfl⟩⟩)
      · skip
        refine tt_aload_n (j := 0) dX10_isPlain_37 rfl ?_
        refine gt_gR (id := 643) dX10_isPlain_38 fl_10_13 rfl rfl h0 hA hr101 ?_
        refine tt_iload_n (j := 3) dX10_isPlain_41 rfl ?_
        refine gx_iL (v := (mi (sg S) (R 643 o0) (x3 : Int32).toNatClampNeg)) dX10_isPlain_42 ho102 hA (rg_in h3) (sg_i (a := (R 643 o0)) (i := (x3 : Int32).toNatClampNeg) (show sg S = (sg S) from rfl)) ?_
        refine tt_iconst (v := 2) dX10_isPlain_43 rfl ?_
        refine tt_icmp_ne (tgt := 56) dX10_isPlain_44 rfl (fun q116 => ?_) (fun q116 => ?_)
        · skip
          refine tt_iconst (v := 0) dX10_isPlain_56 rfl ?_
          have hF : Z_X10_isPlain R (sg S) o0 x1 x2 x3 = ((sg S), 0) := by
            exact zl_X10_isPlain_4 q103 q109 q110 q116
          exact tt_ireturn dX10_isPlain_57 .boolean rfl rfl (hP _ _ _ _ ⟨hG, hA, Or.inl ⟨_, rfl, ⟨_, rfl, rg_w (⟨by decide, by decide⟩ : Rg 0 0 0)⟩, ⟨congrArg (fun q => some (Value.int q.2)) hF.symm, Eq.trans (show sg S = (sg S) from rfl) (congrArg Prod.fst hF).symm⟩, rfl, rfl⟩⟩)
        · skip
          have h117 : Rg 2 2 (mi (sg S) (R 643 o0) (x3 : Int32).toNatClampNeg) := rg_eq_l (rg_all (mi (sg S) (R 643 o0) (x3 : Int32).toNatClampNeg)) (⟨by decide, by decide⟩ : Rg 2 2 2) q116
          refine tt_aload_n (j := 0) dX10_isPlain_47 rfl ?_
          refine gt_gR (id := 643) dX10_isPlain_48 fl_10_13 rfl rfl h0 hA hr101 ?_
          refine tt_iload_n (j := 1) dX10_isPlain_51 rfl ?_
          refine tt_iconst (v := 2) dX10_isPlain_52 rfl ?_
          refine gx_iS dX10_isPlain_53 ho102 hA (Or.inl (by decide)) (rg_in h1) hG (by decide) (show sg S = (sg S) from rfl) (fun S118 hG119 hA120 e121 => ?_)
          refine tt_iconst (v := 1) dX10_isPlain_54 rfl ?_
          have hF : Z_X10_isPlain R (sg S) o0 x1 x2 x3 = ((ui (sg S) (R 643 o0) (x1 : Int32).toNatClampNeg 2), 1) := by
            exact zl_X10_isPlain_3 q103 q109 q110 q116
          exact tt_ireturn dX10_isPlain_55 .boolean rfl rfl (hP _ _ _ _ ⟨hG119, hA120, Or.inl ⟨_, rfl, ⟨_, rfl, rg_w (⟨by decide, by decide⟩ : Rg 1 1 1)⟩, ⟨congrArg (fun q => some (Value.int q.2)) hF.symm, Eq.trans e121 (congrArg Prod.fst hF).symm⟩, rfl, rfl⟩⟩)
    · skip
      have h122 : Rg 0 0 (mi (sg S) (R 643 o0) (x3 : Int32).toNatClampNeg) := rg_eq_l (rg_all (mi (sg S) (R 643 o0) (x3 : Int32).toNatClampNeg)) (⟨by decide, by decide⟩ : Rg 0 0 0) q109
      refine tt_aload_n (j := 0) dX10_isPlain_18 rfl ?_
      refine gt_gR (id := 643) dX10_isPlain_19 fl_10_13 rfl rfl h0 hA hr101 ?_
      refine tt_iload_n (j := 1) dX10_isPlain_22 rfl ?_
      refine tt_iconst (v := 0) dX10_isPlain_23 rfl ?_
      refine gx_iS dX10_isPlain_24 ho102 hA (Or.inl (by decide)) (rg_in h1) hG (by decide) (show sg S = (sg S) from rfl) (fun S123 hG124 hA125 e126 => ?_)
      refine tt_iconst (v := 1) dX10_isPlain_25 rfl ?_
      have hF : Z_X10_isPlain R (sg S) o0 x1 x2 x3 = ((ui (sg S) (R 643 o0) (x1 : Int32).toNatClampNeg 0), 1) := by
        exact zl_X10_isPlain_1 q103 q109
      exact tt_ireturn dX10_isPlain_26 .boolean rfl rfl (hP _ _ _ _ ⟨hG124, hA125, Or.inl ⟨_, rfl, ⟨_, rfl, rg_w (⟨by decide, by decide⟩ : Rg 1 1 1)⟩, ⟨congrArg (fun q => some (Value.int q.2)) hF.symm, Eq.trans e126 (congrArg Prod.fst hF).symm⟩, rfl, rfl⟩⟩)
def Z_X10_join (R : Nat → Nat → Nat) (σ : SG) (o0 : Nat) (x1 : Int32) (x2 : Int32) (x3 : Int32) : SG :=
  if (mi σ (R 643 o0) (x2 : Int32).toNatClampNeg) = 0 then
    let d110 := Z_X10_copy R σ o0 (x1) (x3)
    d110
  else
    if (mi σ (R 643 o0) (x3 : Int32).toNatClampNeg) = 0 then
      let d210 := Z_X10_copy R σ o0 (x1) (x2)
      d210
    else
      if (mi σ (R 643 o0) (x2 : Int32).toNatClampNeg) = 2 then
        (ui σ (R 643 o0) (x1 : Int32).toNatClampNeg 2)
      else
        if (mi σ (R 643 o0) (x3 : Int32).toNatClampNeg) = 2 then
          (ui σ (R 643 o0) (x1 : Int32).toNatClampNeg 2)
        else
          if (mj σ (R 644 o0) (x2 : Int32).toNatClampNeg) < (mj σ (R 644 o0) (x3 : Int32).toNatClampNeg) then
            if (mj σ (R 645 o0) (x3 : Int32).toNatClampNeg) < (mj σ (R 645 o0) (x2 : Int32).toNatClampNeg) then
              let d195 := Z_X10_make R σ o0 (x1) (1) ((mj σ (R 644 o0) (x2 : Int32).toNatClampNeg)) ((mj σ (R 645 o0) (x2 : Int32).toNatClampNeg)) ((gJ ((gJ ((mj σ (R 646 o0) (x2 : Int32).toNatClampNeg)) ((mj σ (R 646 o0) (x3 : Int32).toNatClampNeg)))) (((mj σ (R 644 o0) (x2 : Int32).toNatClampNeg) - (mj σ (R 644 o0) (x3 : Int32).toNatClampNeg)))))
              d195
            else
              let d178 := Z_X10_make R σ o0 (x1) (1) ((mj σ (R 644 o0) (x2 : Int32).toNatClampNeg)) ((mj σ (R 645 o0) (x3 : Int32).toNatClampNeg)) ((gJ ((gJ ((mj σ (R 646 o0) (x2 : Int32).toNatClampNeg)) ((mj σ (R 646 o0) (x3 : Int32).toNatClampNeg)))) (((mj σ (R 644 o0) (x2 : Int32).toNatClampNeg) - (mj σ (R 644 o0) (x3 : Int32).toNatClampNeg)))))
              d178
          else
            if (mj σ (R 645 o0) (x3 : Int32).toNatClampNeg) < (mj σ (R 645 o0) (x2 : Int32).toNatClampNeg) then
              let d158 := Z_X10_make R σ o0 (x1) (1) ((mj σ (R 644 o0) (x3 : Int32).toNatClampNeg)) ((mj σ (R 645 o0) (x2 : Int32).toNatClampNeg)) ((gJ ((gJ ((mj σ (R 646 o0) (x2 : Int32).toNatClampNeg)) ((mj σ (R 646 o0) (x3 : Int32).toNatClampNeg)))) (((mj σ (R 644 o0) (x2 : Int32).toNatClampNeg) - (mj σ (R 644 o0) (x3 : Int32).toNatClampNeg)))))
              d158
            else
              let d141 := Z_X10_make R σ o0 (x1) (1) ((mj σ (R 644 o0) (x3 : Int32).toNatClampNeg)) ((mj σ (R 645 o0) (x3 : Int32).toNatClampNeg)) ((gJ ((gJ ((mj σ (R 646 o0) (x2 : Int32).toNatClampNeg)) ((mj σ (R 646 o0) (x3 : Int32).toNatClampNeg)))) (((mj σ (R 644 o0) (x2 : Int32).toNatClampNeg) - (mj σ (R 644 o0) (x3 : Int32).toNatClampNeg)))))
              d141
theorem zl_X10_join_0 {R : Nat → Nat → Nat} {σ : SG} {o0 : Nat} {x1 : Int32} {x2 : Int32} {x3 : Int32} (h0 : (mi σ (R 643 o0) (x2 : Int32).toNatClampNeg) = 0) : Z_X10_join R σ o0 x1 x2 x3 = (Z_X10_copy R σ o0 (x1) (x3)) := by unfold Z_X10_join; exact if_pos h0
theorem zl_X10_join_1 {R : Nat → Nat → Nat} {σ : SG} {o0 : Nat} {x1 : Int32} {x2 : Int32} {x3 : Int32} (h0 : ¬ (mi σ (R 643 o0) (x2 : Int32).toNatClampNeg) = 0) (h1 : (mi σ (R 643 o0) (x3 : Int32).toNatClampNeg) = 0) : Z_X10_join R σ o0 x1 x2 x3 = (Z_X10_copy R σ o0 (x1) (x2)) := by unfold Z_X10_join; exact Eq.trans (if_neg h0) (if_pos h1)
theorem zl_X10_join_2 {R : Nat → Nat → Nat} {σ : SG} {o0 : Nat} {x1 : Int32} {x2 : Int32} {x3 : Int32} (h0 : ¬ (mi σ (R 643 o0) (x2 : Int32).toNatClampNeg) = 0) (h1 : ¬ (mi σ (R 643 o0) (x3 : Int32).toNatClampNeg) = 0) (h2 : (mi σ (R 643 o0) (x2 : Int32).toNatClampNeg) = 2) : Z_X10_join R σ o0 x1 x2 x3 = (ui σ (R 643 o0) (x1 : Int32).toNatClampNeg 2) := by unfold Z_X10_join; exact Eq.trans (if_neg h0) (Eq.trans (if_neg h1) (if_pos h2))
theorem zl_X10_join_3 {R : Nat → Nat → Nat} {σ : SG} {o0 : Nat} {x1 : Int32} {x2 : Int32} {x3 : Int32} (h0 : ¬ (mi σ (R 643 o0) (x2 : Int32).toNatClampNeg) = 0) (h1 : ¬ (mi σ (R 643 o0) (x3 : Int32).toNatClampNeg) = 0) (h2 : ¬ (mi σ (R 643 o0) (x2 : Int32).toNatClampNeg) = 2) (h3 : (mi σ (R 643 o0) (x3 : Int32).toNatClampNeg) = 2) : Z_X10_join R σ o0 x1 x2 x3 = (ui σ (R 643 o0) (x1 : Int32).toNatClampNeg 2) := by unfold Z_X10_join; exact Eq.trans (if_neg h0) (Eq.trans (if_neg h1) (Eq.trans (if_neg h2) (if_pos h3)))
theorem zl_X10_join_4 {R : Nat → Nat → Nat} {σ : SG} {o0 : Nat} {x1 : Int32} {x2 : Int32} {x3 : Int32} (h0 : ¬ (mi σ (R 643 o0) (x2 : Int32).toNatClampNeg) = 0) (h1 : ¬ (mi σ (R 643 o0) (x3 : Int32).toNatClampNeg) = 0) (h2 : ¬ (mi σ (R 643 o0) (x2 : Int32).toNatClampNeg) = 2) (h3 : ¬ (mi σ (R 643 o0) (x3 : Int32).toNatClampNeg) = 2) (h4 : (mj σ (R 644 o0) (x2 : Int32).toNatClampNeg) < (mj σ (R 644 o0) (x3 : Int32).toNatClampNeg)) (h5 : (mj σ (R 645 o0) (x3 : Int32).toNatClampNeg) < (mj σ (R 645 o0) (x2 : Int32).toNatClampNeg)) : Z_X10_join R σ o0 x1 x2 x3 = (Z_X10_make R σ o0 (x1) (1) ((mj σ (R 644 o0) (x2 : Int32).toNatClampNeg)) ((mj σ (R 645 o0) (x2 : Int32).toNatClampNeg)) ((gJ ((gJ ((mj σ (R 646 o0) (x2 : Int32).toNatClampNeg)) ((mj σ (R 646 o0) (x3 : Int32).toNatClampNeg)))) (((mj σ (R 644 o0) (x2 : Int32).toNatClampNeg) - (mj σ (R 644 o0) (x3 : Int32).toNatClampNeg)))))) := by unfold Z_X10_join; exact Eq.trans (if_neg h0) (Eq.trans (if_neg h1) (Eq.trans (if_neg h2) (Eq.trans (if_neg h3) (Eq.trans (if_pos h4) (if_pos h5)))))
theorem zl_X10_join_5 {R : Nat → Nat → Nat} {σ : SG} {o0 : Nat} {x1 : Int32} {x2 : Int32} {x3 : Int32} (h0 : ¬ (mi σ (R 643 o0) (x2 : Int32).toNatClampNeg) = 0) (h1 : ¬ (mi σ (R 643 o0) (x3 : Int32).toNatClampNeg) = 0) (h2 : ¬ (mi σ (R 643 o0) (x2 : Int32).toNatClampNeg) = 2) (h3 : ¬ (mi σ (R 643 o0) (x3 : Int32).toNatClampNeg) = 2) (h4 : (mj σ (R 644 o0) (x2 : Int32).toNatClampNeg) < (mj σ (R 644 o0) (x3 : Int32).toNatClampNeg)) (h5 : ¬ (mj σ (R 645 o0) (x3 : Int32).toNatClampNeg) < (mj σ (R 645 o0) (x2 : Int32).toNatClampNeg)) : Z_X10_join R σ o0 x1 x2 x3 = (Z_X10_make R σ o0 (x1) (1) ((mj σ (R 644 o0) (x2 : Int32).toNatClampNeg)) ((mj σ (R 645 o0) (x3 : Int32).toNatClampNeg)) ((gJ ((gJ ((mj σ (R 646 o0) (x2 : Int32).toNatClampNeg)) ((mj σ (R 646 o0) (x3 : Int32).toNatClampNeg)))) (((mj σ (R 644 o0) (x2 : Int32).toNatClampNeg) - (mj σ (R 644 o0) (x3 : Int32).toNatClampNeg)))))) := by unfold Z_X10_join; exact Eq.trans (if_neg h0) (Eq.trans (if_neg h1) (Eq.trans (if_neg h2) (Eq.trans (if_neg h3) (Eq.trans (if_pos h4) (if_neg h5)))))
theorem zl_X10_join_6 {R : Nat → Nat → Nat} {σ : SG} {o0 : Nat} {x1 : Int32} {x2 : Int32} {x3 : Int32} (h0 : ¬ (mi σ (R 643 o0) (x2 : Int32).toNatClampNeg) = 0) (h1 : ¬ (mi σ (R 643 o0) (x3 : Int32).toNatClampNeg) = 0) (h2 : ¬ (mi σ (R 643 o0) (x2 : Int32).toNatClampNeg) = 2) (h3 : ¬ (mi σ (R 643 o0) (x3 : Int32).toNatClampNeg) = 2) (h4 : ¬ (mj σ (R 644 o0) (x2 : Int32).toNatClampNeg) < (mj σ (R 644 o0) (x3 : Int32).toNatClampNeg)) (h5 : (mj σ (R 645 o0) (x3 : Int32).toNatClampNeg) < (mj σ (R 645 o0) (x2 : Int32).toNatClampNeg)) : Z_X10_join R σ o0 x1 x2 x3 = (Z_X10_make R σ o0 (x1) (1) ((mj σ (R 644 o0) (x3 : Int32).toNatClampNeg)) ((mj σ (R 645 o0) (x2 : Int32).toNatClampNeg)) ((gJ ((gJ ((mj σ (R 646 o0) (x2 : Int32).toNatClampNeg)) ((mj σ (R 646 o0) (x3 : Int32).toNatClampNeg)))) (((mj σ (R 644 o0) (x2 : Int32).toNatClampNeg) - (mj σ (R 644 o0) (x3 : Int32).toNatClampNeg)))))) := by unfold Z_X10_join; exact Eq.trans (if_neg h0) (Eq.trans (if_neg h1) (Eq.trans (if_neg h2) (Eq.trans (if_neg h3) (Eq.trans (if_neg h4) (if_pos h5)))))
theorem zl_X10_join_7 {R : Nat → Nat → Nat} {σ : SG} {o0 : Nat} {x1 : Int32} {x2 : Int32} {x3 : Int32} (h0 : ¬ (mi σ (R 643 o0) (x2 : Int32).toNatClampNeg) = 0) (h1 : ¬ (mi σ (R 643 o0) (x3 : Int32).toNatClampNeg) = 0) (h2 : ¬ (mi σ (R 643 o0) (x2 : Int32).toNatClampNeg) = 2) (h3 : ¬ (mi σ (R 643 o0) (x3 : Int32).toNatClampNeg) = 2) (h4 : ¬ (mj σ (R 644 o0) (x2 : Int32).toNatClampNeg) < (mj σ (R 644 o0) (x3 : Int32).toNatClampNeg)) (h5 : ¬ (mj σ (R 645 o0) (x3 : Int32).toNatClampNeg) < (mj σ (R 645 o0) (x2 : Int32).toNatClampNeg)) : Z_X10_join R σ o0 x1 x2 x3 = (Z_X10_make R σ o0 (x1) (1) ((mj σ (R 644 o0) (x3 : Int32).toNatClampNeg)) ((mj σ (R 645 o0) (x3 : Int32).toNatClampNeg)) ((gJ ((gJ ((mj σ (R 646 o0) (x2 : Int32).toNatClampNeg)) ((mj σ (R 646 o0) (x3 : Int32).toNatClampNeg)))) (((mj σ (R 644 o0) (x2 : Int32).toNatClampNeg) - (mj σ (R 644 o0) (x3 : Int32).toNatClampNeg)))))) := by unfold Z_X10_join; exact Eq.trans (if_neg h0) (Eq.trans (if_neg h1) (Eq.trans (if_neg h2) (Eq.trans (if_neg h3) (Eq.trans (if_neg h4) (if_neg h5)))))
set_option maxHeartbeats 40000000 in
theorem cz_X10_join {xi : SX} {S : Hp} {E : List Nat} {kc nc : Nat} {P : Po} {o0 : Nat} {x1 : Int32} {x2 : Int32} {x3 : Int32} {R : Nat → Nat → Nat} (hG : GI S E) (h0 : Oa S E 10 0 o0) (h1 : Rg 0 4939 x1) (h2 : Rg 0 4939 x2) (h3 : Rg 0 4939 x3) (hR : RK S R) (hP : ∀ r T x y, PV E [9989] S kc nc rV (fun v T => sg T = Z_X10_join R (sg S) o0 x1 x2 x3) [] r T x y → P r T x y) : TT xi M_X10_join 0 [(0, .ref o0), (1, .int x1), (2, .int x2), (3, .int x3)] [] S kc nc P := by
  have hA : Af E [9989] S S := af_rf
  refine tt_aload_n (j := 0) dX10_join_0 rfl ?_
  have hr101 := rk_R (k := 643) hR h0 32 4940
  have ho102 := rk_O (k := 643) hG hR h0 32 4940
  refine gt_gR (id := 643) dX10_join_1 fl_10_13 rfl rfl h0 hA hr101 ?_
  refine tt_iload_n (j := 2) dX10_join_4 rfl ?_
  refine gx_iL (v := (mi (sg S) (R 643 o0) (x2 : Int32).toNatClampNeg)) dX10_join_5 ho102 hA (rg_in h2) (sg_i (a := (R 643 o0)) (i := (x2 : Int32).toNatClampNeg) (show sg S = (sg S) from rfl)) ?_
  refine tt_if_eq (tgt := 18) dX10_join_6 rfl (fun q103 => ?_) (fun q103 => ?_)
  · skip
    have h104 : Rg 0 0 (mi (sg S) (R 643 o0) (x2 : Int32).toNatClampNeg) := rg_eq_l (rg_all (mi (sg S) (R 643 o0) (x2 : Int32).toNatClampNeg)) (⟨by decide, by decide⟩ : Rg 0 0 0) q103
    refine tt_aload_n (j := 0) dX10_join_18 rfl ?_
    refine tt_iload_n (j := 1) dX10_join_19 rfl ?_
    refine tt_aload_n (j := 0) dX10_join_20 rfl ?_
    refine gt_gR (id := 643) dX10_join_21 fl_10_13 rfl rfl h0 hA hr101 ?_
    refine tt_iload_n (j := 2) dX10_join_24 rfl ?_
    refine gx_iL (v := (mi (sg S) (R 643 o0) (x2 : Int32).toNatClampNeg)) dX10_join_25 ho102 hA (rg_in h2) (sg_i (a := (R 643 o0)) (i := (x2 : Int32).toNatClampNeg) (show sg S = (sg S) from rfl)) ?_
    refine tt_if_ne (tgt := 33) dX10_join_26 rfl (fun q => absurd q103 q) (fun _ => ?_)
    refine tt_iload_n (j := 3) dX10_join_29 rfl ?_
    refine tt_goto (tgt := 34) dX10_join_30 rfl ?_
    refine gt_Vv (As := [.int x1, .int x3]) dX10_join_34 ca_X10_169 ⟨by decide, by decide⟩ h0 hA rfl (Nat.le_of_ble_eq_true rfl) (Nat.le_of_ble_eq_true rfl) (by decide) (cz_X10_copy hG (oa_af h0 hA) (rg_w h1) (rg_w h3) hR (fun _ _ _ _ h => h)) rfl (fun _ h => nomatch h) (fun S105 hx109 hG106 hB107 hA108 => ?_)
    obtain ⟨d110, hd111⟩ : ∃ q, Z_X10_copy R (sg S) o0 (x1) (x3) = q := ⟨_, rfl⟩
    have hq112 := (congrArg (fun q9 => Z_X10_copy R q9 o0 (x1) (x3)) (show sg S = (sg S) from rfl)).trans hd111
    have hs113 := hx109.trans hq112
    refine tt_goto (tgt := 177) dX10_join_37 rfl ?_
    have hF : Z_X10_join R (sg S) o0 x1 x2 x3 = d110 := by
      subst hd111
      exact zl_X10_join_0 q103
    exact tt_vreturn dX10_join_177 rfl (hP _ _ _ _ ⟨hG106, hA108, Or.inl ⟨_, rfl, rfl, Eq.trans hs113 hF.symm, rfl, rfl⟩⟩)
  · skip
    refine tt_aload_n (j := 0) dX10_join_9 rfl ?_
    refine gt_gR (id := 643) dX10_join_10 fl_10_13 rfl rfl h0 hA hr101 ?_
    refine tt_iload_n (j := 3) dX10_join_13 rfl ?_
    refine gx_iL (v := (mi (sg S) (R 643 o0) (x3 : Int32).toNatClampNeg)) dX10_join_14 ho102 hA (rg_in h3) (sg_i (a := (R 643 o0)) (i := (x3 : Int32).toNatClampNeg) (show sg S = (sg S) from rfl)) ?_
    refine tt_if_ne (tgt := 40) dX10_join_15 rfl (fun q114 => ?_) (fun q114 => ?_)
    · skip
      refine tt_aload_n (j := 0) dX10_join_40 rfl ?_
      refine gt_gR (id := 643) dX10_join_41 fl_10_13 rfl rfl h0 hA hr101 ?_
      refine tt_iload_n (j := 2) dX10_join_44 rfl ?_
      refine gx_iL (v := (mi (sg S) (R 643 o0) (x2 : Int32).toNatClampNeg)) dX10_join_45 ho102 hA (rg_in h2) (sg_i (a := (R 643 o0)) (i := (x2 : Int32).toNatClampNeg) (show sg S = (sg S) from rfl)) ?_
      refine tt_iconst (v := 2) dX10_join_46 rfl ?_
      refine tt_icmp_eq (tgt := 60) dX10_join_47 rfl (fun q115 => ?_) (fun q115 => ?_)
      · skip
        have h116 : Rg 2 2 (mi (sg S) (R 643 o0) (x2 : Int32).toNatClampNeg) := rg_eq_l (rg_all (mi (sg S) (R 643 o0) (x2 : Int32).toNatClampNeg)) (⟨by decide, by decide⟩ : Rg 2 2 2) q115
        refine tt_aload_n (j := 0) dX10_join_60 rfl ?_
        refine gt_gR (id := 643) dX10_join_61 fl_10_13 rfl rfl h0 hA hr101 ?_
        refine tt_iload_n (j := 1) dX10_join_64 rfl ?_
        refine tt_iconst (v := 2) dX10_join_65 rfl ?_
        refine gx_iS dX10_join_66 ho102 hA (Or.inl (by decide)) (rg_in h1) hG (by decide) (show sg S = (sg S) from rfl) (fun S117 hG118 hA119 e120 => ?_)
        refine tt_goto (tgt := 177) dX10_join_67 rfl ?_
        have hF : Z_X10_join R (sg S) o0 x1 x2 x3 = (ui (sg S) (R 643 o0) (x1 : Int32).toNatClampNeg 2) := by
          exact zl_X10_join_2 q103 q114 q115
        exact tt_vreturn dX10_join_177 rfl (hP _ _ _ _ ⟨hG118, hA119, Or.inl ⟨_, rfl, rfl, Eq.trans e120 hF.symm, rfl, rfl⟩⟩)
      · skip
        refine tt_aload_n (j := 0) dX10_join_50 rfl ?_
        refine gt_gR (id := 643) dX10_join_51 fl_10_13 rfl rfl h0 hA hr101 ?_
        refine tt_iload_n (j := 3) dX10_join_54 rfl ?_
        refine gx_iL (v := (mi (sg S) (R 643 o0) (x3 : Int32).toNatClampNeg)) dX10_join_55 ho102 hA (rg_in h3) (sg_i (a := (R 643 o0)) (i := (x3 : Int32).toNatClampNeg) (show sg S = (sg S) from rfl)) ?_
        refine tt_iconst (v := 2) dX10_join_56 rfl ?_
        refine tt_icmp_ne (tgt := 70) dX10_join_57 rfl (fun q121 => ?_) (fun q121 => ?_)
        · skip
          refine tt_aload_n (j := 0) dX10_join_70 rfl ?_
          have hr122 := rk_R (k := 644) hR h0 33 4940
          have ho123 := rk_O (k := 644) hG hR h0 33 4940
          refine gt_gR (id := 644) dX10_join_71 fl_10_16 rfl rfl h0 hA hr122 ?_
          refine tt_iload_n (j := 2) dX10_join_74 rfl ?_
          refine gt_lLv (v := (mj (sg S) (R 644 o0) (x2 : Int32).toNatClampNeg)) dX10_join_75 ho123 hA (rg_in h2) (sg_j (a := (R 644 o0)) (i := (x2 : Int32).toNatClampNeg) (show sg S = (sg S) from rfl)) ?_
          refine tt_aload_n (j := 0) dX10_join_76 rfl ?_
          refine gt_gR (id := 644) dX10_join_77 fl_10_16 rfl rfl h0 hA hr122 ?_
          refine tt_iload_n (j := 3) dX10_join_80 rfl ?_
          refine gt_lLv (v := (mj (sg S) (R 644 o0) (x3 : Int32).toNatClampNeg)) dX10_join_81 ho123 hA (rg_in h3) (sg_j (a := (R 644 o0)) (i := (x3 : Int32).toNatClampNeg) (show sg S = (sg S) from rfl)) ?_
          refine tt_lcmp dX10_join_82 ?_
          refine tt_if_ge (tgt := 95) dX10_join_83 rfl (fun q124 => ?_) (fun q124 => ?_)
          · skip
            refine tt_aload_n (j := 0) dX10_join_95 rfl ?_
            refine gt_gR (id := 644) dX10_join_96 fl_10_16 rfl rfl h0 hA hr122 ?_
            refine tt_iload_n (j := 3) dX10_join_99 rfl ?_
            refine gt_lLv (v := (mj (sg S) (R 644 o0) (x3 : Int32).toNatClampNeg)) dX10_join_100 ho123 hA (rg_in h3) (sg_j (a := (R 644 o0)) (i := (x3 : Int32).toNatClampNeg) (show sg S = (sg S) from rfl)) ?_
            refine tt_lstore (ks := [0, 1, 2, 3, 4]) (L' := [(4, .long (mj (sg S) (R 644 o0) (x3 : Int32).toNatClampNeg)), (0, .ref o0), (1, .int x1), (2, .int x2), (3, .int x3)]) dX10_join_101 (by decide) rfl ?_
            refine tt_aload_n (j := 1) dX10_join_103 rfl ?_
            have hr125 := rk_R (k := 645) hR h0 33 4940
            have ho126 := rk_O (k := 645) hG hR h0 33 4940
            refine gt_gR (id := 645) dX10_join_104 fl_10_20 rfl rfl h0 hA hr125 ?_
            refine tt_iload_n (j := 3) dX10_join_107 rfl ?_
            refine gt_lLv (v := (mj (sg S) (R 645 o0) (x2 : Int32).toNatClampNeg)) dX10_join_108 ho126 hA (rg_in h2) (sg_j (a := (R 645 o0)) (i := (x2 : Int32).toNatClampNeg) (show sg S = (sg S) from rfl)) ?_
            refine tt_aload_n (j := 1) dX10_join_109 rfl ?_
            refine gt_gR (id := 645) dX10_join_110 fl_10_20 rfl rfl h0 hA hr125 ?_
            refine tt_iload_n (j := 4) dX10_join_113 rfl ?_
            refine gt_lLv (v := (mj (sg S) (R 645 o0) (x3 : Int32).toNatClampNeg)) dX10_join_114 ho126 hA (rg_in h3) (sg_j (a := (R 645 o0)) (i := (x3 : Int32).toNatClampNeg) (show sg S = (sg S) from rfl)) ?_
            refine tt_lcmp dX10_join_115 ?_
            refine tt_if_le (tgt := 128) dX10_join_116 rfl (fun q127 => ?_) (fun q127 => ?_)
            · skip
              refine tt_aload_n (j := 1) dX10_join_128 rfl ?_
              refine gt_gR (id := 645) dX10_join_129 fl_10_20 rfl rfl h0 hA hr125 ?_
              refine tt_iload_n (j := 4) dX10_join_132 rfl ?_
              refine gt_lLv (v := (mj (sg S) (R 645 o0) (x3 : Int32).toNatClampNeg)) dX10_join_133 ho126 hA (rg_in h3) (sg_j (a := (R 645 o0)) (i := (x3 : Int32).toNatClampNeg) (show sg S = (sg S) from rfl)) ?_
              refine tt_lstore (ks := [0, 1, 2, 3, 4, 5]) (L' := [(6, .long (mj (sg S) (R 645 o0) (x3 : Int32).toNatClampNeg)), (4, .long (mj (sg S) (R 644 o0) (x3 : Int32).toNatClampNeg)), (0, .ref o0), (1, .int x1), (2, .int x2), (3, .int x3)]) dX10_join_134 (by decide) rfl ?_
              refine tt_aload_n (j := 2) dX10_join_136 rfl ?_
              refine tt_iload_n (j := 3) dX10_join_137 rfl ?_
              refine tt_iconst (v := 1) dX10_join_138 rfl ?_
              refine tt_lload (j := 1) dX10_join_139 rfl ?_
              refine tt_lload (j := 0) dX10_join_141 rfl ?_
              refine tt_aload_n (j := 2) dX10_join_143 rfl ?_
              have hr128 := rk_R (k := 646) hR h0 33 4940
              have ho129 := rk_O (k := 646) hG hR h0 33 4940
              refine gt_gR (id := 646) dX10_join_144 fl_10_23 rfl rfl h0 hA hr128 ?_
              refine tt_iload_n (j := 4) dX10_join_147 rfl ?_
              refine gt_lLv (v := (mj (sg S) (R 646 o0) (x2 : Int32).toNatClampNeg)) dX10_join_148 ho129 hA (rg_in h2) (sg_j (a := (R 646 o0)) (i := (x2 : Int32).toNatClampNeg) (show sg S = (sg S) from rfl)) ?_
              refine tt_aload_n (j := 2) dX10_join_149 rfl ?_
              refine gt_gR (id := 646) dX10_join_150 fl_10_23 rfl rfl h0 hA hr128 ?_
              refine tt_iload_n (j := 5) dX10_join_153 rfl ?_
              refine gt_lLv (v := (mj (sg S) (R 646 o0) (x3 : Int32).toNatClampNeg)) dX10_join_154 ho129 hA (rg_in h3) (sg_j (a := (R 646 o0)) (i := (x3 : Int32).toNatClampNeg) (show sg S = (sg S) from rfl)) ?_
              refine gt_SJp (As := [.long (mj (sg S) (R 646 o0) (x2 : Int32).toNatClampNeg), .long (mj (sg S) (R 646 o0) (x3 : Int32).toNatClampNeg)]) dX10_join_155 ca_X10_172 ⟨by decide, by decide⟩ hA (Nat.le_of_ble_eq_true rfl) (Nat.le_of_ble_eq_true rfl) (by decide) (cz_X10_gcd hG  (fun _ _ _ _ h => h)) rfl (fun _ h => nomatch h) (fun _ _ q => q.1) (fun y130 hx132 => ?_)
              obtain rfl : gJ ((mj (sg S) (R 646 o0) (x2 : Int32).toNatClampNeg)) ((mj (sg S) (R 646 o0) (x3 : Int32).toNatClampNeg)) = y130 := ((el_w hx132.2).trans rfl).symm
              refine tt_aload_n (j := 2) dX10_join_158 rfl ?_
              refine gt_gR (id := 644) dX10_join_159 fl_10_16 rfl rfl h0 hA hr122 ?_
              refine tt_iload_n (j := 4) dX10_join_162 rfl ?_
              refine gt_lLv (v := (mj (sg S) (R 644 o0) (x2 : Int32).toNatClampNeg)) dX10_join_163 ho123 hA (rg_in h2) (sg_j (a := (R 644 o0)) (i := (x2 : Int32).toNatClampNeg) (show sg S = (sg S) from rfl)) ?_
              refine tt_aload_n (j := 2) dX10_join_164 rfl ?_
              refine gt_gR (id := 644) dX10_join_165 fl_10_16 rfl rfl h0 hA hr122 ?_
              refine tt_iload_n (j := 5) dX10_join_168 rfl ?_
              refine gt_lLv (v := (mj (sg S) (R 644 o0) (x3 : Int32).toNatClampNeg)) dX10_join_169 ho123 hA (rg_in h3) (sg_j (a := (R 644 o0)) (i := (x3 : Int32).toNatClampNeg) (show sg S = (sg S) from rfl)) ?_
              refine tt_lsub dX10_join_170 ?_
              refine gt_SJp (As := [.long (gJ ((mj (sg S) (R 646 o0) (x2 : Int32).toNatClampNeg)) ((mj (sg S) (R 646 o0) (x3 : Int32).toNatClampNeg))), .long ((mj (sg S) (R 644 o0) (x2 : Int32).toNatClampNeg) - (mj (sg S) (R 644 o0) (x3 : Int32).toNatClampNeg))]) dX10_join_171 ca_X10_172 ⟨by decide, by decide⟩ hA (Nat.le_of_ble_eq_true rfl) (Nat.le_of_ble_eq_true rfl) (by decide) (cz_X10_gcd hG  (fun _ _ _ _ h => h)) rfl (fun _ h => nomatch h) (fun _ _ q => q.1) (fun y133 hx135 => ?_)
              obtain rfl : gJ ((gJ ((mj (sg S) (R 646 o0) (x2 : Int32).toNatClampNeg)) ((mj (sg S) (R 646 o0) (x3 : Int32).toNatClampNeg)))) (((mj (sg S) (R 644 o0) (x2 : Int32).toNatClampNeg) - (mj (sg S) (R 644 o0) (x3 : Int32).toNatClampNeg))) = y133 := ((el_w hx135.2).trans rfl).symm
              refine gt_Vv (As := [.int x1, .int 1, .long (mj (sg S) (R 644 o0) (x3 : Int32).toNatClampNeg), .long (mj (sg S) (R 645 o0) (x3 : Int32).toNatClampNeg), .long (gJ ((gJ ((mj (sg S) (R 646 o0) (x2 : Int32).toNatClampNeg)) ((mj (sg S) (R 646 o0) (x3 : Int32).toNatClampNeg)))) (((mj (sg S) (R 644 o0) (x2 : Int32).toNatClampNeg) - (mj (sg S) (R 644 o0) (x3 : Int32).toNatClampNeg))))]) dX10_join_174 ca_X10_165 ⟨by decide, by decide⟩ h0 hA rfl (Nat.le_of_ble_eq_true rfl) (Nat.le_of_ble_eq_true rfl) (by decide) (cz_X10_make hG (oa_af h0 hA) (rg_w h1) hR (fun _ _ _ _ h => h)) rfl (fun _ h => nomatch h) (fun S136 hx140 hG137 hB138 hA139 => ?_)
              obtain ⟨d141, hd142⟩ : ∃ q, Z_X10_make R (sg S) o0 (x1) (1) ((mj (sg S) (R 644 o0) (x3 : Int32).toNatClampNeg)) ((mj (sg S) (R 645 o0) (x3 : Int32).toNatClampNeg)) ((gJ ((gJ ((mj (sg S) (R 646 o0) (x2 : Int32).toNatClampNeg)) ((mj (sg S) (R 646 o0) (x3 : Int32).toNatClampNeg)))) (((mj (sg S) (R 644 o0) (x2 : Int32).toNatClampNeg) - (mj (sg S) (R 644 o0) (x3 : Int32).toNatClampNeg))))) = q := ⟨_, rfl⟩
              have hq143 := (congrArg (fun q9 => Z_X10_make R q9 o0 (x1) (1) ((mj (sg S) (R 644 o0) (x3 : Int32).toNatClampNeg)) ((mj (sg S) (R 645 o0) (x3 : Int32).toNatClampNeg)) ((gJ ((gJ ((mj (sg S) (R 646 o0) (x2 : Int32).toNatClampNeg)) ((mj (sg S) (R 646 o0) (x3 : Int32).toNatClampNeg)))) (((mj (sg S) (R 644 o0) (x2 : Int32).toNatClampNeg) - (mj (sg S) (R 644 o0) (x3 : Int32).toNatClampNeg)))))) (show sg S = (sg S) from rfl)).trans hd142
              have hs144 := hx140.trans hq143
              have hF : Z_X10_join R (sg S) o0 x1 x2 x3 = d141 := by
                subst hd142
                exact zl_X10_join_7 q103 q114 q115 q121 (Int64.not_lt.mpr (lc_ge_t q124)) (Int64.not_lt.mpr (lc_le_t q127))
              exact tt_vreturn dX10_join_177 rfl (hP _ _ _ _ ⟨hG137, hA139, Or.inl ⟨_, rfl, rfl, Eq.trans hs144 hF.symm, rfl, rfl⟩⟩)
            · skip
              refine tt_aload_n (j := 1) dX10_join_119 rfl ?_
              refine gt_gR (id := 645) dX10_join_120 fl_10_20 rfl rfl h0 hA hr125 ?_
              refine tt_iload_n (j := 3) dX10_join_123 rfl ?_
              refine gt_lLv (v := (mj (sg S) (R 645 o0) (x2 : Int32).toNatClampNeg)) dX10_join_124 ho126 hA (rg_in h2) (sg_j (a := (R 645 o0)) (i := (x2 : Int32).toNatClampNeg) (show sg S = (sg S) from rfl)) ?_
              refine tt_goto (tgt := 134) dX10_join_125 rfl ?_
              refine tt_lstore (ks := [0, 1, 2, 3, 4, 5]) (L' := [(6, .long (mj (sg S) (R 645 o0) (x2 : Int32).toNatClampNeg)), (4, .long (mj (sg S) (R 644 o0) (x3 : Int32).toNatClampNeg)), (0, .ref o0), (1, .int x1), (2, .int x2), (3, .int x3)]) dX10_join_134 (by decide) rfl ?_
              refine tt_aload_n (j := 2) dX10_join_136 rfl ?_
              refine tt_iload_n (j := 3) dX10_join_137 rfl ?_
              refine tt_iconst (v := 1) dX10_join_138 rfl ?_
              refine tt_lload (j := 1) dX10_join_139 rfl ?_
              refine tt_lload (j := 0) dX10_join_141 rfl ?_
              refine tt_aload_n (j := 2) dX10_join_143 rfl ?_
              have hr145 := rk_R (k := 646) hR h0 33 4940
              have ho146 := rk_O (k := 646) hG hR h0 33 4940
              refine gt_gR (id := 646) dX10_join_144 fl_10_23 rfl rfl h0 hA hr145 ?_
              refine tt_iload_n (j := 4) dX10_join_147 rfl ?_
              refine gt_lLv (v := (mj (sg S) (R 646 o0) (x2 : Int32).toNatClampNeg)) dX10_join_148 ho146 hA (rg_in h2) (sg_j (a := (R 646 o0)) (i := (x2 : Int32).toNatClampNeg) (show sg S = (sg S) from rfl)) ?_
              refine tt_aload_n (j := 2) dX10_join_149 rfl ?_
              refine gt_gR (id := 646) dX10_join_150 fl_10_23 rfl rfl h0 hA hr145 ?_
              refine tt_iload_n (j := 5) dX10_join_153 rfl ?_
              refine gt_lLv (v := (mj (sg S) (R 646 o0) (x3 : Int32).toNatClampNeg)) dX10_join_154 ho146 hA (rg_in h3) (sg_j (a := (R 646 o0)) (i := (x3 : Int32).toNatClampNeg) (show sg S = (sg S) from rfl)) ?_
              refine gt_SJp (As := [.long (mj (sg S) (R 646 o0) (x2 : Int32).toNatClampNeg), .long (mj (sg S) (R 646 o0) (x3 : Int32).toNatClampNeg)]) dX10_join_155 ca_X10_172 ⟨by decide, by decide⟩ hA (Nat.le_of_ble_eq_true rfl) (Nat.le_of_ble_eq_true rfl) (by decide) (cz_X10_gcd hG  (fun _ _ _ _ h => h)) rfl (fun _ h => nomatch h) (fun _ _ q => q.1) (fun y147 hx149 => ?_)
              obtain rfl : gJ ((mj (sg S) (R 646 o0) (x2 : Int32).toNatClampNeg)) ((mj (sg S) (R 646 o0) (x3 : Int32).toNatClampNeg)) = y147 := ((el_w hx149.2).trans rfl).symm
              refine tt_aload_n (j := 2) dX10_join_158 rfl ?_
              refine gt_gR (id := 644) dX10_join_159 fl_10_16 rfl rfl h0 hA hr122 ?_
              refine tt_iload_n (j := 4) dX10_join_162 rfl ?_
              refine gt_lLv (v := (mj (sg S) (R 644 o0) (x2 : Int32).toNatClampNeg)) dX10_join_163 ho123 hA (rg_in h2) (sg_j (a := (R 644 o0)) (i := (x2 : Int32).toNatClampNeg) (show sg S = (sg S) from rfl)) ?_
              refine tt_aload_n (j := 2) dX10_join_164 rfl ?_
              refine gt_gR (id := 644) dX10_join_165 fl_10_16 rfl rfl h0 hA hr122 ?_
              refine tt_iload_n (j := 5) dX10_join_168 rfl ?_
              refine gt_lLv (v := (mj (sg S) (R 644 o0) (x3 : Int32).toNatClampNeg)) dX10_join_169 ho123 hA (rg_in h3) (sg_j (a := (R 644 o0)) (i := (x3 : Int32).toNatClampNeg) (show sg S = (sg S) from rfl)) ?_
              refine tt_lsub dX10_join_170 ?_
              refine gt_SJp (As := [.long (gJ ((mj (sg S) (R 646 o0) (x2 : Int32).toNatClampNeg)) ((mj (sg S) (R 646 o0) (x3 : Int32).toNatClampNeg))), .long ((mj (sg S) (R 644 o0) (x2 : Int32).toNatClampNeg) - (mj (sg S) (R 644 o0) (x3 : Int32).toNatClampNeg))]) dX10_join_171 ca_X10_172 ⟨by decide, by decide⟩ hA (Nat.le_of_ble_eq_true rfl) (Nat.le_of_ble_eq_true rfl) (by decide) (cz_X10_gcd hG  (fun _ _ _ _ h => h)) rfl (fun _ h => nomatch h) (fun _ _ q => q.1) (fun y150 hx152 => ?_)
              obtain rfl : gJ ((gJ ((mj (sg S) (R 646 o0) (x2 : Int32).toNatClampNeg)) ((mj (sg S) (R 646 o0) (x3 : Int32).toNatClampNeg)))) (((mj (sg S) (R 644 o0) (x2 : Int32).toNatClampNeg) - (mj (sg S) (R 644 o0) (x3 : Int32).toNatClampNeg))) = y150 := ((el_w hx152.2).trans rfl).symm
              refine gt_Vv (As := [.int x1, .int 1, .long (mj (sg S) (R 644 o0) (x3 : Int32).toNatClampNeg), .long (mj (sg S) (R 645 o0) (x2 : Int32).toNatClampNeg), .long (gJ ((gJ ((mj (sg S) (R 646 o0) (x2 : Int32).toNatClampNeg)) ((mj (sg S) (R 646 o0) (x3 : Int32).toNatClampNeg)))) (((mj (sg S) (R 644 o0) (x2 : Int32).toNatClampNeg) - (mj (sg S) (R 644 o0) (x3 : Int32).toNatClampNeg))))]) dX10_join_174 ca_X10_165 ⟨by decide, by decide⟩ h0 hA rfl (Nat.le_of_ble_eq_true rfl) (Nat.le_of_ble_eq_true rfl) (by decide) (cz_X10_make hG (oa_af h0 hA) (rg_w h1) hR (fun _ _ _ _ h => h)) rfl (fun _ h => nomatch h) (fun S153 hx157 hG154 hB155 hA156 => ?_)
              obtain ⟨d158, hd159⟩ : ∃ q, Z_X10_make R (sg S) o0 (x1) (1) ((mj (sg S) (R 644 o0) (x3 : Int32).toNatClampNeg)) ((mj (sg S) (R 645 o0) (x2 : Int32).toNatClampNeg)) ((gJ ((gJ ((mj (sg S) (R 646 o0) (x2 : Int32).toNatClampNeg)) ((mj (sg S) (R 646 o0) (x3 : Int32).toNatClampNeg)))) (((mj (sg S) (R 644 o0) (x2 : Int32).toNatClampNeg) - (mj (sg S) (R 644 o0) (x3 : Int32).toNatClampNeg))))) = q := ⟨_, rfl⟩
              have hq160 := (congrArg (fun q9 => Z_X10_make R q9 o0 (x1) (1) ((mj (sg S) (R 644 o0) (x3 : Int32).toNatClampNeg)) ((mj (sg S) (R 645 o0) (x2 : Int32).toNatClampNeg)) ((gJ ((gJ ((mj (sg S) (R 646 o0) (x2 : Int32).toNatClampNeg)) ((mj (sg S) (R 646 o0) (x3 : Int32).toNatClampNeg)))) (((mj (sg S) (R 644 o0) (x2 : Int32).toNatClampNeg) - (mj (sg S) (R 644 o0) (x3 : Int32).toNatClampNeg)))))) (show sg S = (sg S) from rfl)).trans hd159
              have hs161 := hx157.trans hq160
              have hF : Z_X10_join R (sg S) o0 x1 x2 x3 = d158 := by
                subst hd159
                exact zl_X10_join_6 q103 q114 q115 q121 (Int64.not_lt.mpr (lc_ge_t q124)) (lc_le_f q127)
              exact tt_vreturn dX10_join_177 rfl (hP _ _ _ _ ⟨hG154, hA156, Or.inl ⟨_, rfl, rfl, Eq.trans hs161 hF.symm, rfl, rfl⟩⟩)
          · skip
            refine tt_aload_n (j := 0) dX10_join_86 rfl ?_
            refine gt_gR (id := 644) dX10_join_87 fl_10_16 rfl rfl h0 hA hr122 ?_
            refine tt_iload_n (j := 2) dX10_join_90 rfl ?_
            refine gt_lLv (v := (mj (sg S) (R 644 o0) (x2 : Int32).toNatClampNeg)) dX10_join_91 ho123 hA (rg_in h2) (sg_j (a := (R 644 o0)) (i := (x2 : Int32).toNatClampNeg) (show sg S = (sg S) from rfl)) ?_
            refine tt_goto (tgt := 101) dX10_join_92 rfl ?_
            refine tt_lstore (ks := [0, 1, 2, 3, 4]) (L' := [(4, .long (mj (sg S) (R 644 o0) (x2 : Int32).toNatClampNeg)), (0, .ref o0), (1, .int x1), (2, .int x2), (3, .int x3)]) dX10_join_101 (by decide) rfl ?_
            refine tt_aload_n (j := 1) dX10_join_103 rfl ?_
            have hr162 := rk_R (k := 645) hR h0 33 4940
            have ho163 := rk_O (k := 645) hG hR h0 33 4940
            refine gt_gR (id := 645) dX10_join_104 fl_10_20 rfl rfl h0 hA hr162 ?_
            refine tt_iload_n (j := 3) dX10_join_107 rfl ?_
            refine gt_lLv (v := (mj (sg S) (R 645 o0) (x2 : Int32).toNatClampNeg)) dX10_join_108 ho163 hA (rg_in h2) (sg_j (a := (R 645 o0)) (i := (x2 : Int32).toNatClampNeg) (show sg S = (sg S) from rfl)) ?_
            refine tt_aload_n (j := 1) dX10_join_109 rfl ?_
            refine gt_gR (id := 645) dX10_join_110 fl_10_20 rfl rfl h0 hA hr162 ?_
            refine tt_iload_n (j := 4) dX10_join_113 rfl ?_
            refine gt_lLv (v := (mj (sg S) (R 645 o0) (x3 : Int32).toNatClampNeg)) dX10_join_114 ho163 hA (rg_in h3) (sg_j (a := (R 645 o0)) (i := (x3 : Int32).toNatClampNeg) (show sg S = (sg S) from rfl)) ?_
            refine tt_lcmp dX10_join_115 ?_
            refine tt_if_le (tgt := 128) dX10_join_116 rfl (fun q164 => ?_) (fun q164 => ?_)
            · skip
              refine tt_aload_n (j := 1) dX10_join_128 rfl ?_
              refine gt_gR (id := 645) dX10_join_129 fl_10_20 rfl rfl h0 hA hr162 ?_
              refine tt_iload_n (j := 4) dX10_join_132 rfl ?_
              refine gt_lLv (v := (mj (sg S) (R 645 o0) (x3 : Int32).toNatClampNeg)) dX10_join_133 ho163 hA (rg_in h3) (sg_j (a := (R 645 o0)) (i := (x3 : Int32).toNatClampNeg) (show sg S = (sg S) from rfl)) ?_
              refine tt_lstore (ks := [0, 1, 2, 3, 4, 5]) (L' := [(6, .long (mj (sg S) (R 645 o0) (x3 : Int32).toNatClampNeg)), (4, .long (mj (sg S) (R 644 o0) (x2 : Int32).toNatClampNeg)), (0, .ref o0), (1, .int x1), (2, .int x2), (3, .int x3)]) dX10_join_134 (by decide) rfl ?_
              refine tt_aload_n (j := 2) dX10_join_136 rfl ?_
              refine tt_iload_n (j := 3) dX10_join_137 rfl ?_
              refine tt_iconst (v := 1) dX10_join_138 rfl ?_
              refine tt_lload (j := 1) dX10_join_139 rfl ?_
              refine tt_lload (j := 0) dX10_join_141 rfl ?_
              refine tt_aload_n (j := 2) dX10_join_143 rfl ?_
              have hr165 := rk_R (k := 646) hR h0 33 4940
              have ho166 := rk_O (k := 646) hG hR h0 33 4940
              refine gt_gR (id := 646) dX10_join_144 fl_10_23 rfl rfl h0 hA hr165 ?_
              refine tt_iload_n (j := 4) dX10_join_147 rfl ?_
              refine gt_lLv (v := (mj (sg S) (R 646 o0) (x2 : Int32).toNatClampNeg)) dX10_join_148 ho166 hA (rg_in h2) (sg_j (a := (R 646 o0)) (i := (x2 : Int32).toNatClampNeg) (show sg S = (sg S) from rfl)) ?_
              refine tt_aload_n (j := 2) dX10_join_149 rfl ?_
              refine gt_gR (id := 646) dX10_join_150 fl_10_23 rfl rfl h0 hA hr165 ?_
              refine tt_iload_n (j := 5) dX10_join_153 rfl ?_
              refine gt_lLv (v := (mj (sg S) (R 646 o0) (x3 : Int32).toNatClampNeg)) dX10_join_154 ho166 hA (rg_in h3) (sg_j (a := (R 646 o0)) (i := (x3 : Int32).toNatClampNeg) (show sg S = (sg S) from rfl)) ?_
              refine gt_SJp (As := [.long (mj (sg S) (R 646 o0) (x2 : Int32).toNatClampNeg), .long (mj (sg S) (R 646 o0) (x3 : Int32).toNatClampNeg)]) dX10_join_155 ca_X10_172 ⟨by decide, by decide⟩ hA (Nat.le_of_ble_eq_true rfl) (Nat.le_of_ble_eq_true rfl) (by decide) (cz_X10_gcd hG  (fun _ _ _ _ h => h)) rfl (fun _ h => nomatch h) (fun _ _ q => q.1) (fun y167 hx169 => ?_)
              obtain rfl : gJ ((mj (sg S) (R 646 o0) (x2 : Int32).toNatClampNeg)) ((mj (sg S) (R 646 o0) (x3 : Int32).toNatClampNeg)) = y167 := ((el_w hx169.2).trans rfl).symm
              refine tt_aload_n (j := 2) dX10_join_158 rfl ?_
              refine gt_gR (id := 644) dX10_join_159 fl_10_16 rfl rfl h0 hA hr122 ?_
              refine tt_iload_n (j := 4) dX10_join_162 rfl ?_
              refine gt_lLv (v := (mj (sg S) (R 644 o0) (x2 : Int32).toNatClampNeg)) dX10_join_163 ho123 hA (rg_in h2) (sg_j (a := (R 644 o0)) (i := (x2 : Int32).toNatClampNeg) (show sg S = (sg S) from rfl)) ?_
              refine tt_aload_n (j := 2) dX10_join_164 rfl ?_
              refine gt_gR (id := 644) dX10_join_165 fl_10_16 rfl rfl h0 hA hr122 ?_
              refine tt_iload_n (j := 5) dX10_join_168 rfl ?_
              refine gt_lLv (v := (mj (sg S) (R 644 o0) (x3 : Int32).toNatClampNeg)) dX10_join_169 ho123 hA (rg_in h3) (sg_j (a := (R 644 o0)) (i := (x3 : Int32).toNatClampNeg) (show sg S = (sg S) from rfl)) ?_
              refine tt_lsub dX10_join_170 ?_
              refine gt_SJp (As := [.long (gJ ((mj (sg S) (R 646 o0) (x2 : Int32).toNatClampNeg)) ((mj (sg S) (R 646 o0) (x3 : Int32).toNatClampNeg))), .long ((mj (sg S) (R 644 o0) (x2 : Int32).toNatClampNeg) - (mj (sg S) (R 644 o0) (x3 : Int32).toNatClampNeg))]) dX10_join_171 ca_X10_172 ⟨by decide, by decide⟩ hA (Nat.le_of_ble_eq_true rfl) (Nat.le_of_ble_eq_true rfl) (by decide) (cz_X10_gcd hG  (fun _ _ _ _ h => h)) rfl (fun _ h => nomatch h) (fun _ _ q => q.1) (fun y170 hx172 => ?_)
              obtain rfl : gJ ((gJ ((mj (sg S) (R 646 o0) (x2 : Int32).toNatClampNeg)) ((mj (sg S) (R 646 o0) (x3 : Int32).toNatClampNeg)))) (((mj (sg S) (R 644 o0) (x2 : Int32).toNatClampNeg) - (mj (sg S) (R 644 o0) (x3 : Int32).toNatClampNeg))) = y170 := ((el_w hx172.2).trans rfl).symm
              refine gt_Vv (As := [.int x1, .int 1, .long (mj (sg S) (R 644 o0) (x2 : Int32).toNatClampNeg), .long (mj (sg S) (R 645 o0) (x3 : Int32).toNatClampNeg), .long (gJ ((gJ ((mj (sg S) (R 646 o0) (x2 : Int32).toNatClampNeg)) ((mj (sg S) (R 646 o0) (x3 : Int32).toNatClampNeg)))) (((mj (sg S) (R 644 o0) (x2 : Int32).toNatClampNeg) - (mj (sg S) (R 644 o0) (x3 : Int32).toNatClampNeg))))]) dX10_join_174 ca_X10_165 ⟨by decide, by decide⟩ h0 hA rfl (Nat.le_of_ble_eq_true rfl) (Nat.le_of_ble_eq_true rfl) (by decide) (cz_X10_make hG (oa_af h0 hA) (rg_w h1) hR (fun _ _ _ _ h => h)) rfl (fun _ h => nomatch h) (fun S173 hx177 hG174 hB175 hA176 => ?_)
              obtain ⟨d178, hd179⟩ : ∃ q, Z_X10_make R (sg S) o0 (x1) (1) ((mj (sg S) (R 644 o0) (x2 : Int32).toNatClampNeg)) ((mj (sg S) (R 645 o0) (x3 : Int32).toNatClampNeg)) ((gJ ((gJ ((mj (sg S) (R 646 o0) (x2 : Int32).toNatClampNeg)) ((mj (sg S) (R 646 o0) (x3 : Int32).toNatClampNeg)))) (((mj (sg S) (R 644 o0) (x2 : Int32).toNatClampNeg) - (mj (sg S) (R 644 o0) (x3 : Int32).toNatClampNeg))))) = q := ⟨_, rfl⟩
              have hq180 := (congrArg (fun q9 => Z_X10_make R q9 o0 (x1) (1) ((mj (sg S) (R 644 o0) (x2 : Int32).toNatClampNeg)) ((mj (sg S) (R 645 o0) (x3 : Int32).toNatClampNeg)) ((gJ ((gJ ((mj (sg S) (R 646 o0) (x2 : Int32).toNatClampNeg)) ((mj (sg S) (R 646 o0) (x3 : Int32).toNatClampNeg)))) (((mj (sg S) (R 644 o0) (x2 : Int32).toNatClampNeg) - (mj (sg S) (R 644 o0) (x3 : Int32).toNatClampNeg)))))) (show sg S = (sg S) from rfl)).trans hd179
              have hs181 := hx177.trans hq180
              have hF : Z_X10_join R (sg S) o0 x1 x2 x3 = d178 := by
                subst hd179
                exact zl_X10_join_5 q103 q114 q115 q121 (lc_ge_f q124) (Int64.not_lt.mpr (lc_le_t q164))
              exact tt_vreturn dX10_join_177 rfl (hP _ _ _ _ ⟨hG174, hA176, Or.inl ⟨_, rfl, rfl, Eq.trans hs181 hF.symm, rfl, rfl⟩⟩)
            · skip
              refine tt_aload_n (j := 1) dX10_join_119 rfl ?_
              refine gt_gR (id := 645) dX10_join_120 fl_10_20 rfl rfl h0 hA hr162 ?_
              refine tt_iload_n (j := 3) dX10_join_123 rfl ?_
              refine gt_lLv (v := (mj (sg S) (R 645 o0) (x2 : Int32).toNatClampNeg)) dX10_join_124 ho163 hA (rg_in h2) (sg_j (a := (R 645 o0)) (i := (x2 : Int32).toNatClampNeg) (show sg S = (sg S) from rfl)) ?_
              refine tt_goto (tgt := 134) dX10_join_125 rfl ?_
              refine tt_lstore (ks := [0, 1, 2, 3, 4, 5]) (L' := [(6, .long (mj (sg S) (R 645 o0) (x2 : Int32).toNatClampNeg)), (4, .long (mj (sg S) (R 644 o0) (x2 : Int32).toNatClampNeg)), (0, .ref o0), (1, .int x1), (2, .int x2), (3, .int x3)]) dX10_join_134 (by decide) rfl ?_
              refine tt_aload_n (j := 2) dX10_join_136 rfl ?_
              refine tt_iload_n (j := 3) dX10_join_137 rfl ?_
              refine tt_iconst (v := 1) dX10_join_138 rfl ?_
              refine tt_lload (j := 1) dX10_join_139 rfl ?_
              refine tt_lload (j := 0) dX10_join_141 rfl ?_
              refine tt_aload_n (j := 2) dX10_join_143 rfl ?_
              have hr182 := rk_R (k := 646) hR h0 33 4940
              have ho183 := rk_O (k := 646) hG hR h0 33 4940
              refine gt_gR (id := 646) dX10_join_144 fl_10_23 rfl rfl h0 hA hr182 ?_
              refine tt_iload_n (j := 4) dX10_join_147 rfl ?_
              refine gt_lLv (v := (mj (sg S) (R 646 o0) (x2 : Int32).toNatClampNeg)) dX10_join_148 ho183 hA (rg_in h2) (sg_j (a := (R 646 o0)) (i := (x2 : Int32).toNatClampNeg) (show sg S = (sg S) from rfl)) ?_
              refine tt_aload_n (j := 2) dX10_join_149 rfl ?_
              refine gt_gR (id := 646) dX10_join_150 fl_10_23 rfl rfl h0 hA hr182 ?_
              refine tt_iload_n (j := 5) dX10_join_153 rfl ?_
              refine gt_lLv (v := (mj (sg S) (R 646 o0) (x3 : Int32).toNatClampNeg)) dX10_join_154 ho183 hA (rg_in h3) (sg_j (a := (R 646 o0)) (i := (x3 : Int32).toNatClampNeg) (show sg S = (sg S) from rfl)) ?_
              refine gt_SJp (As := [.long (mj (sg S) (R 646 o0) (x2 : Int32).toNatClampNeg), .long (mj (sg S) (R 646 o0) (x3 : Int32).toNatClampNeg)]) dX10_join_155 ca_X10_172 ⟨by decide, by decide⟩ hA (Nat.le_of_ble_eq_true rfl) (Nat.le_of_ble_eq_true rfl) (by decide) (cz_X10_gcd hG  (fun _ _ _ _ h => h)) rfl (fun _ h => nomatch h) (fun _ _ q => q.1) (fun y184 hx186 => ?_)
              obtain rfl : gJ ((mj (sg S) (R 646 o0) (x2 : Int32).toNatClampNeg)) ((mj (sg S) (R 646 o0) (x3 : Int32).toNatClampNeg)) = y184 := ((el_w hx186.2).trans rfl).symm
              refine tt_aload_n (j := 2) dX10_join_158 rfl ?_
              refine gt_gR (id := 644) dX10_join_159 fl_10_16 rfl rfl h0 hA hr122 ?_
              refine tt_iload_n (j := 4) dX10_join_162 rfl ?_
              refine gt_lLv (v := (mj (sg S) (R 644 o0) (x2 : Int32).toNatClampNeg)) dX10_join_163 ho123 hA (rg_in h2) (sg_j (a := (R 644 o0)) (i := (x2 : Int32).toNatClampNeg) (show sg S = (sg S) from rfl)) ?_
              refine tt_aload_n (j := 2) dX10_join_164 rfl ?_
              refine gt_gR (id := 644) dX10_join_165 fl_10_16 rfl rfl h0 hA hr122 ?_
              refine tt_iload_n (j := 5) dX10_join_168 rfl ?_
              refine gt_lLv (v := (mj (sg S) (R 644 o0) (x3 : Int32).toNatClampNeg)) dX10_join_169 ho123 hA (rg_in h3) (sg_j (a := (R 644 o0)) (i := (x3 : Int32).toNatClampNeg) (show sg S = (sg S) from rfl)) ?_
              refine tt_lsub dX10_join_170 ?_
              refine gt_SJp (As := [.long (gJ ((mj (sg S) (R 646 o0) (x2 : Int32).toNatClampNeg)) ((mj (sg S) (R 646 o0) (x3 : Int32).toNatClampNeg))), .long ((mj (sg S) (R 644 o0) (x2 : Int32).toNatClampNeg) - (mj (sg S) (R 644 o0) (x3 : Int32).toNatClampNeg))]) dX10_join_171 ca_X10_172 ⟨by decide, by decide⟩ hA (Nat.le_of_ble_eq_true rfl) (Nat.le_of_ble_eq_true rfl) (by decide) (cz_X10_gcd hG  (fun _ _ _ _ h => h)) rfl (fun _ h => nomatch h) (fun _ _ q => q.1) (fun y187 hx189 => ?_)
              obtain rfl : gJ ((gJ ((mj (sg S) (R 646 o0) (x2 : Int32).toNatClampNeg)) ((mj (sg S) (R 646 o0) (x3 : Int32).toNatClampNeg)))) (((mj (sg S) (R 644 o0) (x2 : Int32).toNatClampNeg) - (mj (sg S) (R 644 o0) (x3 : Int32).toNatClampNeg))) = y187 := ((el_w hx189.2).trans rfl).symm
              refine gt_Vv (As := [.int x1, .int 1, .long (mj (sg S) (R 644 o0) (x2 : Int32).toNatClampNeg), .long (mj (sg S) (R 645 o0) (x2 : Int32).toNatClampNeg), .long (gJ ((gJ ((mj (sg S) (R 646 o0) (x2 : Int32).toNatClampNeg)) ((mj (sg S) (R 646 o0) (x3 : Int32).toNatClampNeg)))) (((mj (sg S) (R 644 o0) (x2 : Int32).toNatClampNeg) - (mj (sg S) (R 644 o0) (x3 : Int32).toNatClampNeg))))]) dX10_join_174 ca_X10_165 ⟨by decide, by decide⟩ h0 hA rfl (Nat.le_of_ble_eq_true rfl) (Nat.le_of_ble_eq_true rfl) (by decide) (cz_X10_make hG (oa_af h0 hA) (rg_w h1) hR (fun _ _ _ _ h => h)) rfl (fun _ h => nomatch h) (fun S190 hx194 hG191 hB192 hA193 => ?_)
              obtain ⟨d195, hd196⟩ : ∃ q, Z_X10_make R (sg S) o0 (x1) (1) ((mj (sg S) (R 644 o0) (x2 : Int32).toNatClampNeg)) ((mj (sg S) (R 645 o0) (x2 : Int32).toNatClampNeg)) ((gJ ((gJ ((mj (sg S) (R 646 o0) (x2 : Int32).toNatClampNeg)) ((mj (sg S) (R 646 o0) (x3 : Int32).toNatClampNeg)))) (((mj (sg S) (R 644 o0) (x2 : Int32).toNatClampNeg) - (mj (sg S) (R 644 o0) (x3 : Int32).toNatClampNeg))))) = q := ⟨_, rfl⟩
              have hq197 := (congrArg (fun q9 => Z_X10_make R q9 o0 (x1) (1) ((mj (sg S) (R 644 o0) (x2 : Int32).toNatClampNeg)) ((mj (sg S) (R 645 o0) (x2 : Int32).toNatClampNeg)) ((gJ ((gJ ((mj (sg S) (R 646 o0) (x2 : Int32).toNatClampNeg)) ((mj (sg S) (R 646 o0) (x3 : Int32).toNatClampNeg)))) (((mj (sg S) (R 644 o0) (x2 : Int32).toNatClampNeg) - (mj (sg S) (R 644 o0) (x3 : Int32).toNatClampNeg)))))) (show sg S = (sg S) from rfl)).trans hd196
              have hs198 := hx194.trans hq197
              have hF : Z_X10_join R (sg S) o0 x1 x2 x3 = d195 := by
                subst hd196
                exact zl_X10_join_4 q103 q114 q115 q121 (lc_ge_f q124) (lc_le_f q164)
              exact tt_vreturn dX10_join_177 rfl (hP _ _ _ _ ⟨hG191, hA193, Or.inl ⟨_, rfl, rfl, Eq.trans hs198 hF.symm, rfl, rfl⟩⟩)
        · skip
          have h199 : Rg 2 2 (mi (sg S) (R 643 o0) (x3 : Int32).toNatClampNeg) := rg_eq_l (rg_all (mi (sg S) (R 643 o0) (x3 : Int32).toNatClampNeg)) (⟨by decide, by decide⟩ : Rg 2 2 2) q121
          refine tt_aload_n (j := 0) dX10_join_60 rfl ?_
          refine gt_gR (id := 643) dX10_join_61 fl_10_13 rfl rfl h0 hA hr101 ?_
          refine tt_iload_n (j := 1) dX10_join_64 rfl ?_
          refine tt_iconst (v := 2) dX10_join_65 rfl ?_
          refine gx_iS dX10_join_66 ho102 hA (Or.inl (by decide)) (rg_in h1) hG (by decide) (show sg S = (sg S) from rfl) (fun S200 hG201 hA202 e203 => ?_)
          refine tt_goto (tgt := 177) dX10_join_67 rfl ?_
          have hF : Z_X10_join R (sg S) o0 x1 x2 x3 = (ui (sg S) (R 643 o0) (x1 : Int32).toNatClampNeg 2) := by
            exact zl_X10_join_3 q103 q114 q115 q121
          exact tt_vreturn dX10_join_177 rfl (hP _ _ _ _ ⟨hG201, hA202, Or.inl ⟨_, rfl, rfl, Eq.trans e203 hF.symm, rfl, rfl⟩⟩)
    · skip
      have h204 : Rg 0 0 (mi (sg S) (R 643 o0) (x3 : Int32).toNatClampNeg) := rg_eq_l (rg_all (mi (sg S) (R 643 o0) (x3 : Int32).toNatClampNeg)) (⟨by decide, by decide⟩ : Rg 0 0 0) q114
      refine tt_aload_n (j := 0) dX10_join_18 rfl ?_
      refine tt_iload_n (j := 1) dX10_join_19 rfl ?_
      refine tt_aload_n (j := 0) dX10_join_20 rfl ?_
      refine gt_gR (id := 643) dX10_join_21 fl_10_13 rfl rfl h0 hA hr101 ?_
      refine tt_iload_n (j := 2) dX10_join_24 rfl ?_
      refine gx_iL (v := (mi (sg S) (R 643 o0) (x2 : Int32).toNatClampNeg)) dX10_join_25 ho102 hA (rg_in h2) (sg_i (a := (R 643 o0)) (i := (x2 : Int32).toNatClampNeg) (show sg S = (sg S) from rfl)) ?_
      refine tt_if_ne (tgt := 33) dX10_join_26 rfl (fun _ => ?_) (fun q => absurd q q103)
      refine tt_iload_n (j := 2) dX10_join_33 rfl ?_
      refine gt_Vv (As := [.int x1, .int x2]) dX10_join_34 ca_X10_169 ⟨by decide, by decide⟩ h0 hA rfl (Nat.le_of_ble_eq_true rfl) (Nat.le_of_ble_eq_true rfl) (by decide) (cz_X10_copy hG (oa_af h0 hA) (rg_w h1) (rg_w h2) hR (fun _ _ _ _ h => h)) rfl (fun _ h => nomatch h) (fun S205 hx209 hG206 hB207 hA208 => ?_)
      obtain ⟨d210, hd211⟩ : ∃ q, Z_X10_copy R (sg S) o0 (x1) (x2) = q := ⟨_, rfl⟩
      have hq212 := (congrArg (fun q9 => Z_X10_copy R q9 o0 (x1) (x2)) (show sg S = (sg S) from rfl)).trans hd211
      have hs213 := hx209.trans hq212
      refine tt_goto (tgt := 177) dX10_join_37 rfl ?_
      have hF : Z_X10_join R (sg S) o0 x1 x2 x3 = d210 := by
        subst hd211
        exact zl_X10_join_1 q103 q114
      exact tt_vreturn dX10_join_177 rfl (hP _ _ _ _ ⟨hG206, hA208, Or.inl ⟨_, rfl, rfl, Eq.trans hs213 hF.symm, rfl, rfl⟩⟩)
def Z_X10_widen (R : Nat → Nat → Nat) (σ : SG) (o0 : Nat) (x1 : Int32) (x2 : Int32) (x3 : Int32) : SG :=
  let d106 := Z_X10_join R σ o0 (4930) (x2) (x3)
  if (mi d106 (R 643 o0) (4930 : Int32).toNatClampNeg) = 1 then
    if (mi d106 (R 643 o0) (x2 : Int32).toNatClampNeg) = 1 then
      if (mi d106 (R 643 o0) (x3 : Int32).toNatClampNeg) = 1 then
        if (0 : Int64) < (mj d106 (R 646 o0) (4930 : Int32).toNatClampNeg) then
          if (mj d106 (R 644 o0) (4930 : Int32).toNatClampNeg) < (mj d106 (R 644 o0) (x2 : Int32).toNatClampNeg) then
            if (mj d106 (R 645 o0) (x2 : Int32).toNatClampNeg) < (mj d106 (R 645 o0) (4930 : Int32).toNatClampNeg) then
              let d223 := Z_X10_make R d106 o0 (4930) (1) (((mj d106 (R 644 o0) (4930 : Int32).toNatClampNeg) - ((((mj d106 (R 644 o0) (4930 : Int32).toNatClampNeg) + 2305843009213693952) / (mj d106 (R 646 o0) (4930 : Int32).toNatClampNeg)) * (mj d106 (R 646 o0) (4930 : Int32).toNatClampNeg)))) (((mj d106 (R 645 o0) (4930 : Int32).toNatClampNeg) + (((2305843009213693952 - (mj d106 (R 645 o0) (4930 : Int32).toNatClampNeg)) / (mj d106 (R 646 o0) (4930 : Int32).toNatClampNeg)) * (mj d106 (R 646 o0) (4930 : Int32).toNatClampNeg)))) ((mj d106 (R 646 o0) (4930 : Int32).toNatClampNeg))
              let d232 := Z_X10_copy R d223 o0 (x1) (4930)
              d232
            else
              let d205 := Z_X10_make R d106 o0 (4930) (1) (((mj d106 (R 644 o0) (4930 : Int32).toNatClampNeg) - ((((mj d106 (R 644 o0) (4930 : Int32).toNatClampNeg) + 2305843009213693952) / (mj d106 (R 646 o0) (4930 : Int32).toNatClampNeg)) * (mj d106 (R 646 o0) (4930 : Int32).toNatClampNeg)))) ((mj d106 (R 645 o0) (4930 : Int32).toNatClampNeg)) ((mj d106 (R 646 o0) (4930 : Int32).toNatClampNeg))
              let d214 := Z_X10_copy R d205 o0 (x1) (4930)
              d214
          else
            if (mj d106 (R 645 o0) (x2 : Int32).toNatClampNeg) < (mj d106 (R 645 o0) (4930 : Int32).toNatClampNeg) then
              let d186 := Z_X10_make R d106 o0 (4930) (1) ((mj d106 (R 644 o0) (4930 : Int32).toNatClampNeg)) (((mj d106 (R 645 o0) (4930 : Int32).toNatClampNeg) + (((2305843009213693952 - (mj d106 (R 645 o0) (4930 : Int32).toNatClampNeg)) / (mj d106 (R 646 o0) (4930 : Int32).toNatClampNeg)) * (mj d106 (R 646 o0) (4930 : Int32).toNatClampNeg)))) ((mj d106 (R 646 o0) (4930 : Int32).toNatClampNeg))
              let d195 := Z_X10_copy R d186 o0 (x1) (4930)
              d195
            else
              let d168 := Z_X10_make R d106 o0 (4930) (1) ((mj d106 (R 644 o0) (4930 : Int32).toNatClampNeg)) ((mj d106 (R 645 o0) (4930 : Int32).toNatClampNeg)) ((mj d106 (R 646 o0) (4930 : Int32).toNatClampNeg))
              let d177 := Z_X10_copy R d168 o0 (x1) (4930)
              d177
        else
          let d153 := Z_X10_copy R d106 o0 (x1) (4930)
          d153
      else
        let d140 := Z_X10_copy R d106 o0 (x1) (4930)
        d140
    else
      let d129 := Z_X10_copy R d106 o0 (x1) (4930)
      d129
  else
    let d118 := Z_X10_copy R d106 o0 (x1) (4930)
    d118
theorem zl_X10_widen_0 {R : Nat → Nat → Nat} {σ : SG} {o0 : Nat} {x1 : Int32} {x2 : Int32} {x3 : Int32} (h0 : (mi (Z_X10_join R σ o0 (4930) (x2) (x3)) (R 643 o0) (4930 : Int32).toNatClampNeg) = 1) (h1 : (mi (Z_X10_join R σ o0 (4930) (x2) (x3)) (R 643 o0) (x2 : Int32).toNatClampNeg) = 1) (h2 : (mi (Z_X10_join R σ o0 (4930) (x2) (x3)) (R 643 o0) (x3 : Int32).toNatClampNeg) = 1) (h3 : (0 : Int64) < (mj (Z_X10_join R σ o0 (4930) (x2) (x3)) (R 646 o0) (4930 : Int32).toNatClampNeg)) (h4 : (mj (Z_X10_join R σ o0 (4930) (x2) (x3)) (R 644 o0) (4930 : Int32).toNatClampNeg) < (mj (Z_X10_join R σ o0 (4930) (x2) (x3)) (R 644 o0) (x2 : Int32).toNatClampNeg)) (h5 : (mj (Z_X10_join R σ o0 (4930) (x2) (x3)) (R 645 o0) (x2 : Int32).toNatClampNeg) < (mj (Z_X10_join R σ o0 (4930) (x2) (x3)) (R 645 o0) (4930 : Int32).toNatClampNeg)) : Z_X10_widen R σ o0 x1 x2 x3 = (Z_X10_copy R (Z_X10_make R (Z_X10_join R σ o0 (4930) (x2) (x3)) o0 (4930) (1) (((mj (Z_X10_join R σ o0 (4930) (x2) (x3)) (R 644 o0) (4930 : Int32).toNatClampNeg) - ((((mj (Z_X10_join R σ o0 (4930) (x2) (x3)) (R 644 o0) (4930 : Int32).toNatClampNeg) + 2305843009213693952) / (mj (Z_X10_join R σ o0 (4930) (x2) (x3)) (R 646 o0) (4930 : Int32).toNatClampNeg)) * (mj (Z_X10_join R σ o0 (4930) (x2) (x3)) (R 646 o0) (4930 : Int32).toNatClampNeg)))) (((mj (Z_X10_join R σ o0 (4930) (x2) (x3)) (R 645 o0) (4930 : Int32).toNatClampNeg) + (((2305843009213693952 - (mj (Z_X10_join R σ o0 (4930) (x2) (x3)) (R 645 o0) (4930 : Int32).toNatClampNeg)) / (mj (Z_X10_join R σ o0 (4930) (x2) (x3)) (R 646 o0) (4930 : Int32).toNatClampNeg)) * (mj (Z_X10_join R σ o0 (4930) (x2) (x3)) (R 646 o0) (4930 : Int32).toNatClampNeg)))) ((mj (Z_X10_join R σ o0 (4930) (x2) (x3)) (R 646 o0) (4930 : Int32).toNatClampNeg))) o0 (x1) (4930)) := by unfold Z_X10_widen; exact Eq.trans (if_pos h0) (Eq.trans (if_pos h1) (Eq.trans (if_pos h2) (Eq.trans (if_pos h3) (Eq.trans (if_pos h4) (if_pos h5)))))
theorem zl_X10_widen_1 {R : Nat → Nat → Nat} {σ : SG} {o0 : Nat} {x1 : Int32} {x2 : Int32} {x3 : Int32} (h0 : (mi (Z_X10_join R σ o0 (4930) (x2) (x3)) (R 643 o0) (4930 : Int32).toNatClampNeg) = 1) (h1 : (mi (Z_X10_join R σ o0 (4930) (x2) (x3)) (R 643 o0) (x2 : Int32).toNatClampNeg) = 1) (h2 : (mi (Z_X10_join R σ o0 (4930) (x2) (x3)) (R 643 o0) (x3 : Int32).toNatClampNeg) = 1) (h3 : (0 : Int64) < (mj (Z_X10_join R σ o0 (4930) (x2) (x3)) (R 646 o0) (4930 : Int32).toNatClampNeg)) (h4 : (mj (Z_X10_join R σ o0 (4930) (x2) (x3)) (R 644 o0) (4930 : Int32).toNatClampNeg) < (mj (Z_X10_join R σ o0 (4930) (x2) (x3)) (R 644 o0) (x2 : Int32).toNatClampNeg)) (h5 : ¬ (mj (Z_X10_join R σ o0 (4930) (x2) (x3)) (R 645 o0) (x2 : Int32).toNatClampNeg) < (mj (Z_X10_join R σ o0 (4930) (x2) (x3)) (R 645 o0) (4930 : Int32).toNatClampNeg)) : Z_X10_widen R σ o0 x1 x2 x3 = (Z_X10_copy R (Z_X10_make R (Z_X10_join R σ o0 (4930) (x2) (x3)) o0 (4930) (1) (((mj (Z_X10_join R σ o0 (4930) (x2) (x3)) (R 644 o0) (4930 : Int32).toNatClampNeg) - ((((mj (Z_X10_join R σ o0 (4930) (x2) (x3)) (R 644 o0) (4930 : Int32).toNatClampNeg) + 2305843009213693952) / (mj (Z_X10_join R σ o0 (4930) (x2) (x3)) (R 646 o0) (4930 : Int32).toNatClampNeg)) * (mj (Z_X10_join R σ o0 (4930) (x2) (x3)) (R 646 o0) (4930 : Int32).toNatClampNeg)))) ((mj (Z_X10_join R σ o0 (4930) (x2) (x3)) (R 645 o0) (4930 : Int32).toNatClampNeg)) ((mj (Z_X10_join R σ o0 (4930) (x2) (x3)) (R 646 o0) (4930 : Int32).toNatClampNeg))) o0 (x1) (4930)) := by unfold Z_X10_widen; exact Eq.trans (if_pos h0) (Eq.trans (if_pos h1) (Eq.trans (if_pos h2) (Eq.trans (if_pos h3) (Eq.trans (if_pos h4) (if_neg h5)))))
theorem zl_X10_widen_2 {R : Nat → Nat → Nat} {σ : SG} {o0 : Nat} {x1 : Int32} {x2 : Int32} {x3 : Int32} (h0 : (mi (Z_X10_join R σ o0 (4930) (x2) (x3)) (R 643 o0) (4930 : Int32).toNatClampNeg) = 1) (h1 : (mi (Z_X10_join R σ o0 (4930) (x2) (x3)) (R 643 o0) (x2 : Int32).toNatClampNeg) = 1) (h2 : (mi (Z_X10_join R σ o0 (4930) (x2) (x3)) (R 643 o0) (x3 : Int32).toNatClampNeg) = 1) (h3 : (0 : Int64) < (mj (Z_X10_join R σ o0 (4930) (x2) (x3)) (R 646 o0) (4930 : Int32).toNatClampNeg)) (h4 : ¬ (mj (Z_X10_join R σ o0 (4930) (x2) (x3)) (R 644 o0) (4930 : Int32).toNatClampNeg) < (mj (Z_X10_join R σ o0 (4930) (x2) (x3)) (R 644 o0) (x2 : Int32).toNatClampNeg)) (h5 : (mj (Z_X10_join R σ o0 (4930) (x2) (x3)) (R 645 o0) (x2 : Int32).toNatClampNeg) < (mj (Z_X10_join R σ o0 (4930) (x2) (x3)) (R 645 o0) (4930 : Int32).toNatClampNeg)) : Z_X10_widen R σ o0 x1 x2 x3 = (Z_X10_copy R (Z_X10_make R (Z_X10_join R σ o0 (4930) (x2) (x3)) o0 (4930) (1) ((mj (Z_X10_join R σ o0 (4930) (x2) (x3)) (R 644 o0) (4930 : Int32).toNatClampNeg)) (((mj (Z_X10_join R σ o0 (4930) (x2) (x3)) (R 645 o0) (4930 : Int32).toNatClampNeg) + (((2305843009213693952 - (mj (Z_X10_join R σ o0 (4930) (x2) (x3)) (R 645 o0) (4930 : Int32).toNatClampNeg)) / (mj (Z_X10_join R σ o0 (4930) (x2) (x3)) (R 646 o0) (4930 : Int32).toNatClampNeg)) * (mj (Z_X10_join R σ o0 (4930) (x2) (x3)) (R 646 o0) (4930 : Int32).toNatClampNeg)))) ((mj (Z_X10_join R σ o0 (4930) (x2) (x3)) (R 646 o0) (4930 : Int32).toNatClampNeg))) o0 (x1) (4930)) := by unfold Z_X10_widen; exact Eq.trans (if_pos h0) (Eq.trans (if_pos h1) (Eq.trans (if_pos h2) (Eq.trans (if_pos h3) (Eq.trans (if_neg h4) (if_pos h5)))))
theorem zl_X10_widen_3 {R : Nat → Nat → Nat} {σ : SG} {o0 : Nat} {x1 : Int32} {x2 : Int32} {x3 : Int32} (h0 : (mi (Z_X10_join R σ o0 (4930) (x2) (x3)) (R 643 o0) (4930 : Int32).toNatClampNeg) = 1) (h1 : (mi (Z_X10_join R σ o0 (4930) (x2) (x3)) (R 643 o0) (x2 : Int32).toNatClampNeg) = 1) (h2 : (mi (Z_X10_join R σ o0 (4930) (x2) (x3)) (R 643 o0) (x3 : Int32).toNatClampNeg) = 1) (h3 : (0 : Int64) < (mj (Z_X10_join R σ o0 (4930) (x2) (x3)) (R 646 o0) (4930 : Int32).toNatClampNeg)) (h4 : ¬ (mj (Z_X10_join R σ o0 (4930) (x2) (x3)) (R 644 o0) (4930 : Int32).toNatClampNeg) < (mj (Z_X10_join R σ o0 (4930) (x2) (x3)) (R 644 o0) (x2 : Int32).toNatClampNeg)) (h5 : ¬ (mj (Z_X10_join R σ o0 (4930) (x2) (x3)) (R 645 o0) (x2 : Int32).toNatClampNeg) < (mj (Z_X10_join R σ o0 (4930) (x2) (x3)) (R 645 o0) (4930 : Int32).toNatClampNeg)) : Z_X10_widen R σ o0 x1 x2 x3 = (Z_X10_copy R (Z_X10_make R (Z_X10_join R σ o0 (4930) (x2) (x3)) o0 (4930) (1) ((mj (Z_X10_join R σ o0 (4930) (x2) (x3)) (R 644 o0) (4930 : Int32).toNatClampNeg)) ((mj (Z_X10_join R σ o0 (4930) (x2) (x3)) (R 645 o0) (4930 : Int32).toNatClampNeg)) ((mj (Z_X10_join R σ o0 (4930) (x2) (x3)) (R 646 o0) (4930 : Int32).toNatClampNeg))) o0 (x1) (4930)) := by unfold Z_X10_widen; exact Eq.trans (if_pos h0) (Eq.trans (if_pos h1) (Eq.trans (if_pos h2) (Eq.trans (if_pos h3) (Eq.trans (if_neg h4) (if_neg h5)))))
theorem zl_X10_widen_4 {R : Nat → Nat → Nat} {σ : SG} {o0 : Nat} {x1 : Int32} {x2 : Int32} {x3 : Int32} (h0 : (mi (Z_X10_join R σ o0 (4930) (x2) (x3)) (R 643 o0) (4930 : Int32).toNatClampNeg) = 1) (h1 : (mi (Z_X10_join R σ o0 (4930) (x2) (x3)) (R 643 o0) (x2 : Int32).toNatClampNeg) = 1) (h2 : (mi (Z_X10_join R σ o0 (4930) (x2) (x3)) (R 643 o0) (x3 : Int32).toNatClampNeg) = 1) (h3 : ¬ (0 : Int64) < (mj (Z_X10_join R σ o0 (4930) (x2) (x3)) (R 646 o0) (4930 : Int32).toNatClampNeg)) : Z_X10_widen R σ o0 x1 x2 x3 = (Z_X10_copy R (Z_X10_join R σ o0 (4930) (x2) (x3)) o0 (x1) (4930)) := by unfold Z_X10_widen; exact Eq.trans (if_pos h0) (Eq.trans (if_pos h1) (Eq.trans (if_pos h2) (if_neg h3)))
theorem zl_X10_widen_5 {R : Nat → Nat → Nat} {σ : SG} {o0 : Nat} {x1 : Int32} {x2 : Int32} {x3 : Int32} (h0 : (mi (Z_X10_join R σ o0 (4930) (x2) (x3)) (R 643 o0) (4930 : Int32).toNatClampNeg) = 1) (h1 : (mi (Z_X10_join R σ o0 (4930) (x2) (x3)) (R 643 o0) (x2 : Int32).toNatClampNeg) = 1) (h2 : ¬ (mi (Z_X10_join R σ o0 (4930) (x2) (x3)) (R 643 o0) (x3 : Int32).toNatClampNeg) = 1) : Z_X10_widen R σ o0 x1 x2 x3 = (Z_X10_copy R (Z_X10_join R σ o0 (4930) (x2) (x3)) o0 (x1) (4930)) := by unfold Z_X10_widen; exact Eq.trans (if_pos h0) (Eq.trans (if_pos h1) (if_neg h2))
theorem zl_X10_widen_6 {R : Nat → Nat → Nat} {σ : SG} {o0 : Nat} {x1 : Int32} {x2 : Int32} {x3 : Int32} (h0 : (mi (Z_X10_join R σ o0 (4930) (x2) (x3)) (R 643 o0) (4930 : Int32).toNatClampNeg) = 1) (h1 : ¬ (mi (Z_X10_join R σ o0 (4930) (x2) (x3)) (R 643 o0) (x2 : Int32).toNatClampNeg) = 1) : Z_X10_widen R σ o0 x1 x2 x3 = (Z_X10_copy R (Z_X10_join R σ o0 (4930) (x2) (x3)) o0 (x1) (4930)) := by unfold Z_X10_widen; exact Eq.trans (if_pos h0) (if_neg h1)
theorem zl_X10_widen_7 {R : Nat → Nat → Nat} {σ : SG} {o0 : Nat} {x1 : Int32} {x2 : Int32} {x3 : Int32} (h0 : ¬ (mi (Z_X10_join R σ o0 (4930) (x2) (x3)) (R 643 o0) (4930 : Int32).toNatClampNeg) = 1) : Z_X10_widen R σ o0 x1 x2 x3 = (Z_X10_copy R (Z_X10_join R σ o0 (4930) (x2) (x3)) o0 (x1) (4930)) := by unfold Z_X10_widen; exact if_neg h0
set_option maxHeartbeats 40000000 in
theorem cz_X10_widen {xi : SX} {S : Hp} {E : List Nat} {kc nc : Nat} {P : Po} {o0 : Nat} {x1 : Int32} {x2 : Int32} {x3 : Int32} {R : Nat → Nat → Nat} (hG : GI S E) (h0 : Oa S E 10 0 o0) (h1 : Rg 0 4939 x1) (h2 : Rg 0 4939 x2) (h3 : Rg 0 4939 x3) (hR : RK S R) (hP : ∀ r T x y, PV E [9989] S kc nc rV (fun v T => sg T = Z_X10_widen R (sg S) o0 x1 x2 x3) [] r T x y → P r T x y) : TT xi M_X10_widen 0 [(0, .ref o0), (1, .int x1), (2, .int x2), (3, .int x3)] [] S kc nc P := by
  have hA : Af E [9989] S S := af_rf
  refine tt_aload_n (j := 0) dX10_widen_0 rfl ?_
  refine tt_sipush (v := 4930) dX10_widen_1 rfl ?_
  refine tt_iload_n (j := 2) dX10_widen_4 rfl ?_
  refine tt_iload_n (j := 3) dX10_widen_5 rfl ?_
  refine gt_Vv (As := [.int 4930, .int x2, .int x3]) dX10_widen_6 ca_X10_176 ⟨by decide, by decide⟩ h0 hA rfl (Nat.le_of_ble_eq_true rfl) (Nat.le_of_ble_eq_true rfl) (by decide) (cz_X10_join hG (oa_af h0 hA) (rg_w (⟨by decide, by decide⟩ : Rg 4930 4930 4930)) (rg_w h2) (rg_w h3) hR (fun _ _ _ _ h => h)) rfl (fun _ h => nomatch h) (fun S101 hx105 hG102 hB103 hA104 => ?_)
  obtain ⟨d106, hd107⟩ : ∃ q, Z_X10_join R (sg S) o0 (4930) (x2) (x3) = q := ⟨_, rfl⟩
  have hq108 := (congrArg (fun q9 => Z_X10_join R q9 o0 (4930) (x2) (x3)) (show sg S = (sg S) from rfl)).trans hd107
  have hs109 := hx105.trans hq108
  refine tt_aload_n (j := 0) dX10_widen_9 rfl ?_
  have hr110 := rk_R (k := 643) hR h0 32 4940
  have ho111 := rk_O (k := 643) hG hR h0 32 4940
  refine gt_gR (id := 643) dX10_widen_10 fl_10_13 rfl rfl h0 hA104 hr110 ?_
  refine tt_sipush (v := 4930) dX10_widen_13 rfl ?_
  refine gx_iL (v := (mi d106 (R 643 o0) (4930 : Int32).toNatClampNeg)) dX10_widen_16 ho111 hA104 (rg_in (⟨by decide, by decide⟩ : Rg 4930 4930 4930)) (sg_i (a := (R 643 o0)) (i := (4930 : Int32).toNatClampNeg) hs109) ?_
  refine tt_iconst (v := 1) dX10_widen_17 rfl ?_
  refine tt_icmp_ne (tgt := 166) dX10_widen_18 rfl (fun q112 => ?_) (fun q112 => ?_)
  · skip
    refine tt_aload_n (j := 0) dX10_widen_166 rfl ?_
    refine tt_iload_n (j := 1) dX10_widen_167 rfl ?_
    refine tt_sipush (v := 4930) dX10_widen_168 rfl ?_
    refine gt_Vv (As := [.int x1, .int 4930]) dX10_widen_171 ca_X10_169 ⟨by decide, by decide⟩ h0 hA104 rfl (Nat.le_of_ble_eq_true rfl) (Nat.le_of_ble_eq_true rfl) (by decide) (cz_X10_copy hG102 (oa_af h0 hA104) (rg_w h1) (rg_w (⟨by decide, by decide⟩ : Rg 4930 4930 4930)) (rk_af hR hA104) (fun _ _ _ _ h => h)) rfl (fun _ h => nomatch h) (fun S113 hx117 hG114 hB115 hA116 => ?_)
    obtain ⟨d118, hd119⟩ : ∃ q, Z_X10_copy R d106 o0 (x1) (4930) = q := ⟨_, rfl⟩
    have hq120 := (congrArg (fun q9 => Z_X10_copy R q9 o0 (x1) (4930)) hs109).trans hd119
    have hs121 := hx117.trans hq120
    have hF : Z_X10_widen R (sg S) o0 x1 x2 x3 = d118 := by
      subst hd119
      subst hd107
      exact zl_X10_widen_7 q112
    exact tt_vreturn dX10_widen_174 rfl (hP _ _ _ _ ⟨hG114, hA116, Or.inl ⟨_, rfl, rfl, Eq.trans hs121 hF.symm, rfl, rfl⟩⟩)
  · skip
    have h122 : Rg 1 1 (mi d106 (R 643 o0) (4930 : Int32).toNatClampNeg) := rg_eq_l (rg_all (mi d106 (R 643 o0) (4930 : Int32).toNatClampNeg)) (⟨by decide, by decide⟩ : Rg 1 1 1) q112
    refine tt_aload_n (j := 0) dX10_widen_21 rfl ?_
    refine gt_gR (id := 643) dX10_widen_22 fl_10_13 rfl rfl h0 hA104 hr110 ?_
    refine tt_iload_n (j := 2) dX10_widen_25 rfl ?_
    refine gx_iL (v := (mi d106 (R 643 o0) (x2 : Int32).toNatClampNeg)) dX10_widen_26 ho111 hA104 (rg_in h2) (sg_i (a := (R 643 o0)) (i := (x2 : Int32).toNatClampNeg) hs109) ?_
    refine tt_iconst (v := 1) dX10_widen_27 rfl ?_
    refine tt_icmp_ne (tgt := 166) dX10_widen_28 rfl (fun q123 => ?_) (fun q123 => ?_)
    · skip
      refine tt_aload_n (j := 0) dX10_widen_166 rfl ?_
      refine tt_iload_n (j := 1) dX10_widen_167 rfl ?_
      refine tt_sipush (v := 4930) dX10_widen_168 rfl ?_
      refine gt_Vv (As := [.int x1, .int 4930]) dX10_widen_171 ca_X10_169 ⟨by decide, by decide⟩ h0 hA104 rfl (Nat.le_of_ble_eq_true rfl) (Nat.le_of_ble_eq_true rfl) (by decide) (cz_X10_copy hG102 (oa_af h0 hA104) (rg_w h1) (rg_w (⟨by decide, by decide⟩ : Rg 4930 4930 4930)) (rk_af hR hA104) (fun _ _ _ _ h => h)) rfl (fun _ h => nomatch h) (fun S124 hx128 hG125 hB126 hA127 => ?_)
      obtain ⟨d129, hd130⟩ : ∃ q, Z_X10_copy R d106 o0 (x1) (4930) = q := ⟨_, rfl⟩
      have hq131 := (congrArg (fun q9 => Z_X10_copy R q9 o0 (x1) (4930)) hs109).trans hd130
      have hs132 := hx128.trans hq131
      have hF : Z_X10_widen R (sg S) o0 x1 x2 x3 = d129 := by
        subst hd130
        subst hd107
        exact zl_X10_widen_6 q112 q123
      exact tt_vreturn dX10_widen_174 rfl (hP _ _ _ _ ⟨hG125, hA127, Or.inl ⟨_, rfl, rfl, Eq.trans hs132 hF.symm, rfl, rfl⟩⟩)
    · skip
      have h133 : Rg 1 1 (mi d106 (R 643 o0) (x2 : Int32).toNatClampNeg) := rg_eq_l (rg_all (mi d106 (R 643 o0) (x2 : Int32).toNatClampNeg)) (⟨by decide, by decide⟩ : Rg 1 1 1) q123
      refine tt_aload_n (j := 0) dX10_widen_31 rfl ?_
      refine gt_gR (id := 643) dX10_widen_32 fl_10_13 rfl rfl h0 hA104 hr110 ?_
      refine tt_iload_n (j := 3) dX10_widen_35 rfl ?_
      refine gx_iL (v := (mi d106 (R 643 o0) (x3 : Int32).toNatClampNeg)) dX10_widen_36 ho111 hA104 (rg_in h3) (sg_i (a := (R 643 o0)) (i := (x3 : Int32).toNatClampNeg) hs109) ?_
      refine tt_iconst (v := 1) dX10_widen_37 rfl ?_
      refine tt_icmp_ne (tgt := 166) dX10_widen_38 rfl (fun q134 => ?_) (fun q134 => ?_)
      · skip
        refine tt_aload_n (j := 0) dX10_widen_166 rfl ?_
        refine tt_iload_n (j := 1) dX10_widen_167 rfl ?_
        refine tt_sipush (v := 4930) dX10_widen_168 rfl ?_
        refine gt_Vv (As := [.int x1, .int 4930]) dX10_widen_171 ca_X10_169 ⟨by decide, by decide⟩ h0 hA104 rfl (Nat.le_of_ble_eq_true rfl) (Nat.le_of_ble_eq_true rfl) (by decide) (cz_X10_copy hG102 (oa_af h0 hA104) (rg_w h1) (rg_w (⟨by decide, by decide⟩ : Rg 4930 4930 4930)) (rk_af hR hA104) (fun _ _ _ _ h => h)) rfl (fun _ h => nomatch h) (fun S135 hx139 hG136 hB137 hA138 => ?_)
        obtain ⟨d140, hd141⟩ : ∃ q, Z_X10_copy R d106 o0 (x1) (4930) = q := ⟨_, rfl⟩
        have hq142 := (congrArg (fun q9 => Z_X10_copy R q9 o0 (x1) (4930)) hs109).trans hd141
        have hs143 := hx139.trans hq142
        have hF : Z_X10_widen R (sg S) o0 x1 x2 x3 = d140 := by
          subst hd141
          subst hd107
          exact zl_X10_widen_5 q112 q123 q134
        exact tt_vreturn dX10_widen_174 rfl (hP _ _ _ _ ⟨hG136, hA138, Or.inl ⟨_, rfl, rfl, Eq.trans hs143 hF.symm, rfl, rfl⟩⟩)
      · skip
        have h144 : Rg 1 1 (mi d106 (R 643 o0) (x3 : Int32).toNatClampNeg) := rg_eq_l (rg_all (mi d106 (R 643 o0) (x3 : Int32).toNatClampNeg)) (⟨by decide, by decide⟩ : Rg 1 1 1) q134
        refine tt_aload_n (j := 0) dX10_widen_41 rfl ?_
        have hr145 := rk_R (k := 646) hR h0 33 4940
        have ho146 := rk_O (k := 646) hG hR h0 33 4940
        refine gt_gR (id := 646) dX10_widen_42 fl_10_23 rfl rfl h0 hA104 hr145 ?_
        refine tt_sipush (v := 4930) dX10_widen_45 rfl ?_
        refine gt_lLv (v := (mj d106 (R 646 o0) (4930 : Int32).toNatClampNeg)) dX10_widen_48 ho146 hA104 (rg_in (⟨by decide, by decide⟩ : Rg 4930 4930 4930)) (sg_j (a := (R 646 o0)) (i := (4930 : Int32).toNatClampNeg) hs109) ?_
        refine tt_lconst (v := 0) dX10_widen_49 rfl ?_
        refine tt_lcmp dX10_widen_50 ?_
        refine tt_if_le (tgt := 166) dX10_widen_51 rfl (fun q147 => ?_) (fun q147 => ?_)
        · skip
          refine tt_aload_n (j := 0) dX10_widen_166 rfl ?_
          refine tt_iload_n (j := 1) dX10_widen_167 rfl ?_
          refine tt_sipush (v := 4930) dX10_widen_168 rfl ?_
          refine gt_Vv (As := [.int x1, .int 4930]) dX10_widen_171 ca_X10_169 ⟨by decide, by decide⟩ h0 hA104 rfl (Nat.le_of_ble_eq_true rfl) (Nat.le_of_ble_eq_true rfl) (by decide) (cz_X10_copy hG102 (oa_af h0 hA104) (rg_w h1) (rg_w (⟨by decide, by decide⟩ : Rg 4930 4930 4930)) (rk_af hR hA104) (fun _ _ _ _ h => h)) rfl (fun _ h => nomatch h) (fun S148 hx152 hG149 hB150 hA151 => ?_)
          obtain ⟨d153, hd154⟩ : ∃ q, Z_X10_copy R d106 o0 (x1) (4930) = q := ⟨_, rfl⟩
          have hq155 := (congrArg (fun q9 => Z_X10_copy R q9 o0 (x1) (4930)) hs109).trans hd154
          have hs156 := hx152.trans hq155
          have hF : Z_X10_widen R (sg S) o0 x1 x2 x3 = d153 := by
            subst hd154
            subst hd107
            exact zl_X10_widen_4 q112 q123 q134 (Int64.not_lt.mpr (lc_le_t q147))
          exact tt_vreturn dX10_widen_174 rfl (hP _ _ _ _ ⟨hG149, hA151, Or.inl ⟨_, rfl, rfl, Eq.trans hs156 hF.symm, rfl, rfl⟩⟩)
        · skip
          refine tt_aload_n (j := 0) dX10_widen_54 rfl ?_
          refine gt_gR (id := 646) dX10_widen_55 fl_10_23 rfl rfl h0 hA104 hr145 ?_
          refine tt_sipush (v := 4930) dX10_widen_58 rfl ?_
          refine gt_lLv (v := (mj d106 (R 646 o0) (4930 : Int32).toNatClampNeg)) dX10_widen_61 ho146 hA104 (rg_in (⟨by decide, by decide⟩ : Rg 4930 4930 4930)) (sg_j (a := (R 646 o0)) (i := (4930 : Int32).toNatClampNeg) hs109) ?_
          refine tt_lstore (ks := [0, 1, 2, 3, 4]) (L' := [(4, .long (mj d106 (R 646 o0) (4930 : Int32).toNatClampNeg)), (0, .ref o0), (1, .int x1), (2, .int x2), (3, .int x3)]) dX10_widen_62 (by decide) rfl ?_
          refine tt_aload_n (j := 1) dX10_widen_64 rfl ?_
          have hr157 := rk_R (k := 644) hR h0 33 4940
          have ho158 := rk_O (k := 644) hG hR h0 33 4940
          refine gt_gR (id := 644) dX10_widen_65 fl_10_16 rfl rfl h0 hA104 hr157 ?_
          refine tt_sipush (v := 4930) dX10_widen_68 rfl ?_
          refine gt_lLv (v := (mj d106 (R 644 o0) (4930 : Int32).toNatClampNeg)) dX10_widen_71 ho158 hA104 (rg_in (⟨by decide, by decide⟩ : Rg 4930 4930 4930)) (sg_j (a := (R 644 o0)) (i := (4930 : Int32).toNatClampNeg) hs109) ?_
          refine tt_lstore (ks := [0, 1, 2, 3, 4, 5]) (L' := [(6, .long (mj d106 (R 644 o0) (4930 : Int32).toNatClampNeg)), (4, .long (mj d106 (R 646 o0) (4930 : Int32).toNatClampNeg)), (0, .ref o0), (1, .int x1), (2, .int x2), (3, .int x3)]) dX10_widen_72 (by decide) rfl ?_
          refine tt_aload_n (j := 2) dX10_widen_74 rfl ?_
          have hr159 := rk_R (k := 645) hR h0 33 4940
          have ho160 := rk_O (k := 645) hG hR h0 33 4940
          refine gt_gR (id := 645) dX10_widen_75 fl_10_20 rfl rfl h0 hA104 hr159 ?_
          refine tt_sipush (v := 4930) dX10_widen_78 rfl ?_
          refine gt_lLv (v := (mj d106 (R 645 o0) (4930 : Int32).toNatClampNeg)) dX10_widen_81 ho160 hA104 (rg_in (⟨by decide, by decide⟩ : Rg 4930 4930 4930)) (sg_j (a := (R 645 o0)) (i := (4930 : Int32).toNatClampNeg) hs109) ?_
          refine tt_lstore (ks := [0, 1, 2, 3, 4, 5, 6]) (L' := [(8, .long (mj d106 (R 645 o0) (4930 : Int32).toNatClampNeg)), (6, .long (mj d106 (R 644 o0) (4930 : Int32).toNatClampNeg)), (4, .long (mj d106 (R 646 o0) (4930 : Int32).toNatClampNeg)), (0, .ref o0), (1, .int x1), (2, .int x2), (3, .int x3)]) dX10_widen_82 (by decide) rfl ?_
          refine tt_lload (j := 1) dX10_widen_84 rfl ?_
          refine tt_aload_n (j := 3) dX10_widen_86 rfl ?_
          refine gt_gR (id := 644) dX10_widen_87 fl_10_16 rfl rfl h0 hA104 hr157 ?_
          refine tt_iload_n (j := 5) dX10_widen_90 rfl ?_
          refine gt_lLv (v := (mj d106 (R 644 o0) (x2 : Int32).toNatClampNeg)) dX10_widen_91 ho158 hA104 (rg_in h2) (sg_j (a := (R 644 o0)) (i := (x2 : Int32).toNatClampNeg) hs109) ?_
          refine tt_lcmp dX10_widen_92 ?_
          refine tt_if_ge (tgt := 114) dX10_widen_93 rfl (fun q161 => ?_) (fun q161 => ?_)
          · skip
            refine tt_lload (j := 1) dX10_widen_114 rfl ?_
            refine tt_lstore (ks := [0, 1, 2, 3, 4, 5, 6, 7]) (L' := [(10, .long (mj d106 (R 644 o0) (4930 : Int32).toNatClampNeg)), (8, .long (mj d106 (R 645 o0) (4930 : Int32).toNatClampNeg)), (6, .long (mj d106 (R 644 o0) (4930 : Int32).toNatClampNeg)), (4, .long (mj d106 (R 646 o0) (4930 : Int32).toNatClampNeg)), (0, .ref o0), (1, .int x1), (2, .int x2), (3, .int x3)]) dX10_widen_116 (by decide) rfl ?_
            refine tt_lload (j := 1) dX10_widen_118 rfl ?_
            refine tt_aload_n (j := 4) dX10_widen_120 rfl ?_
            refine gt_gR (id := 645) dX10_widen_121 fl_10_20 rfl rfl h0 hA104 hr159 ?_
            refine tt_iload_n (j := 6) dX10_widen_124 rfl ?_
            refine gt_lLv (v := (mj d106 (R 645 o0) (x2 : Int32).toNatClampNeg)) dX10_widen_125 ho160 hA104 (rg_in h2) (sg_j (a := (R 645 o0)) (i := (x2 : Int32).toNatClampNeg) hs109) ?_
            refine tt_lcmp dX10_widen_126 ?_
            refine tt_if_le (tgt := 148) dX10_widen_127 rfl (fun q162 => ?_) (fun q162 => ?_)
            · skip
              refine tt_lload (j := 1) dX10_widen_148 rfl ?_
              refine tt_lstore (ks := [0, 1, 2, 3, 4, 5, 6, 7, 8]) (L' := [(12, .long (mj d106 (R 645 o0) (4930 : Int32).toNatClampNeg)), (10, .long (mj d106 (R 644 o0) (4930 : Int32).toNatClampNeg)), (8, .long (mj d106 (R 645 o0) (4930 : Int32).toNatClampNeg)), (6, .long (mj d106 (R 644 o0) (4930 : Int32).toNatClampNeg)), (4, .long (mj d106 (R 646 o0) (4930 : Int32).toNatClampNeg)), (0, .ref o0), (1, .int x1), (2, .int x2), (3, .int x3)]) dX10_widen_150 (by decide) rfl ?_
              refine tt_aload_n (j := 5) dX10_widen_152 rfl ?_
              refine tt_sipush (v := 4930) dX10_widen_153 rfl ?_
              refine tt_iconst (v := 1) dX10_widen_156 rfl ?_
              refine tt_lload (j := 1) dX10_widen_157 rfl ?_
              refine tt_lload (j := 0) dX10_widen_159 rfl ?_
              refine tt_lload (j := 4) dX10_widen_161 rfl ?_
              refine gt_Vv (As := [.int 4930, .int 1, .long (mj d106 (R 644 o0) (4930 : Int32).toNatClampNeg), .long (mj d106 (R 645 o0) (4930 : Int32).toNatClampNeg), .long (mj d106 (R 646 o0) (4930 : Int32).toNatClampNeg)]) dX10_widen_163 ca_X10_165 ⟨by decide, by decide⟩ h0 hA104 rfl (Nat.le_of_ble_eq_true rfl) (Nat.le_of_ble_eq_true rfl) (by decide) (cz_X10_make hG102 (oa_af h0 hA104) (rg_w (⟨by decide, by decide⟩ : Rg 4930 4930 4930)) (rk_af hR hA104) (fun _ _ _ _ h => h)) rfl (fun _ h => nomatch h) (fun S163 hx167 hG164 hB165 hA166 => ?_)
              obtain ⟨d168, hd169⟩ : ∃ q, Z_X10_make R d106 o0 (4930) (1) ((mj d106 (R 644 o0) (4930 : Int32).toNatClampNeg)) ((mj d106 (R 645 o0) (4930 : Int32).toNatClampNeg)) ((mj d106 (R 646 o0) (4930 : Int32).toNatClampNeg)) = q := ⟨_, rfl⟩
              have hq170 := (congrArg (fun q9 => Z_X10_make R q9 o0 (4930) (1) ((mj d106 (R 644 o0) (4930 : Int32).toNatClampNeg)) ((mj d106 (R 645 o0) (4930 : Int32).toNatClampNeg)) ((mj d106 (R 646 o0) (4930 : Int32).toNatClampNeg))) hs109).trans hd169
              have hs171 := hx167.trans hq170
              refine tt_aload_n (j := 5) dX10_widen_166 rfl ?_
              refine tt_iload_n (j := 6) dX10_widen_167 rfl ?_
              refine tt_sipush (v := 4930) dX10_widen_168 rfl ?_
              refine gt_Vv (As := [.int x1, .int 4930]) dX10_widen_171 ca_X10_169 ⟨by decide, by decide⟩ h0 hA166 rfl (Nat.le_of_ble_eq_true rfl) (Nat.le_of_ble_eq_true rfl) (by decide) (cz_X10_copy hG164 (oa_af h0 hA166) (rg_w h1) (rg_w (⟨by decide, by decide⟩ : Rg 4930 4930 4930)) (rk_af hR hA166) (fun _ _ _ _ h => h)) rfl (fun _ h => nomatch h) (fun S172 hx176 hG173 hB174 hA175 => ?_)
              obtain ⟨d177, hd178⟩ : ∃ q, Z_X10_copy R d168 o0 (x1) (4930) = q := ⟨_, rfl⟩
              have hq179 := (congrArg (fun q9 => Z_X10_copy R q9 o0 (x1) (4930)) hs171).trans hd178
              have hs180 := hx176.trans hq179
              have hF : Z_X10_widen R (sg S) o0 x1 x2 x3 = d177 := by
                subst hd178
                subst hd169
                subst hd107
                exact zl_X10_widen_3 q112 q123 q134 (lc_le_f q147) (Int64.not_lt.mpr (lc_ge_t q161)) (Int64.not_lt.mpr (lc_le_t q162))
              exact tt_vreturn dX10_widen_174 rfl (hP _ _ _ _ ⟨hG173, hA175, Or.inl ⟨_, rfl, rfl, Eq.trans hs180 hF.symm, rfl, rfl⟩⟩)
            · skip
              refine tt_lload (j := 1) dX10_widen_130 rfl ?_
              refine tt_ldc2 (v := 2305843009213693952) dX10_widen_132 kl_10_160 ?_
              refine tt_lload (j := 1) dX10_widen_135 rfl ?_
              refine tt_lsub dX10_widen_137 ?_
              refine tt_lload (j := 3) dX10_widen_138 rfl ?_
              refine tt_ldiv dX10_widen_140 (nz_ps9 (lc_le_f q147)) ?_
              refine tt_lload (j := 3) dX10_widen_141 rfl ?_
              refine tt_lmul dX10_widen_143 ?_
              refine tt_ladd dX10_widen_144 ?_
              refine tt_goto (tgt := 150) dX10_widen_145 rfl ?_
              refine tt_lstore (ks := [0, 1, 2, 3, 4, 5, 6, 7, 8]) (L' := [(12, .long ((mj d106 (R 645 o0) (4930 : Int32).toNatClampNeg) + (((2305843009213693952 - (mj d106 (R 645 o0) (4930 : Int32).toNatClampNeg)) / (mj d106 (R 646 o0) (4930 : Int32).toNatClampNeg)) * (mj d106 (R 646 o0) (4930 : Int32).toNatClampNeg)))), (10, .long (mj d106 (R 644 o0) (4930 : Int32).toNatClampNeg)), (8, .long (mj d106 (R 645 o0) (4930 : Int32).toNatClampNeg)), (6, .long (mj d106 (R 644 o0) (4930 : Int32).toNatClampNeg)), (4, .long (mj d106 (R 646 o0) (4930 : Int32).toNatClampNeg)), (0, .ref o0), (1, .int x1), (2, .int x2), (3, .int x3)]) dX10_widen_150 (by decide) rfl ?_
              refine tt_aload_n (j := 5) dX10_widen_152 rfl ?_
              refine tt_sipush (v := 4930) dX10_widen_153 rfl ?_
              refine tt_iconst (v := 1) dX10_widen_156 rfl ?_
              refine tt_lload (j := 1) dX10_widen_157 rfl ?_
              refine tt_lload (j := 0) dX10_widen_159 rfl ?_
              refine tt_lload (j := 4) dX10_widen_161 rfl ?_
              refine gt_Vv (As := [.int 4930, .int 1, .long (mj d106 (R 644 o0) (4930 : Int32).toNatClampNeg), .long ((mj d106 (R 645 o0) (4930 : Int32).toNatClampNeg) + (((2305843009213693952 - (mj d106 (R 645 o0) (4930 : Int32).toNatClampNeg)) / (mj d106 (R 646 o0) (4930 : Int32).toNatClampNeg)) * (mj d106 (R 646 o0) (4930 : Int32).toNatClampNeg))), .long (mj d106 (R 646 o0) (4930 : Int32).toNatClampNeg)]) dX10_widen_163 ca_X10_165 ⟨by decide, by decide⟩ h0 hA104 rfl (Nat.le_of_ble_eq_true rfl) (Nat.le_of_ble_eq_true rfl) (by decide) (cz_X10_make hG102 (oa_af h0 hA104) (rg_w (⟨by decide, by decide⟩ : Rg 4930 4930 4930)) (rk_af hR hA104) (fun _ _ _ _ h => h)) rfl (fun _ h => nomatch h) (fun S181 hx185 hG182 hB183 hA184 => ?_)
              obtain ⟨d186, hd187⟩ : ∃ q, Z_X10_make R d106 o0 (4930) (1) ((mj d106 (R 644 o0) (4930 : Int32).toNatClampNeg)) (((mj d106 (R 645 o0) (4930 : Int32).toNatClampNeg) + (((2305843009213693952 - (mj d106 (R 645 o0) (4930 : Int32).toNatClampNeg)) / (mj d106 (R 646 o0) (4930 : Int32).toNatClampNeg)) * (mj d106 (R 646 o0) (4930 : Int32).toNatClampNeg)))) ((mj d106 (R 646 o0) (4930 : Int32).toNatClampNeg)) = q := ⟨_, rfl⟩
              have hq188 := (congrArg (fun q9 => Z_X10_make R q9 o0 (4930) (1) ((mj d106 (R 644 o0) (4930 : Int32).toNatClampNeg)) (((mj d106 (R 645 o0) (4930 : Int32).toNatClampNeg) + (((2305843009213693952 - (mj d106 (R 645 o0) (4930 : Int32).toNatClampNeg)) / (mj d106 (R 646 o0) (4930 : Int32).toNatClampNeg)) * (mj d106 (R 646 o0) (4930 : Int32).toNatClampNeg)))) ((mj d106 (R 646 o0) (4930 : Int32).toNatClampNeg))) hs109).trans hd187
              have hs189 := hx185.trans hq188
              refine tt_aload_n (j := 5) dX10_widen_166 rfl ?_
              refine tt_iload_n (j := 6) dX10_widen_167 rfl ?_
              refine tt_sipush (v := 4930) dX10_widen_168 rfl ?_
              refine gt_Vv (As := [.int x1, .int 4930]) dX10_widen_171 ca_X10_169 ⟨by decide, by decide⟩ h0 hA184 rfl (Nat.le_of_ble_eq_true rfl) (Nat.le_of_ble_eq_true rfl) (by decide) (cz_X10_copy hG182 (oa_af h0 hA184) (rg_w h1) (rg_w (⟨by decide, by decide⟩ : Rg 4930 4930 4930)) (rk_af hR hA184) (fun _ _ _ _ h => h)) rfl (fun _ h => nomatch h) (fun S190 hx194 hG191 hB192 hA193 => ?_)
              obtain ⟨d195, hd196⟩ : ∃ q, Z_X10_copy R d186 o0 (x1) (4930) = q := ⟨_, rfl⟩
              have hq197 := (congrArg (fun q9 => Z_X10_copy R q9 o0 (x1) (4930)) hs189).trans hd196
              have hs198 := hx194.trans hq197
              have hF : Z_X10_widen R (sg S) o0 x1 x2 x3 = d195 := by
                subst hd196
                subst hd187
                subst hd107
                exact zl_X10_widen_2 q112 q123 q134 (lc_le_f q147) (Int64.not_lt.mpr (lc_ge_t q161)) (lc_le_f q162)
              exact tt_vreturn dX10_widen_174 rfl (hP _ _ _ _ ⟨hG191, hA193, Or.inl ⟨_, rfl, rfl, Eq.trans hs198 hF.symm, rfl, rfl⟩⟩)
          · skip
            refine tt_lload (j := 1) dX10_widen_96 rfl ?_
            refine tt_lload (j := 1) dX10_widen_98 rfl ?_
            refine tt_ldc2 (v := 2305843009213693952) dX10_widen_100 kl_10_160 ?_
            refine tt_ladd dX10_widen_103 ?_
            refine tt_lload (j := 2) dX10_widen_104 rfl ?_
            refine tt_ldiv dX10_widen_106 (nz_ps9 (lc_le_f q147)) ?_
            refine tt_lload (j := 2) dX10_widen_107 rfl ?_
            refine tt_lmul dX10_widen_109 ?_
            refine tt_lsub dX10_widen_110 ?_
            refine tt_goto (tgt := 116) dX10_widen_111 rfl ?_
            refine tt_lstore (ks := [0, 1, 2, 3, 4, 5, 6, 7]) (L' := [(10, .long ((mj d106 (R 644 o0) (4930 : Int32).toNatClampNeg) - ((((mj d106 (R 644 o0) (4930 : Int32).toNatClampNeg) + 2305843009213693952) / (mj d106 (R 646 o0) (4930 : Int32).toNatClampNeg)) * (mj d106 (R 646 o0) (4930 : Int32).toNatClampNeg)))), (8, .long (mj d106 (R 645 o0) (4930 : Int32).toNatClampNeg)), (6, .long (mj d106 (R 644 o0) (4930 : Int32).toNatClampNeg)), (4, .long (mj d106 (R 646 o0) (4930 : Int32).toNatClampNeg)), (0, .ref o0), (1, .int x1), (2, .int x2), (3, .int x3)]) dX10_widen_116 (by decide) rfl ?_
            refine tt_lload (j := 1) dX10_widen_118 rfl ?_
            refine tt_aload_n (j := 4) dX10_widen_120 rfl ?_
            refine gt_gR (id := 645) dX10_widen_121 fl_10_20 rfl rfl h0 hA104 hr159 ?_
            refine tt_iload_n (j := 6) dX10_widen_124 rfl ?_
            refine gt_lLv (v := (mj d106 (R 645 o0) (x2 : Int32).toNatClampNeg)) dX10_widen_125 ho160 hA104 (rg_in h2) (sg_j (a := (R 645 o0)) (i := (x2 : Int32).toNatClampNeg) hs109) ?_
            refine tt_lcmp dX10_widen_126 ?_
            refine tt_if_le (tgt := 148) dX10_widen_127 rfl (fun q199 => ?_) (fun q199 => ?_)
            · skip
              refine tt_lload (j := 1) dX10_widen_148 rfl ?_
              refine tt_lstore (ks := [0, 1, 2, 3, 4, 5, 6, 7, 8]) (L' := [(12, .long (mj d106 (R 645 o0) (4930 : Int32).toNatClampNeg)), (10, .long ((mj d106 (R 644 o0) (4930 : Int32).toNatClampNeg) - ((((mj d106 (R 644 o0) (4930 : Int32).toNatClampNeg) + 2305843009213693952) / (mj d106 (R 646 o0) (4930 : Int32).toNatClampNeg)) * (mj d106 (R 646 o0) (4930 : Int32).toNatClampNeg)))), (8, .long (mj d106 (R 645 o0) (4930 : Int32).toNatClampNeg)), (6, .long (mj d106 (R 644 o0) (4930 : Int32).toNatClampNeg)), (4, .long (mj d106 (R 646 o0) (4930 : Int32).toNatClampNeg)), (0, .ref o0), (1, .int x1), (2, .int x2), (3, .int x3)]) dX10_widen_150 (by decide) rfl ?_
              refine tt_aload_n (j := 5) dX10_widen_152 rfl ?_
              refine tt_sipush (v := 4930) dX10_widen_153 rfl ?_
              refine tt_iconst (v := 1) dX10_widen_156 rfl ?_
              refine tt_lload (j := 1) dX10_widen_157 rfl ?_
              refine tt_lload (j := 0) dX10_widen_159 rfl ?_
              refine tt_lload (j := 4) dX10_widen_161 rfl ?_
              refine gt_Vv (As := [.int 4930, .int 1, .long ((mj d106 (R 644 o0) (4930 : Int32).toNatClampNeg) - ((((mj d106 (R 644 o0) (4930 : Int32).toNatClampNeg) + 2305843009213693952) / (mj d106 (R 646 o0) (4930 : Int32).toNatClampNeg)) * (mj d106 (R 646 o0) (4930 : Int32).toNatClampNeg))), .long (mj d106 (R 645 o0) (4930 : Int32).toNatClampNeg), .long (mj d106 (R 646 o0) (4930 : Int32).toNatClampNeg)]) dX10_widen_163 ca_X10_165 ⟨by decide, by decide⟩ h0 hA104 rfl (Nat.le_of_ble_eq_true rfl) (Nat.le_of_ble_eq_true rfl) (by decide) (cz_X10_make hG102 (oa_af h0 hA104) (rg_w (⟨by decide, by decide⟩ : Rg 4930 4930 4930)) (rk_af hR hA104) (fun _ _ _ _ h => h)) rfl (fun _ h => nomatch h) (fun S200 hx204 hG201 hB202 hA203 => ?_)
              obtain ⟨d205, hd206⟩ : ∃ q, Z_X10_make R d106 o0 (4930) (1) (((mj d106 (R 644 o0) (4930 : Int32).toNatClampNeg) - ((((mj d106 (R 644 o0) (4930 : Int32).toNatClampNeg) + 2305843009213693952) / (mj d106 (R 646 o0) (4930 : Int32).toNatClampNeg)) * (mj d106 (R 646 o0) (4930 : Int32).toNatClampNeg)))) ((mj d106 (R 645 o0) (4930 : Int32).toNatClampNeg)) ((mj d106 (R 646 o0) (4930 : Int32).toNatClampNeg)) = q := ⟨_, rfl⟩
              have hq207 := (congrArg (fun q9 => Z_X10_make R q9 o0 (4930) (1) (((mj d106 (R 644 o0) (4930 : Int32).toNatClampNeg) - ((((mj d106 (R 644 o0) (4930 : Int32).toNatClampNeg) + 2305843009213693952) / (mj d106 (R 646 o0) (4930 : Int32).toNatClampNeg)) * (mj d106 (R 646 o0) (4930 : Int32).toNatClampNeg)))) ((mj d106 (R 645 o0) (4930 : Int32).toNatClampNeg)) ((mj d106 (R 646 o0) (4930 : Int32).toNatClampNeg))) hs109).trans hd206
              have hs208 := hx204.trans hq207
              refine tt_aload_n (j := 5) dX10_widen_166 rfl ?_
              refine tt_iload_n (j := 6) dX10_widen_167 rfl ?_
              refine tt_sipush (v := 4930) dX10_widen_168 rfl ?_
              refine gt_Vv (As := [.int x1, .int 4930]) dX10_widen_171 ca_X10_169 ⟨by decide, by decide⟩ h0 hA203 rfl (Nat.le_of_ble_eq_true rfl) (Nat.le_of_ble_eq_true rfl) (by decide) (cz_X10_copy hG201 (oa_af h0 hA203) (rg_w h1) (rg_w (⟨by decide, by decide⟩ : Rg 4930 4930 4930)) (rk_af hR hA203) (fun _ _ _ _ h => h)) rfl (fun _ h => nomatch h) (fun S209 hx213 hG210 hB211 hA212 => ?_)
              obtain ⟨d214, hd215⟩ : ∃ q, Z_X10_copy R d205 o0 (x1) (4930) = q := ⟨_, rfl⟩
              have hq216 := (congrArg (fun q9 => Z_X10_copy R q9 o0 (x1) (4930)) hs208).trans hd215
              have hs217 := hx213.trans hq216
              have hF : Z_X10_widen R (sg S) o0 x1 x2 x3 = d214 := by
                subst hd215
                subst hd206
                subst hd107
                exact zl_X10_widen_1 q112 q123 q134 (lc_le_f q147) (lc_ge_f q161) (Int64.not_lt.mpr (lc_le_t q199))
              exact tt_vreturn dX10_widen_174 rfl (hP _ _ _ _ ⟨hG210, hA212, Or.inl ⟨_, rfl, rfl, Eq.trans hs217 hF.symm, rfl, rfl⟩⟩)
            · skip
              refine tt_lload (j := 1) dX10_widen_130 rfl ?_
              refine tt_ldc2 (v := 2305843009213693952) dX10_widen_132 kl_10_160 ?_
              refine tt_lload (j := 1) dX10_widen_135 rfl ?_
              refine tt_lsub dX10_widen_137 ?_
              refine tt_lload (j := 3) dX10_widen_138 rfl ?_
              refine tt_ldiv dX10_widen_140 (nz_ps9 (lc_le_f q147)) ?_
              refine tt_lload (j := 3) dX10_widen_141 rfl ?_
              refine tt_lmul dX10_widen_143 ?_
              refine tt_ladd dX10_widen_144 ?_
              refine tt_goto (tgt := 150) dX10_widen_145 rfl ?_
              refine tt_lstore (ks := [0, 1, 2, 3, 4, 5, 6, 7, 8]) (L' := [(12, .long ((mj d106 (R 645 o0) (4930 : Int32).toNatClampNeg) + (((2305843009213693952 - (mj d106 (R 645 o0) (4930 : Int32).toNatClampNeg)) / (mj d106 (R 646 o0) (4930 : Int32).toNatClampNeg)) * (mj d106 (R 646 o0) (4930 : Int32).toNatClampNeg)))), (10, .long ((mj d106 (R 644 o0) (4930 : Int32).toNatClampNeg) - ((((mj d106 (R 644 o0) (4930 : Int32).toNatClampNeg) + 2305843009213693952) / (mj d106 (R 646 o0) (4930 : Int32).toNatClampNeg)) * (mj d106 (R 646 o0) (4930 : Int32).toNatClampNeg)))), (8, .long (mj d106 (R 645 o0) (4930 : Int32).toNatClampNeg)), (6, .long (mj d106 (R 644 o0) (4930 : Int32).toNatClampNeg)), (4, .long (mj d106 (R 646 o0) (4930 : Int32).toNatClampNeg)), (0, .ref o0), (1, .int x1), (2, .int x2), (3, .int x3)]) dX10_widen_150 (by decide) rfl ?_
              refine tt_aload_n (j := 5) dX10_widen_152 rfl ?_
              refine tt_sipush (v := 4930) dX10_widen_153 rfl ?_
              refine tt_iconst (v := 1) dX10_widen_156 rfl ?_
              refine tt_lload (j := 1) dX10_widen_157 rfl ?_
              refine tt_lload (j := 0) dX10_widen_159 rfl ?_
              refine tt_lload (j := 4) dX10_widen_161 rfl ?_
              refine gt_Vv (As := [.int 4930, .int 1, .long ((mj d106 (R 644 o0) (4930 : Int32).toNatClampNeg) - ((((mj d106 (R 644 o0) (4930 : Int32).toNatClampNeg) + 2305843009213693952) / (mj d106 (R 646 o0) (4930 : Int32).toNatClampNeg)) * (mj d106 (R 646 o0) (4930 : Int32).toNatClampNeg))), .long ((mj d106 (R 645 o0) (4930 : Int32).toNatClampNeg) + (((2305843009213693952 - (mj d106 (R 645 o0) (4930 : Int32).toNatClampNeg)) / (mj d106 (R 646 o0) (4930 : Int32).toNatClampNeg)) * (mj d106 (R 646 o0) (4930 : Int32).toNatClampNeg))), .long (mj d106 (R 646 o0) (4930 : Int32).toNatClampNeg)]) dX10_widen_163 ca_X10_165 ⟨by decide, by decide⟩ h0 hA104 rfl (Nat.le_of_ble_eq_true rfl) (Nat.le_of_ble_eq_true rfl) (by decide) (cz_X10_make hG102 (oa_af h0 hA104) (rg_w (⟨by decide, by decide⟩ : Rg 4930 4930 4930)) (rk_af hR hA104) (fun _ _ _ _ h => h)) rfl (fun _ h => nomatch h) (fun S218 hx222 hG219 hB220 hA221 => ?_)
              obtain ⟨d223, hd224⟩ : ∃ q, Z_X10_make R d106 o0 (4930) (1) (((mj d106 (R 644 o0) (4930 : Int32).toNatClampNeg) - ((((mj d106 (R 644 o0) (4930 : Int32).toNatClampNeg) + 2305843009213693952) / (mj d106 (R 646 o0) (4930 : Int32).toNatClampNeg)) * (mj d106 (R 646 o0) (4930 : Int32).toNatClampNeg)))) (((mj d106 (R 645 o0) (4930 : Int32).toNatClampNeg) + (((2305843009213693952 - (mj d106 (R 645 o0) (4930 : Int32).toNatClampNeg)) / (mj d106 (R 646 o0) (4930 : Int32).toNatClampNeg)) * (mj d106 (R 646 o0) (4930 : Int32).toNatClampNeg)))) ((mj d106 (R 646 o0) (4930 : Int32).toNatClampNeg)) = q := ⟨_, rfl⟩
              have hq225 := (congrArg (fun q9 => Z_X10_make R q9 o0 (4930) (1) (((mj d106 (R 644 o0) (4930 : Int32).toNatClampNeg) - ((((mj d106 (R 644 o0) (4930 : Int32).toNatClampNeg) + 2305843009213693952) / (mj d106 (R 646 o0) (4930 : Int32).toNatClampNeg)) * (mj d106 (R 646 o0) (4930 : Int32).toNatClampNeg)))) (((mj d106 (R 645 o0) (4930 : Int32).toNatClampNeg) + (((2305843009213693952 - (mj d106 (R 645 o0) (4930 : Int32).toNatClampNeg)) / (mj d106 (R 646 o0) (4930 : Int32).toNatClampNeg)) * (mj d106 (R 646 o0) (4930 : Int32).toNatClampNeg)))) ((mj d106 (R 646 o0) (4930 : Int32).toNatClampNeg))) hs109).trans hd224
              have hs226 := hx222.trans hq225
              refine tt_aload_n (j := 5) dX10_widen_166 rfl ?_
              refine tt_iload_n (j := 6) dX10_widen_167 rfl ?_
              refine tt_sipush (v := 4930) dX10_widen_168 rfl ?_
              refine gt_Vv (As := [.int x1, .int 4930]) dX10_widen_171 ca_X10_169 ⟨by decide, by decide⟩ h0 hA221 rfl (Nat.le_of_ble_eq_true rfl) (Nat.le_of_ble_eq_true rfl) (by decide) (cz_X10_copy hG219 (oa_af h0 hA221) (rg_w h1) (rg_w (⟨by decide, by decide⟩ : Rg 4930 4930 4930)) (rk_af hR hA221) (fun _ _ _ _ h => h)) rfl (fun _ h => nomatch h) (fun S227 hx231 hG228 hB229 hA230 => ?_)
              obtain ⟨d232, hd233⟩ : ∃ q, Z_X10_copy R d223 o0 (x1) (4930) = q := ⟨_, rfl⟩
              have hq234 := (congrArg (fun q9 => Z_X10_copy R q9 o0 (x1) (4930)) hs226).trans hd233
              have hs235 := hx231.trans hq234
              have hF : Z_X10_widen R (sg S) o0 x1 x2 x3 = d232 := by
                subst hd233
                subst hd224
                subst hd107
                exact zl_X10_widen_0 q112 q123 q134 (lc_le_f q147) (lc_ge_f q161) (lc_le_f q199)
              exact tt_vreturn dX10_widen_174 rfl (hP _ _ _ _ ⟨hG228, hA230, Or.inl ⟨_, rfl, rfl, Eq.trans hs235 hF.symm, rfl, rfl⟩⟩)
def Z_X10_cut_p168 (R : Nat → Nat → Nat) (σ : SG) (o0 : Nat) (x1 : Int32) (y9 : Int64) (y11 : Int64) (y13 : Int64) : SG :=
  if y11 < y9 then
    (ui σ (R 643 o0) (x1 : Int32).toNatClampNeg 0)
  else
    let d107 := Z_X10_make R σ o0 (x1) (1) (y9) (y11) (y13)
    d107
theorem zl_X10_cut_p168_0 {R : Nat → Nat → Nat} {σ : SG} {o0 : Nat} {x1 : Int32} {y9 : Int64} {y11 : Int64} {y13 : Int64} (h0 : y11 < y9) : Z_X10_cut_p168 R σ o0 x1 y9 y11 y13 = (ui σ (R 643 o0) (x1 : Int32).toNatClampNeg 0) := by unfold Z_X10_cut_p168; exact if_pos h0
theorem zl_X10_cut_p168_1 {R : Nat → Nat → Nat} {σ : SG} {o0 : Nat} {x1 : Int32} {y9 : Int64} {y11 : Int64} {y13 : Int64} (h0 : ¬ y11 < y9) : Z_X10_cut_p168 R σ o0 x1 y9 y11 y13 = (Z_X10_make R σ o0 (x1) (1) (y9) (y11) (y13)) := by unfold Z_X10_cut_p168; exact if_neg h0
set_option maxHeartbeats 40000000 in
theorem cz_X10_cut_p168 {xi : SX} {S : Hp} {E : List Nat} {kc nc : Nat} {P : Po} {o0 : Nat} {x1 : Int32} {y9 : Int64} {y11 : Int64} {y13 : Int64} {R : Nat → Nat → Nat} (hG : GI S E) (h0 : Oa S E 10 0 o0) (h1 : Rg 0 4939 x1) (hR : RK S R) (hP : ∀ r T x y, PV E [9989] S kc nc rV (fun v T => sg T = Z_X10_cut_p168 R (sg S) o0 x1 y9 y11 y13) [] r T x y → P r T x y) : TT xi M_X10_cut 168 [(0, .ref o0), (1, .int x1), (9, .long y9), (11, .long y11), (13, .long y13)] [] S kc nc P := by
  have hA : Af E [9989] S S := af_rf
  refine tt_lload (j := 2) dX10_cut_168 rfl ?_
  refine tt_lload (j := 3) dX10_cut_170 rfl ?_
  refine tt_lcmp dX10_cut_172 ?_
  refine tt_if_le (tgt := 186) dX10_cut_173 rfl (fun q101 => ?_) (fun q101 => ?_)
  · skip
    refine tt_aload_n (j := 0) dX10_cut_186 rfl ?_
    refine tt_iload_n (j := 1) dX10_cut_187 rfl ?_
    refine tt_iconst (v := 1) dX10_cut_188 rfl ?_
    refine tt_lload (j := 2) dX10_cut_189 rfl ?_
    refine tt_lload (j := 3) dX10_cut_191 rfl ?_
    refine tt_lload (j := 4) dX10_cut_193 rfl ?_
    refine gt_Vv (As := [.int x1, .int 1, .long y9, .long y11, .long y13]) dX10_cut_195 ca_X10_165 ⟨by decide, by decide⟩ h0 hA rfl (Nat.le_of_ble_eq_true rfl) (Nat.le_of_ble_eq_true rfl) (by decide) (cz_X10_make hG (oa_af h0 hA) (rg_w h1) hR (fun _ _ _ _ h => h)) rfl (fun _ h => nomatch h) (fun S102 hx106 hG103 hB104 hA105 => ?_)
    obtain ⟨d107, hd108⟩ : ∃ q, Z_X10_make R (sg S) o0 (x1) (1) (y9) (y11) (y13) = q := ⟨_, rfl⟩
    have hq109 := (congrArg (fun q9 => Z_X10_make R q9 o0 (x1) (1) (y9) (y11) (y13)) (show sg S = (sg S) from rfl)).trans hd108
    have hs110 := hx106.trans hq109
    have hF : Z_X10_cut_p168 R (sg S) o0 x1 y9 y11 y13 = d107 := by
      subst hd108
      exact zl_X10_cut_p168_1 (Int64.not_lt.mpr (lc_le_t q101))
    exact tt_vreturn dX10_cut_198 rfl (hP _ _ _ _ ⟨hG103, hA105, Or.inl ⟨_, rfl, rfl, Eq.trans hs110 hF.symm, rfl, rfl⟩⟩)
  · skip
    refine tt_aload_n (j := 0) dX10_cut_176 rfl ?_
    have hr111 := rk_R (k := 643) hR h0 32 4940
    have ho112 := rk_O (k := 643) hG hR h0 32 4940
    refine gt_gR (id := 643) dX10_cut_177 fl_10_13 rfl rfl h0 hA hr111 ?_
    refine tt_iload_n (j := 1) dX10_cut_180 rfl ?_
    refine tt_iconst (v := 0) dX10_cut_181 rfl ?_
    refine gx_iS dX10_cut_182 ho112 hA (Or.inl (by decide)) (rg_in h1) hG (by decide) (show sg S = (sg S) from rfl) (fun S113 hG114 hA115 e116 => ?_)
    refine tt_goto (tgt := 198) dX10_cut_183 rfl ?_
    have hF : Z_X10_cut_p168 R (sg S) o0 x1 y9 y11 y13 = (ui (sg S) (R 643 o0) (x1 : Int32).toNatClampNeg 0) := by
      exact zl_X10_cut_p168_0 (lc_le_f q101)
    exact tt_vreturn dX10_cut_198 rfl (hP _ _ _ _ ⟨hG114, hA115, Or.inl ⟨_, rfl, rfl, Eq.trans e116 hF.symm, rfl, rfl⟩⟩)
def Z_X10_cut_p102 (R : Nat → Nat → Nat) (σ : SG) (o0 : Nat) (x1 : Int32) (x2 : Int32) (x6 : Int32) (y7 : Int64) (y9 : Int64) (y11 : Int64) (y13 : Int64) : SG :=
  if x6 = 0 then
    Z_X10_cut_p168 R σ o0 (x1) (y9) (y11) (y13)
  else
    if y7 < y11 then
      if y7 < (mj σ (R 644 o0) (x2 : Int32).toNatClampNeg) then
        (ui σ (R 643 o0) (x1 : Int32).toNatClampNeg 0)
      else
        if y13 = (0 : Int64) then
          Z_X10_cut_p168 R σ o0 (x1) (y9) (y11) (y13)
        else
          Z_X10_cut_p168 R σ o0 (x1) (y9) ((y11 - (((((y11 - y7) + y13) - 1) / y13) * y13))) (y13)
    else
      Z_X10_cut_p168 R σ o0 (x1) (y9) (y11) (y13)
theorem zl_X10_cut_p102_0 {R : Nat → Nat → Nat} {σ : SG} {o0 : Nat} {x1 : Int32} {x2 : Int32} {x6 : Int32} {y7 : Int64} {y9 : Int64} {y11 : Int64} {y13 : Int64} (h0 : x6 = 0) : Z_X10_cut_p102 R σ o0 x1 x2 x6 y7 y9 y11 y13 = Z_X10_cut_p168 R σ o0 (x1) (y9) (y11) (y13) := by unfold Z_X10_cut_p102; exact if_pos h0
theorem zl_X10_cut_p102_1 {R : Nat → Nat → Nat} {σ : SG} {o0 : Nat} {x1 : Int32} {x2 : Int32} {x6 : Int32} {y7 : Int64} {y9 : Int64} {y11 : Int64} {y13 : Int64} (h0 : ¬ x6 = 0) (h1 : y7 < y11) (h2 : y7 < (mj σ (R 644 o0) (x2 : Int32).toNatClampNeg)) : Z_X10_cut_p102 R σ o0 x1 x2 x6 y7 y9 y11 y13 = (ui σ (R 643 o0) (x1 : Int32).toNatClampNeg 0) := by unfold Z_X10_cut_p102; exact Eq.trans (if_neg h0) (Eq.trans (if_pos h1) (if_pos h2))
theorem zl_X10_cut_p102_2 {R : Nat → Nat → Nat} {σ : SG} {o0 : Nat} {x1 : Int32} {x2 : Int32} {x6 : Int32} {y7 : Int64} {y9 : Int64} {y11 : Int64} {y13 : Int64} (h0 : ¬ x6 = 0) (h1 : y7 < y11) (h2 : ¬ y7 < (mj σ (R 644 o0) (x2 : Int32).toNatClampNeg)) (h3 : y13 = (0 : Int64)) : Z_X10_cut_p102 R σ o0 x1 x2 x6 y7 y9 y11 y13 = Z_X10_cut_p168 R σ o0 (x1) (y9) (y11) (y13) := by unfold Z_X10_cut_p102; exact Eq.trans (if_neg h0) (Eq.trans (if_pos h1) (Eq.trans (if_neg h2) (if_pos h3)))
theorem zl_X10_cut_p102_3 {R : Nat → Nat → Nat} {σ : SG} {o0 : Nat} {x1 : Int32} {x2 : Int32} {x6 : Int32} {y7 : Int64} {y9 : Int64} {y11 : Int64} {y13 : Int64} (h0 : ¬ x6 = 0) (h1 : y7 < y11) (h2 : ¬ y7 < (mj σ (R 644 o0) (x2 : Int32).toNatClampNeg)) (h3 : ¬ y13 = (0 : Int64)) : Z_X10_cut_p102 R σ o0 x1 x2 x6 y7 y9 y11 y13 = Z_X10_cut_p168 R σ o0 (x1) (y9) ((y11 - (((((y11 - y7) + y13) - 1) / y13) * y13))) (y13) := by unfold Z_X10_cut_p102; exact Eq.trans (if_neg h0) (Eq.trans (if_pos h1) (Eq.trans (if_neg h2) (if_neg h3)))
theorem zl_X10_cut_p102_4 {R : Nat → Nat → Nat} {σ : SG} {o0 : Nat} {x1 : Int32} {x2 : Int32} {x6 : Int32} {y7 : Int64} {y9 : Int64} {y11 : Int64} {y13 : Int64} (h0 : ¬ x6 = 0) (h1 : ¬ y7 < y11) : Z_X10_cut_p102 R σ o0 x1 x2 x6 y7 y9 y11 y13 = Z_X10_cut_p168 R σ o0 (x1) (y9) (y11) (y13) := by unfold Z_X10_cut_p102; exact Eq.trans (if_neg h0) (if_neg h1)
set_option maxHeartbeats 40000000 in
theorem cz_X10_cut_p102 {xi : SX} {S : Hp} {E : List Nat} {kc nc : Nat} {P : Po} {o0 : Nat} {x1 : Int32} {x2 : Int32} {x6 : Int32} {y7 : Int64} {y9 : Int64} {y11 : Int64} {y13 : Int64} {R : Nat → Nat → Nat} (hG : GI S E) (h0 : Oa S E 10 0 o0) (h1 : Rg 0 4939 x1) (h2 : Rg 0 4939 x2) (h6 : Rg 0 1 x6) (hR : RK S R) (hP : ∀ r T x y, PV E [9989] S kc nc rV (fun v T => sg T = Z_X10_cut_p102 R (sg S) o0 x1 x2 x6 y7 y9 y11 y13) [] r T x y → P r T x y) : TT xi M_X10_cut 102 [(0, .ref o0), (1, .int x1), (2, .int x2), (6, .int x6), (7, .long y7), (9, .long y9), (11, .long y11), (13, .long y13)] [] S kc nc P := by
  have hA : Af E [9989] S S := af_rf
  refine tt_iload (j := 3) dX10_cut_102 rfl ?_
  refine tt_if_eq (tgt := 168) dX10_cut_104 rfl (fun q101 => ?_) (fun q101 => ?_)
  · skip
    have h102 : Rg 0 0 x6 := rg_eq_l h6 (⟨by decide, by decide⟩ : Rg 0 0 0) q101
    have hF : Z_X10_cut_p102 R (sg S) o0 x1 x2 x6 y7 y9 y11 y13 = Z_X10_cut_p168 R (sg S) o0 (x1) (y9) (y11) (y13) := by
      exact zl_X10_cut_p102_0 q101
    exact tt_loc (ks := [0, 1, 5, 6, 7]) rfl (cz_X10_cut_p168 hG (oa_af h0 hA) (rg_w h1) hR (fun r T x y h => hP r T x y (pv_tr hA h (by decide) (fun v T e => e.trans ((congrArg (fun q9 => Z_X10_cut_p168 R q9 o0 (x1) (y9) (y11) (y13)) (show sg S = (sg S) from rfl)).trans hF.symm)))))
  · skip
    have h103 : Rg 1 1 x6 := rg_ne_lo h6 (⟨by decide, by decide⟩ : Rg 0 0 0) q101
    refine tt_lload (j := 4) dX10_cut_107 rfl ?_
    refine tt_lload (j := 6) dX10_cut_109 rfl ?_
    refine tt_lcmp dX10_cut_111 ?_
    refine tt_if_ge (tgt := 168) dX10_cut_112 rfl (fun q104 => ?_) (fun q104 => ?_)
    · skip
      have hF : Z_X10_cut_p102 R (sg S) o0 x1 x2 x6 y7 y9 y11 y13 = Z_X10_cut_p168 R (sg S) o0 (x1) (y9) (y11) (y13) := by
        exact zl_X10_cut_p102_4 q101 (Int64.not_lt.mpr (lc_ge_t q104))
      exact tt_loc (ks := [0, 1, 5, 6, 7]) rfl (cz_X10_cut_p168 hG (oa_af h0 hA) (rg_w h1) hR (fun r T x y h => hP r T x y (pv_tr hA h (by decide) (fun v T e => e.trans ((congrArg (fun q9 => Z_X10_cut_p168 R q9 o0 (x1) (y9) (y11) (y13)) (show sg S = (sg S) from rfl)).trans hF.symm)))))
    · skip
      refine tt_lload (j := 4) dX10_cut_115 rfl ?_
      refine tt_aload_n (j := 0) dX10_cut_117 rfl ?_
      have hr105 := rk_R (k := 644) hR h0 33 4940
      have ho106 := rk_O (k := 644) hG hR h0 33 4940
      refine gt_gR (id := 644) dX10_cut_118 fl_10_16 rfl rfl h0 hA hr105 ?_
      refine tt_iload_n (j := 2) dX10_cut_121 rfl ?_
      refine gt_lLv (v := (mj (sg S) (R 644 o0) (x2 : Int32).toNatClampNeg)) dX10_cut_122 ho106 hA (rg_in h2) (sg_j (a := (R 644 o0)) (i := (x2 : Int32).toNatClampNeg) (show sg S = (sg S) from rfl)) ?_
      refine tt_lcmp dX10_cut_123 ?_
      refine tt_if_ge (tgt := 135) dX10_cut_124 rfl (fun q107 => ?_) (fun q107 => ?_)
      · skip
        refine tt_lload (j := 7) dX10_cut_135 rfl ?_
        refine tt_lconst (v := 0) dX10_cut_137 rfl ?_
        refine tt_lcmp dX10_cut_138 ?_
        refine tt_if_ne (tgt := 147) dX10_cut_139 rfl (fun q108 => ?_) (fun q108 => ?_)
        · skip
          refine tt_lload (j := 6) dX10_cut_147 rfl ?_
          refine tt_lload (j := 6) dX10_cut_149 rfl ?_
          refine tt_lload (j := 4) dX10_cut_151 rfl ?_
          refine tt_lsub dX10_cut_153 ?_
          refine tt_lload (j := 7) dX10_cut_154 rfl ?_
          refine tt_ladd dX10_cut_156 ?_
          refine tt_lconst (v := 1) dX10_cut_157 rfl ?_
          refine tt_lsub dX10_cut_158 ?_
          refine tt_lload (j := 7) dX10_cut_159 rfl ?_
          refine tt_ldiv dX10_cut_161 (lc_ne_t q108) ?_
          refine tt_lload (j := 7) dX10_cut_162 rfl ?_
          refine tt_lmul dX10_cut_164 ?_
          refine tt_lsub dX10_cut_165 ?_
          refine tt_lstore (ks := [0, 1, 2, 3, 4, 5, 6, 7]) (L' := [(11, .long (y11 - (((((y11 - y7) + y13) - 1) / y13) * y13))), (0, .ref o0), (1, .int x1), (2, .int x2), (6, .int x6), (7, .long y7), (9, .long y9), (13, .long y13)]) dX10_cut_166 (by decide) rfl ?_
          have hF : Z_X10_cut_p102 R (sg S) o0 x1 x2 x6 y7 y9 y11 y13 = Z_X10_cut_p168 R (sg S) o0 (x1) (y9) ((y11 - (((((y11 - y7) + y13) - 1) / y13) * y13))) (y13) := by
            exact zl_X10_cut_p102_3 q101 (lc_ge_f q104) (Int64.not_lt.mpr (lc_ge_t q107)) (lc_ne_t q108)
          exact tt_loc (ks := [1, 2, 6, 0, 7]) rfl (cz_X10_cut_p168 hG (oa_af h0 hA) (rg_w h1) hR (fun r T x y h => hP r T x y (pv_tr hA h (by decide) (fun v T e => e.trans ((congrArg (fun q9 => Z_X10_cut_p168 R q9 o0 (x1) (y9) ((y11 - (((((y11 - y7) + y13) - 1) / y13) * y13))) (y13)) (show sg S = (sg S) from rfl)).trans hF.symm)))))
        · skip
          refine tt_lload (j := 6) dX10_cut_142 rfl ?_
          refine tt_goto (tgt := 166) dX10_cut_144 rfl ?_
          refine tt_lstore (ks := [0, 1, 2, 3, 4, 5, 6, 7]) (L' := [(11, .long y11), (0, .ref o0), (1, .int x1), (2, .int x2), (6, .int x6), (7, .long y7), (9, .long y9), (13, .long y13)]) dX10_cut_166 (by decide) rfl ?_
          have hF : Z_X10_cut_p102 R (sg S) o0 x1 x2 x6 y7 y9 y11 y13 = Z_X10_cut_p168 R (sg S) o0 (x1) (y9) (y11) (y13) := by
            exact zl_X10_cut_p102_2 q101 (lc_ge_f q104) (Int64.not_lt.mpr (lc_ge_t q107)) (lc_ne_f q108)
          exact tt_loc (ks := [1, 2, 6, 0, 7]) rfl (cz_X10_cut_p168 hG (oa_af h0 hA) (rg_w h1) hR (fun r T x y h => hP r T x y (pv_tr hA h (by decide) (fun v T e => e.trans ((congrArg (fun q9 => Z_X10_cut_p168 R q9 o0 (x1) (y9) (y11) (y13)) (show sg S = (sg S) from rfl)).trans hF.symm)))))
      · skip
        refine tt_aload_n (j := 0) dX10_cut_127 rfl ?_
        have hr109 := rk_R (k := 643) hR h0 32 4940
        have ho110 := rk_O (k := 643) hG hR h0 32 4940
        refine gt_gR (id := 643) dX10_cut_128 fl_10_13 rfl rfl h0 hA hr109 ?_
        refine tt_iload_n (j := 1) dX10_cut_131 rfl ?_
        refine tt_iconst (v := 0) dX10_cut_132 rfl ?_
        refine gx_iS dX10_cut_133 ho110 hA (Or.inl (by decide)) (rg_in h1) hG (by decide) (show sg S = (sg S) from rfl) (fun S111 hG112 hA113 e114 => ?_)
        have hF : Z_X10_cut_p102 R (sg S) o0 x1 x2 x6 y7 y9 y11 y13 = (ui (sg S) (R 643 o0) (x1 : Int32).toNatClampNeg 0) := by
          exact zl_X10_cut_p102_1 q101 (lc_ge_f q104) (lc_ge_f q107)
        exact tt_vreturn dX10_cut_134 rfl (hP _ _ _ _ ⟨hG112, hA113, Or.inl ⟨_, rfl, rfl, Eq.trans e114 hF.symm, rfl, rfl⟩⟩)
def Z_X10_cut_p17 (R : Nat → Nat → Nat) (σ : SG) (o0 : Nat) (x1 : Int32) (x2 : Int32) (x3 : Int32) (y4 : Int64) (x6 : Int32) (y7 : Int64) : SG :=
  if x3 = 0 then
    Z_X10_cut_p102 R σ o0 (x1) (x2) (x6) (y7) ((mj σ (R 644 o0) (x2 : Int32).toNatClampNeg)) ((mj σ (R 645 o0) (x2 : Int32).toNatClampNeg)) ((mj σ (R 646 o0) (x2 : Int32).toNatClampNeg))
  else
    if (mj σ (R 644 o0) (x2 : Int32).toNatClampNeg) < y4 then
      if (mj σ (R 645 o0) (x2 : Int32).toNatClampNeg) < y4 then
        (ui σ (R 643 o0) (x1 : Int32).toNatClampNeg 0)
      else
        if (mj σ (R 646 o0) (x2 : Int32).toNatClampNeg) = (0 : Int64) then
          Z_X10_cut_p102 R σ o0 (x1) (x2) (x6) (y7) ((mj σ (R 644 o0) (x2 : Int32).toNatClampNeg)) ((mj σ (R 645 o0) (x2 : Int32).toNatClampNeg)) ((mj σ (R 646 o0) (x2 : Int32).toNatClampNeg))
        else
          Z_X10_cut_p102 R σ o0 (x1) (x2) (x6) (y7) (((mj σ (R 644 o0) (x2 : Int32).toNatClampNeg) + (((((y4 - (mj σ (R 644 o0) (x2 : Int32).toNatClampNeg)) + (mj σ (R 646 o0) (x2 : Int32).toNatClampNeg)) - 1) / (mj σ (R 646 o0) (x2 : Int32).toNatClampNeg)) * (mj σ (R 646 o0) (x2 : Int32).toNatClampNeg)))) ((mj σ (R 645 o0) (x2 : Int32).toNatClampNeg)) ((mj σ (R 646 o0) (x2 : Int32).toNatClampNeg))
    else
      Z_X10_cut_p102 R σ o0 (x1) (x2) (x6) (y7) ((mj σ (R 644 o0) (x2 : Int32).toNatClampNeg)) ((mj σ (R 645 o0) (x2 : Int32).toNatClampNeg)) ((mj σ (R 646 o0) (x2 : Int32).toNatClampNeg))
theorem zl_X10_cut_p17_0 {R : Nat → Nat → Nat} {σ : SG} {o0 : Nat} {x1 : Int32} {x2 : Int32} {x3 : Int32} {y4 : Int64} {x6 : Int32} {y7 : Int64} (h0 : x3 = 0) : Z_X10_cut_p17 R σ o0 x1 x2 x3 y4 x6 y7 = Z_X10_cut_p102 R σ o0 (x1) (x2) (x6) (y7) ((mj σ (R 644 o0) (x2 : Int32).toNatClampNeg)) ((mj σ (R 645 o0) (x2 : Int32).toNatClampNeg)) ((mj σ (R 646 o0) (x2 : Int32).toNatClampNeg)) := by unfold Z_X10_cut_p17; exact if_pos h0
theorem zl_X10_cut_p17_1 {R : Nat → Nat → Nat} {σ : SG} {o0 : Nat} {x1 : Int32} {x2 : Int32} {x3 : Int32} {y4 : Int64} {x6 : Int32} {y7 : Int64} (h0 : ¬ x3 = 0) (h1 : (mj σ (R 644 o0) (x2 : Int32).toNatClampNeg) < y4) (h2 : (mj σ (R 645 o0) (x2 : Int32).toNatClampNeg) < y4) : Z_X10_cut_p17 R σ o0 x1 x2 x3 y4 x6 y7 = (ui σ (R 643 o0) (x1 : Int32).toNatClampNeg 0) := by unfold Z_X10_cut_p17; exact Eq.trans (if_neg h0) (Eq.trans (if_pos h1) (if_pos h2))
theorem zl_X10_cut_p17_2 {R : Nat → Nat → Nat} {σ : SG} {o0 : Nat} {x1 : Int32} {x2 : Int32} {x3 : Int32} {y4 : Int64} {x6 : Int32} {y7 : Int64} (h0 : ¬ x3 = 0) (h1 : (mj σ (R 644 o0) (x2 : Int32).toNatClampNeg) < y4) (h2 : ¬ (mj σ (R 645 o0) (x2 : Int32).toNatClampNeg) < y4) (h3 : (mj σ (R 646 o0) (x2 : Int32).toNatClampNeg) = (0 : Int64)) : Z_X10_cut_p17 R σ o0 x1 x2 x3 y4 x6 y7 = Z_X10_cut_p102 R σ o0 (x1) (x2) (x6) (y7) ((mj σ (R 644 o0) (x2 : Int32).toNatClampNeg)) ((mj σ (R 645 o0) (x2 : Int32).toNatClampNeg)) ((mj σ (R 646 o0) (x2 : Int32).toNatClampNeg)) := by unfold Z_X10_cut_p17; exact Eq.trans (if_neg h0) (Eq.trans (if_pos h1) (Eq.trans (if_neg h2) (if_pos h3)))
theorem zl_X10_cut_p17_3 {R : Nat → Nat → Nat} {σ : SG} {o0 : Nat} {x1 : Int32} {x2 : Int32} {x3 : Int32} {y4 : Int64} {x6 : Int32} {y7 : Int64} (h0 : ¬ x3 = 0) (h1 : (mj σ (R 644 o0) (x2 : Int32).toNatClampNeg) < y4) (h2 : ¬ (mj σ (R 645 o0) (x2 : Int32).toNatClampNeg) < y4) (h3 : ¬ (mj σ (R 646 o0) (x2 : Int32).toNatClampNeg) = (0 : Int64)) : Z_X10_cut_p17 R σ o0 x1 x2 x3 y4 x6 y7 = Z_X10_cut_p102 R σ o0 (x1) (x2) (x6) (y7) (((mj σ (R 644 o0) (x2 : Int32).toNatClampNeg) + (((((y4 - (mj σ (R 644 o0) (x2 : Int32).toNatClampNeg)) + (mj σ (R 646 o0) (x2 : Int32).toNatClampNeg)) - 1) / (mj σ (R 646 o0) (x2 : Int32).toNatClampNeg)) * (mj σ (R 646 o0) (x2 : Int32).toNatClampNeg)))) ((mj σ (R 645 o0) (x2 : Int32).toNatClampNeg)) ((mj σ (R 646 o0) (x2 : Int32).toNatClampNeg)) := by unfold Z_X10_cut_p17; exact Eq.trans (if_neg h0) (Eq.trans (if_pos h1) (Eq.trans (if_neg h2) (if_neg h3)))
theorem zl_X10_cut_p17_4 {R : Nat → Nat → Nat} {σ : SG} {o0 : Nat} {x1 : Int32} {x2 : Int32} {x3 : Int32} {y4 : Int64} {x6 : Int32} {y7 : Int64} (h0 : ¬ x3 = 0) (h1 : ¬ (mj σ (R 644 o0) (x2 : Int32).toNatClampNeg) < y4) : Z_X10_cut_p17 R σ o0 x1 x2 x3 y4 x6 y7 = Z_X10_cut_p102 R σ o0 (x1) (x2) (x6) (y7) ((mj σ (R 644 o0) (x2 : Int32).toNatClampNeg)) ((mj σ (R 645 o0) (x2 : Int32).toNatClampNeg)) ((mj σ (R 646 o0) (x2 : Int32).toNatClampNeg)) := by unfold Z_X10_cut_p17; exact Eq.trans (if_neg h0) (if_neg h1)
set_option maxHeartbeats 40000000 in
theorem cz_X10_cut_p17 {xi : SX} {S : Hp} {E : List Nat} {kc nc : Nat} {P : Po} {o0 : Nat} {x1 : Int32} {x2 : Int32} {x3 : Int32} {y4 : Int64} {x6 : Int32} {y7 : Int64} {R : Nat → Nat → Nat} (hG : GI S E) (h0 : Oa S E 10 0 o0) (h1 : Rg 0 4939 x1) (h2 : Rg 0 4939 x2) (h3 : Rg 0 1 x3) (h6 : Rg 0 1 x6) (hR : RK S R) (hP : ∀ r T x y, PV E [9989] S kc nc rV (fun v T => sg T = Z_X10_cut_p17 R (sg S) o0 x1 x2 x3 y4 x6 y7) [] r T x y → P r T x y) : TT xi M_X10_cut 17 [(0, .ref o0), (1, .int x1), (2, .int x2), (3, .int x3), (4, .long y4), (6, .int x6), (7, .long y7)] [] S kc nc P := by
  have hA : Af E [9989] S S := af_rf
  refine tt_aload_n (j := 0) dX10_cut_17 rfl ?_
  have hr101 := rk_R (k := 644) hR h0 33 4940
  have ho102 := rk_O (k := 644) hG hR h0 33 4940
  refine gt_gR (id := 644) dX10_cut_18 fl_10_16 rfl rfl h0 hA hr101 ?_
  refine tt_iload_n (j := 2) dX10_cut_21 rfl ?_
  refine gt_lLv (v := (mj (sg S) (R 644 o0) (x2 : Int32).toNatClampNeg)) dX10_cut_22 ho102 hA (rg_in h2) (sg_j (a := (R 644 o0)) (i := (x2 : Int32).toNatClampNeg) (show sg S = (sg S) from rfl)) ?_
  refine tt_lstore (ks := [0, 1, 2, 3, 4, 5, 6, 7]) (L' := [(9, .long (mj (sg S) (R 644 o0) (x2 : Int32).toNatClampNeg)), (0, .ref o0), (1, .int x1), (2, .int x2), (3, .int x3), (4, .long y4), (6, .int x6), (7, .long y7)]) dX10_cut_23 (by decide) rfl ?_
  refine tt_aload_n (j := 1) dX10_cut_25 rfl ?_
  have hr103 := rk_R (k := 645) hR h0 33 4940
  have ho104 := rk_O (k := 645) hG hR h0 33 4940
  refine gt_gR (id := 645) dX10_cut_26 fl_10_20 rfl rfl h0 hA hr103 ?_
  refine tt_iload_n (j := 3) dX10_cut_29 rfl ?_
  refine gt_lLv (v := (mj (sg S) (R 645 o0) (x2 : Int32).toNatClampNeg)) dX10_cut_30 ho104 hA (rg_in h2) (sg_j (a := (R 645 o0)) (i := (x2 : Int32).toNatClampNeg) (show sg S = (sg S) from rfl)) ?_
  refine tt_lstore (ks := [0, 1, 2, 3, 4, 5, 6, 7, 8]) (L' := [(11, .long (mj (sg S) (R 645 o0) (x2 : Int32).toNatClampNeg)), (9, .long (mj (sg S) (R 644 o0) (x2 : Int32).toNatClampNeg)), (0, .ref o0), (1, .int x1), (2, .int x2), (3, .int x3), (4, .long y4), (6, .int x6), (7, .long y7)]) dX10_cut_31 (by decide) rfl ?_
  refine tt_aload_n (j := 2) dX10_cut_33 rfl ?_
  have hr105 := rk_R (k := 646) hR h0 33 4940
  have ho106 := rk_O (k := 646) hG hR h0 33 4940
  refine gt_gR (id := 646) dX10_cut_34 fl_10_23 rfl rfl h0 hA hr105 ?_
  refine tt_iload_n (j := 4) dX10_cut_37 rfl ?_
  refine gt_lLv (v := (mj (sg S) (R 646 o0) (x2 : Int32).toNatClampNeg)) dX10_cut_38 ho106 hA (rg_in h2) (sg_j (a := (R 646 o0)) (i := (x2 : Int32).toNatClampNeg) (show sg S = (sg S) from rfl)) ?_
  refine tt_lstore (ks := [0, 1, 2, 3, 4, 5, 6, 7, 8, 9]) (L' := [(13, .long (mj (sg S) (R 646 o0) (x2 : Int32).toNatClampNeg)), (11, .long (mj (sg S) (R 645 o0) (x2 : Int32).toNatClampNeg)), (9, .long (mj (sg S) (R 644 o0) (x2 : Int32).toNatClampNeg)), (0, .ref o0), (1, .int x1), (2, .int x2), (3, .int x3), (4, .long y4), (6, .int x6), (7, .long y7)]) dX10_cut_39 (by decide) rfl ?_
  refine tt_iload_n (j := 6) dX10_cut_41 rfl ?_
  refine tt_if_eq (tgt := 102) dX10_cut_42 rfl (fun q107 => ?_) (fun q107 => ?_)
  · skip
    have h108 : Rg 0 0 x3 := rg_eq_l h3 (⟨by decide, by decide⟩ : Rg 0 0 0) q107
    have hF : Z_X10_cut_p17 R (sg S) o0 x1 x2 x3 y4 x6 y7 = Z_X10_cut_p102 R (sg S) o0 (x1) (x2) (x6) (y7) ((mj (sg S) (R 644 o0) (x2 : Int32).toNatClampNeg)) ((mj (sg S) (R 645 o0) (x2 : Int32).toNatClampNeg)) ((mj (sg S) (R 646 o0) (x2 : Int32).toNatClampNeg)) := by
      exact zl_X10_cut_p17_0 q107
    exact tt_loc (ks := [3, 4, 5, 8, 9, 2, 1, 0]) rfl (cz_X10_cut_p102 hG (oa_af h0 hA) (rg_w h1) (rg_w h2) (rg_w h6) hR (fun r T x y h => hP r T x y (pv_tr hA h (by decide) (fun v T e => e.trans ((congrArg (fun q9 => Z_X10_cut_p102 R q9 o0 (x1) (x2) (x6) (y7) ((mj (sg S) (R 644 o0) (x2 : Int32).toNatClampNeg)) ((mj (sg S) (R 645 o0) (x2 : Int32).toNatClampNeg)) ((mj (sg S) (R 646 o0) (x2 : Int32).toNatClampNeg))) (show sg S = (sg S) from rfl)).trans hF.symm)))))
  · skip
    have h109 : Rg 1 1 x3 := rg_ne_lo h3 (⟨by decide, by decide⟩ : Rg 0 0 0) q107
    refine tt_lload (j := 7) dX10_cut_45 rfl ?_
    refine tt_lload (j := 2) dX10_cut_47 rfl ?_
    refine tt_lcmp dX10_cut_49 ?_
    refine tt_if_le (tgt := 102) dX10_cut_50 rfl (fun q110 => ?_) (fun q110 => ?_)
    · skip
      have hF : Z_X10_cut_p17 R (sg S) o0 x1 x2 x3 y4 x6 y7 = Z_X10_cut_p102 R (sg S) o0 (x1) (x2) (x6) (y7) ((mj (sg S) (R 644 o0) (x2 : Int32).toNatClampNeg)) ((mj (sg S) (R 645 o0) (x2 : Int32).toNatClampNeg)) ((mj (sg S) (R 646 o0) (x2 : Int32).toNatClampNeg)) := by
        exact zl_X10_cut_p17_4 q107 (Int64.not_lt.mpr (lc_le_t q110))
      exact tt_loc (ks := [3, 4, 5, 8, 9, 2, 1, 0]) rfl (cz_X10_cut_p102 hG (oa_af h0 hA) (rg_w h1) (rg_w h2) (rg_w h6) hR (fun r T x y h => hP r T x y (pv_tr hA h (by decide) (fun v T e => e.trans ((congrArg (fun q9 => Z_X10_cut_p102 R q9 o0 (x1) (x2) (x6) (y7) ((mj (sg S) (R 644 o0) (x2 : Int32).toNatClampNeg)) ((mj (sg S) (R 645 o0) (x2 : Int32).toNatClampNeg)) ((mj (sg S) (R 646 o0) (x2 : Int32).toNatClampNeg))) (show sg S = (sg S) from rfl)).trans hF.symm)))))
    · skip
      refine tt_lload (j := 7) dX10_cut_53 rfl ?_
      refine tt_lload (j := 1) dX10_cut_55 rfl ?_
      refine tt_lcmp dX10_cut_57 ?_
      refine tt_if_le (tgt := 69) dX10_cut_58 rfl (fun q111 => ?_) (fun q111 => ?_)
      · skip
        refine tt_lload (j := 0) dX10_cut_69 rfl ?_
        refine tt_lconst (v := 0) dX10_cut_71 rfl ?_
        refine tt_lcmp dX10_cut_72 ?_
        refine tt_if_ne (tgt := 81) dX10_cut_73 rfl (fun q112 => ?_) (fun q112 => ?_)
        · skip
          refine tt_lload (j := 2) dX10_cut_81 rfl ?_
          refine tt_lload (j := 7) dX10_cut_83 rfl ?_
          refine tt_lload (j := 2) dX10_cut_85 rfl ?_
          refine tt_lsub dX10_cut_87 ?_
          refine tt_lload (j := 0) dX10_cut_88 rfl ?_
          refine tt_ladd dX10_cut_90 ?_
          refine tt_lconst (v := 1) dX10_cut_91 rfl ?_
          refine tt_lsub dX10_cut_92 ?_
          refine tt_lload (j := 0) dX10_cut_93 rfl ?_
          refine tt_ldiv dX10_cut_95 (lc_ne_t q112) ?_
          refine tt_lload (j := 0) dX10_cut_96 rfl ?_
          refine tt_lmul dX10_cut_98 ?_
          refine tt_ladd dX10_cut_99 ?_
          refine tt_lstore (ks := [0, 1, 2, 3, 4, 5, 6, 7, 8, 9]) (L' := [(9, .long ((mj (sg S) (R 644 o0) (x2 : Int32).toNatClampNeg) + (((((y4 - (mj (sg S) (R 644 o0) (x2 : Int32).toNatClampNeg)) + (mj (sg S) (R 646 o0) (x2 : Int32).toNatClampNeg)) - 1) / (mj (sg S) (R 646 o0) (x2 : Int32).toNatClampNeg)) * (mj (sg S) (R 646 o0) (x2 : Int32).toNatClampNeg)))), (13, .long (mj (sg S) (R 646 o0) (x2 : Int32).toNatClampNeg)), (11, .long (mj (sg S) (R 645 o0) (x2 : Int32).toNatClampNeg)), (0, .ref o0), (1, .int x1), (2, .int x2), (3, .int x3), (4, .long y4), (6, .int x6), (7, .long y7)]) dX10_cut_100 (by decide) rfl ?_
          have hF : Z_X10_cut_p17 R (sg S) o0 x1 x2 x3 y4 x6 y7 = Z_X10_cut_p102 R (sg S) o0 (x1) (x2) (x6) (y7) (((mj (sg S) (R 644 o0) (x2 : Int32).toNatClampNeg) + (((((y4 - (mj (sg S) (R 644 o0) (x2 : Int32).toNatClampNeg)) + (mj (sg S) (R 646 o0) (x2 : Int32).toNatClampNeg)) - 1) / (mj (sg S) (R 646 o0) (x2 : Int32).toNatClampNeg)) * (mj (sg S) (R 646 o0) (x2 : Int32).toNatClampNeg)))) ((mj (sg S) (R 645 o0) (x2 : Int32).toNatClampNeg)) ((mj (sg S) (R 646 o0) (x2 : Int32).toNatClampNeg)) := by
            exact zl_X10_cut_p17_3 q107 (lc_le_f q110) (Int64.not_lt.mpr (lc_le_t q111)) (lc_ne_t q112)
          exact tt_loc (ks := [3, 4, 5, 8, 9, 0, 2, 1]) rfl (cz_X10_cut_p102 hG (oa_af h0 hA) (rg_w h1) (rg_w h2) (rg_w h6) hR (fun r T x y h => hP r T x y (pv_tr hA h (by decide) (fun v T e => e.trans ((congrArg (fun q9 => Z_X10_cut_p102 R q9 o0 (x1) (x2) (x6) (y7) (((mj (sg S) (R 644 o0) (x2 : Int32).toNatClampNeg) + (((((y4 - (mj (sg S) (R 644 o0) (x2 : Int32).toNatClampNeg)) + (mj (sg S) (R 646 o0) (x2 : Int32).toNatClampNeg)) - 1) / (mj (sg S) (R 646 o0) (x2 : Int32).toNatClampNeg)) * (mj (sg S) (R 646 o0) (x2 : Int32).toNatClampNeg)))) ((mj (sg S) (R 645 o0) (x2 : Int32).toNatClampNeg)) ((mj (sg S) (R 646 o0) (x2 : Int32).toNatClampNeg))) (show sg S = (sg S) from rfl)).trans hF.symm)))))
        · skip
          refine tt_lload (j := 2) dX10_cut_76 rfl ?_
          refine tt_goto (tgt := 100) dX10_cut_78 rfl ?_
          refine tt_lstore (ks := [0, 1, 2, 3, 4, 5, 6, 7, 8, 9]) (L' := [(9, .long (mj (sg S) (R 644 o0) (x2 : Int32).toNatClampNeg)), (13, .long (mj (sg S) (R 646 o0) (x2 : Int32).toNatClampNeg)), (11, .long (mj (sg S) (R 645 o0) (x2 : Int32).toNatClampNeg)), (0, .ref o0), (1, .int x1), (2, .int x2), (3, .int x3), (4, .long y4), (6, .int x6), (7, .long y7)]) dX10_cut_100 (by decide) rfl ?_
          have hF : Z_X10_cut_p17 R (sg S) o0 x1 x2 x3 y4 x6 y7 = Z_X10_cut_p102 R (sg S) o0 (x1) (x2) (x6) (y7) ((mj (sg S) (R 644 o0) (x2 : Int32).toNatClampNeg)) ((mj (sg S) (R 645 o0) (x2 : Int32).toNatClampNeg)) ((mj (sg S) (R 646 o0) (x2 : Int32).toNatClampNeg)) := by
            exact zl_X10_cut_p17_2 q107 (lc_le_f q110) (Int64.not_lt.mpr (lc_le_t q111)) (lc_ne_f q112)
          exact tt_loc (ks := [3, 4, 5, 8, 9, 0, 2, 1]) rfl (cz_X10_cut_p102 hG (oa_af h0 hA) (rg_w h1) (rg_w h2) (rg_w h6) hR (fun r T x y h => hP r T x y (pv_tr hA h (by decide) (fun v T e => e.trans ((congrArg (fun q9 => Z_X10_cut_p102 R q9 o0 (x1) (x2) (x6) (y7) ((mj (sg S) (R 644 o0) (x2 : Int32).toNatClampNeg)) ((mj (sg S) (R 645 o0) (x2 : Int32).toNatClampNeg)) ((mj (sg S) (R 646 o0) (x2 : Int32).toNatClampNeg))) (show sg S = (sg S) from rfl)).trans hF.symm)))))
      · skip
        refine tt_aload_n (j := 3) dX10_cut_61 rfl ?_
        have hr113 := rk_R (k := 643) hR h0 32 4940
        have ho114 := rk_O (k := 643) hG hR h0 32 4940
        refine gt_gR (id := 643) dX10_cut_62 fl_10_13 rfl rfl h0 hA hr113 ?_
        refine tt_iload_n (j := 4) dX10_cut_65 rfl ?_
        refine tt_iconst (v := 0) dX10_cut_66 rfl ?_
        refine gx_iS dX10_cut_67 ho114 hA (Or.inl (by decide)) (rg_in h1) hG (by decide) (show sg S = (sg S) from rfl) (fun S115 hG116 hA117 e118 => ?_)
        have hF : Z_X10_cut_p17 R (sg S) o0 x1 x2 x3 y4 x6 y7 = (ui (sg S) (R 643 o0) (x1 : Int32).toNatClampNeg 0) := by
          exact zl_X10_cut_p17_1 q107 (lc_le_f q110) (lc_le_f q111)
        exact tt_vreturn dX10_cut_68 rfl (hP _ _ _ _ ⟨hG116, hA117, Or.inl ⟨_, rfl, rfl, Eq.trans e118 hF.symm, rfl, rfl⟩⟩)
def Z_X10_cut (R : Nat → Nat → Nat) (σ : SG) (o0 : Nat) (x1 : Int32) (x2 : Int32) (x3 : Int32) (y4 : Int64) (x6 : Int32) (y7 : Int64) : SG :=
  if (mi σ (R 643 o0) (x2 : Int32).toNatClampNeg) = 1 then
    Z_X10_cut_p17 R σ o0 (x1) (x2) (x3) (y4) (x6) (y7)
  else
    let d110 := Z_X10_copy R σ o0 (x1) (x2)
    d110
theorem zl_X10_cut_0 {R : Nat → Nat → Nat} {σ : SG} {o0 : Nat} {x1 : Int32} {x2 : Int32} {x3 : Int32} {y4 : Int64} {x6 : Int32} {y7 : Int64} (h0 : (mi σ (R 643 o0) (x2 : Int32).toNatClampNeg) = 1) : Z_X10_cut R σ o0 x1 x2 x3 y4 x6 y7 = Z_X10_cut_p17 R σ o0 (x1) (x2) (x3) (y4) (x6) (y7) := by unfold Z_X10_cut; exact if_pos h0
theorem zl_X10_cut_1 {R : Nat → Nat → Nat} {σ : SG} {o0 : Nat} {x1 : Int32} {x2 : Int32} {x3 : Int32} {y4 : Int64} {x6 : Int32} {y7 : Int64} (h0 : ¬ (mi σ (R 643 o0) (x2 : Int32).toNatClampNeg) = 1) : Z_X10_cut R σ o0 x1 x2 x3 y4 x6 y7 = (Z_X10_copy R σ o0 (x1) (x2)) := by unfold Z_X10_cut; exact if_neg h0
set_option maxHeartbeats 40000000 in
theorem cz_X10_cut {xi : SX} {S : Hp} {E : List Nat} {kc nc : Nat} {P : Po} {o0 : Nat} {x1 : Int32} {x2 : Int32} {x3 : Int32} {y4 : Int64} {x6 : Int32} {y7 : Int64} {R : Nat → Nat → Nat} (hG : GI S E) (h0 : Oa S E 10 0 o0) (h1 : Rg 0 4939 x1) (h2 : Rg 0 4939 x2) (h3 : Rg 0 1 x3) (h6 : Rg 0 1 x6) (hR : RK S R) (hP : ∀ r T x y, PV E [9989] S kc nc rV (fun v T => sg T = Z_X10_cut R (sg S) o0 x1 x2 x3 y4 x6 y7) [] r T x y → P r T x y) : TT xi M_X10_cut 0 [(0, .ref o0), (1, .int x1), (2, .int x2), (3, .int x3), (4, .long y4), (6, .int x6), (7, .long y7)] [] S kc nc P := by
  have hA : Af E [9989] S S := af_rf
  refine tt_aload_n (j := 0) dX10_cut_0 rfl ?_
  have hr101 := rk_R (k := 643) hR h0 32 4940
  have ho102 := rk_O (k := 643) hG hR h0 32 4940
  refine gt_gR (id := 643) dX10_cut_1 fl_10_13 rfl rfl h0 hA hr101 ?_
  refine tt_iload_n (j := 2) dX10_cut_4 rfl ?_
  refine gx_iL (v := (mi (sg S) (R 643 o0) (x2 : Int32).toNatClampNeg)) dX10_cut_5 ho102 hA (rg_in h2) (sg_i (a := (R 643 o0)) (i := (x2 : Int32).toNatClampNeg) (show sg S = (sg S) from rfl)) ?_
  refine tt_iconst (v := 1) dX10_cut_6 rfl ?_
  refine tt_icmp_eq (tgt := 17) dX10_cut_7 rfl (fun q103 => ?_) (fun q103 => ?_)
  · skip
    have h104 : Rg 1 1 (mi (sg S) (R 643 o0) (x2 : Int32).toNatClampNeg) := rg_eq_l (rg_all (mi (sg S) (R 643 o0) (x2 : Int32).toNatClampNeg)) (⟨by decide, by decide⟩ : Rg 1 1 1) q103
    have hF : Z_X10_cut R (sg S) o0 x1 x2 x3 y4 x6 y7 = Z_X10_cut_p17 R (sg S) o0 (x1) (x2) (x3) (y4) (x6) (y7) := by
      exact zl_X10_cut_0 q103
    exact tt_loc (ks := [0, 1, 2, 3, 4, 5, 6]) rfl (cz_X10_cut_p17 hG (oa_af h0 hA) (rg_w h1) (rg_w h2) (rg_w h3) (rg_w h6) hR (fun r T x y h => hP r T x y (pv_tr hA h (by decide) (fun v T e => e.trans ((congrArg (fun q9 => Z_X10_cut_p17 R q9 o0 (x1) (x2) (x3) (y4) (x6) (y7)) (show sg S = (sg S) from rfl)).trans hF.symm)))))
  · skip
    refine tt_aload_n (j := 0) dX10_cut_10 rfl ?_
    refine tt_iload_n (j := 1) dX10_cut_11 rfl ?_
    refine tt_iload_n (j := 2) dX10_cut_12 rfl ?_
    refine gt_Vv (As := [.int x1, .int x2]) dX10_cut_13 ca_X10_169 ⟨by decide, by decide⟩ h0 hA rfl (Nat.le_of_ble_eq_true rfl) (Nat.le_of_ble_eq_true rfl) (by decide) (cz_X10_copy hG (oa_af h0 hA) (rg_w h1) (rg_w h2) hR (fun _ _ _ _ h => h)) rfl (fun _ h => nomatch h) (fun S105 hx109 hG106 hB107 hA108 => ?_)
    obtain ⟨d110, hd111⟩ : ∃ q, Z_X10_copy R (sg S) o0 (x1) (x2) = q := ⟨_, rfl⟩
    have hq112 := (congrArg (fun q9 => Z_X10_copy R q9 o0 (x1) (x2)) (show sg S = (sg S) from rfl)).trans hd111
    have hs113 := hx109.trans hq112
    have hF : Z_X10_cut R (sg S) o0 x1 x2 x3 y4 x6 y7 = d110 := by
      subst hd111
      exact zl_X10_cut_1 q103
    exact tt_vreturn dX10_cut_16 rfl (hP _ _ _ _ ⟨hG106, hA108, Or.inl ⟨_, rfl, rfl, Eq.trans hs113 hF.symm, rfl, rfl⟩⟩)
def Z_X10_add (R : Nat → Nat → Nat) (σ : SG) (o0 : Nat) (x1 : Int32) (x2 : Int32) (x3 : Int32) : SG :=
  let d106 := Z_X10_isPlain R σ o0 (x1) (x2) (x3)
  if d106.2 = 0 then
    let d129 := Z_X10_make R d106.1 o0 (x1) (1) (((mj d106.1 (R 644 o0) (x2 : Int32).toNatClampNeg) + (mj d106.1 (R 644 o0) (x3 : Int32).toNatClampNeg))) (((mj d106.1 (R 645 o0) (x2 : Int32).toNatClampNeg) + (mj d106.1 (R 645 o0) (x3 : Int32).toNatClampNeg))) ((gJ ((mj d106.1 (R 646 o0) (x2 : Int32).toNatClampNeg)) ((mj d106.1 (R 646 o0) (x3 : Int32).toNatClampNeg))))
    d129
  else
    d106.1
theorem zl_X10_add_0 {R : Nat → Nat → Nat} {σ : SG} {o0 : Nat} {x1 : Int32} {x2 : Int32} {x3 : Int32} (h0 : (Z_X10_isPlain R σ o0 (x1) (x2) (x3)).2 = 0) : Z_X10_add R σ o0 x1 x2 x3 = (Z_X10_make R (Z_X10_isPlain R σ o0 (x1) (x2) (x3)).1 o0 (x1) (1) (((mj (Z_X10_isPlain R σ o0 (x1) (x2) (x3)).1 (R 644 o0) (x2 : Int32).toNatClampNeg) + (mj (Z_X10_isPlain R σ o0 (x1) (x2) (x3)).1 (R 644 o0) (x3 : Int32).toNatClampNeg))) (((mj (Z_X10_isPlain R σ o0 (x1) (x2) (x3)).1 (R 645 o0) (x2 : Int32).toNatClampNeg) + (mj (Z_X10_isPlain R σ o0 (x1) (x2) (x3)).1 (R 645 o0) (x3 : Int32).toNatClampNeg))) ((gJ ((mj (Z_X10_isPlain R σ o0 (x1) (x2) (x3)).1 (R 646 o0) (x2 : Int32).toNatClampNeg)) ((mj (Z_X10_isPlain R σ o0 (x1) (x2) (x3)).1 (R 646 o0) (x3 : Int32).toNatClampNeg))))) := by unfold Z_X10_add; exact if_pos h0
theorem zl_X10_add_1 {R : Nat → Nat → Nat} {σ : SG} {o0 : Nat} {x1 : Int32} {x2 : Int32} {x3 : Int32} (h0 : ¬ (Z_X10_isPlain R σ o0 (x1) (x2) (x3)).2 = 0) : Z_X10_add R σ o0 x1 x2 x3 = (Z_X10_isPlain R σ o0 (x1) (x2) (x3)).1 := by unfold Z_X10_add; exact if_neg h0
set_option maxHeartbeats 40000000 in
theorem cz_X10_add {xi : SX} {S : Hp} {E : List Nat} {kc nc : Nat} {P : Po} {o0 : Nat} {x1 : Int32} {x2 : Int32} {x3 : Int32} {R : Nat → Nat → Nat} (hG : GI S E) (h0 : Oa S E 10 0 o0) (h1 : Rg 0 4939 x1) (h2 : Rg 0 4939 x2) (h3 : Rg 0 4939 x3) (hR : RK S R) (hP : ∀ r T x y, PV E [9989] S kc nc rV (fun v T => sg T = Z_X10_add R (sg S) o0 x1 x2 x3) [] r T x y → P r T x y) : TT xi M_X10_add 0 [(0, .ref o0), (1, .int x1), (2, .int x2), (3, .int x3)] [] S kc nc P := by
  have hA : Af E [9989] S S := af_rf
  refine tt_aload_n (j := 0) dX10_add_0 rfl ?_
  refine tt_iload_n (j := 1) dX10_add_1 rfl ?_
  refine tt_iload_n (j := 2) dX10_add_2 rfl ?_
  refine tt_iload_n (j := 3) dX10_add_3 rfl ?_
  refine gt_VI (As := [.int x1, .int x2, .int x3]) dX10_add_4 ca_X10_179 ⟨by decide, by decide⟩ h0 hA rfl (Nat.le_of_ble_eq_true rfl) (Nat.le_of_ble_eq_true rfl) (by decide) (cz_X10_isPlain hG (oa_af h0 hA) (rg_w h1) (rg_w h2) (rg_w h3) hR (fun _ _ _ _ h => h)) rfl (fun _ h => nomatch h) (fun S101 x110 h111 hx105 hG102 hB103 hA104 => ?_)
  obtain ⟨d106, hd107⟩ : ∃ q, Z_X10_isPlain R (sg S) o0 (x1) (x2) (x3) = q := ⟨_, rfl⟩
  have hq108 := (congrArg (fun q9 => Z_X10_isPlain R q9 o0 (x1) (x2) (x3)) (show sg S = (sg S) from rfl)).trans hd107
  have hs109 := hx105.2.trans (congrArg Prod.fst hq108)
  obtain rfl : d106.2 = x110 := ((ei_w hx105.1).trans (congrArg Prod.snd hq108)).symm
  refine tt_if_ne (tgt := 57) dX10_add_7 rfl (fun q112 => ?_) (fun q112 => ?_)
  · skip
    have h113 : Rg 1 1 d106.2 := rg_ne_lo h111 (⟨by decide, by decide⟩ : Rg 0 0 0) q112
    have hF : Z_X10_add R (sg S) o0 x1 x2 x3 = d106.1 := by
      subst hd107
      exact zl_X10_add_1 q112
    exact tt_vreturn dX10_add_57 rfl (hP _ _ _ _ ⟨hG102, hA104, Or.inl ⟨_, rfl, rfl, Eq.trans hs109 hF.symm, rfl, rfl⟩⟩)
  · skip
    have h114 : Rg 0 0 d106.2 := rg_eq_l h111 (⟨by decide, by decide⟩ : Rg 0 0 0) q112
    refine tt_aload_n (j := 0) dX10_add_10 rfl ?_
    refine tt_iload_n (j := 1) dX10_add_11 rfl ?_
    refine tt_iconst (v := 1) dX10_add_12 rfl ?_
    refine tt_aload_n (j := 0) dX10_add_13 rfl ?_
    have hr115 := rk_R (k := 644) hR h0 33 4940
    have ho116 := rk_O (k := 644) hG hR h0 33 4940
    refine gt_gR (id := 644) dX10_add_14 fl_10_16 rfl rfl h0 hA104 hr115 ?_
    refine tt_iload_n (j := 2) dX10_add_17 rfl ?_
    refine gt_lLv (v := (mj d106.1 (R 644 o0) (x2 : Int32).toNatClampNeg)) dX10_add_18 ho116 hA104 (rg_in h2) (sg_j (a := (R 644 o0)) (i := (x2 : Int32).toNatClampNeg) hs109) ?_
    refine tt_aload_n (j := 0) dX10_add_19 rfl ?_
    refine gt_gR (id := 644) dX10_add_20 fl_10_16 rfl rfl h0 hA104 hr115 ?_
    refine tt_iload_n (j := 3) dX10_add_23 rfl ?_
    refine gt_lLv (v := (mj d106.1 (R 644 o0) (x3 : Int32).toNatClampNeg)) dX10_add_24 ho116 hA104 (rg_in h3) (sg_j (a := (R 644 o0)) (i := (x3 : Int32).toNatClampNeg) hs109) ?_
    refine tt_ladd dX10_add_25 ?_
    refine tt_aload_n (j := 0) dX10_add_26 rfl ?_
    have hr117 := rk_R (k := 645) hR h0 33 4940
    have ho118 := rk_O (k := 645) hG hR h0 33 4940
    refine gt_gR (id := 645) dX10_add_27 fl_10_20 rfl rfl h0 hA104 hr117 ?_
    refine tt_iload_n (j := 2) dX10_add_30 rfl ?_
    refine gt_lLv (v := (mj d106.1 (R 645 o0) (x2 : Int32).toNatClampNeg)) dX10_add_31 ho118 hA104 (rg_in h2) (sg_j (a := (R 645 o0)) (i := (x2 : Int32).toNatClampNeg) hs109) ?_
    refine tt_aload_n (j := 0) dX10_add_32 rfl ?_
    refine gt_gR (id := 645) dX10_add_33 fl_10_20 rfl rfl h0 hA104 hr117 ?_
    refine tt_iload_n (j := 3) dX10_add_36 rfl ?_
    refine gt_lLv (v := (mj d106.1 (R 645 o0) (x3 : Int32).toNatClampNeg)) dX10_add_37 ho118 hA104 (rg_in h3) (sg_j (a := (R 645 o0)) (i := (x3 : Int32).toNatClampNeg) hs109) ?_
    refine tt_ladd dX10_add_38 ?_
    refine tt_aload_n (j := 0) dX10_add_39 rfl ?_
    have hr119 := rk_R (k := 646) hR h0 33 4940
    have ho120 := rk_O (k := 646) hG hR h0 33 4940
    refine gt_gR (id := 646) dX10_add_40 fl_10_23 rfl rfl h0 hA104 hr119 ?_
    refine tt_iload_n (j := 2) dX10_add_43 rfl ?_
    refine gt_lLv (v := (mj d106.1 (R 646 o0) (x2 : Int32).toNatClampNeg)) dX10_add_44 ho120 hA104 (rg_in h2) (sg_j (a := (R 646 o0)) (i := (x2 : Int32).toNatClampNeg) hs109) ?_
    refine tt_aload_n (j := 0) dX10_add_45 rfl ?_
    refine gt_gR (id := 646) dX10_add_46 fl_10_23 rfl rfl h0 hA104 hr119 ?_
    refine tt_iload_n (j := 3) dX10_add_49 rfl ?_
    refine gt_lLv (v := (mj d106.1 (R 646 o0) (x3 : Int32).toNatClampNeg)) dX10_add_50 ho120 hA104 (rg_in h3) (sg_j (a := (R 646 o0)) (i := (x3 : Int32).toNatClampNeg) hs109) ?_
    refine gt_SJp (As := [.long (mj d106.1 (R 646 o0) (x2 : Int32).toNatClampNeg), .long (mj d106.1 (R 646 o0) (x3 : Int32).toNatClampNeg)]) dX10_add_51 ca_X10_172 ⟨by decide, by decide⟩ hA104 (Nat.le_of_ble_eq_true rfl) (Nat.le_of_ble_eq_true rfl) (by decide) (cz_X10_gcd hG102  (fun _ _ _ _ h => h)) rfl (fun _ h => nomatch h) (fun _ _ q => q.1) (fun y121 hx123 => ?_)
    obtain rfl : gJ ((mj d106.1 (R 646 o0) (x2 : Int32).toNatClampNeg)) ((mj d106.1 (R 646 o0) (x3 : Int32).toNatClampNeg)) = y121 := ((el_w hx123.2).trans rfl).symm
    refine gt_Vv (As := [.int x1, .int 1, .long ((mj d106.1 (R 644 o0) (x2 : Int32).toNatClampNeg) + (mj d106.1 (R 644 o0) (x3 : Int32).toNatClampNeg)), .long ((mj d106.1 (R 645 o0) (x2 : Int32).toNatClampNeg) + (mj d106.1 (R 645 o0) (x3 : Int32).toNatClampNeg)), .long (gJ ((mj d106.1 (R 646 o0) (x2 : Int32).toNatClampNeg)) ((mj d106.1 (R 646 o0) (x3 : Int32).toNatClampNeg)))]) dX10_add_54 ca_X10_165 ⟨by decide, by decide⟩ h0 hA104 rfl (Nat.le_of_ble_eq_true rfl) (Nat.le_of_ble_eq_true rfl) (by decide) (cz_X10_make hG102 (oa_af h0 hA104) (rg_w h1) (rk_af hR hA104) (fun _ _ _ _ h => h)) rfl (fun _ h => nomatch h) (fun S124 hx128 hG125 hB126 hA127 => ?_)
    obtain ⟨d129, hd130⟩ : ∃ q, Z_X10_make R d106.1 o0 (x1) (1) (((mj d106.1 (R 644 o0) (x2 : Int32).toNatClampNeg) + (mj d106.1 (R 644 o0) (x3 : Int32).toNatClampNeg))) (((mj d106.1 (R 645 o0) (x2 : Int32).toNatClampNeg) + (mj d106.1 (R 645 o0) (x3 : Int32).toNatClampNeg))) ((gJ ((mj d106.1 (R 646 o0) (x2 : Int32).toNatClampNeg)) ((mj d106.1 (R 646 o0) (x3 : Int32).toNatClampNeg)))) = q := ⟨_, rfl⟩
    have hq131 := (congrArg (fun q9 => Z_X10_make R q9 o0 (x1) (1) (((mj d106.1 (R 644 o0) (x2 : Int32).toNatClampNeg) + (mj d106.1 (R 644 o0) (x3 : Int32).toNatClampNeg))) (((mj d106.1 (R 645 o0) (x2 : Int32).toNatClampNeg) + (mj d106.1 (R 645 o0) (x3 : Int32).toNatClampNeg))) ((gJ ((mj d106.1 (R 646 o0) (x2 : Int32).toNatClampNeg)) ((mj d106.1 (R 646 o0) (x3 : Int32).toNatClampNeg))))) hs109).trans hd130
    have hs132 := hx128.trans hq131
    have hF : Z_X10_add R (sg S) o0 x1 x2 x3 = d129 := by
      subst hd130
      subst hd107
      exact zl_X10_add_0 q112
    exact tt_vreturn dX10_add_57 rfl (hP _ _ _ _ ⟨hG125, hA127, Or.inl ⟨_, rfl, rfl, Eq.trans hs132 hF.symm, rfl, rfl⟩⟩)
def Z_X10_negate (R : Nat → Nat → Nat) (σ : SG) (o0 : Nat) (x1 : Int32) (x2 : Int32) : SG :=
  if (mi σ (R 643 o0) (x2 : Int32).toNatClampNeg) = 1 then
    let d120 := Z_X10_make R σ o0 (x1) (1) ((-(mj σ (R 645 o0) (x2 : Int32).toNatClampNeg))) ((-(mj σ (R 644 o0) (x2 : Int32).toNatClampNeg))) ((mj σ (R 646 o0) (x2 : Int32).toNatClampNeg))
    d120
  else
    (ui σ (R 643 o0) (x1 : Int32).toNatClampNeg (mi σ (R 643 o0) (x2 : Int32).toNatClampNeg))
theorem zl_X10_negate_0 {R : Nat → Nat → Nat} {σ : SG} {o0 : Nat} {x1 : Int32} {x2 : Int32} (h0 : (mi σ (R 643 o0) (x2 : Int32).toNatClampNeg) = 1) : Z_X10_negate R σ o0 x1 x2 = (Z_X10_make R σ o0 (x1) (1) ((-(mj σ (R 645 o0) (x2 : Int32).toNatClampNeg))) ((-(mj σ (R 644 o0) (x2 : Int32).toNatClampNeg))) ((mj σ (R 646 o0) (x2 : Int32).toNatClampNeg))) := by unfold Z_X10_negate; exact if_pos h0
theorem zl_X10_negate_1 {R : Nat → Nat → Nat} {σ : SG} {o0 : Nat} {x1 : Int32} {x2 : Int32} (h0 : ¬ (mi σ (R 643 o0) (x2 : Int32).toNatClampNeg) = 1) : Z_X10_negate R σ o0 x1 x2 = (ui σ (R 643 o0) (x1 : Int32).toNatClampNeg (mi σ (R 643 o0) (x2 : Int32).toNatClampNeg)) := by unfold Z_X10_negate; exact if_neg h0
set_option maxHeartbeats 40000000 in
theorem cz_X10_negate {xi : SX} {S : Hp} {E : List Nat} {kc nc : Nat} {P : Po} {o0 : Nat} {x1 : Int32} {x2 : Int32} {R : Nat → Nat → Nat} (hG : GI S E) (h0 : Oa S E 10 0 o0) (h1 : Rg 0 4939 x1) (h2 : Rg 0 4939 x2) (hR : RK S R) (hP : ∀ r T x y, PV E [9989] S kc nc rV (fun v T => sg T = Z_X10_negate R (sg S) o0 x1 x2) [] r T x y → P r T x y) : TT xi M_X10_negate 0 [(0, .ref o0), (1, .int x1), (2, .int x2)] [] S kc nc P := by
  have hA : Af E [9989] S S := af_rf
  refine tt_aload_n (j := 0) dX10_negate_0 rfl ?_
  have hr101 := rk_R (k := 643) hR h0 32 4940
  have ho102 := rk_O (k := 643) hG hR h0 32 4940
  refine gt_gR (id := 643) dX10_negate_1 fl_10_13 rfl rfl h0 hA hr101 ?_
  refine tt_iload_n (j := 2) dX10_negate_4 rfl ?_
  refine gx_iL (v := (mi (sg S) (R 643 o0) (x2 : Int32).toNatClampNeg)) dX10_negate_5 ho102 hA (rg_in h2) (sg_i (a := (R 643 o0)) (i := (x2 : Int32).toNatClampNeg) (show sg S = (sg S) from rfl)) ?_
  refine tt_iconst (v := 1) dX10_negate_6 rfl ?_
  refine tt_icmp_ne (tgt := 39) dX10_negate_7 rfl (fun q103 => ?_) (fun q103 => ?_)
  · skip
    refine tt_aload_n (j := 0) dX10_negate_39 rfl ?_
    refine gt_gR (id := 643) dX10_negate_40 fl_10_13 rfl rfl h0 hA hr101 ?_
    refine tt_iload_n (j := 1) dX10_negate_43 rfl ?_
    refine tt_aload_n (j := 0) dX10_negate_44 rfl ?_
    refine gt_gR (id := 643) dX10_negate_45 fl_10_13 rfl rfl h0 hA hr101 ?_
    refine tt_iload_n (j := 2) dX10_negate_48 rfl ?_
    refine gx_iL (v := (mi (sg S) (R 643 o0) (x2 : Int32).toNatClampNeg)) dX10_negate_49 ho102 hA (rg_in h2) (sg_i (a := (R 643 o0)) (i := (x2 : Int32).toNatClampNeg) (show sg S = (sg S) from rfl)) ?_
    refine gx_iS dX10_negate_50 ho102 hA (Or.inl (by decide)) (rg_in h1) hG (by decide) (show sg S = (sg S) from rfl) (fun S104 hG105 hA106 e107 => ?_)
    have hF : Z_X10_negate R (sg S) o0 x1 x2 = (ui (sg S) (R 643 o0) (x1 : Int32).toNatClampNeg (mi (sg S) (R 643 o0) (x2 : Int32).toNatClampNeg)) := by
      exact zl_X10_negate_1 q103
    exact tt_vreturn dX10_negate_51 rfl (hP _ _ _ _ ⟨hG105, hA106, Or.inl ⟨_, rfl, rfl, Eq.trans e107 hF.symm, rfl, rfl⟩⟩)
  · skip
    have h108 : Rg 1 1 (mi (sg S) (R 643 o0) (x2 : Int32).toNatClampNeg) := rg_eq_l (rg_all (mi (sg S) (R 643 o0) (x2 : Int32).toNatClampNeg)) (⟨by decide, by decide⟩ : Rg 1 1 1) q103
    refine tt_aload_n (j := 0) dX10_negate_10 rfl ?_
    refine tt_iload_n (j := 1) dX10_negate_11 rfl ?_
    refine tt_iconst (v := 1) dX10_negate_12 rfl ?_
    refine tt_aload_n (j := 0) dX10_negate_13 rfl ?_
    have hr109 := rk_R (k := 645) hR h0 33 4940
    have ho110 := rk_O (k := 645) hG hR h0 33 4940
    refine gt_gR (id := 645) dX10_negate_14 fl_10_20 rfl rfl h0 hA hr109 ?_
    refine tt_iload_n (j := 2) dX10_negate_17 rfl ?_
    refine gt_lLv (v := (mj (sg S) (R 645 o0) (x2 : Int32).toNatClampNeg)) dX10_negate_18 ho110 hA (rg_in h2) (sg_j (a := (R 645 o0)) (i := (x2 : Int32).toNatClampNeg) (show sg S = (sg S) from rfl)) ?_
    refine tt_lneg dX10_negate_19 ?_
    refine tt_aload_n (j := 0) dX10_negate_20 rfl ?_
    have hr111 := rk_R (k := 644) hR h0 33 4940
    have ho112 := rk_O (k := 644) hG hR h0 33 4940
    refine gt_gR (id := 644) dX10_negate_21 fl_10_16 rfl rfl h0 hA hr111 ?_
    refine tt_iload_n (j := 2) dX10_negate_24 rfl ?_
    refine gt_lLv (v := (mj (sg S) (R 644 o0) (x2 : Int32).toNatClampNeg)) dX10_negate_25 ho112 hA (rg_in h2) (sg_j (a := (R 644 o0)) (i := (x2 : Int32).toNatClampNeg) (show sg S = (sg S) from rfl)) ?_
    refine tt_lneg dX10_negate_26 ?_
    refine tt_aload_n (j := 0) dX10_negate_27 rfl ?_
    have hr113 := rk_R (k := 646) hR h0 33 4940
    have ho114 := rk_O (k := 646) hG hR h0 33 4940
    refine gt_gR (id := 646) dX10_negate_28 fl_10_23 rfl rfl h0 hA hr113 ?_
    refine tt_iload_n (j := 2) dX10_negate_31 rfl ?_
    refine gt_lLv (v := (mj (sg S) (R 646 o0) (x2 : Int32).toNatClampNeg)) dX10_negate_32 ho114 hA (rg_in h2) (sg_j (a := (R 646 o0)) (i := (x2 : Int32).toNatClampNeg) (show sg S = (sg S) from rfl)) ?_
    refine gt_Vv (As := [.int x1, .int 1, .long (-(mj (sg S) (R 645 o0) (x2 : Int32).toNatClampNeg)), .long (-(mj (sg S) (R 644 o0) (x2 : Int32).toNatClampNeg)), .long (mj (sg S) (R 646 o0) (x2 : Int32).toNatClampNeg)]) dX10_negate_33 ca_X10_165 ⟨by decide, by decide⟩ h0 hA rfl (Nat.le_of_ble_eq_true rfl) (Nat.le_of_ble_eq_true rfl) (by decide) (cz_X10_make hG (oa_af h0 hA) (rg_w h1) hR (fun _ _ _ _ h => h)) rfl (fun _ h => nomatch h) (fun S115 hx119 hG116 hB117 hA118 => ?_)
    obtain ⟨d120, hd121⟩ : ∃ q, Z_X10_make R (sg S) o0 (x1) (1) ((-(mj (sg S) (R 645 o0) (x2 : Int32).toNatClampNeg))) ((-(mj (sg S) (R 644 o0) (x2 : Int32).toNatClampNeg))) ((mj (sg S) (R 646 o0) (x2 : Int32).toNatClampNeg)) = q := ⟨_, rfl⟩
    have hq122 := (congrArg (fun q9 => Z_X10_make R q9 o0 (x1) (1) ((-(mj (sg S) (R 645 o0) (x2 : Int32).toNatClampNeg))) ((-(mj (sg S) (R 644 o0) (x2 : Int32).toNatClampNeg))) ((mj (sg S) (R 646 o0) (x2 : Int32).toNatClampNeg))) (show sg S = (sg S) from rfl)).trans hd121
    have hs123 := hx119.trans hq122
    refine tt_goto (tgt := 51) dX10_negate_36 rfl ?_
    have hF : Z_X10_negate R (sg S) o0 x1 x2 = d120 := by
      subst hd121
      exact zl_X10_negate_0 q103
    exact tt_vreturn dX10_negate_51 rfl (hP _ _ _ _ ⟨hG116, hA118, Or.inl ⟨_, rfl, rfl, Eq.trans hs123 hF.symm, rfl, rfl⟩⟩)
def Z_X10_subtract (R : Nat → Nat → Nat) (σ : SG) (o0 : Nat) (x1 : Int32) (x2 : Int32) (x3 : Int32) : SG :=
  let d106 := Z_X10_negate R σ o0 (4930) (x3)
  let d115 := Z_X10_add R d106 o0 (x1) (x2) (4930)
  d115
theorem zl_X10_subtract_0 {R : Nat → Nat → Nat} {σ : SG} {o0 : Nat} {x1 : Int32} {x2 : Int32} {x3 : Int32}  : Z_X10_subtract R σ o0 x1 x2 x3 = (Z_X10_add R (Z_X10_negate R σ o0 (4930) (x3)) o0 (x1) (x2) (4930)) := rfl
set_option maxHeartbeats 40000000 in
theorem cz_X10_subtract {xi : SX} {S : Hp} {E : List Nat} {kc nc : Nat} {P : Po} {o0 : Nat} {x1 : Int32} {x2 : Int32} {x3 : Int32} {R : Nat → Nat → Nat} (hG : GI S E) (h0 : Oa S E 10 0 o0) (h1 : Rg 0 4939 x1) (h2 : Rg 0 4939 x2) (h3 : Rg 0 4939 x3) (hR : RK S R) (hP : ∀ r T x y, PV E [9989] S kc nc rV (fun v T => sg T = Z_X10_subtract R (sg S) o0 x1 x2 x3) [] r T x y → P r T x y) : TT xi M_X10_subtract 0 [(0, .ref o0), (1, .int x1), (2, .int x2), (3, .int x3)] [] S kc nc P := by
  have hA : Af E [9989] S S := af_rf
  refine tt_aload_n (j := 0) dX10_subtract_0 rfl ?_
  refine tt_sipush (v := 4930) dX10_subtract_1 rfl ?_
  refine tt_iload_n (j := 3) dX10_subtract_4 rfl ?_
  refine gt_Vv (As := [.int 4930, .int x3]) dX10_subtract_5 ca_X10_183 ⟨by decide, by decide⟩ h0 hA rfl (Nat.le_of_ble_eq_true rfl) (Nat.le_of_ble_eq_true rfl) (by decide) (cz_X10_negate hG (oa_af h0 hA) (rg_w (⟨by decide, by decide⟩ : Rg 4930 4930 4930)) (rg_w h3) hR (fun _ _ _ _ h => h)) rfl (fun _ h => nomatch h) (fun S101 hx105 hG102 hB103 hA104 => ?_)
  obtain ⟨d106, hd107⟩ : ∃ q, Z_X10_negate R (sg S) o0 (4930) (x3) = q := ⟨_, rfl⟩
  have hq108 := (congrArg (fun q9 => Z_X10_negate R q9 o0 (4930) (x3)) (show sg S = (sg S) from rfl)).trans hd107
  have hs109 := hx105.trans hq108
  refine tt_aload_n (j := 0) dX10_subtract_8 rfl ?_
  refine tt_iload_n (j := 1) dX10_subtract_9 rfl ?_
  refine tt_iload_n (j := 2) dX10_subtract_10 rfl ?_
  refine tt_sipush (v := 4930) dX10_subtract_11 rfl ?_
  refine gt_Vv (As := [.int x1, .int x2, .int 4930]) dX10_subtract_14 ca_X10_186 ⟨by decide, by decide⟩ h0 hA104 rfl (Nat.le_of_ble_eq_true rfl) (Nat.le_of_ble_eq_true rfl) (by decide) (cz_X10_add hG102 (oa_af h0 hA104) (rg_w h1) (rg_w h2) (rg_w (⟨by decide, by decide⟩ : Rg 4930 4930 4930)) (rk_af hR hA104) (fun _ _ _ _ h => h)) rfl (fun _ h => nomatch h) (fun S110 hx114 hG111 hB112 hA113 => ?_)
  obtain ⟨d115, hd116⟩ : ∃ q, Z_X10_add R d106 o0 (x1) (x2) (4930) = q := ⟨_, rfl⟩
  have hq117 := (congrArg (fun q9 => Z_X10_add R q9 o0 (x1) (x2) (4930)) hs109).trans hd116
  have hs118 := hx114.trans hq117
  have hF : Z_X10_subtract R (sg S) o0 x1 x2 x3 = d115 := by
    subst hd116
    subst hd107
    rfl
  exact tt_vreturn dX10_subtract_17 rfl (hP _ _ _ _ ⟨hG111, hA113, Or.inl ⟨_, rfl, rfl, Eq.trans hs118 hF.symm, rfl, rfl⟩⟩)
def Z_X10_times_p290 (R : Nat → Nat → Nat) (σ : SG) (o0 : Nat) (x1 : Int32) (x2 : Int32) (x3 : Int32) (y14 : Int64) (y16 : Int64) : SG :=
  let d116 := Z_X10_make R σ o0 (x1) (1) (y14) (y16) ((gJ ((gJ (((mj σ (R 646 o0) (x2 : Int32).toNatClampNeg) * (mj σ (R 644 o0) (x3 : Int32).toNatClampNeg))) (((mj σ (R 646 o0) (x3 : Int32).toNatClampNeg) * (mj σ (R 644 o0) (x2 : Int32).toNatClampNeg))))) (((mj σ (R 646 o0) (x2 : Int32).toNatClampNeg) * (mj σ (R 646 o0) (x3 : Int32).toNatClampNeg)))))
  d116
theorem zl_X10_times_p290_0 {R : Nat → Nat → Nat} {σ : SG} {o0 : Nat} {x1 : Int32} {x2 : Int32} {x3 : Int32} {y14 : Int64} {y16 : Int64}  : Z_X10_times_p290 R σ o0 x1 x2 x3 y14 y16 = (Z_X10_make R σ o0 (x1) (1) (y14) (y16) ((gJ ((gJ (((mj σ (R 646 o0) (x2 : Int32).toNatClampNeg) * (mj σ (R 644 o0) (x3 : Int32).toNatClampNeg))) (((mj σ (R 646 o0) (x3 : Int32).toNatClampNeg) * (mj σ (R 644 o0) (x2 : Int32).toNatClampNeg))))) (((mj σ (R 646 o0) (x2 : Int32).toNatClampNeg) * (mj σ (R 646 o0) (x3 : Int32).toNatClampNeg)))))) := rfl
set_option maxHeartbeats 40000000 in
theorem cz_X10_times_p290 {xi : SX} {S : Hp} {E : List Nat} {kc nc : Nat} {P : Po} {o0 : Nat} {x1 : Int32} {x2 : Int32} {x3 : Int32} {y14 : Int64} {y16 : Int64} {R : Nat → Nat → Nat} (hG : GI S E) (h0 : Oa S E 10 0 o0) (h1 : Rg 0 4939 x1) (h2 : Rg 0 4939 x2) (h3 : Rg 0 4939 x3) (hR : RK S R) (hP : ∀ r T x y, PV E [9989] S kc nc rV (fun v T => sg T = Z_X10_times_p290 R (sg S) o0 x1 x2 x3 y14 y16) [] r T x y → P r T x y) : TT xi M_X10_times 290 [(0, .ref o0), (1, .int x1), (2, .int x2), (3, .int x3), (14, .long y14), (16, .long y16)] [] S kc nc P := by
  have hA : Af E [9989] S S := af_rf
  refine tt_aload_n (j := 0) dX10_times_290 rfl ?_
  have hr101 := rk_R (k := 646) hR h0 33 4940
  have ho102 := rk_O (k := 646) hG hR h0 33 4940
  refine gt_gR (id := 646) dX10_times_291 fl_10_23 rfl rfl h0 hA hr101 ?_
  refine tt_iload_n (j := 2) dX10_times_294 rfl ?_
  refine gt_lLv (v := (mj (sg S) (R 646 o0) (x2 : Int32).toNatClampNeg)) dX10_times_295 ho102 hA (rg_in h2) (sg_j (a := (R 646 o0)) (i := (x2 : Int32).toNatClampNeg) (show sg S = (sg S) from rfl)) ?_
  refine tt_aload_n (j := 0) dX10_times_296 rfl ?_
  have hr103 := rk_R (k := 644) hR h0 33 4940
  have ho104 := rk_O (k := 644) hG hR h0 33 4940
  refine gt_gR (id := 644) dX10_times_297 fl_10_16 rfl rfl h0 hA hr103 ?_
  refine tt_iload_n (j := 3) dX10_times_300 rfl ?_
  refine gt_lLv (v := (mj (sg S) (R 644 o0) (x3 : Int32).toNatClampNeg)) dX10_times_301 ho104 hA (rg_in h3) (sg_j (a := (R 644 o0)) (i := (x3 : Int32).toNatClampNeg) (show sg S = (sg S) from rfl)) ?_
  refine tt_lmul dX10_times_302 ?_
  refine tt_aload_n (j := 0) dX10_times_303 rfl ?_
  refine gt_gR (id := 646) dX10_times_304 fl_10_23 rfl rfl h0 hA hr101 ?_
  refine tt_iload_n (j := 3) dX10_times_307 rfl ?_
  refine gt_lLv (v := (mj (sg S) (R 646 o0) (x3 : Int32).toNatClampNeg)) dX10_times_308 ho102 hA (rg_in h3) (sg_j (a := (R 646 o0)) (i := (x3 : Int32).toNatClampNeg) (show sg S = (sg S) from rfl)) ?_
  refine tt_aload_n (j := 0) dX10_times_309 rfl ?_
  refine gt_gR (id := 644) dX10_times_310 fl_10_16 rfl rfl h0 hA hr103 ?_
  refine tt_iload_n (j := 2) dX10_times_313 rfl ?_
  refine gt_lLv (v := (mj (sg S) (R 644 o0) (x2 : Int32).toNatClampNeg)) dX10_times_314 ho104 hA (rg_in h2) (sg_j (a := (R 644 o0)) (i := (x2 : Int32).toNatClampNeg) (show sg S = (sg S) from rfl)) ?_
  refine tt_lmul dX10_times_315 ?_
  refine gt_SJp (As := [.long ((mj (sg S) (R 646 o0) (x2 : Int32).toNatClampNeg) * (mj (sg S) (R 644 o0) (x3 : Int32).toNatClampNeg)), .long ((mj (sg S) (R 646 o0) (x3 : Int32).toNatClampNeg) * (mj (sg S) (R 644 o0) (x2 : Int32).toNatClampNeg))]) dX10_times_316 ca_X10_172 ⟨by decide, by decide⟩ hA (Nat.le_of_ble_eq_true rfl) (Nat.le_of_ble_eq_true rfl) (by decide) (cz_X10_gcd hG  (fun _ _ _ _ h => h)) rfl (fun _ h => nomatch h) (fun _ _ q => q.1) (fun y105 hx107 => ?_)
  obtain rfl : gJ (((mj (sg S) (R 646 o0) (x2 : Int32).toNatClampNeg) * (mj (sg S) (R 644 o0) (x3 : Int32).toNatClampNeg))) (((mj (sg S) (R 646 o0) (x3 : Int32).toNatClampNeg) * (mj (sg S) (R 644 o0) (x2 : Int32).toNatClampNeg))) = y105 := ((el_w hx107.2).trans rfl).symm
  refine tt_aload_n (j := 0) dX10_times_319 rfl ?_
  refine gt_gR (id := 646) dX10_times_320 fl_10_23 rfl rfl h0 hA hr101 ?_
  refine tt_iload_n (j := 2) dX10_times_323 rfl ?_
  refine gt_lLv (v := (mj (sg S) (R 646 o0) (x2 : Int32).toNatClampNeg)) dX10_times_324 ho102 hA (rg_in h2) (sg_j (a := (R 646 o0)) (i := (x2 : Int32).toNatClampNeg) (show sg S = (sg S) from rfl)) ?_
  refine tt_aload_n (j := 0) dX10_times_325 rfl ?_
  refine gt_gR (id := 646) dX10_times_326 fl_10_23 rfl rfl h0 hA hr101 ?_
  refine tt_iload_n (j := 3) dX10_times_329 rfl ?_
  refine gt_lLv (v := (mj (sg S) (R 646 o0) (x3 : Int32).toNatClampNeg)) dX10_times_330 ho102 hA (rg_in h3) (sg_j (a := (R 646 o0)) (i := (x3 : Int32).toNatClampNeg) (show sg S = (sg S) from rfl)) ?_
  refine tt_lmul dX10_times_331 ?_
  refine gt_SJp (As := [.long (gJ (((mj (sg S) (R 646 o0) (x2 : Int32).toNatClampNeg) * (mj (sg S) (R 644 o0) (x3 : Int32).toNatClampNeg))) (((mj (sg S) (R 646 o0) (x3 : Int32).toNatClampNeg) * (mj (sg S) (R 644 o0) (x2 : Int32).toNatClampNeg)))), .long ((mj (sg S) (R 646 o0) (x2 : Int32).toNatClampNeg) * (mj (sg S) (R 646 o0) (x3 : Int32).toNatClampNeg))]) dX10_times_332 ca_X10_172 ⟨by decide, by decide⟩ hA (Nat.le_of_ble_eq_true rfl) (Nat.le_of_ble_eq_true rfl) (by decide) (cz_X10_gcd hG  (fun _ _ _ _ h => h)) rfl (fun _ h => nomatch h) (fun _ _ q => q.1) (fun y108 hx110 => ?_)
  obtain rfl : gJ ((gJ (((mj (sg S) (R 646 o0) (x2 : Int32).toNatClampNeg) * (mj (sg S) (R 644 o0) (x3 : Int32).toNatClampNeg))) (((mj (sg S) (R 646 o0) (x3 : Int32).toNatClampNeg) * (mj (sg S) (R 644 o0) (x2 : Int32).toNatClampNeg))))) (((mj (sg S) (R 646 o0) (x2 : Int32).toNatClampNeg) * (mj (sg S) (R 646 o0) (x3 : Int32).toNatClampNeg))) = y108 := ((el_w hx110.2).trans rfl).symm
  refine tt_lstore (ks := [0, 1, 2, 3, 4, 5, 6]) (L' := [(18, .long (gJ ((gJ (((mj (sg S) (R 646 o0) (x2 : Int32).toNatClampNeg) * (mj (sg S) (R 644 o0) (x3 : Int32).toNatClampNeg))) (((mj (sg S) (R 646 o0) (x3 : Int32).toNatClampNeg) * (mj (sg S) (R 644 o0) (x2 : Int32).toNatClampNeg))))) (((mj (sg S) (R 646 o0) (x2 : Int32).toNatClampNeg) * (mj (sg S) (R 646 o0) (x3 : Int32).toNatClampNeg))))), (0, .ref o0), (1, .int x1), (2, .int x2), (3, .int x3), (14, .long y14), (16, .long y16)]) dX10_times_335 (by decide) rfl ?_
  refine tt_aload_n (j := 1) dX10_times_337 rfl ?_
  refine tt_iload_n (j := 2) dX10_times_338 rfl ?_
  refine tt_iconst (v := 1) dX10_times_339 rfl ?_
  refine tt_lload (j := 5) dX10_times_340 rfl ?_
  refine tt_lload (j := 6) dX10_times_342 rfl ?_
  refine tt_lload (j := 0) dX10_times_344 rfl ?_
  refine gt_Vv (As := [.int x1, .int 1, .long y14, .long y16, .long (gJ ((gJ (((mj (sg S) (R 646 o0) (x2 : Int32).toNatClampNeg) * (mj (sg S) (R 644 o0) (x3 : Int32).toNatClampNeg))) (((mj (sg S) (R 646 o0) (x3 : Int32).toNatClampNeg) * (mj (sg S) (R 644 o0) (x2 : Int32).toNatClampNeg))))) (((mj (sg S) (R 646 o0) (x2 : Int32).toNatClampNeg) * (mj (sg S) (R 646 o0) (x3 : Int32).toNatClampNeg))))]) dX10_times_346 ca_X10_165 ⟨by decide, by decide⟩ h0 hA rfl (Nat.le_of_ble_eq_true rfl) (Nat.le_of_ble_eq_true rfl) (by decide) (cz_X10_make hG (oa_af h0 hA) (rg_w h1) hR (fun _ _ _ _ h => h)) rfl (fun _ h => nomatch h) (fun S111 hx115 hG112 hB113 hA114 => ?_)
  obtain ⟨d116, hd117⟩ : ∃ q, Z_X10_make R (sg S) o0 (x1) (1) (y14) (y16) ((gJ ((gJ (((mj (sg S) (R 646 o0) (x2 : Int32).toNatClampNeg) * (mj (sg S) (R 644 o0) (x3 : Int32).toNatClampNeg))) (((mj (sg S) (R 646 o0) (x3 : Int32).toNatClampNeg) * (mj (sg S) (R 644 o0) (x2 : Int32).toNatClampNeg))))) (((mj (sg S) (R 646 o0) (x2 : Int32).toNatClampNeg) * (mj (sg S) (R 646 o0) (x3 : Int32).toNatClampNeg))))) = q := ⟨_, rfl⟩
  have hq118 := (congrArg (fun q9 => Z_X10_make R q9 o0 (x1) (1) (y14) (y16) ((gJ ((gJ (((mj (sg S) (R 646 o0) (x2 : Int32).toNatClampNeg) * (mj (sg S) (R 644 o0) (x3 : Int32).toNatClampNeg))) (((mj (sg S) (R 646 o0) (x3 : Int32).toNatClampNeg) * (mj (sg S) (R 644 o0) (x2 : Int32).toNatClampNeg))))) (((mj (sg S) (R 646 o0) (x2 : Int32).toNatClampNeg) * (mj (sg S) (R 646 o0) (x3 : Int32).toNatClampNeg)))))) (show sg S = (sg S) from rfl)).trans hd117
  have hs119 := hx115.trans hq118
  have hF : Z_X10_times_p290 R (sg S) o0 x1 x2 x3 y14 y16 = d116 := by
    subst hd117
    rfl
  exact tt_vreturn dX10_times_349 rfl (hP _ _ _ _ ⟨hG112, hA114, Or.inl ⟨_, rfl, rfl, Eq.trans hs119 hF.symm, rfl, rfl⟩⟩)
def Z_X10_times_p273 (R : Nat → Nat → Nat) (σ : SG) (o0 : Nat) (x1 : Int32) (x2 : Int32) (x3 : Int32) (y12 : Int64) (y14 : Int64) (y16 : Int64) : SG :=
  if y16 < y12 then
    Z_X10_times_p290 R σ o0 (x1) (x2) (x3) (y14) (y12)
  else
    Z_X10_times_p290 R σ o0 (x1) (x2) (x3) (y14) (y16)
theorem zl_X10_times_p273_0 {R : Nat → Nat → Nat} {σ : SG} {o0 : Nat} {x1 : Int32} {x2 : Int32} {x3 : Int32} {y12 : Int64} {y14 : Int64} {y16 : Int64} (h0 : y16 < y12) : Z_X10_times_p273 R σ o0 x1 x2 x3 y12 y14 y16 = Z_X10_times_p290 R σ o0 (x1) (x2) (x3) (y14) (y12) := by unfold Z_X10_times_p273; exact if_pos h0
theorem zl_X10_times_p273_1 {R : Nat → Nat → Nat} {σ : SG} {o0 : Nat} {x1 : Int32} {x2 : Int32} {x3 : Int32} {y12 : Int64} {y14 : Int64} {y16 : Int64} (h0 : ¬ y16 < y12) : Z_X10_times_p273 R σ o0 x1 x2 x3 y12 y14 y16 = Z_X10_times_p290 R σ o0 (x1) (x2) (x3) (y14) (y16) := by unfold Z_X10_times_p273; exact if_neg h0
set_option maxHeartbeats 40000000 in
theorem cz_X10_times_p273 {xi : SX} {S : Hp} {E : List Nat} {kc nc : Nat} {P : Po} {o0 : Nat} {x1 : Int32} {x2 : Int32} {x3 : Int32} {y12 : Int64} {y14 : Int64} {y16 : Int64} {R : Nat → Nat → Nat} (hG : GI S E) (h0 : Oa S E 10 0 o0) (h1 : Rg 0 4939 x1) (h2 : Rg 0 4939 x2) (h3 : Rg 0 4939 x3) (hR : RK S R) (hP : ∀ r T x y, PV E [9989] S kc nc rV (fun v T => sg T = Z_X10_times_p273 R (sg S) o0 x1 x2 x3 y12 y14 y16) [] r T x y → P r T x y) : TT xi M_X10_times 273 [(0, .ref o0), (1, .int x1), (2, .int x2), (3, .int x3), (12, .long y12), (14, .long y14), (16, .long y16)] [] S kc nc P := by
  have hA : Af E [9989] S S := af_rf
  refine tt_lload (j := 4) dX10_times_273 rfl ?_
  refine tt_lload (j := 6) dX10_times_275 rfl ?_
  refine tt_lcmp dX10_times_277 ?_
  refine tt_if_le (tgt := 286) dX10_times_278 rfl (fun q101 => ?_) (fun q101 => ?_)
  · skip
    refine tt_lload (j := 6) dX10_times_286 rfl ?_
    refine tt_lstore (ks := [0, 1, 2, 3, 4, 5, 6]) (L' := [(16, .long y16), (0, .ref o0), (1, .int x1), (2, .int x2), (3, .int x3), (12, .long y12), (14, .long y14)]) dX10_times_288 (by decide) rfl ?_
    have hF : Z_X10_times_p273 R (sg S) o0 x1 x2 x3 y12 y14 y16 = Z_X10_times_p290 R (sg S) o0 (x1) (x2) (x3) (y14) (y16) := by
      exact zl_X10_times_p273_1 (Int64.not_lt.mpr (lc_le_t q101))
    exact tt_loc (ks := [1, 2, 3, 4, 6, 0]) rfl (cz_X10_times_p290 hG (oa_af h0 hA) (rg_w h1) (rg_w h2) (rg_w h3) hR (fun r T x y h => hP r T x y (pv_tr hA h (by decide) (fun v T e => e.trans ((congrArg (fun q9 => Z_X10_times_p290 R q9 o0 (x1) (x2) (x3) (y14) (y16)) (show sg S = (sg S) from rfl)).trans hF.symm)))))
  · skip
    refine tt_lload (j := 4) dX10_times_281 rfl ?_
    refine tt_goto (tgt := 288) dX10_times_283 rfl ?_
    refine tt_lstore (ks := [0, 1, 2, 3, 4, 5, 6]) (L' := [(16, .long y12), (0, .ref o0), (1, .int x1), (2, .int x2), (3, .int x3), (12, .long y12), (14, .long y14)]) dX10_times_288 (by decide) rfl ?_
    have hF : Z_X10_times_p273 R (sg S) o0 x1 x2 x3 y12 y14 y16 = Z_X10_times_p290 R (sg S) o0 (x1) (x2) (x3) (y14) (y12) := by
      exact zl_X10_times_p273_0 (lc_le_f q101)
    exact tt_loc (ks := [1, 2, 3, 4, 6, 0]) rfl (cz_X10_times_p290 hG (oa_af h0 hA) (rg_w h1) (rg_w h2) (rg_w h3) hR (fun r T x y h => hP r T x y (pv_tr hA h (by decide) (fun v T e => e.trans ((congrArg (fun q9 => Z_X10_times_p290 R q9 o0 (x1) (x2) (x3) (y14) (y12)) (show sg S = (sg S) from rfl)).trans hF.symm)))))
def Z_X10_times_p256 (R : Nat → Nat → Nat) (σ : SG) (o0 : Nat) (x1 : Int32) (x2 : Int32) (x3 : Int32) (y10 : Int64) (y12 : Int64) (y14 : Int64) (y16 : Int64) : SG :=
  if y16 < y10 then
    Z_X10_times_p273 R σ o0 (x1) (x2) (x3) (y12) (y14) (y10)
  else
    Z_X10_times_p273 R σ o0 (x1) (x2) (x3) (y12) (y14) (y16)
theorem zl_X10_times_p256_0 {R : Nat → Nat → Nat} {σ : SG} {o0 : Nat} {x1 : Int32} {x2 : Int32} {x3 : Int32} {y10 : Int64} {y12 : Int64} {y14 : Int64} {y16 : Int64} (h0 : y16 < y10) : Z_X10_times_p256 R σ o0 x1 x2 x3 y10 y12 y14 y16 = Z_X10_times_p273 R σ o0 (x1) (x2) (x3) (y12) (y14) (y10) := by unfold Z_X10_times_p256; exact if_pos h0
theorem zl_X10_times_p256_1 {R : Nat → Nat → Nat} {σ : SG} {o0 : Nat} {x1 : Int32} {x2 : Int32} {x3 : Int32} {y10 : Int64} {y12 : Int64} {y14 : Int64} {y16 : Int64} (h0 : ¬ y16 < y10) : Z_X10_times_p256 R σ o0 x1 x2 x3 y10 y12 y14 y16 = Z_X10_times_p273 R σ o0 (x1) (x2) (x3) (y12) (y14) (y16) := by unfold Z_X10_times_p256; exact if_neg h0
set_option maxHeartbeats 40000000 in
theorem cz_X10_times_p256 {xi : SX} {S : Hp} {E : List Nat} {kc nc : Nat} {P : Po} {o0 : Nat} {x1 : Int32} {x2 : Int32} {x3 : Int32} {y10 : Int64} {y12 : Int64} {y14 : Int64} {y16 : Int64} {R : Nat → Nat → Nat} (hG : GI S E) (h0 : Oa S E 10 0 o0) (h1 : Rg 0 4939 x1) (h2 : Rg 0 4939 x2) (h3 : Rg 0 4939 x3) (hR : RK S R) (hP : ∀ r T x y, PV E [9989] S kc nc rV (fun v T => sg T = Z_X10_times_p256 R (sg S) o0 x1 x2 x3 y10 y12 y14 y16) [] r T x y → P r T x y) : TT xi M_X10_times 256 [(0, .ref o0), (1, .int x1), (2, .int x2), (3, .int x3), (10, .long y10), (12, .long y12), (14, .long y14), (16, .long y16)] [] S kc nc P := by
  have hA : Af E [9989] S S := af_rf
  refine tt_lload (j := 4) dX10_times_256 rfl ?_
  refine tt_lload (j := 7) dX10_times_258 rfl ?_
  refine tt_lcmp dX10_times_260 ?_
  refine tt_if_le (tgt := 269) dX10_times_261 rfl (fun q101 => ?_) (fun q101 => ?_)
  · skip
    refine tt_lload (j := 7) dX10_times_269 rfl ?_
    refine tt_lstore (ks := [0, 1, 2, 3, 4, 5, 6, 7]) (L' := [(16, .long y16), (0, .ref o0), (1, .int x1), (2, .int x2), (3, .int x3), (10, .long y10), (12, .long y12), (14, .long y14)]) dX10_times_271 (by decide) rfl ?_
    have hF : Z_X10_times_p256 R (sg S) o0 x1 x2 x3 y10 y12 y14 y16 = Z_X10_times_p273 R (sg S) o0 (x1) (x2) (x3) (y12) (y14) (y16) := by
      exact zl_X10_times_p256_1 (Int64.not_lt.mpr (lc_le_t q101))
    exact tt_loc (ks := [1, 2, 3, 4, 6, 7, 0]) rfl (cz_X10_times_p273 hG (oa_af h0 hA) (rg_w h1) (rg_w h2) (rg_w h3) hR (fun r T x y h => hP r T x y (pv_tr hA h (by decide) (fun v T e => e.trans ((congrArg (fun q9 => Z_X10_times_p273 R q9 o0 (x1) (x2) (x3) (y12) (y14) (y16)) (show sg S = (sg S) from rfl)).trans hF.symm)))))
  · skip
    refine tt_lload (j := 4) dX10_times_264 rfl ?_
    refine tt_goto (tgt := 271) dX10_times_266 rfl ?_
    refine tt_lstore (ks := [0, 1, 2, 3, 4, 5, 6, 7]) (L' := [(16, .long y10), (0, .ref o0), (1, .int x1), (2, .int x2), (3, .int x3), (10, .long y10), (12, .long y12), (14, .long y14)]) dX10_times_271 (by decide) rfl ?_
    have hF : Z_X10_times_p256 R (sg S) o0 x1 x2 x3 y10 y12 y14 y16 = Z_X10_times_p273 R (sg S) o0 (x1) (x2) (x3) (y12) (y14) (y10) := by
      exact zl_X10_times_p256_0 (lc_le_f q101)
    exact tt_loc (ks := [1, 2, 3, 4, 6, 7, 0]) rfl (cz_X10_times_p273 hG (oa_af h0 hA) (rg_w h1) (rg_w h2) (rg_w h3) hR (fun r T x y h => hP r T x y (pv_tr hA h (by decide) (fun v T e => e.trans ((congrArg (fun q9 => Z_X10_times_p273 R q9 o0 (x1) (x2) (x3) (y12) (y14) (y10)) (show sg S = (sg S) from rfl)).trans hF.symm)))))
def Z_X10_times_p239 (R : Nat → Nat → Nat) (σ : SG) (o0 : Nat) (x1 : Int32) (x2 : Int32) (x3 : Int32) (y6 : Int64) (y8 : Int64) (y10 : Int64) (y12 : Int64) (y14 : Int64) : SG :=
  if y8 < y6 then
    Z_X10_times_p256 R σ o0 (x1) (x2) (x3) (y10) (y12) (y14) (y6)
  else
    Z_X10_times_p256 R σ o0 (x1) (x2) (x3) (y10) (y12) (y14) (y8)
theorem zl_X10_times_p239_0 {R : Nat → Nat → Nat} {σ : SG} {o0 : Nat} {x1 : Int32} {x2 : Int32} {x3 : Int32} {y6 : Int64} {y8 : Int64} {y10 : Int64} {y12 : Int64} {y14 : Int64} (h0 : y8 < y6) : Z_X10_times_p239 R σ o0 x1 x2 x3 y6 y8 y10 y12 y14 = Z_X10_times_p256 R σ o0 (x1) (x2) (x3) (y10) (y12) (y14) (y6) := by unfold Z_X10_times_p239; exact if_pos h0
theorem zl_X10_times_p239_1 {R : Nat → Nat → Nat} {σ : SG} {o0 : Nat} {x1 : Int32} {x2 : Int32} {x3 : Int32} {y6 : Int64} {y8 : Int64} {y10 : Int64} {y12 : Int64} {y14 : Int64} (h0 : ¬ y8 < y6) : Z_X10_times_p239 R σ o0 x1 x2 x3 y6 y8 y10 y12 y14 = Z_X10_times_p256 R σ o0 (x1) (x2) (x3) (y10) (y12) (y14) (y8) := by unfold Z_X10_times_p239; exact if_neg h0
set_option maxHeartbeats 40000000 in
theorem cz_X10_times_p239 {xi : SX} {S : Hp} {E : List Nat} {kc nc : Nat} {P : Po} {o0 : Nat} {x1 : Int32} {x2 : Int32} {x3 : Int32} {y6 : Int64} {y8 : Int64} {y10 : Int64} {y12 : Int64} {y14 : Int64} {R : Nat → Nat → Nat} (hG : GI S E) (h0 : Oa S E 10 0 o0) (h1 : Rg 0 4939 x1) (h2 : Rg 0 4939 x2) (h3 : Rg 0 4939 x3) (hR : RK S R) (hP : ∀ r T x y, PV E [9989] S kc nc rV (fun v T => sg T = Z_X10_times_p239 R (sg S) o0 x1 x2 x3 y6 y8 y10 y12 y14) [] r T x y → P r T x y) : TT xi M_X10_times 239 [(0, .ref o0), (1, .int x1), (2, .int x2), (3, .int x3), (6, .long y6), (8, .long y8), (10, .long y10), (12, .long y12), (14, .long y14)] [] S kc nc P := by
  have hA : Af E [9989] S S := af_rf
  refine tt_lload (j := 4) dX10_times_239 rfl ?_
  refine tt_lload (j := 5) dX10_times_241 rfl ?_
  refine tt_lcmp dX10_times_243 ?_
  refine tt_if_le (tgt := 252) dX10_times_244 rfl (fun q101 => ?_) (fun q101 => ?_)
  · skip
    refine tt_lload (j := 5) dX10_times_252 rfl ?_
    refine tt_lstore (ks := [0, 1, 2, 3, 4, 5, 6, 7, 8, 9]) (L' := [(16, .long y8), (0, .ref o0), (1, .int x1), (2, .int x2), (3, .int x3), (6, .long y6), (8, .long y8), (10, .long y10), (12, .long y12), (14, .long y14)]) dX10_times_254 (by decide) rfl ?_
    have hF : Z_X10_times_p239 R (sg S) o0 x1 x2 x3 y6 y8 y10 y12 y14 = Z_X10_times_p256 R (sg S) o0 (x1) (x2) (x3) (y10) (y12) (y14) (y8) := by
      exact zl_X10_times_p239_1 (Int64.not_lt.mpr (lc_le_t q101))
    exact tt_loc (ks := [1, 2, 3, 4, 7, 8, 9, 0]) rfl (cz_X10_times_p256 hG (oa_af h0 hA) (rg_w h1) (rg_w h2) (rg_w h3) hR (fun r T x y h => hP r T x y (pv_tr hA h (by decide) (fun v T e => e.trans ((congrArg (fun q9 => Z_X10_times_p256 R q9 o0 (x1) (x2) (x3) (y10) (y12) (y14) (y8)) (show sg S = (sg S) from rfl)).trans hF.symm)))))
  · skip
    refine tt_lload (j := 4) dX10_times_247 rfl ?_
    refine tt_goto (tgt := 254) dX10_times_249 rfl ?_
    refine tt_lstore (ks := [0, 1, 2, 3, 4, 5, 6, 7, 8, 9]) (L' := [(16, .long y6), (0, .ref o0), (1, .int x1), (2, .int x2), (3, .int x3), (6, .long y6), (8, .long y8), (10, .long y10), (12, .long y12), (14, .long y14)]) dX10_times_254 (by decide) rfl ?_
    have hF : Z_X10_times_p239 R (sg S) o0 x1 x2 x3 y6 y8 y10 y12 y14 = Z_X10_times_p256 R (sg S) o0 (x1) (x2) (x3) (y10) (y12) (y14) (y6) := by
      exact zl_X10_times_p239_0 (lc_le_f q101)
    exact tt_loc (ks := [1, 2, 3, 4, 7, 8, 9, 0]) rfl (cz_X10_times_p256 hG (oa_af h0 hA) (rg_w h1) (rg_w h2) (rg_w h3) hR (fun r T x y h => hP r T x y (pv_tr hA h (by decide) (fun v T e => e.trans ((congrArg (fun q9 => Z_X10_times_p256 R q9 o0 (x1) (x2) (x3) (y10) (y12) (y14) (y6)) (show sg S = (sg S) from rfl)).trans hF.symm)))))
def Z_X10_times_p222 (R : Nat → Nat → Nat) (σ : SG) (o0 : Nat) (x1 : Int32) (x2 : Int32) (x3 : Int32) (y6 : Int64) (y8 : Int64) (y10 : Int64) (y12 : Int64) (y14 : Int64) : SG :=
  if y12 < y14 then
    Z_X10_times_p239 R σ o0 (x1) (x2) (x3) (y6) (y8) (y10) (y12) (y12)
  else
    Z_X10_times_p239 R σ o0 (x1) (x2) (x3) (y6) (y8) (y10) (y12) (y14)
theorem zl_X10_times_p222_0 {R : Nat → Nat → Nat} {σ : SG} {o0 : Nat} {x1 : Int32} {x2 : Int32} {x3 : Int32} {y6 : Int64} {y8 : Int64} {y10 : Int64} {y12 : Int64} {y14 : Int64} (h0 : y12 < y14) : Z_X10_times_p222 R σ o0 x1 x2 x3 y6 y8 y10 y12 y14 = Z_X10_times_p239 R σ o0 (x1) (x2) (x3) (y6) (y8) (y10) (y12) (y12) := by unfold Z_X10_times_p222; exact if_pos h0
theorem zl_X10_times_p222_1 {R : Nat → Nat → Nat} {σ : SG} {o0 : Nat} {x1 : Int32} {x2 : Int32} {x3 : Int32} {y6 : Int64} {y8 : Int64} {y10 : Int64} {y12 : Int64} {y14 : Int64} (h0 : ¬ y12 < y14) : Z_X10_times_p222 R σ o0 x1 x2 x3 y6 y8 y10 y12 y14 = Z_X10_times_p239 R σ o0 (x1) (x2) (x3) (y6) (y8) (y10) (y12) (y14) := by unfold Z_X10_times_p222; exact if_neg h0
set_option maxHeartbeats 40000000 in
theorem cz_X10_times_p222 {xi : SX} {S : Hp} {E : List Nat} {kc nc : Nat} {P : Po} {o0 : Nat} {x1 : Int32} {x2 : Int32} {x3 : Int32} {y6 : Int64} {y8 : Int64} {y10 : Int64} {y12 : Int64} {y14 : Int64} {R : Nat → Nat → Nat} (hG : GI S E) (h0 : Oa S E 10 0 o0) (h1 : Rg 0 4939 x1) (h2 : Rg 0 4939 x2) (h3 : Rg 0 4939 x3) (hR : RK S R) (hP : ∀ r T x y, PV E [9989] S kc nc rV (fun v T => sg T = Z_X10_times_p222 R (sg S) o0 x1 x2 x3 y6 y8 y10 y12 y14) [] r T x y → P r T x y) : TT xi M_X10_times 222 [(0, .ref o0), (1, .int x1), (2, .int x2), (3, .int x3), (6, .long y6), (8, .long y8), (10, .long y10), (12, .long y12), (14, .long y14)] [] S kc nc P := by
  have hA : Af E [9989] S S := af_rf
  refine tt_lload (j := 7) dX10_times_222 rfl ?_
  refine tt_lload (j := 8) dX10_times_224 rfl ?_
  refine tt_lcmp dX10_times_226 ?_
  refine tt_if_ge (tgt := 235) dX10_times_227 rfl (fun q101 => ?_) (fun q101 => ?_)
  · skip
    refine tt_lload (j := 8) dX10_times_235 rfl ?_
    refine tt_lstore (ks := [0, 1, 2, 3, 4, 5, 6, 7, 8]) (L' := [(14, .long y14), (0, .ref o0), (1, .int x1), (2, .int x2), (3, .int x3), (6, .long y6), (8, .long y8), (10, .long y10), (12, .long y12)]) dX10_times_237 (by decide) rfl ?_
    have hF : Z_X10_times_p222 R (sg S) o0 x1 x2 x3 y6 y8 y10 y12 y14 = Z_X10_times_p239 R (sg S) o0 (x1) (x2) (x3) (y6) (y8) (y10) (y12) (y14) := by
      exact zl_X10_times_p222_1 (Int64.not_lt.mpr (lc_ge_t q101))
    exact tt_loc (ks := [1, 2, 3, 4, 5, 6, 7, 8, 0]) rfl (cz_X10_times_p239 hG (oa_af h0 hA) (rg_w h1) (rg_w h2) (rg_w h3) hR (fun r T x y h => hP r T x y (pv_tr hA h (by decide) (fun v T e => e.trans ((congrArg (fun q9 => Z_X10_times_p239 R q9 o0 (x1) (x2) (x3) (y6) (y8) (y10) (y12) (y14)) (show sg S = (sg S) from rfl)).trans hF.symm)))))
  · skip
    refine tt_lload (j := 7) dX10_times_230 rfl ?_
    refine tt_goto (tgt := 237) dX10_times_232 rfl ?_
    refine tt_lstore (ks := [0, 1, 2, 3, 4, 5, 6, 7, 8]) (L' := [(14, .long y12), (0, .ref o0), (1, .int x1), (2, .int x2), (3, .int x3), (6, .long y6), (8, .long y8), (10, .long y10), (12, .long y12)]) dX10_times_237 (by decide) rfl ?_
    have hF : Z_X10_times_p222 R (sg S) o0 x1 x2 x3 y6 y8 y10 y12 y14 = Z_X10_times_p239 R (sg S) o0 (x1) (x2) (x3) (y6) (y8) (y10) (y12) (y12) := by
      exact zl_X10_times_p222_0 (lc_ge_f q101)
    exact tt_loc (ks := [1, 2, 3, 4, 5, 6, 7, 8, 0]) rfl (cz_X10_times_p239 hG (oa_af h0 hA) (rg_w h1) (rg_w h2) (rg_w h3) hR (fun r T x y h => hP r T x y (pv_tr hA h (by decide) (fun v T e => e.trans ((congrArg (fun q9 => Z_X10_times_p239 R q9 o0 (x1) (x2) (x3) (y6) (y8) (y10) (y12) (y12)) (show sg S = (sg S) from rfl)).trans hF.symm)))))
def Z_X10_times_p205 (R : Nat → Nat → Nat) (σ : SG) (o0 : Nat) (x1 : Int32) (x2 : Int32) (x3 : Int32) (y6 : Int64) (y8 : Int64) (y10 : Int64) (y12 : Int64) (y14 : Int64) : SG :=
  if y10 < y14 then
    Z_X10_times_p222 R σ o0 (x1) (x2) (x3) (y6) (y8) (y10) (y12) (y10)
  else
    Z_X10_times_p222 R σ o0 (x1) (x2) (x3) (y6) (y8) (y10) (y12) (y14)
theorem zl_X10_times_p205_0 {R : Nat → Nat → Nat} {σ : SG} {o0 : Nat} {x1 : Int32} {x2 : Int32} {x3 : Int32} {y6 : Int64} {y8 : Int64} {y10 : Int64} {y12 : Int64} {y14 : Int64} (h0 : y10 < y14) : Z_X10_times_p205 R σ o0 x1 x2 x3 y6 y8 y10 y12 y14 = Z_X10_times_p222 R σ o0 (x1) (x2) (x3) (y6) (y8) (y10) (y12) (y10) := by unfold Z_X10_times_p205; exact if_pos h0
theorem zl_X10_times_p205_1 {R : Nat → Nat → Nat} {σ : SG} {o0 : Nat} {x1 : Int32} {x2 : Int32} {x3 : Int32} {y6 : Int64} {y8 : Int64} {y10 : Int64} {y12 : Int64} {y14 : Int64} (h0 : ¬ y10 < y14) : Z_X10_times_p205 R σ o0 x1 x2 x3 y6 y8 y10 y12 y14 = Z_X10_times_p222 R σ o0 (x1) (x2) (x3) (y6) (y8) (y10) (y12) (y14) := by unfold Z_X10_times_p205; exact if_neg h0
set_option maxHeartbeats 40000000 in
theorem cz_X10_times_p205 {xi : SX} {S : Hp} {E : List Nat} {kc nc : Nat} {P : Po} {o0 : Nat} {x1 : Int32} {x2 : Int32} {x3 : Int32} {y6 : Int64} {y8 : Int64} {y10 : Int64} {y12 : Int64} {y14 : Int64} {R : Nat → Nat → Nat} (hG : GI S E) (h0 : Oa S E 10 0 o0) (h1 : Rg 0 4939 x1) (h2 : Rg 0 4939 x2) (h3 : Rg 0 4939 x3) (hR : RK S R) (hP : ∀ r T x y, PV E [9989] S kc nc rV (fun v T => sg T = Z_X10_times_p205 R (sg S) o0 x1 x2 x3 y6 y8 y10 y12 y14) [] r T x y → P r T x y) : TT xi M_X10_times 205 [(0, .ref o0), (1, .int x1), (2, .int x2), (3, .int x3), (6, .long y6), (8, .long y8), (10, .long y10), (12, .long y12), (14, .long y14)] [] S kc nc P := by
  have hA : Af E [9989] S S := af_rf
  refine tt_lload (j := 6) dX10_times_205 rfl ?_
  refine tt_lload (j := 8) dX10_times_207 rfl ?_
  refine tt_lcmp dX10_times_209 ?_
  refine tt_if_ge (tgt := 218) dX10_times_210 rfl (fun q101 => ?_) (fun q101 => ?_)
  · skip
    refine tt_lload (j := 8) dX10_times_218 rfl ?_
    refine tt_lstore (ks := [0, 1, 2, 3, 4, 5, 6, 7, 8]) (L' := [(14, .long y14), (0, .ref o0), (1, .int x1), (2, .int x2), (3, .int x3), (6, .long y6), (8, .long y8), (10, .long y10), (12, .long y12)]) dX10_times_220 (by decide) rfl ?_
    have hF : Z_X10_times_p205 R (sg S) o0 x1 x2 x3 y6 y8 y10 y12 y14 = Z_X10_times_p222 R (sg S) o0 (x1) (x2) (x3) (y6) (y8) (y10) (y12) (y14) := by
      exact zl_X10_times_p205_1 (Int64.not_lt.mpr (lc_ge_t q101))
    exact tt_loc (ks := [1, 2, 3, 4, 5, 6, 7, 8, 0]) rfl (cz_X10_times_p222 hG (oa_af h0 hA) (rg_w h1) (rg_w h2) (rg_w h3) hR (fun r T x y h => hP r T x y (pv_tr hA h (by decide) (fun v T e => e.trans ((congrArg (fun q9 => Z_X10_times_p222 R q9 o0 (x1) (x2) (x3) (y6) (y8) (y10) (y12) (y14)) (show sg S = (sg S) from rfl)).trans hF.symm)))))
  · skip
    refine tt_lload (j := 6) dX10_times_213 rfl ?_
    refine tt_goto (tgt := 220) dX10_times_215 rfl ?_
    refine tt_lstore (ks := [0, 1, 2, 3, 4, 5, 6, 7, 8]) (L' := [(14, .long y10), (0, .ref o0), (1, .int x1), (2, .int x2), (3, .int x3), (6, .long y6), (8, .long y8), (10, .long y10), (12, .long y12)]) dX10_times_220 (by decide) rfl ?_
    have hF : Z_X10_times_p205 R (sg S) o0 x1 x2 x3 y6 y8 y10 y12 y14 = Z_X10_times_p222 R (sg S) o0 (x1) (x2) (x3) (y6) (y8) (y10) (y12) (y10) := by
      exact zl_X10_times_p205_0 (lc_ge_f q101)
    exact tt_loc (ks := [1, 2, 3, 4, 5, 6, 7, 8, 0]) rfl (cz_X10_times_p222 hG (oa_af h0 hA) (rg_w h1) (rg_w h2) (rg_w h3) hR (fun r T x y h => hP r T x y (pv_tr hA h (by decide) (fun v T e => e.trans ((congrArg (fun q9 => Z_X10_times_p222 R q9 o0 (x1) (x2) (x3) (y6) (y8) (y10) (y12) (y10)) (show sg S = (sg S) from rfl)).trans hF.symm)))))
def Z_X10_times_p128 (R : Nat → Nat → Nat) (σ : SG) (o0 : Nat) (x1 : Int32) (x2 : Int32) (x3 : Int32) : SG :=
  if ((mj σ (R 644 o0) (x2 : Int32).toNatClampNeg) * (mj σ (R 644 o0) (x3 : Int32).toNatClampNeg)) < ((mj σ (R 644 o0) (x2 : Int32).toNatClampNeg) * (mj σ (R 645 o0) (x3 : Int32).toNatClampNeg)) then
    Z_X10_times_p205 R σ o0 (x1) (x2) (x3) (((mj σ (R 644 o0) (x2 : Int32).toNatClampNeg) * (mj σ (R 644 o0) (x3 : Int32).toNatClampNeg))) (((mj σ (R 644 o0) (x2 : Int32).toNatClampNeg) * (mj σ (R 645 o0) (x3 : Int32).toNatClampNeg))) (((mj σ (R 645 o0) (x2 : Int32).toNatClampNeg) * (mj σ (R 644 o0) (x3 : Int32).toNatClampNeg))) (((mj σ (R 645 o0) (x2 : Int32).toNatClampNeg) * (mj σ (R 645 o0) (x3 : Int32).toNatClampNeg))) (((mj σ (R 644 o0) (x2 : Int32).toNatClampNeg) * (mj σ (R 644 o0) (x3 : Int32).toNatClampNeg)))
  else
    Z_X10_times_p205 R σ o0 (x1) (x2) (x3) (((mj σ (R 644 o0) (x2 : Int32).toNatClampNeg) * (mj σ (R 644 o0) (x3 : Int32).toNatClampNeg))) (((mj σ (R 644 o0) (x2 : Int32).toNatClampNeg) * (mj σ (R 645 o0) (x3 : Int32).toNatClampNeg))) (((mj σ (R 645 o0) (x2 : Int32).toNatClampNeg) * (mj σ (R 644 o0) (x3 : Int32).toNatClampNeg))) (((mj σ (R 645 o0) (x2 : Int32).toNatClampNeg) * (mj σ (R 645 o0) (x3 : Int32).toNatClampNeg))) (((mj σ (R 644 o0) (x2 : Int32).toNatClampNeg) * (mj σ (R 645 o0) (x3 : Int32).toNatClampNeg)))
theorem zl_X10_times_p128_0 {R : Nat → Nat → Nat} {σ : SG} {o0 : Nat} {x1 : Int32} {x2 : Int32} {x3 : Int32} (h0 : ((mj σ (R 644 o0) (x2 : Int32).toNatClampNeg) * (mj σ (R 644 o0) (x3 : Int32).toNatClampNeg)) < ((mj σ (R 644 o0) (x2 : Int32).toNatClampNeg) * (mj σ (R 645 o0) (x3 : Int32).toNatClampNeg))) : Z_X10_times_p128 R σ o0 x1 x2 x3 = Z_X10_times_p205 R σ o0 (x1) (x2) (x3) (((mj σ (R 644 o0) (x2 : Int32).toNatClampNeg) * (mj σ (R 644 o0) (x3 : Int32).toNatClampNeg))) (((mj σ (R 644 o0) (x2 : Int32).toNatClampNeg) * (mj σ (R 645 o0) (x3 : Int32).toNatClampNeg))) (((mj σ (R 645 o0) (x2 : Int32).toNatClampNeg) * (mj σ (R 644 o0) (x3 : Int32).toNatClampNeg))) (((mj σ (R 645 o0) (x2 : Int32).toNatClampNeg) * (mj σ (R 645 o0) (x3 : Int32).toNatClampNeg))) (((mj σ (R 644 o0) (x2 : Int32).toNatClampNeg) * (mj σ (R 644 o0) (x3 : Int32).toNatClampNeg))) := by unfold Z_X10_times_p128; exact if_pos h0
theorem zl_X10_times_p128_1 {R : Nat → Nat → Nat} {σ : SG} {o0 : Nat} {x1 : Int32} {x2 : Int32} {x3 : Int32} (h0 : ¬ ((mj σ (R 644 o0) (x2 : Int32).toNatClampNeg) * (mj σ (R 644 o0) (x3 : Int32).toNatClampNeg)) < ((mj σ (R 644 o0) (x2 : Int32).toNatClampNeg) * (mj σ (R 645 o0) (x3 : Int32).toNatClampNeg))) : Z_X10_times_p128 R σ o0 x1 x2 x3 = Z_X10_times_p205 R σ o0 (x1) (x2) (x3) (((mj σ (R 644 o0) (x2 : Int32).toNatClampNeg) * (mj σ (R 644 o0) (x3 : Int32).toNatClampNeg))) (((mj σ (R 644 o0) (x2 : Int32).toNatClampNeg) * (mj σ (R 645 o0) (x3 : Int32).toNatClampNeg))) (((mj σ (R 645 o0) (x2 : Int32).toNatClampNeg) * (mj σ (R 644 o0) (x3 : Int32).toNatClampNeg))) (((mj σ (R 645 o0) (x2 : Int32).toNatClampNeg) * (mj σ (R 645 o0) (x3 : Int32).toNatClampNeg))) (((mj σ (R 644 o0) (x2 : Int32).toNatClampNeg) * (mj σ (R 645 o0) (x3 : Int32).toNatClampNeg))) := by unfold Z_X10_times_p128; exact if_neg h0
set_option maxHeartbeats 40000000 in
theorem cz_X10_times_p128 {xi : SX} {S : Hp} {E : List Nat} {kc nc : Nat} {P : Po} {o0 : Nat} {x1 : Int32} {x2 : Int32} {x3 : Int32} {R : Nat → Nat → Nat} (hG : GI S E) (h0 : Oa S E 10 0 o0) (h1 : Rg 0 4939 x1) (h2 : Rg 0 4939 x2) (h3 : Rg 0 4939 x3) (hR : RK S R) (hP : ∀ r T x y, PV E [9989] S kc nc rV (fun v T => sg T = Z_X10_times_p128 R (sg S) o0 x1 x2 x3) [] r T x y → P r T x y) : TT xi M_X10_times 128 [(0, .ref o0), (1, .int x1), (2, .int x2), (3, .int x3)] [] S kc nc P := by
  have hA : Af E [9989] S S := af_rf
  refine tt_aload_n (j := 0) dX10_times_128 rfl ?_
  have hr101 := rk_R (k := 644) hR h0 33 4940
  have ho102 := rk_O (k := 644) hG hR h0 33 4940
  refine gt_gR (id := 644) dX10_times_129 fl_10_16 rfl rfl h0 hA hr101 ?_
  refine tt_iload_n (j := 2) dX10_times_132 rfl ?_
  refine gt_lLv (v := (mj (sg S) (R 644 o0) (x2 : Int32).toNatClampNeg)) dX10_times_133 ho102 hA (rg_in h2) (sg_j (a := (R 644 o0)) (i := (x2 : Int32).toNatClampNeg) (show sg S = (sg S) from rfl)) ?_
  refine tt_aload_n (j := 0) dX10_times_134 rfl ?_
  refine gt_gR (id := 644) dX10_times_135 fl_10_16 rfl rfl h0 hA hr101 ?_
  refine tt_iload_n (j := 3) dX10_times_138 rfl ?_
  refine gt_lLv (v := (mj (sg S) (R 644 o0) (x3 : Int32).toNatClampNeg)) dX10_times_139 ho102 hA (rg_in h3) (sg_j (a := (R 644 o0)) (i := (x3 : Int32).toNatClampNeg) (show sg S = (sg S) from rfl)) ?_
  refine tt_lmul dX10_times_140 ?_
  refine tt_lstore (ks := [0, 1, 2, 3, 4]) (L' := [(6, .long ((mj (sg S) (R 644 o0) (x2 : Int32).toNatClampNeg) * (mj (sg S) (R 644 o0) (x3 : Int32).toNatClampNeg))), (0, .ref o0), (1, .int x1), (2, .int x2), (3, .int x3)]) dX10_times_141 (by decide) rfl ?_
  refine tt_aload_n (j := 1) dX10_times_143 rfl ?_
  refine gt_gR (id := 644) dX10_times_144 fl_10_16 rfl rfl h0 hA hr101 ?_
  refine tt_iload_n (j := 3) dX10_times_147 rfl ?_
  refine gt_lLv (v := (mj (sg S) (R 644 o0) (x2 : Int32).toNatClampNeg)) dX10_times_148 ho102 hA (rg_in h2) (sg_j (a := (R 644 o0)) (i := (x2 : Int32).toNatClampNeg) (show sg S = (sg S) from rfl)) ?_
  refine tt_aload_n (j := 1) dX10_times_149 rfl ?_
  have hr103 := rk_R (k := 645) hR h0 33 4940
  have ho104 := rk_O (k := 645) hG hR h0 33 4940
  refine gt_gR (id := 645) dX10_times_150 fl_10_20 rfl rfl h0 hA hr103 ?_
  refine tt_iload_n (j := 4) dX10_times_153 rfl ?_
  refine gt_lLv (v := (mj (sg S) (R 645 o0) (x3 : Int32).toNatClampNeg)) dX10_times_154 ho104 hA (rg_in h3) (sg_j (a := (R 645 o0)) (i := (x3 : Int32).toNatClampNeg) (show sg S = (sg S) from rfl)) ?_
  refine tt_lmul dX10_times_155 ?_
  refine tt_lstore (ks := [0, 1, 2, 3, 4, 5]) (L' := [(8, .long ((mj (sg S) (R 644 o0) (x2 : Int32).toNatClampNeg) * (mj (sg S) (R 645 o0) (x3 : Int32).toNatClampNeg))), (6, .long ((mj (sg S) (R 644 o0) (x2 : Int32).toNatClampNeg) * (mj (sg S) (R 644 o0) (x3 : Int32).toNatClampNeg))), (0, .ref o0), (1, .int x1), (2, .int x2), (3, .int x3)]) dX10_times_156 (by decide) rfl ?_
  refine tt_aload_n (j := 2) dX10_times_158 rfl ?_
  refine gt_gR (id := 645) dX10_times_159 fl_10_20 rfl rfl h0 hA hr103 ?_
  refine tt_iload_n (j := 4) dX10_times_162 rfl ?_
  refine gt_lLv (v := (mj (sg S) (R 645 o0) (x2 : Int32).toNatClampNeg)) dX10_times_163 ho104 hA (rg_in h2) (sg_j (a := (R 645 o0)) (i := (x2 : Int32).toNatClampNeg) (show sg S = (sg S) from rfl)) ?_
  refine tt_aload_n (j := 2) dX10_times_164 rfl ?_
  refine gt_gR (id := 644) dX10_times_165 fl_10_16 rfl rfl h0 hA hr101 ?_
  refine tt_iload_n (j := 5) dX10_times_168 rfl ?_
  refine gt_lLv (v := (mj (sg S) (R 644 o0) (x3 : Int32).toNatClampNeg)) dX10_times_169 ho102 hA (rg_in h3) (sg_j (a := (R 644 o0)) (i := (x3 : Int32).toNatClampNeg) (show sg S = (sg S) from rfl)) ?_
  refine tt_lmul dX10_times_170 ?_
  refine tt_lstore (ks := [0, 1, 2, 3, 4, 5, 6]) (L' := [(10, .long ((mj (sg S) (R 645 o0) (x2 : Int32).toNatClampNeg) * (mj (sg S) (R 644 o0) (x3 : Int32).toNatClampNeg))), (8, .long ((mj (sg S) (R 644 o0) (x2 : Int32).toNatClampNeg) * (mj (sg S) (R 645 o0) (x3 : Int32).toNatClampNeg))), (6, .long ((mj (sg S) (R 644 o0) (x2 : Int32).toNatClampNeg) * (mj (sg S) (R 644 o0) (x3 : Int32).toNatClampNeg))), (0, .ref o0), (1, .int x1), (2, .int x2), (3, .int x3)]) dX10_times_171 (by decide) rfl ?_
  refine tt_aload_n (j := 3) dX10_times_173 rfl ?_
  refine gt_gR (id := 645) dX10_times_174 fl_10_20 rfl rfl h0 hA hr103 ?_
  refine tt_iload_n (j := 5) dX10_times_177 rfl ?_
  refine gt_lLv (v := (mj (sg S) (R 645 o0) (x2 : Int32).toNatClampNeg)) dX10_times_178 ho104 hA (rg_in h2) (sg_j (a := (R 645 o0)) (i := (x2 : Int32).toNatClampNeg) (show sg S = (sg S) from rfl)) ?_
  refine tt_aload_n (j := 3) dX10_times_179 rfl ?_
  refine gt_gR (id := 645) dX10_times_180 fl_10_20 rfl rfl h0 hA hr103 ?_
  refine tt_iload_n (j := 6) dX10_times_183 rfl ?_
  refine gt_lLv (v := (mj (sg S) (R 645 o0) (x3 : Int32).toNatClampNeg)) dX10_times_184 ho104 hA (rg_in h3) (sg_j (a := (R 645 o0)) (i := (x3 : Int32).toNatClampNeg) (show sg S = (sg S) from rfl)) ?_
  refine tt_lmul dX10_times_185 ?_
  refine tt_lstore (ks := [0, 1, 2, 3, 4, 5, 6, 7]) (L' := [(12, .long ((mj (sg S) (R 645 o0) (x2 : Int32).toNatClampNeg) * (mj (sg S) (R 645 o0) (x3 : Int32).toNatClampNeg))), (10, .long ((mj (sg S) (R 645 o0) (x2 : Int32).toNatClampNeg) * (mj (sg S) (R 644 o0) (x3 : Int32).toNatClampNeg))), (8, .long ((mj (sg S) (R 644 o0) (x2 : Int32).toNatClampNeg) * (mj (sg S) (R 645 o0) (x3 : Int32).toNatClampNeg))), (6, .long ((mj (sg S) (R 644 o0) (x2 : Int32).toNatClampNeg) * (mj (sg S) (R 644 o0) (x3 : Int32).toNatClampNeg))), (0, .ref o0), (1, .int x1), (2, .int x2), (3, .int x3)]) dX10_times_186 (by decide) rfl ?_
  refine tt_lload (j := 3) dX10_times_188 rfl ?_
  refine tt_lload (j := 2) dX10_times_190 rfl ?_
  refine tt_lcmp dX10_times_192 ?_
  refine tt_if_ge (tgt := 201) dX10_times_193 rfl (fun q105 => ?_) (fun q105 => ?_)
  · skip
    refine tt_lload (j := 2) dX10_times_201 rfl ?_
    refine tt_lstore (ks := [0, 1, 2, 3, 4, 5, 6, 7, 8]) (L' := [(14, .long ((mj (sg S) (R 644 o0) (x2 : Int32).toNatClampNeg) * (mj (sg S) (R 645 o0) (x3 : Int32).toNatClampNeg))), (12, .long ((mj (sg S) (R 645 o0) (x2 : Int32).toNatClampNeg) * (mj (sg S) (R 645 o0) (x3 : Int32).toNatClampNeg))), (10, .long ((mj (sg S) (R 645 o0) (x2 : Int32).toNatClampNeg) * (mj (sg S) (R 644 o0) (x3 : Int32).toNatClampNeg))), (8, .long ((mj (sg S) (R 644 o0) (x2 : Int32).toNatClampNeg) * (mj (sg S) (R 645 o0) (x3 : Int32).toNatClampNeg))), (6, .long ((mj (sg S) (R 644 o0) (x2 : Int32).toNatClampNeg) * (mj (sg S) (R 644 o0) (x3 : Int32).toNatClampNeg))), (0, .ref o0), (1, .int x1), (2, .int x2), (3, .int x3)]) dX10_times_203 (by decide) rfl ?_
    have hF : Z_X10_times_p128 R (sg S) o0 x1 x2 x3 = Z_X10_times_p205 R (sg S) o0 (x1) (x2) (x3) (((mj (sg S) (R 644 o0) (x2 : Int32).toNatClampNeg) * (mj (sg S) (R 644 o0) (x3 : Int32).toNatClampNeg))) (((mj (sg S) (R 644 o0) (x2 : Int32).toNatClampNeg) * (mj (sg S) (R 645 o0) (x3 : Int32).toNatClampNeg))) (((mj (sg S) (R 645 o0) (x2 : Int32).toNatClampNeg) * (mj (sg S) (R 644 o0) (x3 : Int32).toNatClampNeg))) (((mj (sg S) (R 645 o0) (x2 : Int32).toNatClampNeg) * (mj (sg S) (R 645 o0) (x3 : Int32).toNatClampNeg))) (((mj (sg S) (R 644 o0) (x2 : Int32).toNatClampNeg) * (mj (sg S) (R 645 o0) (x3 : Int32).toNatClampNeg))) := by
      exact zl_X10_times_p128_1 (Int64.not_lt.mpr (lc_ge_t q105))
    exact tt_loc (ks := [5, 6, 7, 8, 4, 3, 2, 1, 0]) rfl (cz_X10_times_p205 hG (oa_af h0 hA) (rg_w h1) (rg_w h2) (rg_w h3) hR (fun r T x y h => hP r T x y (pv_tr hA h (by decide) (fun v T e => e.trans ((congrArg (fun q9 => Z_X10_times_p205 R q9 o0 (x1) (x2) (x3) (((mj (sg S) (R 644 o0) (x2 : Int32).toNatClampNeg) * (mj (sg S) (R 644 o0) (x3 : Int32).toNatClampNeg))) (((mj (sg S) (R 644 o0) (x2 : Int32).toNatClampNeg) * (mj (sg S) (R 645 o0) (x3 : Int32).toNatClampNeg))) (((mj (sg S) (R 645 o0) (x2 : Int32).toNatClampNeg) * (mj (sg S) (R 644 o0) (x3 : Int32).toNatClampNeg))) (((mj (sg S) (R 645 o0) (x2 : Int32).toNatClampNeg) * (mj (sg S) (R 645 o0) (x3 : Int32).toNatClampNeg))) (((mj (sg S) (R 644 o0) (x2 : Int32).toNatClampNeg) * (mj (sg S) (R 645 o0) (x3 : Int32).toNatClampNeg)))) (show sg S = (sg S) from rfl)).trans hF.symm)))))
  · skip
    refine tt_lload (j := 3) dX10_times_196 rfl ?_
    refine tt_goto (tgt := 203) dX10_times_198 rfl ?_
    refine tt_lstore (ks := [0, 1, 2, 3, 4, 5, 6, 7, 8]) (L' := [(14, .long ((mj (sg S) (R 644 o0) (x2 : Int32).toNatClampNeg) * (mj (sg S) (R 644 o0) (x3 : Int32).toNatClampNeg))), (12, .long ((mj (sg S) (R 645 o0) (x2 : Int32).toNatClampNeg) * (mj (sg S) (R 645 o0) (x3 : Int32).toNatClampNeg))), (10, .long ((mj (sg S) (R 645 o0) (x2 : Int32).toNatClampNeg) * (mj (sg S) (R 644 o0) (x3 : Int32).toNatClampNeg))), (8, .long ((mj (sg S) (R 644 o0) (x2 : Int32).toNatClampNeg) * (mj (sg S) (R 645 o0) (x3 : Int32).toNatClampNeg))), (6, .long ((mj (sg S) (R 644 o0) (x2 : Int32).toNatClampNeg) * (mj (sg S) (R 644 o0) (x3 : Int32).toNatClampNeg))), (0, .ref o0), (1, .int x1), (2, .int x2), (3, .int x3)]) dX10_times_203 (by decide) rfl ?_
    have hF : Z_X10_times_p128 R (sg S) o0 x1 x2 x3 = Z_X10_times_p205 R (sg S) o0 (x1) (x2) (x3) (((mj (sg S) (R 644 o0) (x2 : Int32).toNatClampNeg) * (mj (sg S) (R 644 o0) (x3 : Int32).toNatClampNeg))) (((mj (sg S) (R 644 o0) (x2 : Int32).toNatClampNeg) * (mj (sg S) (R 645 o0) (x3 : Int32).toNatClampNeg))) (((mj (sg S) (R 645 o0) (x2 : Int32).toNatClampNeg) * (mj (sg S) (R 644 o0) (x3 : Int32).toNatClampNeg))) (((mj (sg S) (R 645 o0) (x2 : Int32).toNatClampNeg) * (mj (sg S) (R 645 o0) (x3 : Int32).toNatClampNeg))) (((mj (sg S) (R 644 o0) (x2 : Int32).toNatClampNeg) * (mj (sg S) (R 644 o0) (x3 : Int32).toNatClampNeg))) := by
      exact zl_X10_times_p128_0 (lc_ge_f q105)
    exact tt_loc (ks := [5, 6, 7, 8, 4, 3, 2, 1, 0]) rfl (cz_X10_times_p205 hG (oa_af h0 hA) (rg_w h1) (rg_w h2) (rg_w h3) hR (fun r T x y h => hP r T x y (pv_tr hA h (by decide) (fun v T e => e.trans ((congrArg (fun q9 => Z_X10_times_p205 R q9 o0 (x1) (x2) (x3) (((mj (sg S) (R 644 o0) (x2 : Int32).toNatClampNeg) * (mj (sg S) (R 644 o0) (x3 : Int32).toNatClampNeg))) (((mj (sg S) (R 644 o0) (x2 : Int32).toNatClampNeg) * (mj (sg S) (R 645 o0) (x3 : Int32).toNatClampNeg))) (((mj (sg S) (R 645 o0) (x2 : Int32).toNatClampNeg) * (mj (sg S) (R 644 o0) (x3 : Int32).toNatClampNeg))) (((mj (sg S) (R 645 o0) (x2 : Int32).toNatClampNeg) * (mj (sg S) (R 645 o0) (x3 : Int32).toNatClampNeg))) (((mj (sg S) (R 644 o0) (x2 : Int32).toNatClampNeg) * (mj (sg S) (R 644 o0) (x3 : Int32).toNatClampNeg)))) (show sg S = (sg S) from rfl)).trans hF.symm)))))
def Z_X10_times (R : Nat → Nat → Nat) (σ : SG) (o0 : Nat) (x1 : Int32) (x2 : Int32) (x3 : Int32) : SG :=
  if (mi σ (R 643 o0) (x2 : Int32).toNatClampNeg) = 0 then
    (ui σ (R 643 o0) (x1 : Int32).toNatClampNeg 0)
  else
    if (mi σ (R 643 o0) (x3 : Int32).toNatClampNeg) = 0 then
      (ui σ (R 643 o0) (x1 : Int32).toNatClampNeg 0)
    else
      if (Z_X10_isNumber R σ o0 (x2) (0)) = 0 then
        if (Z_X10_isNumber R σ o0 (x3) (0)) = 0 then
          let d135 := Z_X10_isPlain R σ o0 (x1) (x2) (x3)
          if d135.2 = 0 then
            if (mj d135.1 (R 644 o0) (x2 : Int32).toNatClampNeg) < ((-1073741824) : Int64) then
              (ui d135.1 (R 643 o0) (x1 : Int32).toNatClampNeg 2)
            else
              if (1073741824 : Int64) < (mj d135.1 (R 645 o0) (x2 : Int32).toNatClampNeg) then
                (ui d135.1 (R 643 o0) (x1 : Int32).toNatClampNeg 2)
              else
                if (mj d135.1 (R 644 o0) (x3 : Int32).toNatClampNeg) < ((-1073741824) : Int64) then
                  (ui d135.1 (R 643 o0) (x1 : Int32).toNatClampNeg 2)
                else
                  if (1073741824 : Int64) < (mj d135.1 (R 645 o0) (x3 : Int32).toNatClampNeg) then
                    (ui d135.1 (R 643 o0) (x1 : Int32).toNatClampNeg 2)
                  else
                    Z_X10_times_p128 R d135.1 o0 (x1) (x2) (x3)
          else
            d135.1
        else
          let d174 := Z_X10_one R σ o0 (x1) (0)
          d174
      else
        let d120 := Z_X10_one R σ o0 (x1) (0)
        d120
theorem zl_X10_times_0 {R : Nat → Nat → Nat} {σ : SG} {o0 : Nat} {x1 : Int32} {x2 : Int32} {x3 : Int32} (h0 : (mi σ (R 643 o0) (x2 : Int32).toNatClampNeg) = 0) : Z_X10_times R σ o0 x1 x2 x3 = (ui σ (R 643 o0) (x1 : Int32).toNatClampNeg 0) := by unfold Z_X10_times; exact if_pos h0
theorem zl_X10_times_1 {R : Nat → Nat → Nat} {σ : SG} {o0 : Nat} {x1 : Int32} {x2 : Int32} {x3 : Int32} (h0 : ¬ (mi σ (R 643 o0) (x2 : Int32).toNatClampNeg) = 0) (h1 : (mi σ (R 643 o0) (x3 : Int32).toNatClampNeg) = 0) : Z_X10_times R σ o0 x1 x2 x3 = (ui σ (R 643 o0) (x1 : Int32).toNatClampNeg 0) := by unfold Z_X10_times; exact Eq.trans (if_neg h0) (if_pos h1)
theorem zl_X10_times_2 {R : Nat → Nat → Nat} {σ : SG} {o0 : Nat} {x1 : Int32} {x2 : Int32} {x3 : Int32} (h0 : ¬ (mi σ (R 643 o0) (x2 : Int32).toNatClampNeg) = 0) (h1 : ¬ (mi σ (R 643 o0) (x3 : Int32).toNatClampNeg) = 0) (h2 : (Z_X10_isNumber R σ o0 (x2) (0)) = 0) (h3 : (Z_X10_isNumber R σ o0 (x3) (0)) = 0) (h4 : (Z_X10_isPlain R σ o0 (x1) (x2) (x3)).2 = 0) (h5 : (mj (Z_X10_isPlain R σ o0 (x1) (x2) (x3)).1 (R 644 o0) (x2 : Int32).toNatClampNeg) < ((-1073741824) : Int64)) : Z_X10_times R σ o0 x1 x2 x3 = (ui (Z_X10_isPlain R σ o0 (x1) (x2) (x3)).1 (R 643 o0) (x1 : Int32).toNatClampNeg 2) := by unfold Z_X10_times; exact Eq.trans (if_neg h0) (Eq.trans (if_neg h1) (Eq.trans (if_pos h2) (Eq.trans (if_pos h3) (Eq.trans (if_pos h4) (if_pos h5)))))
theorem zl_X10_times_3 {R : Nat → Nat → Nat} {σ : SG} {o0 : Nat} {x1 : Int32} {x2 : Int32} {x3 : Int32} (h0 : ¬ (mi σ (R 643 o0) (x2 : Int32).toNatClampNeg) = 0) (h1 : ¬ (mi σ (R 643 o0) (x3 : Int32).toNatClampNeg) = 0) (h2 : (Z_X10_isNumber R σ o0 (x2) (0)) = 0) (h3 : (Z_X10_isNumber R σ o0 (x3) (0)) = 0) (h4 : (Z_X10_isPlain R σ o0 (x1) (x2) (x3)).2 = 0) (h5 : ¬ (mj (Z_X10_isPlain R σ o0 (x1) (x2) (x3)).1 (R 644 o0) (x2 : Int32).toNatClampNeg) < ((-1073741824) : Int64)) (h6 : (1073741824 : Int64) < (mj (Z_X10_isPlain R σ o0 (x1) (x2) (x3)).1 (R 645 o0) (x2 : Int32).toNatClampNeg)) : Z_X10_times R σ o0 x1 x2 x3 = (ui (Z_X10_isPlain R σ o0 (x1) (x2) (x3)).1 (R 643 o0) (x1 : Int32).toNatClampNeg 2) := by unfold Z_X10_times; exact Eq.trans (if_neg h0) (Eq.trans (if_neg h1) (Eq.trans (if_pos h2) (Eq.trans (if_pos h3) (Eq.trans (if_pos h4) (Eq.trans (if_neg h5) (if_pos h6))))))
theorem zl_X10_times_4 {R : Nat → Nat → Nat} {σ : SG} {o0 : Nat} {x1 : Int32} {x2 : Int32} {x3 : Int32} (h0 : ¬ (mi σ (R 643 o0) (x2 : Int32).toNatClampNeg) = 0) (h1 : ¬ (mi σ (R 643 o0) (x3 : Int32).toNatClampNeg) = 0) (h2 : (Z_X10_isNumber R σ o0 (x2) (0)) = 0) (h3 : (Z_X10_isNumber R σ o0 (x3) (0)) = 0) (h4 : (Z_X10_isPlain R σ o0 (x1) (x2) (x3)).2 = 0) (h5 : ¬ (mj (Z_X10_isPlain R σ o0 (x1) (x2) (x3)).1 (R 644 o0) (x2 : Int32).toNatClampNeg) < ((-1073741824) : Int64)) (h6 : ¬ (1073741824 : Int64) < (mj (Z_X10_isPlain R σ o0 (x1) (x2) (x3)).1 (R 645 o0) (x2 : Int32).toNatClampNeg)) (h7 : (mj (Z_X10_isPlain R σ o0 (x1) (x2) (x3)).1 (R 644 o0) (x3 : Int32).toNatClampNeg) < ((-1073741824) : Int64)) : Z_X10_times R σ o0 x1 x2 x3 = (ui (Z_X10_isPlain R σ o0 (x1) (x2) (x3)).1 (R 643 o0) (x1 : Int32).toNatClampNeg 2) := by unfold Z_X10_times; exact Eq.trans (if_neg h0) (Eq.trans (if_neg h1) (Eq.trans (if_pos h2) (Eq.trans (if_pos h3) (Eq.trans (if_pos h4) (Eq.trans (if_neg h5) (Eq.trans (if_neg h6) (if_pos h7)))))))
theorem zl_X10_times_5 {R : Nat → Nat → Nat} {σ : SG} {o0 : Nat} {x1 : Int32} {x2 : Int32} {x3 : Int32} (h0 : ¬ (mi σ (R 643 o0) (x2 : Int32).toNatClampNeg) = 0) (h1 : ¬ (mi σ (R 643 o0) (x3 : Int32).toNatClampNeg) = 0) (h2 : (Z_X10_isNumber R σ o0 (x2) (0)) = 0) (h3 : (Z_X10_isNumber R σ o0 (x3) (0)) = 0) (h4 : (Z_X10_isPlain R σ o0 (x1) (x2) (x3)).2 = 0) (h5 : ¬ (mj (Z_X10_isPlain R σ o0 (x1) (x2) (x3)).1 (R 644 o0) (x2 : Int32).toNatClampNeg) < ((-1073741824) : Int64)) (h6 : ¬ (1073741824 : Int64) < (mj (Z_X10_isPlain R σ o0 (x1) (x2) (x3)).1 (R 645 o0) (x2 : Int32).toNatClampNeg)) (h7 : ¬ (mj (Z_X10_isPlain R σ o0 (x1) (x2) (x3)).1 (R 644 o0) (x3 : Int32).toNatClampNeg) < ((-1073741824) : Int64)) (h8 : (1073741824 : Int64) < (mj (Z_X10_isPlain R σ o0 (x1) (x2) (x3)).1 (R 645 o0) (x3 : Int32).toNatClampNeg)) : Z_X10_times R σ o0 x1 x2 x3 = (ui (Z_X10_isPlain R σ o0 (x1) (x2) (x3)).1 (R 643 o0) (x1 : Int32).toNatClampNeg 2) := by unfold Z_X10_times; exact Eq.trans (if_neg h0) (Eq.trans (if_neg h1) (Eq.trans (if_pos h2) (Eq.trans (if_pos h3) (Eq.trans (if_pos h4) (Eq.trans (if_neg h5) (Eq.trans (if_neg h6) (Eq.trans (if_neg h7) (if_pos h8))))))))
theorem zl_X10_times_6 {R : Nat → Nat → Nat} {σ : SG} {o0 : Nat} {x1 : Int32} {x2 : Int32} {x3 : Int32} (h0 : ¬ (mi σ (R 643 o0) (x2 : Int32).toNatClampNeg) = 0) (h1 : ¬ (mi σ (R 643 o0) (x3 : Int32).toNatClampNeg) = 0) (h2 : (Z_X10_isNumber R σ o0 (x2) (0)) = 0) (h3 : (Z_X10_isNumber R σ o0 (x3) (0)) = 0) (h4 : (Z_X10_isPlain R σ o0 (x1) (x2) (x3)).2 = 0) (h5 : ¬ (mj (Z_X10_isPlain R σ o0 (x1) (x2) (x3)).1 (R 644 o0) (x2 : Int32).toNatClampNeg) < ((-1073741824) : Int64)) (h6 : ¬ (1073741824 : Int64) < (mj (Z_X10_isPlain R σ o0 (x1) (x2) (x3)).1 (R 645 o0) (x2 : Int32).toNatClampNeg)) (h7 : ¬ (mj (Z_X10_isPlain R σ o0 (x1) (x2) (x3)).1 (R 644 o0) (x3 : Int32).toNatClampNeg) < ((-1073741824) : Int64)) (h8 : ¬ (1073741824 : Int64) < (mj (Z_X10_isPlain R σ o0 (x1) (x2) (x3)).1 (R 645 o0) (x3 : Int32).toNatClampNeg)) : Z_X10_times R σ o0 x1 x2 x3 = Z_X10_times_p128 R (Z_X10_isPlain R σ o0 (x1) (x2) (x3)).1 o0 (x1) (x2) (x3) := by unfold Z_X10_times; exact Eq.trans (if_neg h0) (Eq.trans (if_neg h1) (Eq.trans (if_pos h2) (Eq.trans (if_pos h3) (Eq.trans (if_pos h4) (Eq.trans (if_neg h5) (Eq.trans (if_neg h6) (Eq.trans (if_neg h7) (if_neg h8))))))))
theorem zl_X10_times_7 {R : Nat → Nat → Nat} {σ : SG} {o0 : Nat} {x1 : Int32} {x2 : Int32} {x3 : Int32} (h0 : ¬ (mi σ (R 643 o0) (x2 : Int32).toNatClampNeg) = 0) (h1 : ¬ (mi σ (R 643 o0) (x3 : Int32).toNatClampNeg) = 0) (h2 : (Z_X10_isNumber R σ o0 (x2) (0)) = 0) (h3 : (Z_X10_isNumber R σ o0 (x3) (0)) = 0) (h4 : ¬ (Z_X10_isPlain R σ o0 (x1) (x2) (x3)).2 = 0) : Z_X10_times R σ o0 x1 x2 x3 = (Z_X10_isPlain R σ o0 (x1) (x2) (x3)).1 := by unfold Z_X10_times; exact Eq.trans (if_neg h0) (Eq.trans (if_neg h1) (Eq.trans (if_pos h2) (Eq.trans (if_pos h3) (if_neg h4))))
theorem zl_X10_times_8 {R : Nat → Nat → Nat} {σ : SG} {o0 : Nat} {x1 : Int32} {x2 : Int32} {x3 : Int32} (h0 : ¬ (mi σ (R 643 o0) (x2 : Int32).toNatClampNeg) = 0) (h1 : ¬ (mi σ (R 643 o0) (x3 : Int32).toNatClampNeg) = 0) (h2 : (Z_X10_isNumber R σ o0 (x2) (0)) = 0) (h3 : ¬ (Z_X10_isNumber R σ o0 (x3) (0)) = 0) : Z_X10_times R σ o0 x1 x2 x3 = (Z_X10_one R σ o0 (x1) (0)) := by unfold Z_X10_times; exact Eq.trans (if_neg h0) (Eq.trans (if_neg h1) (Eq.trans (if_pos h2) (if_neg h3)))
theorem zl_X10_times_9 {R : Nat → Nat → Nat} {σ : SG} {o0 : Nat} {x1 : Int32} {x2 : Int32} {x3 : Int32} (h0 : ¬ (mi σ (R 643 o0) (x2 : Int32).toNatClampNeg) = 0) (h1 : ¬ (mi σ (R 643 o0) (x3 : Int32).toNatClampNeg) = 0) (h2 : ¬ (Z_X10_isNumber R σ o0 (x2) (0)) = 0) : Z_X10_times R σ o0 x1 x2 x3 = (Z_X10_one R σ o0 (x1) (0)) := by unfold Z_X10_times; exact Eq.trans (if_neg h0) (Eq.trans (if_neg h1) (if_neg h2))
set_option maxHeartbeats 40000000 in
theorem cz_X10_times {xi : SX} {S : Hp} {E : List Nat} {kc nc : Nat} {P : Po} {o0 : Nat} {x1 : Int32} {x2 : Int32} {x3 : Int32} {R : Nat → Nat → Nat} (hG : GI S E) (h0 : Oa S E 10 0 o0) (h1 : Rg 0 4939 x1) (h2 : Rg 0 4939 x2) (h3 : Rg 0 4939 x3) (hR : RK S R) (hP : ∀ r T x y, PV E [9989] S kc nc rV (fun v T => sg T = Z_X10_times R (sg S) o0 x1 x2 x3) [] r T x y → P r T x y) : TT xi M_X10_times 0 [(0, .ref o0), (1, .int x1), (2, .int x2), (3, .int x3)] [] S kc nc P := by
  have hA : Af E [9989] S S := af_rf
  refine tt_aload_n (j := 0) dX10_times_0 rfl ?_
  have hr101 := rk_R (k := 643) hR h0 32 4940
  have ho102 := rk_O (k := 643) hG hR h0 32 4940
  refine gt_gR (id := 643) dX10_times_1 fl_10_13 rfl rfl h0 hA hr101 ?_
  refine tt_iload_n (j := 2) dX10_times_4 rfl ?_
  refine gx_iL (v := (mi (sg S) (R 643 o0) (x2 : Int32).toNatClampNeg)) dX10_times_5 ho102 hA (rg_in h2) (sg_i (a := (R 643 o0)) (i := (x2 : Int32).toNatClampNeg) (show sg S = (sg S) from rfl)) ?_
  refine tt_if_eq (tgt := 18) dX10_times_6 rfl (fun q103 => ?_) (fun q103 => ?_)
  · skip
    have h104 : Rg 0 0 (mi (sg S) (R 643 o0) (x2 : Int32).toNatClampNeg) := rg_eq_l (rg_all (mi (sg S) (R 643 o0) (x2 : Int32).toNatClampNeg)) (⟨by decide, by decide⟩ : Rg 0 0 0) q103
    refine tt_aload_n (j := 0) dX10_times_18 rfl ?_
    refine gt_gR (id := 643) dX10_times_19 fl_10_13 rfl rfl h0 hA hr101 ?_
    refine tt_iload_n (j := 1) dX10_times_22 rfl ?_
    refine tt_iconst (v := 0) dX10_times_23 rfl ?_
    refine gx_iS dX10_times_24 ho102 hA (Or.inl (by decide)) (rg_in h1) hG (by decide) (show sg S = (sg S) from rfl) (fun S105 hG106 hA107 e108 => ?_)
    refine tt_goto (tgt := 349) dX10_times_25 rfl ?_
    have hF : Z_X10_times R (sg S) o0 x1 x2 x3 = (ui (sg S) (R 643 o0) (x1 : Int32).toNatClampNeg 0) := by
      exact zl_X10_times_0 q103
    exact tt_vreturn dX10_times_349 rfl (hP _ _ _ _ ⟨hG106, hA107, Or.inl ⟨_, rfl, rfl, Eq.trans e108 hF.symm, rfl, rfl⟩⟩)
  · skip
    refine tt_aload_n (j := 0) dX10_times_9 rfl ?_
    refine gt_gR (id := 643) dX10_times_10 fl_10_13 rfl rfl h0 hA hr101 ?_
    refine tt_iload_n (j := 3) dX10_times_13 rfl ?_
    refine gx_iL (v := (mi (sg S) (R 643 o0) (x3 : Int32).toNatClampNeg)) dX10_times_14 ho102 hA (rg_in h3) (sg_i (a := (R 643 o0)) (i := (x3 : Int32).toNatClampNeg) (show sg S = (sg S) from rfl)) ?_
    refine tt_if_ne (tgt := 28) dX10_times_15 rfl (fun q109 => ?_) (fun q109 => ?_)
    · skip
      refine tt_aload_n (j := 0) dX10_times_28 rfl ?_
      refine tt_iload_n (j := 2) dX10_times_29 rfl ?_
      refine tt_lconst (v := 0) dX10_times_30 rfl ?_
      refine gt_VIp (As := [.int x2, .long 0]) dX10_times_31 ca_X10_189 ⟨by decide, by decide⟩ h0 hA rfl (Nat.le_of_ble_eq_true rfl) (Nat.le_of_ble_eq_true rfl) (by decide) (cz_X10_isNumber hG (oa_af h0 hA) (rg_w h2) hR (fun _ _ _ _ h => h)) rfl (fun _ h => nomatch h) (fun _ _ q => q.1) (fun x110 h111 hx112 => ?_)
      obtain rfl : Z_X10_isNumber R (sg S) o0 (x2) (0) = x110 := ((ei_w hx112.2).trans (congrArg (fun q9 => Z_X10_isNumber R q9 o0 (x2) (0)) (show sg S = (sg S) from rfl))).symm
      refine tt_if_ne (tgt := 46) dX10_times_34 rfl (fun q113 => ?_) (fun q113 => ?_)
      · skip
        have h114 : Rg 1 1 (Z_X10_isNumber R (sg S) o0 (x2) (0)) := rg_ne_lo h111 (⟨by decide, by decide⟩ : Rg 0 0 0) q113
        refine tt_aload_n (j := 0) dX10_times_46 rfl ?_
        refine tt_iload_n (j := 1) dX10_times_47 rfl ?_
        refine tt_lconst (v := 0) dX10_times_48 rfl ?_
        refine gt_Vv (As := [.int x1, .long 0]) dX10_times_49 ca_X10_193 ⟨by decide, by decide⟩ h0 hA rfl (Nat.le_of_ble_eq_true rfl) (Nat.le_of_ble_eq_true rfl) (by decide) (cz_X10_one hG (oa_af h0 hA) (rg_w h1) hR (fun _ _ _ _ h => h)) rfl (fun _ h => nomatch h) (fun S115 hx119 hG116 hB117 hA118 => ?_)
        obtain ⟨d120, hd121⟩ : ∃ q, Z_X10_one R (sg S) o0 (x1) (0) = q := ⟨_, rfl⟩
        have hq122 := (congrArg (fun q9 => Z_X10_one R q9 o0 (x1) (0)) (show sg S = (sg S) from rfl)).trans hd121
        have hs123 := hx119.trans hq122
        refine tt_goto (tgt := 349) dX10_times_52 rfl ?_
        have hF : Z_X10_times R (sg S) o0 x1 x2 x3 = d120 := by
          subst hd121
          exact zl_X10_times_9 q103 q109 q113
        exact tt_vreturn dX10_times_349 rfl (hP _ _ _ _ ⟨hG116, hA118, Or.inl ⟨_, rfl, rfl, Eq.trans hs123 hF.symm, rfl, rfl⟩⟩)
      · skip
        have h124 : Rg 0 0 (Z_X10_isNumber R (sg S) o0 (x2) (0)) := rg_eq_l h111 (⟨by decide, by decide⟩ : Rg 0 0 0) q113
        refine tt_aload_n (j := 0) dX10_times_37 rfl ?_
        refine tt_iload_n (j := 3) dX10_times_38 rfl ?_
        refine tt_lconst (v := 0) dX10_times_39 rfl ?_
        refine gt_VIp (As := [.int x3, .long 0]) dX10_times_40 ca_X10_189 ⟨by decide, by decide⟩ h0 hA rfl (Nat.le_of_ble_eq_true rfl) (Nat.le_of_ble_eq_true rfl) (by decide) (cz_X10_isNumber hG (oa_af h0 hA) (rg_w h3) hR (fun _ _ _ _ h => h)) rfl (fun _ h => nomatch h) (fun _ _ q => q.1) (fun x125 h126 hx127 => ?_)
        obtain rfl : Z_X10_isNumber R (sg S) o0 (x3) (0) = x125 := ((ei_w hx127.2).trans (congrArg (fun q9 => Z_X10_isNumber R q9 o0 (x3) (0)) (show sg S = (sg S) from rfl))).symm
        refine tt_if_eq (tgt := 55) dX10_times_43 rfl (fun q128 => ?_) (fun q128 => ?_)
        · skip
          have h129 : Rg 0 0 (Z_X10_isNumber R (sg S) o0 (x3) (0)) := rg_eq_l h126 (⟨by decide, by decide⟩ : Rg 0 0 0) q128
          refine tt_aload_n (j := 0) dX10_times_55 rfl ?_
          refine tt_iload_n (j := 1) dX10_times_56 rfl ?_
          refine tt_iload_n (j := 2) dX10_times_57 rfl ?_
          refine tt_iload_n (j := 3) dX10_times_58 rfl ?_
          refine gt_VI (As := [.int x1, .int x2, .int x3]) dX10_times_59 ca_X10_179 ⟨by decide, by decide⟩ h0 hA rfl (Nat.le_of_ble_eq_true rfl) (Nat.le_of_ble_eq_true rfl) (by decide) (cz_X10_isPlain hG (oa_af h0 hA) (rg_w h1) (rg_w h2) (rg_w h3) hR (fun _ _ _ _ h => h)) rfl (fun _ h => nomatch h) (fun S130 x139 h140 hx134 hG131 hB132 hA133 => ?_)
          obtain ⟨d135, hd136⟩ : ∃ q, Z_X10_isPlain R (sg S) o0 (x1) (x2) (x3) = q := ⟨_, rfl⟩
          have hq137 := (congrArg (fun q9 => Z_X10_isPlain R q9 o0 (x1) (x2) (x3)) (show sg S = (sg S) from rfl)).trans hd136
          have hs138 := hx134.2.trans (congrArg Prod.fst hq137)
          obtain rfl : d135.2 = x139 := ((ei_w hx134.1).trans (congrArg Prod.snd hq137)).symm
          refine tt_if_ne (tgt := 349) dX10_times_62 rfl (fun q141 => ?_) (fun q141 => ?_)
          · skip
            have h142 : Rg 1 1 d135.2 := rg_ne_lo h140 (⟨by decide, by decide⟩ : Rg 0 0 0) q141
            have hF : Z_X10_times R (sg S) o0 x1 x2 x3 = d135.1 := by
              subst hd136
              exact zl_X10_times_7 q103 q109 q113 q128 q141
            exact tt_vreturn dX10_times_349 rfl (hP _ _ _ _ ⟨hG131, hA133, Or.inl ⟨_, rfl, rfl, Eq.trans hs138 hF.symm, rfl, rfl⟩⟩)
          · skip
            have h143 : Rg 0 0 d135.2 := rg_eq_l h140 (⟨by decide, by decide⟩ : Rg 0 0 0) q141
            refine tt_ldc2 (v := 1073741824) dX10_times_65 kl_10_197 ?_
            refine tt_lstore (ks := [0, 1, 2, 3, 4]) (L' := [(4, .long 1073741824), (0, .ref o0), (1, .int x1), (2, .int x2), (3, .int x3)]) dX10_times_68 (by decide) rfl ?_
            refine tt_aload_n (j := 1) dX10_times_70 rfl ?_
            have hr144 := rk_R (k := 644) hR h0 33 4940
            have ho145 := rk_O (k := 644) hG hR h0 33 4940
            refine gt_gR (id := 644) dX10_times_71 fl_10_16 rfl rfl h0 hA133 hr144 ?_
            refine tt_iload_n (j := 3) dX10_times_74 rfl ?_
            refine gt_lLv (v := (mj d135.1 (R 644 o0) (x2 : Int32).toNatClampNeg)) dX10_times_75 ho145 hA133 (rg_in h2) (sg_j (a := (R 644 o0)) (i := (x2 : Int32).toNatClampNeg) hs138) ?_
            refine tt_lload (j := 0) dX10_times_76 rfl ?_
            refine tt_lneg dX10_times_78 ?_
            refine tt_lcmp dX10_times_79 ?_
            refine tt_if_lt (tgt := 120) dX10_times_80 rfl (fun q146 => ?_) (fun q146 => ?_)
            · skip
              refine tt_aload_n (j := 1) dX10_times_120 rfl ?_
              refine gt_gR (id := 643) dX10_times_121 fl_10_13 rfl rfl h0 hA133 hr101 ?_
              refine tt_iload_n (j := 2) dX10_times_124 rfl ?_
              refine tt_iconst (v := 2) dX10_times_125 rfl ?_
              refine gx_iS dX10_times_126 ho102 hA133 (Or.inl (by decide)) (rg_in h1) hG131 (by decide) hs138 (fun S147 hG148 hA149 e150 => ?_)
              have hF : Z_X10_times R (sg S) o0 x1 x2 x3 = (ui d135.1 (R 643 o0) (x1 : Int32).toNatClampNeg 2) := by
                subst hd136
                exact zl_X10_times_2 q103 q109 q113 q128 q141 (lc_lt_t q146)
              exact tt_vreturn dX10_times_127 rfl (hP _ _ _ _ ⟨hG148, hA149, Or.inl ⟨_, rfl, rfl, Eq.trans e150 hF.symm, rfl, rfl⟩⟩)
            · skip
              refine tt_aload_n (j := 1) dX10_times_83 rfl ?_
              have hr151 := rk_R (k := 645) hR h0 33 4940
              have ho152 := rk_O (k := 645) hG hR h0 33 4940
              refine gt_gR (id := 645) dX10_times_84 fl_10_20 rfl rfl h0 hA133 hr151 ?_
              refine tt_iload_n (j := 3) dX10_times_87 rfl ?_
              refine gt_lLv (v := (mj d135.1 (R 645 o0) (x2 : Int32).toNatClampNeg)) dX10_times_88 ho152 hA133 (rg_in h2) (sg_j (a := (R 645 o0)) (i := (x2 : Int32).toNatClampNeg) hs138) ?_
              refine tt_lload (j := 0) dX10_times_89 rfl ?_
              refine tt_lcmp dX10_times_91 ?_
              refine tt_if_gt (tgt := 120) dX10_times_92 rfl (fun q153 => ?_) (fun q153 => ?_)
              · skip
                refine tt_aload_n (j := 1) dX10_times_120 rfl ?_
                refine gt_gR (id := 643) dX10_times_121 fl_10_13 rfl rfl h0 hA133 hr101 ?_
                refine tt_iload_n (j := 2) dX10_times_124 rfl ?_
                refine tt_iconst (v := 2) dX10_times_125 rfl ?_
                refine gx_iS dX10_times_126 ho102 hA133 (Or.inl (by decide)) (rg_in h1) hG131 (by decide) hs138 (fun S154 hG155 hA156 e157 => ?_)
                have hF : Z_X10_times R (sg S) o0 x1 x2 x3 = (ui d135.1 (R 643 o0) (x1 : Int32).toNatClampNeg 2) := by
                  subst hd136
                  exact zl_X10_times_3 q103 q109 q113 q128 q141 (Int64.not_lt.mpr (lc_lt_f q146)) (lc_gt_t q153)
                exact tt_vreturn dX10_times_127 rfl (hP _ _ _ _ ⟨hG155, hA156, Or.inl ⟨_, rfl, rfl, Eq.trans e157 hF.symm, rfl, rfl⟩⟩)
              · skip
                refine tt_aload_n (j := 1) dX10_times_95 rfl ?_
                refine gt_gR (id := 644) dX10_times_96 fl_10_16 rfl rfl h0 hA133 hr144 ?_
                refine tt_iload_n (j := 4) dX10_times_99 rfl ?_
                refine gt_lLv (v := (mj d135.1 (R 644 o0) (x3 : Int32).toNatClampNeg)) dX10_times_100 ho145 hA133 (rg_in h3) (sg_j (a := (R 644 o0)) (i := (x3 : Int32).toNatClampNeg) hs138) ?_
                refine tt_lload (j := 0) dX10_times_101 rfl ?_
                refine tt_lneg dX10_times_103 ?_
                refine tt_lcmp dX10_times_104 ?_
                refine tt_if_lt (tgt := 120) dX10_times_105 rfl (fun q158 => ?_) (fun q158 => ?_)
                · skip
                  refine tt_aload_n (j := 1) dX10_times_120 rfl ?_
                  refine gt_gR (id := 643) dX10_times_121 fl_10_13 rfl rfl h0 hA133 hr101 ?_
                  refine tt_iload_n (j := 2) dX10_times_124 rfl ?_
                  refine tt_iconst (v := 2) dX10_times_125 rfl ?_
                  refine gx_iS dX10_times_126 ho102 hA133 (Or.inl (by decide)) (rg_in h1) hG131 (by decide) hs138 (fun S159 hG160 hA161 e162 => ?_)
                  have hF : Z_X10_times R (sg S) o0 x1 x2 x3 = (ui d135.1 (R 643 o0) (x1 : Int32).toNatClampNeg 2) := by
                    subst hd136
                    exact zl_X10_times_4 q103 q109 q113 q128 q141 (Int64.not_lt.mpr (lc_lt_f q146)) (Int64.not_lt.mpr (lc_gt_f q153)) (lc_lt_t q158)
                  exact tt_vreturn dX10_times_127 rfl (hP _ _ _ _ ⟨hG160, hA161, Or.inl ⟨_, rfl, rfl, Eq.trans e162 hF.symm, rfl, rfl⟩⟩)
                · skip
                  refine tt_aload_n (j := 1) dX10_times_108 rfl ?_
                  refine gt_gR (id := 645) dX10_times_109 fl_10_20 rfl rfl h0 hA133 hr151 ?_
                  refine tt_iload_n (j := 4) dX10_times_112 rfl ?_
                  refine gt_lLv (v := (mj d135.1 (R 645 o0) (x3 : Int32).toNatClampNeg)) dX10_times_113 ho152 hA133 (rg_in h3) (sg_j (a := (R 645 o0)) (i := (x3 : Int32).toNatClampNeg) hs138) ?_
                  refine tt_lload (j := 0) dX10_times_114 rfl ?_
                  refine tt_lcmp dX10_times_116 ?_
                  refine tt_if_le (tgt := 128) dX10_times_117 rfl (fun q163 => ?_) (fun q163 => ?_)
                  · skip
                    have hF : Z_X10_times R (sg S) o0 x1 x2 x3 = Z_X10_times_p128 R d135.1 o0 (x1) (x2) (x3) := by
                      subst hd136
                      exact zl_X10_times_6 q103 q109 q113 q128 q141 (Int64.not_lt.mpr (lc_lt_f q146)) (Int64.not_lt.mpr (lc_gt_f q153)) (Int64.not_lt.mpr (lc_lt_f q158)) (Int64.not_lt.mpr (lc_le_t q163))
                    exact tt_loc (ks := [1, 2, 3, 4]) rfl (cz_X10_times_p128 hG131 (oa_af h0 hA133) (rg_w h1) (rg_w h2) (rg_w h3) (rk_af hR hA133) (fun r T x y h => hP r T x y (pv_tr hA133 h (by decide) (fun v T e => e.trans ((congrArg (fun q9 => Z_X10_times_p128 R q9 o0 (x1) (x2) (x3)) hs138).trans hF.symm)))))
                  · skip
                    refine tt_aload_n (j := 1) dX10_times_120 rfl ?_
                    refine gt_gR (id := 643) dX10_times_121 fl_10_13 rfl rfl h0 hA133 hr101 ?_
                    refine tt_iload_n (j := 2) dX10_times_124 rfl ?_
                    refine tt_iconst (v := 2) dX10_times_125 rfl ?_
                    refine gx_iS dX10_times_126 ho102 hA133 (Or.inl (by decide)) (rg_in h1) hG131 (by decide) hs138 (fun S164 hG165 hA166 e167 => ?_)
                    have hF : Z_X10_times R (sg S) o0 x1 x2 x3 = (ui d135.1 (R 643 o0) (x1 : Int32).toNatClampNeg 2) := by
                      subst hd136
                      exact zl_X10_times_5 q103 q109 q113 q128 q141 (Int64.not_lt.mpr (lc_lt_f q146)) (Int64.not_lt.mpr (lc_gt_f q153)) (Int64.not_lt.mpr (lc_lt_f q158)) (lc_le_f q163)
                    exact tt_vreturn dX10_times_127 rfl (hP _ _ _ _ ⟨hG165, hA166, Or.inl ⟨_, rfl, rfl, Eq.trans e167 hF.symm, rfl, rfl⟩⟩)
        · skip
          have h168 : Rg 1 1 (Z_X10_isNumber R (sg S) o0 (x3) (0)) := rg_ne_lo h126 (⟨by decide, by decide⟩ : Rg 0 0 0) q128
          refine tt_aload_n (j := 0) dX10_times_46 rfl ?_
          refine tt_iload_n (j := 1) dX10_times_47 rfl ?_
          refine tt_lconst (v := 0) dX10_times_48 rfl ?_
          refine gt_Vv (As := [.int x1, .long 0]) dX10_times_49 ca_X10_193 ⟨by decide, by decide⟩ h0 hA rfl (Nat.le_of_ble_eq_true rfl) (Nat.le_of_ble_eq_true rfl) (by decide) (cz_X10_one hG (oa_af h0 hA) (rg_w h1) hR (fun _ _ _ _ h => h)) rfl (fun _ h => nomatch h) (fun S169 hx173 hG170 hB171 hA172 => ?_)
          obtain ⟨d174, hd175⟩ : ∃ q, Z_X10_one R (sg S) o0 (x1) (0) = q := ⟨_, rfl⟩
          have hq176 := (congrArg (fun q9 => Z_X10_one R q9 o0 (x1) (0)) (show sg S = (sg S) from rfl)).trans hd175
          have hs177 := hx173.trans hq176
          refine tt_goto (tgt := 349) dX10_times_52 rfl ?_
          have hF : Z_X10_times R (sg S) o0 x1 x2 x3 = d174 := by
            subst hd175
            exact zl_X10_times_8 q103 q109 q113 q128
          exact tt_vreturn dX10_times_349 rfl (hP _ _ _ _ ⟨hG170, hA172, Or.inl ⟨_, rfl, rfl, Eq.trans hs177 hF.symm, rfl, rfl⟩⟩)
    · skip
      have h178 : Rg 0 0 (mi (sg S) (R 643 o0) (x3 : Int32).toNatClampNeg) := rg_eq_l (rg_all (mi (sg S) (R 643 o0) (x3 : Int32).toNatClampNeg)) (⟨by decide, by decide⟩ : Rg 0 0 0) q109
      refine tt_aload_n (j := 0) dX10_times_18 rfl ?_
      refine gt_gR (id := 643) dX10_times_19 fl_10_13 rfl rfl h0 hA hr101 ?_
      refine tt_iload_n (j := 1) dX10_times_22 rfl ?_
      refine tt_iconst (v := 0) dX10_times_23 rfl ?_
      refine gx_iS dX10_times_24 ho102 hA (Or.inl (by decide)) (rg_in h1) hG (by decide) (show sg S = (sg S) from rfl) (fun S179 hG180 hA181 e182 => ?_)
      refine tt_goto (tgt := 349) dX10_times_25 rfl ?_
      have hF : Z_X10_times R (sg S) o0 x1 x2 x3 = (ui (sg S) (R 643 o0) (x1 : Int32).toNatClampNeg 0) := by
        exact zl_X10_times_1 q103 q109
      exact tt_vreturn dX10_times_349 rfl (hP _ _ _ _ ⟨hG180, hA181, Or.inl ⟨_, rfl, rfl, Eq.trans e182 hF.symm, rfl, rfl⟩⟩)
def Z_X10_and_p178 (R : Nat → Nat → Nat) (σ : SG) (o0 : Nat) (x1 : Int32) (x2 : Int32) (x3 : Int32) (y6 : Int64) : SG :=
  if (Z_X10_isNumber R σ o0 (x2) (y6)) = 0 then
    if (Z_X10_isNumber R σ o0 (x3) (y6)) = 0 then
      let d126 := Z_X10_make R σ o0 (x1) (1) (0) (y6) (1)
      d126
    else
      let d136 := Z_X10_make R σ o0 (x1) (1) (0) (y6) ((y6 &&& (-y6)))
      d136
  else
    let d111 := Z_X10_make R σ o0 (x1) (1) (0) (y6) ((y6 &&& (-y6)))
    d111
theorem zl_X10_and_p178_0 {R : Nat → Nat → Nat} {σ : SG} {o0 : Nat} {x1 : Int32} {x2 : Int32} {x3 : Int32} {y6 : Int64} (h0 : (Z_X10_isNumber R σ o0 (x2) (y6)) = 0) (h1 : (Z_X10_isNumber R σ o0 (x3) (y6)) = 0) : Z_X10_and_p178 R σ o0 x1 x2 x3 y6 = (Z_X10_make R σ o0 (x1) (1) (0) (y6) (1)) := by unfold Z_X10_and_p178; exact Eq.trans (if_pos h0) (if_pos h1)
theorem zl_X10_and_p178_1 {R : Nat → Nat → Nat} {σ : SG} {o0 : Nat} {x1 : Int32} {x2 : Int32} {x3 : Int32} {y6 : Int64} (h0 : (Z_X10_isNumber R σ o0 (x2) (y6)) = 0) (h1 : ¬ (Z_X10_isNumber R σ o0 (x3) (y6)) = 0) : Z_X10_and_p178 R σ o0 x1 x2 x3 y6 = (Z_X10_make R σ o0 (x1) (1) (0) (y6) ((y6 &&& (-y6)))) := by unfold Z_X10_and_p178; exact Eq.trans (if_pos h0) (if_neg h1)
theorem zl_X10_and_p178_2 {R : Nat → Nat → Nat} {σ : SG} {o0 : Nat} {x1 : Int32} {x2 : Int32} {x3 : Int32} {y6 : Int64} (h0 : ¬ (Z_X10_isNumber R σ o0 (x2) (y6)) = 0) : Z_X10_and_p178 R σ o0 x1 x2 x3 y6 = (Z_X10_make R σ o0 (x1) (1) (0) (y6) ((y6 &&& (-y6)))) := by unfold Z_X10_and_p178; exact if_neg h0
set_option maxHeartbeats 40000000 in
theorem cz_X10_and_p178 {xi : SX} {S : Hp} {E : List Nat} {kc nc : Nat} {P : Po} {o0 : Nat} {x1 : Int32} {x2 : Int32} {x3 : Int32} {y6 : Int64} {R : Nat → Nat → Nat} (hG : GI S E) (h0 : Oa S E 10 0 o0) (h1 : Rg 0 4939 x1) (h2 : Rg 0 4939 x2) (h3 : Rg 0 4939 x3) (hR : RK S R) (hP : ∀ r T x y, PV E [9989] S kc nc rV (fun v T => sg T = Z_X10_and_p178 R (sg S) o0 x1 x2 x3 y6) [] r T x y → P r T x y) : TT xi M_X10_and 178 [(0, .ref o0), (1, .int x1), (2, .int x2), (3, .int x3), (6, .long y6)] [] S kc nc P := by
  have hA : Af E [9989] S S := af_rf
  refine tt_aload_n (j := 0) dX10_and_178 rfl ?_
  refine tt_iload_n (j := 1) dX10_and_179 rfl ?_
  refine tt_iconst (v := 1) dX10_and_180 rfl ?_
  refine tt_lconst (v := 0) dX10_and_181 rfl ?_
  refine tt_lload (j := 4) dX10_and_182 rfl ?_
  refine tt_aload_n (j := 0) dX10_and_184 rfl ?_
  refine tt_iload_n (j := 2) dX10_and_185 rfl ?_
  refine tt_lload (j := 4) dX10_and_186 rfl ?_
  refine gt_VIp (As := [.int x2, .long y6]) dX10_and_188 ca_X10_189 ⟨by decide, by decide⟩ h0 hA rfl (Nat.le_of_ble_eq_true rfl) (Nat.le_of_ble_eq_true rfl) (by decide) (cz_X10_isNumber hG (oa_af h0 hA) (rg_w h2) hR (fun _ _ _ _ h => h)) rfl (fun _ h => nomatch h) (fun _ _ q => q.1) (fun x101 h102 hx103 => ?_)
  obtain rfl : Z_X10_isNumber R (sg S) o0 (x2) (y6) = x101 := ((ei_w hx103.2).trans (congrArg (fun q9 => Z_X10_isNumber R q9 o0 (x2) (y6)) (show sg S = (sg S) from rfl))).symm
  refine tt_if_ne (tgt := 204) dX10_and_191 rfl (fun q104 => ?_) (fun q104 => ?_)
  · skip
    have h105 : Rg 1 1 (Z_X10_isNumber R (sg S) o0 (x2) (y6)) := rg_ne_lo h102 (⟨by decide, by decide⟩ : Rg 0 0 0) q104
    refine tt_lload (j := 4) dX10_and_204 rfl ?_
    refine tt_lload (j := 4) dX10_and_206 rfl ?_
    refine tt_lneg dX10_and_208 ?_
    refine tt_land dX10_and_209 ?_
    refine tt_goto (tgt := 214) dX10_and_210 rfl ?_
    refine gt_Vv (As := [.int x1, .int 1, .long 0, .long y6, .long (y6 &&& (-y6))]) dX10_and_214 ca_X10_165 ⟨by decide, by decide⟩ h0 hA rfl (Nat.le_of_ble_eq_true rfl) (Nat.le_of_ble_eq_true rfl) (by decide) (cz_X10_make hG (oa_af h0 hA) (rg_w h1) hR (fun _ _ _ _ h => h)) rfl (fun _ h => nomatch h) (fun S106 hx110 hG107 hB108 hA109 => ?_)
    obtain ⟨d111, hd112⟩ : ∃ q, Z_X10_make R (sg S) o0 (x1) (1) (0) (y6) ((y6 &&& (-y6))) = q := ⟨_, rfl⟩
    have hq113 := (congrArg (fun q9 => Z_X10_make R q9 o0 (x1) (1) (0) (y6) ((y6 &&& (-y6)))) (show sg S = (sg S) from rfl)).trans hd112
    have hs114 := hx110.trans hq113
    have hF : Z_X10_and_p178 R (sg S) o0 x1 x2 x3 y6 = d111 := by
      subst hd112
      exact zl_X10_and_p178_2 q104
    exact tt_vreturn dX10_and_217 rfl (hP _ _ _ _ ⟨hG107, hA109, Or.inl ⟨_, rfl, rfl, Eq.trans hs114 hF.symm, rfl, rfl⟩⟩)
  · skip
    have h115 : Rg 0 0 (Z_X10_isNumber R (sg S) o0 (x2) (y6)) := rg_eq_l h102 (⟨by decide, by decide⟩ : Rg 0 0 0) q104
    refine tt_aload_n (j := 0) dX10_and_194 rfl ?_
    refine tt_iload_n (j := 3) dX10_and_195 rfl ?_
    refine tt_lload (j := 4) dX10_and_196 rfl ?_
    refine gt_VIp (As := [.int x3, .long y6]) dX10_and_198 ca_X10_189 ⟨by decide, by decide⟩ h0 hA rfl (Nat.le_of_ble_eq_true rfl) (Nat.le_of_ble_eq_true rfl) (by decide) (cz_X10_isNumber hG (oa_af h0 hA) (rg_w h3) hR (fun _ _ _ _ h => h)) rfl (fun _ h => nomatch h) (fun _ _ q => q.1) (fun x116 h117 hx118 => ?_)
    obtain rfl : Z_X10_isNumber R (sg S) o0 (x3) (y6) = x116 := ((ei_w hx118.2).trans (congrArg (fun q9 => Z_X10_isNumber R q9 o0 (x3) (y6)) (show sg S = (sg S) from rfl))).symm
    refine tt_if_eq (tgt := 213) dX10_and_201 rfl (fun q119 => ?_) (fun q119 => ?_)
    · skip
      have h120 : Rg 0 0 (Z_X10_isNumber R (sg S) o0 (x3) (y6)) := rg_eq_l h117 (⟨by decide, by decide⟩ : Rg 0 0 0) q119
      refine tt_lconst (v := 1) dX10_and_213 rfl ?_
      refine gt_Vv (As := [.int x1, .int 1, .long 0, .long y6, .long 1]) dX10_and_214 ca_X10_165 ⟨by decide, by decide⟩ h0 hA rfl (Nat.le_of_ble_eq_true rfl) (Nat.le_of_ble_eq_true rfl) (by decide) (cz_X10_make hG (oa_af h0 hA) (rg_w h1) hR (fun _ _ _ _ h => h)) rfl (fun _ h => nomatch h) (fun S121 hx125 hG122 hB123 hA124 => ?_)
      obtain ⟨d126, hd127⟩ : ∃ q, Z_X10_make R (sg S) o0 (x1) (1) (0) (y6) (1) = q := ⟨_, rfl⟩
      have hq128 := (congrArg (fun q9 => Z_X10_make R q9 o0 (x1) (1) (0) (y6) (1)) (show sg S = (sg S) from rfl)).trans hd127
      have hs129 := hx125.trans hq128
      have hF : Z_X10_and_p178 R (sg S) o0 x1 x2 x3 y6 = d126 := by
        subst hd127
        exact zl_X10_and_p178_0 q104 q119
      exact tt_vreturn dX10_and_217 rfl (hP _ _ _ _ ⟨hG122, hA124, Or.inl ⟨_, rfl, rfl, Eq.trans hs129 hF.symm, rfl, rfl⟩⟩)
    · skip
      have h130 : Rg 1 1 (Z_X10_isNumber R (sg S) o0 (x3) (y6)) := rg_ne_lo h117 (⟨by decide, by decide⟩ : Rg 0 0 0) q119
      refine tt_lload (j := 4) dX10_and_204 rfl ?_
      refine tt_lload (j := 4) dX10_and_206 rfl ?_
      refine tt_lneg dX10_and_208 ?_
      refine tt_land dX10_and_209 ?_
      refine tt_goto (tgt := 214) dX10_and_210 rfl ?_
      refine gt_Vv (As := [.int x1, .int 1, .long 0, .long y6, .long (y6 &&& (-y6))]) dX10_and_214 ca_X10_165 ⟨by decide, by decide⟩ h0 hA rfl (Nat.le_of_ble_eq_true rfl) (Nat.le_of_ble_eq_true rfl) (by decide) (cz_X10_make hG (oa_af h0 hA) (rg_w h1) hR (fun _ _ _ _ h => h)) rfl (fun _ h => nomatch h) (fun S131 hx135 hG132 hB133 hA134 => ?_)
      obtain ⟨d136, hd137⟩ : ∃ q, Z_X10_make R (sg S) o0 (x1) (1) (0) (y6) ((y6 &&& (-y6))) = q := ⟨_, rfl⟩
      have hq138 := (congrArg (fun q9 => Z_X10_make R q9 o0 (x1) (1) (0) (y6) ((y6 &&& (-y6)))) (show sg S = (sg S) from rfl)).trans hd137
      have hs139 := hx135.trans hq138
      have hF : Z_X10_and_p178 R (sg S) o0 x1 x2 x3 y6 = d136 := by
        subst hd137
        exact zl_X10_and_p178_1 q104 q119
      exact tt_vreturn dX10_and_217 rfl (hP _ _ _ _ ⟨hG132, hA134, Or.inl ⟨_, rfl, rfl, Eq.trans hs139 hF.symm, rfl, rfl⟩⟩)
def Z_X10_and_p135 (R : Nat → Nat → Nat) (σ : SG) (o0 : Nat) (x1 : Int32) (x2 : Int32) (x3 : Int32) (x4 : Int32) (x5 : Int32) : SG :=
  if x4 = 0 then
    Z_X10_and_p178 R σ o0 (x1) (x2) (x3) ((mj σ (R 645 o0) (x3 : Int32).toNatClampNeg))
  else
    if x5 = 0 then
      Z_X10_and_p178 R σ o0 (x1) (x2) (x3) ((mj σ (R 645 o0) (x2 : Int32).toNatClampNeg))
    else
      if (mj σ (R 645 o0) (x2 : Int32).toNatClampNeg) < (mj σ (R 645 o0) (x3 : Int32).toNatClampNeg) then
        Z_X10_and_p178 R σ o0 (x1) (x2) (x3) ((mj σ (R 645 o0) (x2 : Int32).toNatClampNeg))
      else
        Z_X10_and_p178 R σ o0 (x1) (x2) (x3) ((mj σ (R 645 o0) (x3 : Int32).toNatClampNeg))
theorem zl_X10_and_p135_0 {R : Nat → Nat → Nat} {σ : SG} {o0 : Nat} {x1 : Int32} {x2 : Int32} {x3 : Int32} {x4 : Int32} {x5 : Int32} (h0 : x4 = 0) : Z_X10_and_p135 R σ o0 x1 x2 x3 x4 x5 = Z_X10_and_p178 R σ o0 (x1) (x2) (x3) ((mj σ (R 645 o0) (x3 : Int32).toNatClampNeg)) := by unfold Z_X10_and_p135; exact if_pos h0
theorem zl_X10_and_p135_1 {R : Nat → Nat → Nat} {σ : SG} {o0 : Nat} {x1 : Int32} {x2 : Int32} {x3 : Int32} {x4 : Int32} {x5 : Int32} (h0 : ¬ x4 = 0) (h1 : x5 = 0) : Z_X10_and_p135 R σ o0 x1 x2 x3 x4 x5 = Z_X10_and_p178 R σ o0 (x1) (x2) (x3) ((mj σ (R 645 o0) (x2 : Int32).toNatClampNeg)) := by unfold Z_X10_and_p135; exact Eq.trans (if_neg h0) (if_pos h1)
theorem zl_X10_and_p135_2 {R : Nat → Nat → Nat} {σ : SG} {o0 : Nat} {x1 : Int32} {x2 : Int32} {x3 : Int32} {x4 : Int32} {x5 : Int32} (h0 : ¬ x4 = 0) (h1 : ¬ x5 = 0) (h2 : (mj σ (R 645 o0) (x2 : Int32).toNatClampNeg) < (mj σ (R 645 o0) (x3 : Int32).toNatClampNeg)) : Z_X10_and_p135 R σ o0 x1 x2 x3 x4 x5 = Z_X10_and_p178 R σ o0 (x1) (x2) (x3) ((mj σ (R 645 o0) (x2 : Int32).toNatClampNeg)) := by unfold Z_X10_and_p135; exact Eq.trans (if_neg h0) (Eq.trans (if_neg h1) (if_pos h2))
theorem zl_X10_and_p135_3 {R : Nat → Nat → Nat} {σ : SG} {o0 : Nat} {x1 : Int32} {x2 : Int32} {x3 : Int32} {x4 : Int32} {x5 : Int32} (h0 : ¬ x4 = 0) (h1 : ¬ x5 = 0) (h2 : ¬ (mj σ (R 645 o0) (x2 : Int32).toNatClampNeg) < (mj σ (R 645 o0) (x3 : Int32).toNatClampNeg)) : Z_X10_and_p135 R σ o0 x1 x2 x3 x4 x5 = Z_X10_and_p178 R σ o0 (x1) (x2) (x3) ((mj σ (R 645 o0) (x3 : Int32).toNatClampNeg)) := by unfold Z_X10_and_p135; exact Eq.trans (if_neg h0) (Eq.trans (if_neg h1) (if_neg h2))
set_option maxHeartbeats 40000000 in
theorem cz_X10_and_p135 {xi : SX} {S : Hp} {E : List Nat} {kc nc : Nat} {P : Po} {o0 : Nat} {x1 : Int32} {x2 : Int32} {x3 : Int32} {x4 : Int32} {x5 : Int32} {R : Nat → Nat → Nat} (hG : GI S E) (h0 : Oa S E 10 0 o0) (h1 : Rg 0 4939 x1) (h2 : Rg 0 4939 x2) (h3 : Rg 0 4939 x3) (h4 : Rg 0 1 x4) (h5 : Rg 0 1 x5) (hR : RK S R) (hP : ∀ r T x y, PV E [9989] S kc nc rV (fun v T => sg T = Z_X10_and_p135 R (sg S) o0 x1 x2 x3 x4 x5) [] r T x y → P r T x y) : TT xi M_X10_and 135 [(0, .ref o0), (1, .int x1), (2, .int x2), (3, .int x3), (4, .int x4), (5, .int x5)] [] S kc nc P := by
  have hA : Af E [9989] S S := af_rf
  refine tt_iload (j := 4) dX10_and_135 rfl ?_
  refine tt_if_eq (tgt := 170) dX10_and_137 rfl (fun q101 => ?_) (fun q101 => ?_)
  · skip
    have h102 : Rg 0 0 x4 := rg_eq_l h4 (⟨by decide, by decide⟩ : Rg 0 0 0) q101
    refine tt_aload_n (j := 0) dX10_and_170 rfl ?_
    have hr103 := rk_R (k := 645) hR h0 33 4940
    have ho104 := rk_O (k := 645) hG hR h0 33 4940
    refine gt_gR (id := 645) dX10_and_171 fl_10_20 rfl rfl h0 hA hr103 ?_
    refine tt_iload_n (j := 3) dX10_and_174 rfl ?_
    refine gt_lLv (v := (mj (sg S) (R 645 o0) (x3 : Int32).toNatClampNeg)) dX10_and_175 ho104 hA (rg_in h3) (sg_j (a := (R 645 o0)) (i := (x3 : Int32).toNatClampNeg) (show sg S = (sg S) from rfl)) ?_
    refine tt_lstore (ks := [0, 1, 2, 3, 4, 5, 6]) (L' := [(6, .long (mj (sg S) (R 645 o0) (x3 : Int32).toNatClampNeg)), (0, .ref o0), (1, .int x1), (2, .int x2), (3, .int x3), (4, .int x4), (5, .int x5)]) dX10_and_176 (by decide) rfl ?_
    have hF : Z_X10_and_p135 R (sg S) o0 x1 x2 x3 x4 x5 = Z_X10_and_p178 R (sg S) o0 (x1) (x2) (x3) ((mj (sg S) (R 645 o0) (x3 : Int32).toNatClampNeg)) := by
      exact zl_X10_and_p135_0 q101
    exact tt_loc (ks := [1, 2, 3, 4, 0]) rfl (cz_X10_and_p178 hG (oa_af h0 hA) (rg_w h1) (rg_w h2) (rg_w h3) hR (fun r T x y h => hP r T x y (pv_tr hA h (by decide) (fun v T e => e.trans ((congrArg (fun q9 => Z_X10_and_p178 R q9 o0 (x1) (x2) (x3) ((mj (sg S) (R 645 o0) (x3 : Int32).toNatClampNeg))) (show sg S = (sg S) from rfl)).trans hF.symm)))))
  · skip
    have h105 : Rg 1 1 x4 := rg_ne_lo h4 (⟨by decide, by decide⟩ : Rg 0 0 0) q101
    refine tt_iload (j := 5) dX10_and_140 rfl ?_
    refine tt_if_eq (tgt := 161) dX10_and_142 rfl (fun q106 => ?_) (fun q106 => ?_)
    · skip
      have h107 : Rg 0 0 x5 := rg_eq_l h5 (⟨by decide, by decide⟩ : Rg 0 0 0) q106
      refine tt_aload_n (j := 0) dX10_and_161 rfl ?_
      have hr108 := rk_R (k := 645) hR h0 33 4940
      have ho109 := rk_O (k := 645) hG hR h0 33 4940
      refine gt_gR (id := 645) dX10_and_162 fl_10_20 rfl rfl h0 hA hr108 ?_
      refine tt_iload_n (j := 2) dX10_and_165 rfl ?_
      refine gt_lLv (v := (mj (sg S) (R 645 o0) (x2 : Int32).toNatClampNeg)) dX10_and_166 ho109 hA (rg_in h2) (sg_j (a := (R 645 o0)) (i := (x2 : Int32).toNatClampNeg) (show sg S = (sg S) from rfl)) ?_
      refine tt_goto (tgt := 176) dX10_and_167 rfl ?_
      refine tt_lstore (ks := [0, 1, 2, 3, 4, 5, 6]) (L' := [(6, .long (mj (sg S) (R 645 o0) (x2 : Int32).toNatClampNeg)), (0, .ref o0), (1, .int x1), (2, .int x2), (3, .int x3), (4, .int x4), (5, .int x5)]) dX10_and_176 (by decide) rfl ?_
      have hF : Z_X10_and_p135 R (sg S) o0 x1 x2 x3 x4 x5 = Z_X10_and_p178 R (sg S) o0 (x1) (x2) (x3) ((mj (sg S) (R 645 o0) (x2 : Int32).toNatClampNeg)) := by
        exact zl_X10_and_p135_1 q101 q106
      exact tt_loc (ks := [1, 2, 3, 4, 0]) rfl (cz_X10_and_p178 hG (oa_af h0 hA) (rg_w h1) (rg_w h2) (rg_w h3) hR (fun r T x y h => hP r T x y (pv_tr hA h (by decide) (fun v T e => e.trans ((congrArg (fun q9 => Z_X10_and_p178 R q9 o0 (x1) (x2) (x3) ((mj (sg S) (R 645 o0) (x2 : Int32).toNatClampNeg))) (show sg S = (sg S) from rfl)).trans hF.symm)))))
    · skip
      have h110 : Rg 1 1 x5 := rg_ne_lo h5 (⟨by decide, by decide⟩ : Rg 0 0 0) q106
      refine tt_aload_n (j := 0) dX10_and_145 rfl ?_
      have hr111 := rk_R (k := 645) hR h0 33 4940
      have ho112 := rk_O (k := 645) hG hR h0 33 4940
      refine gt_gR (id := 645) dX10_and_146 fl_10_20 rfl rfl h0 hA hr111 ?_
      refine tt_iload_n (j := 2) dX10_and_149 rfl ?_
      refine gt_lLv (v := (mj (sg S) (R 645 o0) (x2 : Int32).toNatClampNeg)) dX10_and_150 ho112 hA (rg_in h2) (sg_j (a := (R 645 o0)) (i := (x2 : Int32).toNatClampNeg) (show sg S = (sg S) from rfl)) ?_
      refine tt_aload_n (j := 0) dX10_and_151 rfl ?_
      refine gt_gR (id := 645) dX10_and_152 fl_10_20 rfl rfl h0 hA hr111 ?_
      refine tt_iload_n (j := 3) dX10_and_155 rfl ?_
      refine gt_lLv (v := (mj (sg S) (R 645 o0) (x3 : Int32).toNatClampNeg)) dX10_and_156 ho112 hA (rg_in h3) (sg_j (a := (R 645 o0)) (i := (x3 : Int32).toNatClampNeg) (show sg S = (sg S) from rfl)) ?_
      refine tt_lcmp dX10_and_157 ?_
      refine tt_if_ge (tgt := 170) dX10_and_158 rfl (fun q113 => ?_) (fun q113 => ?_)
      · skip
        refine tt_aload_n (j := 0) dX10_and_170 rfl ?_
        refine gt_gR (id := 645) dX10_and_171 fl_10_20 rfl rfl h0 hA hr111 ?_
        refine tt_iload_n (j := 3) dX10_and_174 rfl ?_
        refine gt_lLv (v := (mj (sg S) (R 645 o0) (x3 : Int32).toNatClampNeg)) dX10_and_175 ho112 hA (rg_in h3) (sg_j (a := (R 645 o0)) (i := (x3 : Int32).toNatClampNeg) (show sg S = (sg S) from rfl)) ?_
        refine tt_lstore (ks := [0, 1, 2, 3, 4, 5, 6]) (L' := [(6, .long (mj (sg S) (R 645 o0) (x3 : Int32).toNatClampNeg)), (0, .ref o0), (1, .int x1), (2, .int x2), (3, .int x3), (4, .int x4), (5, .int x5)]) dX10_and_176 (by decide) rfl ?_
        have hF : Z_X10_and_p135 R (sg S) o0 x1 x2 x3 x4 x5 = Z_X10_and_p178 R (sg S) o0 (x1) (x2) (x3) ((mj (sg S) (R 645 o0) (x3 : Int32).toNatClampNeg)) := by
          exact zl_X10_and_p135_3 q101 q106 (Int64.not_lt.mpr (lc_ge_t q113))
        exact tt_loc (ks := [1, 2, 3, 4, 0]) rfl (cz_X10_and_p178 hG (oa_af h0 hA) (rg_w h1) (rg_w h2) (rg_w h3) hR (fun r T x y h => hP r T x y (pv_tr hA h (by decide) (fun v T e => e.trans ((congrArg (fun q9 => Z_X10_and_p178 R q9 o0 (x1) (x2) (x3) ((mj (sg S) (R 645 o0) (x3 : Int32).toNatClampNeg))) (show sg S = (sg S) from rfl)).trans hF.symm)))))
      · skip
        refine tt_aload_n (j := 0) dX10_and_161 rfl ?_
        refine gt_gR (id := 645) dX10_and_162 fl_10_20 rfl rfl h0 hA hr111 ?_
        refine tt_iload_n (j := 2) dX10_and_165 rfl ?_
        refine gt_lLv (v := (mj (sg S) (R 645 o0) (x2 : Int32).toNatClampNeg)) dX10_and_166 ho112 hA (rg_in h2) (sg_j (a := (R 645 o0)) (i := (x2 : Int32).toNatClampNeg) (show sg S = (sg S) from rfl)) ?_
        refine tt_goto (tgt := 176) dX10_and_167 rfl ?_
        refine tt_lstore (ks := [0, 1, 2, 3, 4, 5, 6]) (L' := [(6, .long (mj (sg S) (R 645 o0) (x2 : Int32).toNatClampNeg)), (0, .ref o0), (1, .int x1), (2, .int x2), (3, .int x3), (4, .int x4), (5, .int x5)]) dX10_and_176 (by decide) rfl ?_
        have hF : Z_X10_and_p135 R (sg S) o0 x1 x2 x3 x4 x5 = Z_X10_and_p178 R (sg S) o0 (x1) (x2) (x3) ((mj (sg S) (R 645 o0) (x2 : Int32).toNatClampNeg)) := by
          exact zl_X10_and_p135_2 q101 q106 (lc_ge_f q113)
        exact tt_loc (ks := [1, 2, 3, 4, 0]) rfl (cz_X10_and_p178 hG (oa_af h0 hA) (rg_w h1) (rg_w h2) (rg_w h3) hR (fun r T x y h => hP r T x y (pv_tr hA h (by decide) (fun v T e => e.trans ((congrArg (fun q9 => Z_X10_and_p178 R q9 o0 (x1) (x2) (x3) ((mj (sg S) (R 645 o0) (x2 : Int32).toNatClampNeg))) (show sg S = (sg S) from rfl)).trans hF.symm)))))
def Z_X10_and_p117 (R : Nat → Nat → Nat) (σ : SG) (o0 : Nat) (x1 : Int32) (x2 : Int32) (x3 : Int32) (x4 : Int32) (x5 : Int32) : SG :=
  if x4 = 0 then
    if x5 = 0 then
      (ui σ (R 643 o0) (x1 : Int32).toNatClampNeg 2)
    else
      Z_X10_and_p135 R σ o0 (x1) (x2) (x3) (x4) (x5)
  else
    Z_X10_and_p135 R σ o0 (x1) (x2) (x3) (x4) (x5)
theorem zl_X10_and_p117_0 {R : Nat → Nat → Nat} {σ : SG} {o0 : Nat} {x1 : Int32} {x2 : Int32} {x3 : Int32} {x4 : Int32} {x5 : Int32} (h0 : x4 = 0) (h1 : x5 = 0) : Z_X10_and_p117 R σ o0 x1 x2 x3 x4 x5 = (ui σ (R 643 o0) (x1 : Int32).toNatClampNeg 2) := by unfold Z_X10_and_p117; exact Eq.trans (if_pos h0) (if_pos h1)
theorem zl_X10_and_p117_1 {R : Nat → Nat → Nat} {σ : SG} {o0 : Nat} {x1 : Int32} {x2 : Int32} {x3 : Int32} {x4 : Int32} {x5 : Int32} (h0 : x4 = 0) (h1 : ¬ x5 = 0) : Z_X10_and_p117 R σ o0 x1 x2 x3 x4 x5 = Z_X10_and_p135 R σ o0 (x1) (x2) (x3) (x4) (x5) := by unfold Z_X10_and_p117; exact Eq.trans (if_pos h0) (if_neg h1)
theorem zl_X10_and_p117_2 {R : Nat → Nat → Nat} {σ : SG} {o0 : Nat} {x1 : Int32} {x2 : Int32} {x3 : Int32} {x4 : Int32} {x5 : Int32} (h0 : ¬ x4 = 0) : Z_X10_and_p117 R σ o0 x1 x2 x3 x4 x5 = Z_X10_and_p135 R σ o0 (x1) (x2) (x3) (x4) (x5) := by unfold Z_X10_and_p117; exact if_neg h0
set_option maxHeartbeats 40000000 in
theorem cz_X10_and_p117 {xi : SX} {S : Hp} {E : List Nat} {kc nc : Nat} {P : Po} {o0 : Nat} {x1 : Int32} {x2 : Int32} {x3 : Int32} {x4 : Int32} {x5 : Int32} {R : Nat → Nat → Nat} (hG : GI S E) (h0 : Oa S E 10 0 o0) (h1 : Rg 0 4939 x1) (h2 : Rg 0 4939 x2) (h3 : Rg 0 4939 x3) (h4 : Rg 0 1 x4) (h5 : Rg 0 1 x5) (hR : RK S R) (hP : ∀ r T x y, PV E [9989] S kc nc rV (fun v T => sg T = Z_X10_and_p117 R (sg S) o0 x1 x2 x3 x4 x5) [] r T x y → P r T x y) : TT xi M_X10_and 117 [(0, .ref o0), (1, .int x1), (2, .int x2), (3, .int x3), (4, .int x4), (5, .int x5)] [] S kc nc P := by
  have hA : Af E [9989] S S := af_rf
  refine tt_iload (j := 4) dX10_and_117 rfl ?_
  refine tt_if_ne (tgt := 135) dX10_and_119 rfl (fun q101 => ?_) (fun q101 => ?_)
  · skip
    have h102 : Rg 1 1 x4 := rg_ne_lo h4 (⟨by decide, by decide⟩ : Rg 0 0 0) q101
    have hF : Z_X10_and_p117 R (sg S) o0 x1 x2 x3 x4 x5 = Z_X10_and_p135 R (sg S) o0 (x1) (x2) (x3) (x4) (x5) := by
      exact zl_X10_and_p117_2 q101
    exact tt_loc (ks := [0, 1, 2, 3, 4, 5]) rfl (cz_X10_and_p135 hG (oa_af h0 hA) (rg_w h1) (rg_w h2) (rg_w h3) (rg_w h102) (rg_w h5) hR (fun r T x y h => hP r T x y (pv_tr hA h (by decide) (fun v T e => e.trans ((congrArg (fun q9 => Z_X10_and_p135 R q9 o0 (x1) (x2) (x3) (x4) (x5)) (show sg S = (sg S) from rfl)).trans hF.symm)))))
  · skip
    have h103 : Rg 0 0 x4 := rg_eq_l h4 (⟨by decide, by decide⟩ : Rg 0 0 0) q101
    refine tt_iload (j := 5) dX10_and_122 rfl ?_
    refine tt_if_ne (tgt := 135) dX10_and_124 rfl (fun q104 => ?_) (fun q104 => ?_)
    · skip
      have h105 : Rg 1 1 x5 := rg_ne_lo h5 (⟨by decide, by decide⟩ : Rg 0 0 0) q104
      have hF : Z_X10_and_p117 R (sg S) o0 x1 x2 x3 x4 x5 = Z_X10_and_p135 R (sg S) o0 (x1) (x2) (x3) (x4) (x5) := by
        exact zl_X10_and_p117_1 q101 q104
      exact tt_loc (ks := [0, 1, 2, 3, 4, 5]) rfl (cz_X10_and_p135 hG (oa_af h0 hA) (rg_w h1) (rg_w h2) (rg_w h3) (rg_w h103) (rg_w h105) hR (fun r T x y h => hP r T x y (pv_tr hA h (by decide) (fun v T e => e.trans ((congrArg (fun q9 => Z_X10_and_p135 R q9 o0 (x1) (x2) (x3) (x4) (x5)) (show sg S = (sg S) from rfl)).trans hF.symm)))))
    · skip
      have h106 : Rg 0 0 x5 := rg_eq_l h5 (⟨by decide, by decide⟩ : Rg 0 0 0) q104
      refine tt_aload_n (j := 0) dX10_and_127 rfl ?_
      have hr107 := rk_R (k := 643) hR h0 32 4940
      have ho108 := rk_O (k := 643) hG hR h0 32 4940
      refine gt_gR (id := 643) dX10_and_128 fl_10_13 rfl rfl h0 hA hr107 ?_
      refine tt_iload_n (j := 1) dX10_and_131 rfl ?_
      refine tt_iconst (v := 2) dX10_and_132 rfl ?_
      refine gx_iS dX10_and_133 ho108 hA (Or.inl (by decide)) (rg_in h1) hG (by decide) (show sg S = (sg S) from rfl) (fun S109 hG110 hA111 e112 => ?_)
      have hF : Z_X10_and_p117 R (sg S) o0 x1 x2 x3 x4 x5 = (ui (sg S) (R 643 o0) (x1 : Int32).toNatClampNeg 2) := by
        exact zl_X10_and_p117_0 q101 q104
      exact tt_vreturn dX10_and_134 rfl (hP _ _ _ _ ⟨hG110, hA111, Or.inl ⟨_, rfl, rfl, Eq.trans e112 hF.symm, rfl, rfl⟩⟩)
def Z_X10_and_p89 (R : Nat → Nat → Nat) (σ : SG) (o0 : Nat) (x1 : Int32) (x2 : Int32) (x3 : Int32) (x4 : Int32) : SG :=
  if (mi σ (R 643 o0) (x3 : Int32).toNatClampNeg) = 1 then
    if (mj σ (R 644 o0) (x3 : Int32).toNatClampNeg) < (0 : Int64) then
      Z_X10_and_p117 R σ o0 (x1) (x2) (x3) (x4) (0)
    else
      Z_X10_and_p117 R σ o0 (x1) (x2) (x3) (x4) (1)
  else
    Z_X10_and_p117 R σ o0 (x1) (x2) (x3) (x4) (0)
theorem zl_X10_and_p89_0 {R : Nat → Nat → Nat} {σ : SG} {o0 : Nat} {x1 : Int32} {x2 : Int32} {x3 : Int32} {x4 : Int32} (h0 : (mi σ (R 643 o0) (x3 : Int32).toNatClampNeg) = 1) (h1 : (mj σ (R 644 o0) (x3 : Int32).toNatClampNeg) < (0 : Int64)) : Z_X10_and_p89 R σ o0 x1 x2 x3 x4 = Z_X10_and_p117 R σ o0 (x1) (x2) (x3) (x4) (0) := by unfold Z_X10_and_p89; exact Eq.trans (if_pos h0) (if_pos h1)
theorem zl_X10_and_p89_1 {R : Nat → Nat → Nat} {σ : SG} {o0 : Nat} {x1 : Int32} {x2 : Int32} {x3 : Int32} {x4 : Int32} (h0 : (mi σ (R 643 o0) (x3 : Int32).toNatClampNeg) = 1) (h1 : ¬ (mj σ (R 644 o0) (x3 : Int32).toNatClampNeg) < (0 : Int64)) : Z_X10_and_p89 R σ o0 x1 x2 x3 x4 = Z_X10_and_p117 R σ o0 (x1) (x2) (x3) (x4) (1) := by unfold Z_X10_and_p89; exact Eq.trans (if_pos h0) (if_neg h1)
theorem zl_X10_and_p89_2 {R : Nat → Nat → Nat} {σ : SG} {o0 : Nat} {x1 : Int32} {x2 : Int32} {x3 : Int32} {x4 : Int32} (h0 : ¬ (mi σ (R 643 o0) (x3 : Int32).toNatClampNeg) = 1) : Z_X10_and_p89 R σ o0 x1 x2 x3 x4 = Z_X10_and_p117 R σ o0 (x1) (x2) (x3) (x4) (0) := by unfold Z_X10_and_p89; exact if_neg h0
set_option maxHeartbeats 40000000 in
theorem cz_X10_and_p89 {xi : SX} {S : Hp} {E : List Nat} {kc nc : Nat} {P : Po} {o0 : Nat} {x1 : Int32} {x2 : Int32} {x3 : Int32} {x4 : Int32} {R : Nat → Nat → Nat} (hG : GI S E) (h0 : Oa S E 10 0 o0) (h1 : Rg 0 4939 x1) (h2 : Rg 0 4939 x2) (h3 : Rg 0 4939 x3) (h4 : Rg 0 1 x4) (hR : RK S R) (hP : ∀ r T x y, PV E [9989] S kc nc rV (fun v T => sg T = Z_X10_and_p89 R (sg S) o0 x1 x2 x3 x4) [] r T x y → P r T x y) : TT xi M_X10_and 89 [(0, .ref o0), (1, .int x1), (2, .int x2), (3, .int x3), (4, .int x4)] [] S kc nc P := by
  have hA : Af E [9989] S S := af_rf
  refine tt_aload_n (j := 0) dX10_and_89 rfl ?_
  have hr101 := rk_R (k := 643) hR h0 32 4940
  have ho102 := rk_O (k := 643) hG hR h0 32 4940
  refine gt_gR (id := 643) dX10_and_90 fl_10_13 rfl rfl h0 hA hr101 ?_
  refine tt_iload_n (j := 3) dX10_and_93 rfl ?_
  refine gx_iL (v := (mi (sg S) (R 643 o0) (x3 : Int32).toNatClampNeg)) dX10_and_94 ho102 hA (rg_in h3) (sg_i (a := (R 643 o0)) (i := (x3 : Int32).toNatClampNeg) (show sg S = (sg S) from rfl)) ?_
  refine tt_iconst (v := 1) dX10_and_95 rfl ?_
  refine tt_icmp_ne (tgt := 114) dX10_and_96 rfl (fun q103 => ?_) (fun q103 => ?_)
  · skip
    refine tt_iconst (v := 0) dX10_and_114 rfl ?_
    refine tt_istore (ks := [0, 1, 2, 3, 4, 5]) (L' := [(5, .int 0), (0, .ref o0), (1, .int x1), (2, .int x2), (3, .int x3), (4, .int x4)]) dX10_and_115 (by decide) rfl ?_
    have hF : Z_X10_and_p89 R (sg S) o0 x1 x2 x3 x4 = Z_X10_and_p117 R (sg S) o0 (x1) (x2) (x3) (x4) (0) := by
      exact zl_X10_and_p89_2 q103
    exact tt_loc (ks := [1, 2, 3, 4, 5, 0]) rfl (cz_X10_and_p117 hG (oa_af h0 hA) (rg_w h1) (rg_w h2) (rg_w h3) (rg_w h4) (rg_w (⟨by decide, by decide⟩ : Rg 0 0 0)) hR (fun r T x y h => hP r T x y (pv_tr hA h (by decide) (fun v T e => e.trans ((congrArg (fun q9 => Z_X10_and_p117 R q9 o0 (x1) (x2) (x3) (x4) (0)) (show sg S = (sg S) from rfl)).trans hF.symm)))))
  · skip
    have h104 : Rg 1 1 (mi (sg S) (R 643 o0) (x3 : Int32).toNatClampNeg) := rg_eq_l (rg_all (mi (sg S) (R 643 o0) (x3 : Int32).toNatClampNeg)) (⟨by decide, by decide⟩ : Rg 1 1 1) q103
    refine tt_aload_n (j := 0) dX10_and_99 rfl ?_
    have hr105 := rk_R (k := 644) hR h0 33 4940
    have ho106 := rk_O (k := 644) hG hR h0 33 4940
    refine gt_gR (id := 644) dX10_and_100 fl_10_16 rfl rfl h0 hA hr105 ?_
    refine tt_iload_n (j := 3) dX10_and_103 rfl ?_
    refine gt_lLv (v := (mj (sg S) (R 644 o0) (x3 : Int32).toNatClampNeg)) dX10_and_104 ho106 hA (rg_in h3) (sg_j (a := (R 644 o0)) (i := (x3 : Int32).toNatClampNeg) (show sg S = (sg S) from rfl)) ?_
    refine tt_lconst (v := 0) dX10_and_105 rfl ?_
    refine tt_lcmp dX10_and_106 ?_
    refine tt_if_lt (tgt := 114) dX10_and_107 rfl (fun q107 => ?_) (fun q107 => ?_)
    · skip
      refine tt_iconst (v := 0) dX10_and_114 rfl ?_
      refine tt_istore (ks := [0, 1, 2, 3, 4, 5]) (L' := [(5, .int 0), (0, .ref o0), (1, .int x1), (2, .int x2), (3, .int x3), (4, .int x4)]) dX10_and_115 (by decide) rfl ?_
      have hF : Z_X10_and_p89 R (sg S) o0 x1 x2 x3 x4 = Z_X10_and_p117 R (sg S) o0 (x1) (x2) (x3) (x4) (0) := by
        exact zl_X10_and_p89_0 q103 (lc_lt_t q107)
      exact tt_loc (ks := [1, 2, 3, 4, 5, 0]) rfl (cz_X10_and_p117 hG (oa_af h0 hA) (rg_w h1) (rg_w h2) (rg_w h3) (rg_w h4) (rg_w (⟨by decide, by decide⟩ : Rg 0 0 0)) hR (fun r T x y h => hP r T x y (pv_tr hA h (by decide) (fun v T e => e.trans ((congrArg (fun q9 => Z_X10_and_p117 R q9 o0 (x1) (x2) (x3) (x4) (0)) (show sg S = (sg S) from rfl)).trans hF.symm)))))
    · skip
      refine tt_iconst (v := 1) dX10_and_110 rfl ?_
      refine tt_goto (tgt := 115) dX10_and_111 rfl ?_
      refine tt_istore (ks := [0, 1, 2, 3, 4, 5]) (L' := [(5, .int 1), (0, .ref o0), (1, .int x1), (2, .int x2), (3, .int x3), (4, .int x4)]) dX10_and_115 (by decide) rfl ?_
      have hF : Z_X10_and_p89 R (sg S) o0 x1 x2 x3 x4 = Z_X10_and_p117 R (sg S) o0 (x1) (x2) (x3) (x4) (1) := by
        exact zl_X10_and_p89_1 q103 (Int64.not_lt.mpr (lc_lt_f q107))
      exact tt_loc (ks := [1, 2, 3, 4, 5, 0]) rfl (cz_X10_and_p117 hG (oa_af h0 hA) (rg_w h1) (rg_w h2) (rg_w h3) (rg_w h4) (rg_w (⟨by decide, by decide⟩ : Rg 1 1 1)) hR (fun r T x y h => hP r T x y (pv_tr hA h (by decide) (fun v T e => e.trans ((congrArg (fun q9 => Z_X10_and_p117 R q9 o0 (x1) (x2) (x3) (x4) (1)) (show sg S = (sg S) from rfl)).trans hF.symm)))))
def Z_X10_and_p61 (R : Nat → Nat → Nat) (σ : SG) (o0 : Nat) (x1 : Int32) (x2 : Int32) (x3 : Int32) : SG :=
  if (mi σ (R 643 o0) (x2 : Int32).toNatClampNeg) = 1 then
    if (mj σ (R 644 o0) (x2 : Int32).toNatClampNeg) < (0 : Int64) then
      Z_X10_and_p89 R σ o0 (x1) (x2) (x3) (0)
    else
      Z_X10_and_p89 R σ o0 (x1) (x2) (x3) (1)
  else
    Z_X10_and_p89 R σ o0 (x1) (x2) (x3) (0)
theorem zl_X10_and_p61_0 {R : Nat → Nat → Nat} {σ : SG} {o0 : Nat} {x1 : Int32} {x2 : Int32} {x3 : Int32} (h0 : (mi σ (R 643 o0) (x2 : Int32).toNatClampNeg) = 1) (h1 : (mj σ (R 644 o0) (x2 : Int32).toNatClampNeg) < (0 : Int64)) : Z_X10_and_p61 R σ o0 x1 x2 x3 = Z_X10_and_p89 R σ o0 (x1) (x2) (x3) (0) := by unfold Z_X10_and_p61; exact Eq.trans (if_pos h0) (if_pos h1)
theorem zl_X10_and_p61_1 {R : Nat → Nat → Nat} {σ : SG} {o0 : Nat} {x1 : Int32} {x2 : Int32} {x3 : Int32} (h0 : (mi σ (R 643 o0) (x2 : Int32).toNatClampNeg) = 1) (h1 : ¬ (mj σ (R 644 o0) (x2 : Int32).toNatClampNeg) < (0 : Int64)) : Z_X10_and_p61 R σ o0 x1 x2 x3 = Z_X10_and_p89 R σ o0 (x1) (x2) (x3) (1) := by unfold Z_X10_and_p61; exact Eq.trans (if_pos h0) (if_neg h1)
theorem zl_X10_and_p61_2 {R : Nat → Nat → Nat} {σ : SG} {o0 : Nat} {x1 : Int32} {x2 : Int32} {x3 : Int32} (h0 : ¬ (mi σ (R 643 o0) (x2 : Int32).toNatClampNeg) = 1) : Z_X10_and_p61 R σ o0 x1 x2 x3 = Z_X10_and_p89 R σ o0 (x1) (x2) (x3) (0) := by unfold Z_X10_and_p61; exact if_neg h0
set_option maxHeartbeats 40000000 in
theorem cz_X10_and_p61 {xi : SX} {S : Hp} {E : List Nat} {kc nc : Nat} {P : Po} {o0 : Nat} {x1 : Int32} {x2 : Int32} {x3 : Int32} {R : Nat → Nat → Nat} (hG : GI S E) (h0 : Oa S E 10 0 o0) (h1 : Rg 0 4939 x1) (h2 : Rg 0 4939 x2) (h3 : Rg 0 4939 x3) (hR : RK S R) (hP : ∀ r T x y, PV E [9989] S kc nc rV (fun v T => sg T = Z_X10_and_p61 R (sg S) o0 x1 x2 x3) [] r T x y → P r T x y) : TT xi M_X10_and 61 [(0, .ref o0), (1, .int x1), (2, .int x2), (3, .int x3)] [] S kc nc P := by
  have hA : Af E [9989] S S := af_rf
  refine tt_aload_n (j := 0) dX10_and_61 rfl ?_
  have hr101 := rk_R (k := 643) hR h0 32 4940
  have ho102 := rk_O (k := 643) hG hR h0 32 4940
  refine gt_gR (id := 643) dX10_and_62 fl_10_13 rfl rfl h0 hA hr101 ?_
  refine tt_iload_n (j := 2) dX10_and_65 rfl ?_
  refine gx_iL (v := (mi (sg S) (R 643 o0) (x2 : Int32).toNatClampNeg)) dX10_and_66 ho102 hA (rg_in h2) (sg_i (a := (R 643 o0)) (i := (x2 : Int32).toNatClampNeg) (show sg S = (sg S) from rfl)) ?_
  refine tt_iconst (v := 1) dX10_and_67 rfl ?_
  refine tt_icmp_ne (tgt := 86) dX10_and_68 rfl (fun q103 => ?_) (fun q103 => ?_)
  · skip
    refine tt_iconst (v := 0) dX10_and_86 rfl ?_
    refine tt_istore (ks := [0, 1, 2, 3, 4]) (L' := [(4, .int 0), (0, .ref o0), (1, .int x1), (2, .int x2), (3, .int x3)]) dX10_and_87 (by decide) rfl ?_
    have hF : Z_X10_and_p61 R (sg S) o0 x1 x2 x3 = Z_X10_and_p89 R (sg S) o0 (x1) (x2) (x3) (0) := by
      exact zl_X10_and_p61_2 q103
    exact tt_loc (ks := [1, 2, 3, 4, 0]) rfl (cz_X10_and_p89 hG (oa_af h0 hA) (rg_w h1) (rg_w h2) (rg_w h3) (rg_w (⟨by decide, by decide⟩ : Rg 0 0 0)) hR (fun r T x y h => hP r T x y (pv_tr hA h (by decide) (fun v T e => e.trans ((congrArg (fun q9 => Z_X10_and_p89 R q9 o0 (x1) (x2) (x3) (0)) (show sg S = (sg S) from rfl)).trans hF.symm)))))
  · skip
    have h104 : Rg 1 1 (mi (sg S) (R 643 o0) (x2 : Int32).toNatClampNeg) := rg_eq_l (rg_all (mi (sg S) (R 643 o0) (x2 : Int32).toNatClampNeg)) (⟨by decide, by decide⟩ : Rg 1 1 1) q103
    refine tt_aload_n (j := 0) dX10_and_71 rfl ?_
    have hr105 := rk_R (k := 644) hR h0 33 4940
    have ho106 := rk_O (k := 644) hG hR h0 33 4940
    refine gt_gR (id := 644) dX10_and_72 fl_10_16 rfl rfl h0 hA hr105 ?_
    refine tt_iload_n (j := 2) dX10_and_75 rfl ?_
    refine gt_lLv (v := (mj (sg S) (R 644 o0) (x2 : Int32).toNatClampNeg)) dX10_and_76 ho106 hA (rg_in h2) (sg_j (a := (R 644 o0)) (i := (x2 : Int32).toNatClampNeg) (show sg S = (sg S) from rfl)) ?_
    refine tt_lconst (v := 0) dX10_and_77 rfl ?_
    refine tt_lcmp dX10_and_78 ?_
    refine tt_if_lt (tgt := 86) dX10_and_79 rfl (fun q107 => ?_) (fun q107 => ?_)
    · skip
      refine tt_iconst (v := 0) dX10_and_86 rfl ?_
      refine tt_istore (ks := [0, 1, 2, 3, 4]) (L' := [(4, .int 0), (0, .ref o0), (1, .int x1), (2, .int x2), (3, .int x3)]) dX10_and_87 (by decide) rfl ?_
      have hF : Z_X10_and_p61 R (sg S) o0 x1 x2 x3 = Z_X10_and_p89 R (sg S) o0 (x1) (x2) (x3) (0) := by
        exact zl_X10_and_p61_0 q103 (lc_lt_t q107)
      exact tt_loc (ks := [1, 2, 3, 4, 0]) rfl (cz_X10_and_p89 hG (oa_af h0 hA) (rg_w h1) (rg_w h2) (rg_w h3) (rg_w (⟨by decide, by decide⟩ : Rg 0 0 0)) hR (fun r T x y h => hP r T x y (pv_tr hA h (by decide) (fun v T e => e.trans ((congrArg (fun q9 => Z_X10_and_p89 R q9 o0 (x1) (x2) (x3) (0)) (show sg S = (sg S) from rfl)).trans hF.symm)))))
    · skip
      refine tt_iconst (v := 1) dX10_and_82 rfl ?_
      refine tt_goto (tgt := 87) dX10_and_83 rfl ?_
      refine tt_istore (ks := [0, 1, 2, 3, 4]) (L' := [(4, .int 1), (0, .ref o0), (1, .int x1), (2, .int x2), (3, .int x3)]) dX10_and_87 (by decide) rfl ?_
      have hF : Z_X10_and_p61 R (sg S) o0 x1 x2 x3 = Z_X10_and_p89 R (sg S) o0 (x1) (x2) (x3) (1) := by
        exact zl_X10_and_p61_1 q103 (Int64.not_lt.mpr (lc_lt_f q107))
      exact tt_loc (ks := [1, 2, 3, 4, 0]) rfl (cz_X10_and_p89 hG (oa_af h0 hA) (rg_w h1) (rg_w h2) (rg_w h3) (rg_w (⟨by decide, by decide⟩ : Rg 1 1 1)) hR (fun r T x y h => hP r T x y (pv_tr hA h (by decide) (fun v T e => e.trans ((congrArg (fun q9 => Z_X10_and_p89 R q9 o0 (x1) (x2) (x3) (1)) (show sg S = (sg S) from rfl)).trans hF.symm)))))
def Z_X10_and (R : Nat → Nat → Nat) (σ : SG) (o0 : Nat) (x1 : Int32) (x2 : Int32) (x3 : Int32) : SG :=
  if (mi σ (R 643 o0) (x2 : Int32).toNatClampNeg) = 0 then
    (ui σ (R 643 o0) (x1 : Int32).toNatClampNeg 0)
  else
    if (mi σ (R 643 o0) (x3 : Int32).toNatClampNeg) = 0 then
      (ui σ (R 643 o0) (x1 : Int32).toNatClampNeg 0)
    else
      if (Z_X10_isOne R σ o0 (x2)) = 0 then
        Z_X10_and_p61 R σ o0 (x1) (x2) (x3)
      else
        if (Z_X10_isOne R σ o0 (x3)) = 0 then
          Z_X10_and_p61 R σ o0 (x1) (x2) (x3)
        else
          let d129 := Z_X10_one R σ o0 (x1) (((mj σ (R 644 o0) (x2 : Int32).toNatClampNeg) &&& (mj σ (R 644 o0) (x3 : Int32).toNatClampNeg)))
          d129
theorem zl_X10_and_0 {R : Nat → Nat → Nat} {σ : SG} {o0 : Nat} {x1 : Int32} {x2 : Int32} {x3 : Int32} (h0 : (mi σ (R 643 o0) (x2 : Int32).toNatClampNeg) = 0) : Z_X10_and R σ o0 x1 x2 x3 = (ui σ (R 643 o0) (x1 : Int32).toNatClampNeg 0) := by unfold Z_X10_and; exact if_pos h0
theorem zl_X10_and_1 {R : Nat → Nat → Nat} {σ : SG} {o0 : Nat} {x1 : Int32} {x2 : Int32} {x3 : Int32} (h0 : ¬ (mi σ (R 643 o0) (x2 : Int32).toNatClampNeg) = 0) (h1 : (mi σ (R 643 o0) (x3 : Int32).toNatClampNeg) = 0) : Z_X10_and R σ o0 x1 x2 x3 = (ui σ (R 643 o0) (x1 : Int32).toNatClampNeg 0) := by unfold Z_X10_and; exact Eq.trans (if_neg h0) (if_pos h1)
theorem zl_X10_and_2 {R : Nat → Nat → Nat} {σ : SG} {o0 : Nat} {x1 : Int32} {x2 : Int32} {x3 : Int32} (h0 : ¬ (mi σ (R 643 o0) (x2 : Int32).toNatClampNeg) = 0) (h1 : ¬ (mi σ (R 643 o0) (x3 : Int32).toNatClampNeg) = 0) (h2 : (Z_X10_isOne R σ o0 (x2)) = 0) : Z_X10_and R σ o0 x1 x2 x3 = Z_X10_and_p61 R σ o0 (x1) (x2) (x3) := by unfold Z_X10_and; exact Eq.trans (if_neg h0) (Eq.trans (if_neg h1) (if_pos h2))
theorem zl_X10_and_3 {R : Nat → Nat → Nat} {σ : SG} {o0 : Nat} {x1 : Int32} {x2 : Int32} {x3 : Int32} (h0 : ¬ (mi σ (R 643 o0) (x2 : Int32).toNatClampNeg) = 0) (h1 : ¬ (mi σ (R 643 o0) (x3 : Int32).toNatClampNeg) = 0) (h2 : ¬ (Z_X10_isOne R σ o0 (x2)) = 0) (h3 : (Z_X10_isOne R σ o0 (x3)) = 0) : Z_X10_and R σ o0 x1 x2 x3 = Z_X10_and_p61 R σ o0 (x1) (x2) (x3) := by unfold Z_X10_and; exact Eq.trans (if_neg h0) (Eq.trans (if_neg h1) (Eq.trans (if_neg h2) (if_pos h3)))
theorem zl_X10_and_4 {R : Nat → Nat → Nat} {σ : SG} {o0 : Nat} {x1 : Int32} {x2 : Int32} {x3 : Int32} (h0 : ¬ (mi σ (R 643 o0) (x2 : Int32).toNatClampNeg) = 0) (h1 : ¬ (mi σ (R 643 o0) (x3 : Int32).toNatClampNeg) = 0) (h2 : ¬ (Z_X10_isOne R σ o0 (x2)) = 0) (h3 : ¬ (Z_X10_isOne R σ o0 (x3)) = 0) : Z_X10_and R σ o0 x1 x2 x3 = (Z_X10_one R σ o0 (x1) (((mj σ (R 644 o0) (x2 : Int32).toNatClampNeg) &&& (mj σ (R 644 o0) (x3 : Int32).toNatClampNeg)))) := by unfold Z_X10_and; exact Eq.trans (if_neg h0) (Eq.trans (if_neg h1) (Eq.trans (if_neg h2) (if_neg h3)))
set_option maxHeartbeats 40000000 in
theorem cz_X10_and {xi : SX} {S : Hp} {E : List Nat} {kc nc : Nat} {P : Po} {o0 : Nat} {x1 : Int32} {x2 : Int32} {x3 : Int32} {R : Nat → Nat → Nat} (hG : GI S E) (h0 : Oa S E 10 0 o0) (h1 : Rg 0 4939 x1) (h2 : Rg 0 4939 x2) (h3 : Rg 0 4939 x3) (hR : RK S R) (hP : ∀ r T x y, PV E [9989] S kc nc rV (fun v T => sg T = Z_X10_and R (sg S) o0 x1 x2 x3) [] r T x y → P r T x y) : TT xi M_X10_and 0 [(0, .ref o0), (1, .int x1), (2, .int x2), (3, .int x3)] [] S kc nc P := by
  have hA : Af E [9989] S S := af_rf
  refine tt_aload_n (j := 0) dX10_and_0 rfl ?_
  have hr101 := rk_R (k := 643) hR h0 32 4940
  have ho102 := rk_O (k := 643) hG hR h0 32 4940
  refine gt_gR (id := 643) dX10_and_1 fl_10_13 rfl rfl h0 hA hr101 ?_
  refine tt_iload_n (j := 2) dX10_and_4 rfl ?_
  refine gx_iL (v := (mi (sg S) (R 643 o0) (x2 : Int32).toNatClampNeg)) dX10_and_5 ho102 hA (rg_in h2) (sg_i (a := (R 643 o0)) (i := (x2 : Int32).toNatClampNeg) (show sg S = (sg S) from rfl)) ?_
  refine tt_if_eq (tgt := 18) dX10_and_6 rfl (fun q103 => ?_) (fun q103 => ?_)
  · skip
    have h104 : Rg 0 0 (mi (sg S) (R 643 o0) (x2 : Int32).toNatClampNeg) := rg_eq_l (rg_all (mi (sg S) (R 643 o0) (x2 : Int32).toNatClampNeg)) (⟨by decide, by decide⟩ : Rg 0 0 0) q103
    refine tt_aload_n (j := 0) dX10_and_18 rfl ?_
    refine gt_gR (id := 643) dX10_and_19 fl_10_13 rfl rfl h0 hA hr101 ?_
    refine tt_iload_n (j := 1) dX10_and_22 rfl ?_
    refine tt_iconst (v := 0) dX10_and_23 rfl ?_
    refine gx_iS dX10_and_24 ho102 hA (Or.inl (by decide)) (rg_in h1) hG (by decide) (show sg S = (sg S) from rfl) (fun S105 hG106 hA107 e108 => ?_)
    have hF : Z_X10_and R (sg S) o0 x1 x2 x3 = (ui (sg S) (R 643 o0) (x1 : Int32).toNatClampNeg 0) := by
      exact zl_X10_and_0 q103
    exact tt_vreturn dX10_and_25 rfl (hP _ _ _ _ ⟨hG106, hA107, Or.inl ⟨_, rfl, rfl, Eq.trans e108 hF.symm, rfl, rfl⟩⟩)
  · skip
    refine tt_aload_n (j := 0) dX10_and_9 rfl ?_
    refine gt_gR (id := 643) dX10_and_10 fl_10_13 rfl rfl h0 hA hr101 ?_
    refine tt_iload_n (j := 3) dX10_and_13 rfl ?_
    refine gx_iL (v := (mi (sg S) (R 643 o0) (x3 : Int32).toNatClampNeg)) dX10_and_14 ho102 hA (rg_in h3) (sg_i (a := (R 643 o0)) (i := (x3 : Int32).toNatClampNeg) (show sg S = (sg S) from rfl)) ?_
    refine tt_if_ne (tgt := 26) dX10_and_15 rfl (fun q109 => ?_) (fun q109 => ?_)
    · skip
      refine tt_aload_n (j := 0) dX10_and_26 rfl ?_
      refine tt_iload_n (j := 2) dX10_and_27 rfl ?_
      refine gt_VIp (As := [.int x2]) dX10_and_28 ca_X10_162 ⟨by decide, by decide⟩ h0 hA rfl (Nat.le_of_ble_eq_true rfl) (Nat.le_of_ble_eq_true rfl) (by decide) (cz_X10_isOne hG (oa_af h0 hA) (rg_w h2) hR (fun _ _ _ _ h => h)) rfl (fun _ h => nomatch h) (fun _ _ q => q.1) (fun x110 h111 hx112 => ?_)
      obtain rfl : Z_X10_isOne R (sg S) o0 (x2) = x110 := ((ei_w hx112.2).trans (congrArg (fun q9 => Z_X10_isOne R q9 o0 (x2)) (show sg S = (sg S) from rfl))).symm
      refine tt_if_eq (tgt := 61) dX10_and_31 rfl (fun q113 => ?_) (fun q113 => ?_)
      · skip
        have h114 : Rg 0 0 (Z_X10_isOne R (sg S) o0 (x2)) := rg_eq_l h111 (⟨by decide, by decide⟩ : Rg 0 0 0) q113
        have hF : Z_X10_and R (sg S) o0 x1 x2 x3 = Z_X10_and_p61 R (sg S) o0 (x1) (x2) (x3) := by
          exact zl_X10_and_2 q103 q109 q113
        exact tt_loc (ks := [0, 1, 2, 3]) rfl (cz_X10_and_p61 hG (oa_af h0 hA) (rg_w h1) (rg_w h2) (rg_w h3) hR (fun r T x y h => hP r T x y (pv_tr hA h (by decide) (fun v T e => e.trans ((congrArg (fun q9 => Z_X10_and_p61 R q9 o0 (x1) (x2) (x3)) (show sg S = (sg S) from rfl)).trans hF.symm)))))
      · skip
        have h115 : Rg 1 1 (Z_X10_isOne R (sg S) o0 (x2)) := rg_ne_lo h111 (⟨by decide, by decide⟩ : Rg 0 0 0) q113
        refine tt_aload_n (j := 0) dX10_and_34 rfl ?_
        refine tt_iload_n (j := 3) dX10_and_35 rfl ?_
        refine gt_VIp (As := [.int x3]) dX10_and_36 ca_X10_162 ⟨by decide, by decide⟩ h0 hA rfl (Nat.le_of_ble_eq_true rfl) (Nat.le_of_ble_eq_true rfl) (by decide) (cz_X10_isOne hG (oa_af h0 hA) (rg_w h3) hR (fun _ _ _ _ h => h)) rfl (fun _ h => nomatch h) (fun _ _ q => q.1) (fun x116 h117 hx118 => ?_)
        obtain rfl : Z_X10_isOne R (sg S) o0 (x3) = x116 := ((ei_w hx118.2).trans (congrArg (fun q9 => Z_X10_isOne R q9 o0 (x3)) (show sg S = (sg S) from rfl))).symm
        refine tt_if_eq (tgt := 61) dX10_and_39 rfl (fun q119 => ?_) (fun q119 => ?_)
        · skip
          have h120 : Rg 0 0 (Z_X10_isOne R (sg S) o0 (x3)) := rg_eq_l h117 (⟨by decide, by decide⟩ : Rg 0 0 0) q119
          have hF : Z_X10_and R (sg S) o0 x1 x2 x3 = Z_X10_and_p61 R (sg S) o0 (x1) (x2) (x3) := by
            exact zl_X10_and_3 q103 q109 q113 q119
          exact tt_loc (ks := [0, 1, 2, 3]) rfl (cz_X10_and_p61 hG (oa_af h0 hA) (rg_w h1) (rg_w h2) (rg_w h3) hR (fun r T x y h => hP r T x y (pv_tr hA h (by decide) (fun v T e => e.trans ((congrArg (fun q9 => Z_X10_and_p61 R q9 o0 (x1) (x2) (x3)) (show sg S = (sg S) from rfl)).trans hF.symm)))))
        · skip
          have h121 : Rg 1 1 (Z_X10_isOne R (sg S) o0 (x3)) := rg_ne_lo h117 (⟨by decide, by decide⟩ : Rg 0 0 0) q119
          refine tt_aload_n (j := 0) dX10_and_42 rfl ?_
          refine tt_iload_n (j := 1) dX10_and_43 rfl ?_
          refine tt_aload_n (j := 0) dX10_and_44 rfl ?_
          have hr122 := rk_R (k := 644) hR h0 33 4940
          have ho123 := rk_O (k := 644) hG hR h0 33 4940
          refine gt_gR (id := 644) dX10_and_45 fl_10_16 rfl rfl h0 hA hr122 ?_
          refine tt_iload_n (j := 2) dX10_and_48 rfl ?_
          refine gt_lLv (v := (mj (sg S) (R 644 o0) (x2 : Int32).toNatClampNeg)) dX10_and_49 ho123 hA (rg_in h2) (sg_j (a := (R 644 o0)) (i := (x2 : Int32).toNatClampNeg) (show sg S = (sg S) from rfl)) ?_
          refine tt_aload_n (j := 0) dX10_and_50 rfl ?_
          refine gt_gR (id := 644) dX10_and_51 fl_10_16 rfl rfl h0 hA hr122 ?_
          refine tt_iload_n (j := 3) dX10_and_54 rfl ?_
          refine gt_lLv (v := (mj (sg S) (R 644 o0) (x3 : Int32).toNatClampNeg)) dX10_and_55 ho123 hA (rg_in h3) (sg_j (a := (R 644 o0)) (i := (x3 : Int32).toNatClampNeg) (show sg S = (sg S) from rfl)) ?_
          refine tt_land dX10_and_56 ?_
          refine gt_Vv (As := [.int x1, .long ((mj (sg S) (R 644 o0) (x2 : Int32).toNatClampNeg) &&& (mj (sg S) (R 644 o0) (x3 : Int32).toNatClampNeg))]) dX10_and_57 ca_X10_193 ⟨by decide, by decide⟩ h0 hA rfl (Nat.le_of_ble_eq_true rfl) (Nat.le_of_ble_eq_true rfl) (by decide) (cz_X10_one hG (oa_af h0 hA) (rg_w h1) hR (fun _ _ _ _ h => h)) rfl (fun _ h => nomatch h) (fun S124 hx128 hG125 hB126 hA127 => ?_)
          obtain ⟨d129, hd130⟩ : ∃ q, Z_X10_one R (sg S) o0 (x1) (((mj (sg S) (R 644 o0) (x2 : Int32).toNatClampNeg) &&& (mj (sg S) (R 644 o0) (x3 : Int32).toNatClampNeg))) = q := ⟨_, rfl⟩
          have hq131 := (congrArg (fun q9 => Z_X10_one R q9 o0 (x1) (((mj (sg S) (R 644 o0) (x2 : Int32).toNatClampNeg) &&& (mj (sg S) (R 644 o0) (x3 : Int32).toNatClampNeg)))) (show sg S = (sg S) from rfl)).trans hd130
          have hs132 := hx128.trans hq131
          have hF : Z_X10_and R (sg S) o0 x1 x2 x3 = d129 := by
            subst hd130
            exact zl_X10_and_4 q103 q109 q113 q119
          exact tt_vreturn dX10_and_60 rfl (hP _ _ _ _ ⟨hG125, hA127, Or.inl ⟨_, rfl, rfl, Eq.trans hs132 hF.symm, rfl, rfl⟩⟩)
    · skip
      have h133 : Rg 0 0 (mi (sg S) (R 643 o0) (x3 : Int32).toNatClampNeg) := rg_eq_l (rg_all (mi (sg S) (R 643 o0) (x3 : Int32).toNatClampNeg)) (⟨by decide, by decide⟩ : Rg 0 0 0) q109
      refine tt_aload_n (j := 0) dX10_and_18 rfl ?_
      refine gt_gR (id := 643) dX10_and_19 fl_10_13 rfl rfl h0 hA hr101 ?_
      refine tt_iload_n (j := 1) dX10_and_22 rfl ?_
      refine tt_iconst (v := 0) dX10_and_23 rfl ?_
      refine gx_iS dX10_and_24 ho102 hA (Or.inl (by decide)) (rg_in h1) hG (by decide) (show sg S = (sg S) from rfl) (fun S134 hG135 hA136 e137 => ?_)
      have hF : Z_X10_and R (sg S) o0 x1 x2 x3 = (ui (sg S) (R 643 o0) (x1 : Int32).toNatClampNeg 0) := by
        exact zl_X10_and_1 q103 q109
      exact tt_vreturn dX10_and_25 rfl (hP _ _ _ _ ⟨hG135, hA136, Or.inl ⟨_, rfl, rfl, Eq.trans e137 hF.symm, rfl, rfl⟩⟩)
def Z_X10_shiftDown (R : Nat → Nat → Nat) (σ : SG) (o0 : Nat) (x1 : Int32) (x2 : Int32) (x3 : Int32) : SG :=
  if x3 = 0 then
    let d108 := Z_X10_copy R σ o0 (x1) (x2)
    d108
  else
    if (mi σ (R 643 o0) (x2 : Int32).toNatClampNeg) = 0 then
      let d173 := Z_X10_copy R σ o0 (x1) (x2)
      d173
    else
      if (mi σ (R 643 o0) (x2 : Int32).toNatClampNeg) = 2 then
        let d163 := Z_X10_make R σ o0 (x1) (1) (((-((1 <<< (((63 - x3) : Int32).toInt64 &&& 63)) - 1)) - 1)) (((1 <<< (((63 - x3) : Int32).toInt64 &&& 63)) - 1)) (1)
        d163
      else
        if ((mj σ (R 646 o0) (x2 : Int32).toNatClampNeg) &&& ((1 <<< ((x3 : Int32).toInt64 &&& 63)) - 1)) = (0 : Int64) then
          if ((mj σ (R 644 o0) (x2 : Int32).toNatClampNeg) &&& ((1 <<< ((x3 : Int32).toInt64 &&& 63)) - 1)) = (0 : Int64) then
            let d153 := Z_X10_make R σ o0 (x1) (1) (((mj σ (R 644 o0) (x2 : Int32).toNatClampNeg) >>> ((x3 : Int32).toInt64 &&& 63))) (((mj σ (R 645 o0) (x2 : Int32).toNatClampNeg) >>> ((x3 : Int32).toInt64 &&& 63))) (((mj σ (R 646 o0) (x2 : Int32).toNatClampNeg) >>> ((x3 : Int32).toInt64 &&& 63)))
            d153
          else
            let d142 := Z_X10_make R σ o0 (x1) (1) (((mj σ (R 644 o0) (x2 : Int32).toNatClampNeg) >>> ((x3 : Int32).toInt64 &&& 63))) (((mj σ (R 645 o0) (x2 : Int32).toNatClampNeg) >>> ((x3 : Int32).toInt64 &&& 63))) (1)
            d142
        else
          let d128 := Z_X10_make R σ o0 (x1) (1) (((mj σ (R 644 o0) (x2 : Int32).toNatClampNeg) >>> ((x3 : Int32).toInt64 &&& 63))) (((mj σ (R 645 o0) (x2 : Int32).toNatClampNeg) >>> ((x3 : Int32).toInt64 &&& 63))) (1)
          d128
theorem zl_X10_shiftDown_0 {R : Nat → Nat → Nat} {σ : SG} {o0 : Nat} {x1 : Int32} {x2 : Int32} {x3 : Int32} (h0 : x3 = 0) : Z_X10_shiftDown R σ o0 x1 x2 x3 = (Z_X10_copy R σ o0 (x1) (x2)) := by unfold Z_X10_shiftDown; exact if_pos h0
theorem zl_X10_shiftDown_1 {R : Nat → Nat → Nat} {σ : SG} {o0 : Nat} {x1 : Int32} {x2 : Int32} {x3 : Int32} (h0 : ¬ x3 = 0) (h1 : (mi σ (R 643 o0) (x2 : Int32).toNatClampNeg) = 0) : Z_X10_shiftDown R σ o0 x1 x2 x3 = (Z_X10_copy R σ o0 (x1) (x2)) := by unfold Z_X10_shiftDown; exact Eq.trans (if_neg h0) (if_pos h1)
theorem zl_X10_shiftDown_2 {R : Nat → Nat → Nat} {σ : SG} {o0 : Nat} {x1 : Int32} {x2 : Int32} {x3 : Int32} (h0 : ¬ x3 = 0) (h1 : ¬ (mi σ (R 643 o0) (x2 : Int32).toNatClampNeg) = 0) (h2 : (mi σ (R 643 o0) (x2 : Int32).toNatClampNeg) = 2) : Z_X10_shiftDown R σ o0 x1 x2 x3 = (Z_X10_make R σ o0 (x1) (1) (((-((1 <<< (((63 - x3) : Int32).toInt64 &&& 63)) - 1)) - 1)) (((1 <<< (((63 - x3) : Int32).toInt64 &&& 63)) - 1)) (1)) := by unfold Z_X10_shiftDown; exact Eq.trans (if_neg h0) (Eq.trans (if_neg h1) (if_pos h2))
theorem zl_X10_shiftDown_3 {R : Nat → Nat → Nat} {σ : SG} {o0 : Nat} {x1 : Int32} {x2 : Int32} {x3 : Int32} (h0 : ¬ x3 = 0) (h1 : ¬ (mi σ (R 643 o0) (x2 : Int32).toNatClampNeg) = 0) (h2 : ¬ (mi σ (R 643 o0) (x2 : Int32).toNatClampNeg) = 2) (h3 : ((mj σ (R 646 o0) (x2 : Int32).toNatClampNeg) &&& ((1 <<< ((x3 : Int32).toInt64 &&& 63)) - 1)) = (0 : Int64)) (h4 : ((mj σ (R 644 o0) (x2 : Int32).toNatClampNeg) &&& ((1 <<< ((x3 : Int32).toInt64 &&& 63)) - 1)) = (0 : Int64)) : Z_X10_shiftDown R σ o0 x1 x2 x3 = (Z_X10_make R σ o0 (x1) (1) (((mj σ (R 644 o0) (x2 : Int32).toNatClampNeg) >>> ((x3 : Int32).toInt64 &&& 63))) (((mj σ (R 645 o0) (x2 : Int32).toNatClampNeg) >>> ((x3 : Int32).toInt64 &&& 63))) (((mj σ (R 646 o0) (x2 : Int32).toNatClampNeg) >>> ((x3 : Int32).toInt64 &&& 63)))) := by unfold Z_X10_shiftDown; exact Eq.trans (if_neg h0) (Eq.trans (if_neg h1) (Eq.trans (if_neg h2) (Eq.trans (if_pos h3) (if_pos h4))))
theorem zl_X10_shiftDown_4 {R : Nat → Nat → Nat} {σ : SG} {o0 : Nat} {x1 : Int32} {x2 : Int32} {x3 : Int32} (h0 : ¬ x3 = 0) (h1 : ¬ (mi σ (R 643 o0) (x2 : Int32).toNatClampNeg) = 0) (h2 : ¬ (mi σ (R 643 o0) (x2 : Int32).toNatClampNeg) = 2) (h3 : ((mj σ (R 646 o0) (x2 : Int32).toNatClampNeg) &&& ((1 <<< ((x3 : Int32).toInt64 &&& 63)) - 1)) = (0 : Int64)) (h4 : ¬ ((mj σ (R 644 o0) (x2 : Int32).toNatClampNeg) &&& ((1 <<< ((x3 : Int32).toInt64 &&& 63)) - 1)) = (0 : Int64)) : Z_X10_shiftDown R σ o0 x1 x2 x3 = (Z_X10_make R σ o0 (x1) (1) (((mj σ (R 644 o0) (x2 : Int32).toNatClampNeg) >>> ((x3 : Int32).toInt64 &&& 63))) (((mj σ (R 645 o0) (x2 : Int32).toNatClampNeg) >>> ((x3 : Int32).toInt64 &&& 63))) (1)) := by unfold Z_X10_shiftDown; exact Eq.trans (if_neg h0) (Eq.trans (if_neg h1) (Eq.trans (if_neg h2) (Eq.trans (if_pos h3) (if_neg h4))))
theorem zl_X10_shiftDown_5 {R : Nat → Nat → Nat} {σ : SG} {o0 : Nat} {x1 : Int32} {x2 : Int32} {x3 : Int32} (h0 : ¬ x3 = 0) (h1 : ¬ (mi σ (R 643 o0) (x2 : Int32).toNatClampNeg) = 0) (h2 : ¬ (mi σ (R 643 o0) (x2 : Int32).toNatClampNeg) = 2) (h3 : ¬ ((mj σ (R 646 o0) (x2 : Int32).toNatClampNeg) &&& ((1 <<< ((x3 : Int32).toInt64 &&& 63)) - 1)) = (0 : Int64)) : Z_X10_shiftDown R σ o0 x1 x2 x3 = (Z_X10_make R σ o0 (x1) (1) (((mj σ (R 644 o0) (x2 : Int32).toNatClampNeg) >>> ((x3 : Int32).toInt64 &&& 63))) (((mj σ (R 645 o0) (x2 : Int32).toNatClampNeg) >>> ((x3 : Int32).toInt64 &&& 63))) (1)) := by unfold Z_X10_shiftDown; exact Eq.trans (if_neg h0) (Eq.trans (if_neg h1) (Eq.trans (if_neg h2) (if_neg h3)))
set_option maxHeartbeats 40000000 in
theorem cz_X10_shiftDown {xi : SX} {S : Hp} {E : List Nat} {kc nc : Nat} {P : Po} {o0 : Nat} {x1 : Int32} {x2 : Int32} {x3 : Int32} {R : Nat → Nat → Nat} (hG : GI S E) (h0 : Oa S E 10 0 o0) (h1 : Rg 0 4939 x1) (h2 : Rg 0 4939 x2) (hR : RK S R) (hP : ∀ r T x y, PV E [9989] S kc nc rV (fun v T => sg T = Z_X10_shiftDown R (sg S) o0 x1 x2 x3) [] r T x y → P r T x y) : TT xi M_X10_shiftDown 0 [(0, .ref o0), (1, .int x1), (2, .int x2), (3, .int x3)] [] S kc nc P := by
  have hA : Af E [9989] S S := af_rf
  refine tt_iload_n (j := 3) dX10_shiftDown_0 rfl ?_
  refine tt_if_eq (tgt := 13) dX10_shiftDown_1 rfl (fun q101 => ?_) (fun q101 => ?_)
  · skip
    have h102 : Rg 0 0 x3 := rg_eq_l (rg_all x3) (⟨by decide, by decide⟩ : Rg 0 0 0) q101
    refine tt_aload_n (j := 0) dX10_shiftDown_13 rfl ?_
    refine tt_iload_n (j := 1) dX10_shiftDown_14 rfl ?_
    refine tt_iload_n (j := 2) dX10_shiftDown_15 rfl ?_
    refine gt_Vv (As := [.int x1, .int x2]) dX10_shiftDown_16 ca_X10_169 ⟨by decide, by decide⟩ h0 hA rfl (Nat.le_of_ble_eq_true rfl) (Nat.le_of_ble_eq_true rfl) (by decide) (cz_X10_copy hG (oa_af h0 hA) (rg_w h1) (rg_w h2) hR (fun _ _ _ _ h => h)) rfl (fun _ h => nomatch h) (fun S103 hx107 hG104 hB105 hA106 => ?_)
    obtain ⟨d108, hd109⟩ : ∃ q, Z_X10_copy R (sg S) o0 (x1) (x2) = q := ⟨_, rfl⟩
    have hq110 := (congrArg (fun q9 => Z_X10_copy R q9 o0 (x1) (x2)) (show sg S = (sg S) from rfl)).trans hd109
    have hs111 := hx107.trans hq110
    refine tt_goto (tgt := 140) dX10_shiftDown_19 rfl ?_
    have hF : Z_X10_shiftDown R (sg S) o0 x1 x2 x3 = d108 := by
      subst hd109
      exact zl_X10_shiftDown_0 q101
    exact tt_vreturn dX10_shiftDown_140 rfl (hP _ _ _ _ ⟨hG104, hA106, Or.inl ⟨_, rfl, rfl, Eq.trans hs111 hF.symm, rfl, rfl⟩⟩)
  · skip
    refine tt_aload_n (j := 0) dX10_shiftDown_4 rfl ?_
    have hr112 := rk_R (k := 643) hR h0 32 4940
    have ho113 := rk_O (k := 643) hG hR h0 32 4940
    refine gt_gR (id := 643) dX10_shiftDown_5 fl_10_13 rfl rfl h0 hA hr112 ?_
    refine tt_iload_n (j := 2) dX10_shiftDown_8 rfl ?_
    refine gx_iL (v := (mi (sg S) (R 643 o0) (x2 : Int32).toNatClampNeg)) dX10_shiftDown_9 ho113 hA (rg_in h2) (sg_i (a := (R 643 o0)) (i := (x2 : Int32).toNatClampNeg) (show sg S = (sg S) from rfl)) ?_
    refine tt_if_ne (tgt := 22) dX10_shiftDown_10 rfl (fun q114 => ?_) (fun q114 => ?_)
    · skip
      refine tt_aload_n (j := 0) dX10_shiftDown_22 rfl ?_
      refine gt_gR (id := 643) dX10_shiftDown_23 fl_10_13 rfl rfl h0 hA hr112 ?_
      refine tt_iload_n (j := 2) dX10_shiftDown_26 rfl ?_
      refine gx_iL (v := (mi (sg S) (R 643 o0) (x2 : Int32).toNatClampNeg)) dX10_shiftDown_27 ho113 hA (rg_in h2) (sg_i (a := (R 643 o0)) (i := (x2 : Int32).toNatClampNeg) (show sg S = (sg S) from rfl)) ?_
      refine tt_iconst (v := 2) dX10_shiftDown_28 rfl ?_
      refine tt_icmp_ne (tgt := 59) dX10_shiftDown_29 rfl (fun q115 => ?_) (fun q115 => ?_)
      · skip
        refine tt_lconst (v := 1) dX10_shiftDown_59 rfl ?_
        refine tt_iload_n (j := 3) dX10_shiftDown_60 rfl ?_
        refine tt_lshl dX10_shiftDown_61 ?_
        refine tt_lconst (v := 1) dX10_shiftDown_62 rfl ?_
        refine tt_lsub dX10_shiftDown_63 ?_
        refine tt_lstore (ks := [0, 1, 2, 3, 4]) (L' := [(4, .long ((1 <<< ((x3 : Int32).toInt64 &&& 63)) - 1)), (0, .ref o0), (1, .int x1), (2, .int x2), (3, .int x3)]) dX10_shiftDown_64 (by decide) rfl ?_
        refine tt_aload_n (j := 1) dX10_shiftDown_66 rfl ?_
        have hr116 := rk_R (k := 646) hR h0 33 4940
        have ho117 := rk_O (k := 646) hG hR h0 33 4940
        refine gt_gR (id := 646) dX10_shiftDown_67 fl_10_23 rfl rfl h0 hA hr116 ?_
        refine tt_iload_n (j := 3) dX10_shiftDown_70 rfl ?_
        refine gt_lLv (v := (mj (sg S) (R 646 o0) (x2 : Int32).toNatClampNeg)) dX10_shiftDown_71 ho117 hA (rg_in h2) (sg_j (a := (R 646 o0)) (i := (x2 : Int32).toNatClampNeg) (show sg S = (sg S) from rfl)) ?_
        refine tt_lload (j := 0) dX10_shiftDown_72 rfl ?_
        refine tt_land dX10_shiftDown_74 ?_
        refine tt_lconst (v := 0) dX10_shiftDown_75 rfl ?_
        refine tt_lcmp dX10_shiftDown_76 ?_
        refine tt_if_ne (tgt := 98) dX10_shiftDown_77 rfl (fun q118 => ?_) (fun q118 => ?_)
        · skip
          refine tt_iconst (v := 0) dX10_shiftDown_98 rfl ?_
          refine tt_istore (ks := [0, 1, 2, 3, 4, 5]) (L' := [(6, .int 0), (4, .long ((1 <<< ((x3 : Int32).toInt64 &&& 63)) - 1)), (0, .ref o0), (1, .int x1), (2, .int x2), (3, .int x3)]) dX10_shiftDown_99 (by decide) rfl ?_
          refine tt_aload_n (j := 2) dX10_shiftDown_101 rfl ?_
          refine tt_iload_n (j := 3) dX10_shiftDown_102 rfl ?_
          refine tt_iconst (v := 1) dX10_shiftDown_103 rfl ?_
          refine tt_aload_n (j := 2) dX10_shiftDown_104 rfl ?_
          have hr119 := rk_R (k := 644) hR h0 33 4940
          have ho120 := rk_O (k := 644) hG hR h0 33 4940
          refine gt_gR (id := 644) dX10_shiftDown_105 fl_10_16 rfl rfl h0 hA hr119 ?_
          refine tt_iload_n (j := 4) dX10_shiftDown_108 rfl ?_
          refine gt_lLv (v := (mj (sg S) (R 644 o0) (x2 : Int32).toNatClampNeg)) dX10_shiftDown_109 ho120 hA (rg_in h2) (sg_j (a := (R 644 o0)) (i := (x2 : Int32).toNatClampNeg) (show sg S = (sg S) from rfl)) ?_
          refine tt_iload_n (j := 5) dX10_shiftDown_110 rfl ?_
          refine tt_lshr dX10_shiftDown_111 ?_
          refine tt_aload_n (j := 2) dX10_shiftDown_112 rfl ?_
          have hr121 := rk_R (k := 645) hR h0 33 4940
          have ho122 := rk_O (k := 645) hG hR h0 33 4940
          refine gt_gR (id := 645) dX10_shiftDown_113 fl_10_20 rfl rfl h0 hA hr121 ?_
          refine tt_iload_n (j := 4) dX10_shiftDown_116 rfl ?_
          refine gt_lLv (v := (mj (sg S) (R 645 o0) (x2 : Int32).toNatClampNeg)) dX10_shiftDown_117 ho122 hA (rg_in h2) (sg_j (a := (R 645 o0)) (i := (x2 : Int32).toNatClampNeg) (show sg S = (sg S) from rfl)) ?_
          refine tt_iload_n (j := 5) dX10_shiftDown_118 rfl ?_
          refine tt_lshr dX10_shiftDown_119 ?_
          refine tt_iload (j := 0) dX10_shiftDown_120 rfl ?_
          refine tt_if_eq (tgt := 136) dX10_shiftDown_122 rfl (fun _ => ?_) (fun q => absurd q (by decide))
          refine tt_lconst (v := 1) dX10_shiftDown_136 rfl ?_
          refine gt_Vv (As := [.int x1, .int 1, .long ((mj (sg S) (R 644 o0) (x2 : Int32).toNatClampNeg) >>> ((x3 : Int32).toInt64 &&& 63)), .long ((mj (sg S) (R 645 o0) (x2 : Int32).toNatClampNeg) >>> ((x3 : Int32).toInt64 &&& 63)), .long 1]) dX10_shiftDown_137 ca_X10_165 ⟨by decide, by decide⟩ h0 hA rfl (Nat.le_of_ble_eq_true rfl) (Nat.le_of_ble_eq_true rfl) (by decide) (cz_X10_make hG (oa_af h0 hA) (rg_w h1) hR (fun _ _ _ _ h => h)) rfl (fun _ h => nomatch h) (fun S123 hx127 hG124 hB125 hA126 => ?_)
          obtain ⟨d128, hd129⟩ : ∃ q, Z_X10_make R (sg S) o0 (x1) (1) (((mj (sg S) (R 644 o0) (x2 : Int32).toNatClampNeg) >>> ((x3 : Int32).toInt64 &&& 63))) (((mj (sg S) (R 645 o0) (x2 : Int32).toNatClampNeg) >>> ((x3 : Int32).toInt64 &&& 63))) (1) = q := ⟨_, rfl⟩
          have hq130 := (congrArg (fun q9 => Z_X10_make R q9 o0 (x1) (1) (((mj (sg S) (R 644 o0) (x2 : Int32).toNatClampNeg) >>> ((x3 : Int32).toInt64 &&& 63))) (((mj (sg S) (R 645 o0) (x2 : Int32).toNatClampNeg) >>> ((x3 : Int32).toInt64 &&& 63))) (1)) (show sg S = (sg S) from rfl)).trans hd129
          have hs131 := hx127.trans hq130
          have hF : Z_X10_shiftDown R (sg S) o0 x1 x2 x3 = d128 := by
            subst hd129
            exact zl_X10_shiftDown_5 q101 q114 q115 (lc_ne_t q118)
          exact tt_vreturn dX10_shiftDown_140 rfl (hP _ _ _ _ ⟨hG124, hA126, Or.inl ⟨_, rfl, rfl, Eq.trans hs131 hF.symm, rfl, rfl⟩⟩)
        · skip
          refine tt_aload_n (j := 1) dX10_shiftDown_80 rfl ?_
          have hr132 := rk_R (k := 644) hR h0 33 4940
          have ho133 := rk_O (k := 644) hG hR h0 33 4940
          refine gt_gR (id := 644) dX10_shiftDown_81 fl_10_16 rfl rfl h0 hA hr132 ?_
          refine tt_iload_n (j := 3) dX10_shiftDown_84 rfl ?_
          refine gt_lLv (v := (mj (sg S) (R 644 o0) (x2 : Int32).toNatClampNeg)) dX10_shiftDown_85 ho133 hA (rg_in h2) (sg_j (a := (R 644 o0)) (i := (x2 : Int32).toNatClampNeg) (show sg S = (sg S) from rfl)) ?_
          refine tt_lload (j := 0) dX10_shiftDown_86 rfl ?_
          refine tt_land dX10_shiftDown_88 ?_
          refine tt_lconst (v := 0) dX10_shiftDown_89 rfl ?_
          refine tt_lcmp dX10_shiftDown_90 ?_
          refine tt_if_ne (tgt := 98) dX10_shiftDown_91 rfl (fun q134 => ?_) (fun q134 => ?_)
          · skip
            refine tt_iconst (v := 0) dX10_shiftDown_98 rfl ?_
            refine tt_istore (ks := [0, 1, 2, 3, 4, 5]) (L' := [(6, .int 0), (4, .long ((1 <<< ((x3 : Int32).toInt64 &&& 63)) - 1)), (0, .ref o0), (1, .int x1), (2, .int x2), (3, .int x3)]) dX10_shiftDown_99 (by decide) rfl ?_
            refine tt_aload_n (j := 2) dX10_shiftDown_101 rfl ?_
            refine tt_iload_n (j := 3) dX10_shiftDown_102 rfl ?_
            refine tt_iconst (v := 1) dX10_shiftDown_103 rfl ?_
            refine tt_aload_n (j := 2) dX10_shiftDown_104 rfl ?_
            refine gt_gR (id := 644) dX10_shiftDown_105 fl_10_16 rfl rfl h0 hA hr132 ?_
            refine tt_iload_n (j := 4) dX10_shiftDown_108 rfl ?_
            refine gt_lLv (v := (mj (sg S) (R 644 o0) (x2 : Int32).toNatClampNeg)) dX10_shiftDown_109 ho133 hA (rg_in h2) (sg_j (a := (R 644 o0)) (i := (x2 : Int32).toNatClampNeg) (show sg S = (sg S) from rfl)) ?_
            refine tt_iload_n (j := 5) dX10_shiftDown_110 rfl ?_
            refine tt_lshr dX10_shiftDown_111 ?_
            refine tt_aload_n (j := 2) dX10_shiftDown_112 rfl ?_
            have hr135 := rk_R (k := 645) hR h0 33 4940
            have ho136 := rk_O (k := 645) hG hR h0 33 4940
            refine gt_gR (id := 645) dX10_shiftDown_113 fl_10_20 rfl rfl h0 hA hr135 ?_
            refine tt_iload_n (j := 4) dX10_shiftDown_116 rfl ?_
            refine gt_lLv (v := (mj (sg S) (R 645 o0) (x2 : Int32).toNatClampNeg)) dX10_shiftDown_117 ho136 hA (rg_in h2) (sg_j (a := (R 645 o0)) (i := (x2 : Int32).toNatClampNeg) (show sg S = (sg S) from rfl)) ?_
            refine tt_iload_n (j := 5) dX10_shiftDown_118 rfl ?_
            refine tt_lshr dX10_shiftDown_119 ?_
            refine tt_iload (j := 0) dX10_shiftDown_120 rfl ?_
            refine tt_if_eq (tgt := 136) dX10_shiftDown_122 rfl (fun _ => ?_) (fun q => absurd q (by decide))
            refine tt_lconst (v := 1) dX10_shiftDown_136 rfl ?_
            refine gt_Vv (As := [.int x1, .int 1, .long ((mj (sg S) (R 644 o0) (x2 : Int32).toNatClampNeg) >>> ((x3 : Int32).toInt64 &&& 63)), .long ((mj (sg S) (R 645 o0) (x2 : Int32).toNatClampNeg) >>> ((x3 : Int32).toInt64 &&& 63)), .long 1]) dX10_shiftDown_137 ca_X10_165 ⟨by decide, by decide⟩ h0 hA rfl (Nat.le_of_ble_eq_true rfl) (Nat.le_of_ble_eq_true rfl) (by decide) (cz_X10_make hG (oa_af h0 hA) (rg_w h1) hR (fun _ _ _ _ h => h)) rfl (fun _ h => nomatch h) (fun S137 hx141 hG138 hB139 hA140 => ?_)
            obtain ⟨d142, hd143⟩ : ∃ q, Z_X10_make R (sg S) o0 (x1) (1) (((mj (sg S) (R 644 o0) (x2 : Int32).toNatClampNeg) >>> ((x3 : Int32).toInt64 &&& 63))) (((mj (sg S) (R 645 o0) (x2 : Int32).toNatClampNeg) >>> ((x3 : Int32).toInt64 &&& 63))) (1) = q := ⟨_, rfl⟩
            have hq144 := (congrArg (fun q9 => Z_X10_make R q9 o0 (x1) (1) (((mj (sg S) (R 644 o0) (x2 : Int32).toNatClampNeg) >>> ((x3 : Int32).toInt64 &&& 63))) (((mj (sg S) (R 645 o0) (x2 : Int32).toNatClampNeg) >>> ((x3 : Int32).toInt64 &&& 63))) (1)) (show sg S = (sg S) from rfl)).trans hd143
            have hs145 := hx141.trans hq144
            have hF : Z_X10_shiftDown R (sg S) o0 x1 x2 x3 = d142 := by
              subst hd143
              exact zl_X10_shiftDown_4 q101 q114 q115 (lc_ne_f q118) (lc_ne_t q134)
            exact tt_vreturn dX10_shiftDown_140 rfl (hP _ _ _ _ ⟨hG138, hA140, Or.inl ⟨_, rfl, rfl, Eq.trans hs145 hF.symm, rfl, rfl⟩⟩)
          · skip
            refine tt_iconst (v := 1) dX10_shiftDown_94 rfl ?_
            refine tt_goto (tgt := 99) dX10_shiftDown_95 rfl ?_
            refine tt_istore (ks := [0, 1, 2, 3, 4, 5]) (L' := [(6, .int 1), (4, .long ((1 <<< ((x3 : Int32).toInt64 &&& 63)) - 1)), (0, .ref o0), (1, .int x1), (2, .int x2), (3, .int x3)]) dX10_shiftDown_99 (by decide) rfl ?_
            refine tt_aload_n (j := 2) dX10_shiftDown_101 rfl ?_
            refine tt_iload_n (j := 3) dX10_shiftDown_102 rfl ?_
            refine tt_iconst (v := 1) dX10_shiftDown_103 rfl ?_
            refine tt_aload_n (j := 2) dX10_shiftDown_104 rfl ?_
            refine gt_gR (id := 644) dX10_shiftDown_105 fl_10_16 rfl rfl h0 hA hr132 ?_
            refine tt_iload_n (j := 4) dX10_shiftDown_108 rfl ?_
            refine gt_lLv (v := (mj (sg S) (R 644 o0) (x2 : Int32).toNatClampNeg)) dX10_shiftDown_109 ho133 hA (rg_in h2) (sg_j (a := (R 644 o0)) (i := (x2 : Int32).toNatClampNeg) (show sg S = (sg S) from rfl)) ?_
            refine tt_iload_n (j := 5) dX10_shiftDown_110 rfl ?_
            refine tt_lshr dX10_shiftDown_111 ?_
            refine tt_aload_n (j := 2) dX10_shiftDown_112 rfl ?_
            have hr146 := rk_R (k := 645) hR h0 33 4940
            have ho147 := rk_O (k := 645) hG hR h0 33 4940
            refine gt_gR (id := 645) dX10_shiftDown_113 fl_10_20 rfl rfl h0 hA hr146 ?_
            refine tt_iload_n (j := 4) dX10_shiftDown_116 rfl ?_
            refine gt_lLv (v := (mj (sg S) (R 645 o0) (x2 : Int32).toNatClampNeg)) dX10_shiftDown_117 ho147 hA (rg_in h2) (sg_j (a := (R 645 o0)) (i := (x2 : Int32).toNatClampNeg) (show sg S = (sg S) from rfl)) ?_
            refine tt_iload_n (j := 5) dX10_shiftDown_118 rfl ?_
            refine tt_lshr dX10_shiftDown_119 ?_
            refine tt_iload (j := 0) dX10_shiftDown_120 rfl ?_
            refine tt_if_eq (tgt := 136) dX10_shiftDown_122 rfl (fun q => absurd q (by decide)) (fun _ => ?_)
            refine tt_aload_n (j := 2) dX10_shiftDown_125 rfl ?_
            refine gt_gR (id := 646) dX10_shiftDown_126 fl_10_23 rfl rfl h0 hA hr116 ?_
            refine tt_iload_n (j := 4) dX10_shiftDown_129 rfl ?_
            refine gt_lLv (v := (mj (sg S) (R 646 o0) (x2 : Int32).toNatClampNeg)) dX10_shiftDown_130 ho117 hA (rg_in h2) (sg_j (a := (R 646 o0)) (i := (x2 : Int32).toNatClampNeg) (show sg S = (sg S) from rfl)) ?_
            refine tt_iload_n (j := 5) dX10_shiftDown_131 rfl ?_
            refine tt_lshr dX10_shiftDown_132 ?_
            refine tt_goto (tgt := 137) dX10_shiftDown_133 rfl ?_
            refine gt_Vv (As := [.int x1, .int 1, .long ((mj (sg S) (R 644 o0) (x2 : Int32).toNatClampNeg) >>> ((x3 : Int32).toInt64 &&& 63)), .long ((mj (sg S) (R 645 o0) (x2 : Int32).toNatClampNeg) >>> ((x3 : Int32).toInt64 &&& 63)), .long ((mj (sg S) (R 646 o0) (x2 : Int32).toNatClampNeg) >>> ((x3 : Int32).toInt64 &&& 63))]) dX10_shiftDown_137 ca_X10_165 ⟨by decide, by decide⟩ h0 hA rfl (Nat.le_of_ble_eq_true rfl) (Nat.le_of_ble_eq_true rfl) (by decide) (cz_X10_make hG (oa_af h0 hA) (rg_w h1) hR (fun _ _ _ _ h => h)) rfl (fun _ h => nomatch h) (fun S148 hx152 hG149 hB150 hA151 => ?_)
            obtain ⟨d153, hd154⟩ : ∃ q, Z_X10_make R (sg S) o0 (x1) (1) (((mj (sg S) (R 644 o0) (x2 : Int32).toNatClampNeg) >>> ((x3 : Int32).toInt64 &&& 63))) (((mj (sg S) (R 645 o0) (x2 : Int32).toNatClampNeg) >>> ((x3 : Int32).toInt64 &&& 63))) (((mj (sg S) (R 646 o0) (x2 : Int32).toNatClampNeg) >>> ((x3 : Int32).toInt64 &&& 63))) = q := ⟨_, rfl⟩
            have hq155 := (congrArg (fun q9 => Z_X10_make R q9 o0 (x1) (1) (((mj (sg S) (R 644 o0) (x2 : Int32).toNatClampNeg) >>> ((x3 : Int32).toInt64 &&& 63))) (((mj (sg S) (R 645 o0) (x2 : Int32).toNatClampNeg) >>> ((x3 : Int32).toInt64 &&& 63))) (((mj (sg S) (R 646 o0) (x2 : Int32).toNatClampNeg) >>> ((x3 : Int32).toInt64 &&& 63)))) (show sg S = (sg S) from rfl)).trans hd154
            have hs156 := hx152.trans hq155
            have hF : Z_X10_shiftDown R (sg S) o0 x1 x2 x3 = d153 := by
              subst hd154
              exact zl_X10_shiftDown_3 q101 q114 q115 (lc_ne_f q118) (lc_ne_f q134)
            exact tt_vreturn dX10_shiftDown_140 rfl (hP _ _ _ _ ⟨hG149, hA151, Or.inl ⟨_, rfl, rfl, Eq.trans hs156 hF.symm, rfl, rfl⟩⟩)
      · skip
        have h157 : Rg 2 2 (mi (sg S) (R 643 o0) (x2 : Int32).toNatClampNeg) := rg_eq_l (rg_all (mi (sg S) (R 643 o0) (x2 : Int32).toNatClampNeg)) (⟨by decide, by decide⟩ : Rg 2 2 2) q115
        refine tt_lconst (v := 1) dX10_shiftDown_32 rfl ?_
        refine tt_bipush (v := 63) dX10_shiftDown_33 rfl ?_
        refine tt_iload_n (j := 3) dX10_shiftDown_35 rfl ?_
        refine tt_isub dX10_shiftDown_36 ?_
        refine tt_lshl dX10_shiftDown_37 ?_
        refine tt_lconst (v := 1) dX10_shiftDown_38 rfl ?_
        refine tt_lsub dX10_shiftDown_39 ?_
        refine tt_lstore (ks := [0, 1, 2, 3, 4]) (L' := [(4, .long ((1 <<< (((63 - x3) : Int32).toInt64 &&& 63)) - 1)), (0, .ref o0), (1, .int x1), (2, .int x2), (3, .int x3)]) dX10_shiftDown_40 (by decide) rfl ?_
        refine tt_aload_n (j := 1) dX10_shiftDown_42 rfl ?_
        refine tt_iload_n (j := 2) dX10_shiftDown_43 rfl ?_
        refine tt_iconst (v := 1) dX10_shiftDown_44 rfl ?_
        refine tt_lload (j := 0) dX10_shiftDown_45 rfl ?_
        refine tt_lneg dX10_shiftDown_47 ?_
        refine tt_lconst (v := 1) dX10_shiftDown_48 rfl ?_
        refine tt_lsub dX10_shiftDown_49 ?_
        refine tt_lload (j := 0) dX10_shiftDown_50 rfl ?_
        refine tt_lconst (v := 1) dX10_shiftDown_52 rfl ?_
        refine gt_Vv (As := [.int x1, .int 1, .long ((-((1 <<< (((63 - x3) : Int32).toInt64 &&& 63)) - 1)) - 1), .long ((1 <<< (((63 - x3) : Int32).toInt64 &&& 63)) - 1), .long 1]) dX10_shiftDown_53 ca_X10_165 ⟨by decide, by decide⟩ h0 hA rfl (Nat.le_of_ble_eq_true rfl) (Nat.le_of_ble_eq_true rfl) (by decide) (cz_X10_make hG (oa_af h0 hA) (rg_w h1) hR (fun _ _ _ _ h => h)) rfl (fun _ h => nomatch h) (fun S158 hx162 hG159 hB160 hA161 => ?_)
        obtain ⟨d163, hd164⟩ : ∃ q, Z_X10_make R (sg S) o0 (x1) (1) (((-((1 <<< (((63 - x3) : Int32).toInt64 &&& 63)) - 1)) - 1)) (((1 <<< (((63 - x3) : Int32).toInt64 &&& 63)) - 1)) (1) = q := ⟨_, rfl⟩
        have hq165 := (congrArg (fun q9 => Z_X10_make R q9 o0 (x1) (1) (((-((1 <<< (((63 - x3) : Int32).toInt64 &&& 63)) - 1)) - 1)) (((1 <<< (((63 - x3) : Int32).toInt64 &&& 63)) - 1)) (1)) (show sg S = (sg S) from rfl)).trans hd164
        have hs166 := hx162.trans hq165
        refine tt_goto (tgt := 140) dX10_shiftDown_56 rfl ?_
        have hF : Z_X10_shiftDown R (sg S) o0 x1 x2 x3 = d163 := by
          subst hd164
          exact zl_X10_shiftDown_2 q101 q114 q115
        exact tt_vreturn dX10_shiftDown_140 rfl (hP _ _ _ _ ⟨hG159, hA161, Or.inl ⟨_, rfl, rfl, Eq.trans hs166 hF.symm, rfl, rfl⟩⟩)
    · skip
      have h167 : Rg 0 0 (mi (sg S) (R 643 o0) (x2 : Int32).toNatClampNeg) := rg_eq_l (rg_all (mi (sg S) (R 643 o0) (x2 : Int32).toNatClampNeg)) (⟨by decide, by decide⟩ : Rg 0 0 0) q114
      refine tt_aload_n (j := 0) dX10_shiftDown_13 rfl ?_
      refine tt_iload_n (j := 1) dX10_shiftDown_14 rfl ?_
      refine tt_iload_n (j := 2) dX10_shiftDown_15 rfl ?_
      refine gt_Vv (As := [.int x1, .int x2]) dX10_shiftDown_16 ca_X10_169 ⟨by decide, by decide⟩ h0 hA rfl (Nat.le_of_ble_eq_true rfl) (Nat.le_of_ble_eq_true rfl) (by decide) (cz_X10_copy hG (oa_af h0 hA) (rg_w h1) (rg_w h2) hR (fun _ _ _ _ h => h)) rfl (fun _ h => nomatch h) (fun S168 hx172 hG169 hB170 hA171 => ?_)
      obtain ⟨d173, hd174⟩ : ∃ q, Z_X10_copy R (sg S) o0 (x1) (x2) = q := ⟨_, rfl⟩
      have hq175 := (congrArg (fun q9 => Z_X10_copy R q9 o0 (x1) (x2)) (show sg S = (sg S) from rfl)).trans hd174
      have hs176 := hx172.trans hq175
      refine tt_goto (tgt := 140) dX10_shiftDown_19 rfl ?_
      have hF : Z_X10_shiftDown R (sg S) o0 x1 x2 x3 = d173 := by
        subst hd174
        exact zl_X10_shiftDown_1 q101 q114
      exact tt_vreturn dX10_shiftDown_140 rfl (hP _ _ _ _ ⟨hG169, hA171, Or.inl ⟨_, rfl, rfl, Eq.trans hs176 hF.symm, rfl, rfl⟩⟩)
def Z_X10_shiftZero (R : Nat → Nat → Nat) (σ : SG) (o0 : Nat) (x1 : Int32) (x2 : Int32) (x3 : Int32) : SG :=
  if x3 = 0 then
    let d108 := Z_X10_shiftDown R σ o0 (x1) (x2) (x3)
    d108
  else
    if (mi σ (R 643 o0) (x2 : Int32).toNatClampNeg) = 0 then
      let d121 := Z_X10_shiftDown R σ o0 (x1) (x2) (x3)
      d121
    else
      if (mi σ (R 643 o0) (x2 : Int32).toNatClampNeg) = 1 then
        if (mj σ (R 644 o0) (x2 : Int32).toNatClampNeg) < (0 : Int64) then
          let d144 := Z_X10_make R σ o0 (x1) (1) (0) (((((-1) : Int64).toUInt64 >>> ((x3 : Int32).toInt64.toUInt64 &&& Int64.toUInt64 63)).toInt64)) (1)
          d144
        else
          let d153 := Z_X10_shiftDown R σ o0 (x1) (x2) (x3)
          d153
      else
        let d131 := Z_X10_make R σ o0 (x1) (1) (0) (((((-1) : Int64).toUInt64 >>> ((x3 : Int32).toInt64.toUInt64 &&& Int64.toUInt64 63)).toInt64)) (1)
        d131
theorem zl_X10_shiftZero_0 {R : Nat → Nat → Nat} {σ : SG} {o0 : Nat} {x1 : Int32} {x2 : Int32} {x3 : Int32} (h0 : x3 = 0) : Z_X10_shiftZero R σ o0 x1 x2 x3 = (Z_X10_shiftDown R σ o0 (x1) (x2) (x3)) := by unfold Z_X10_shiftZero; exact if_pos h0
theorem zl_X10_shiftZero_1 {R : Nat → Nat → Nat} {σ : SG} {o0 : Nat} {x1 : Int32} {x2 : Int32} {x3 : Int32} (h0 : ¬ x3 = 0) (h1 : (mi σ (R 643 o0) (x2 : Int32).toNatClampNeg) = 0) : Z_X10_shiftZero R σ o0 x1 x2 x3 = (Z_X10_shiftDown R σ o0 (x1) (x2) (x3)) := by unfold Z_X10_shiftZero; exact Eq.trans (if_neg h0) (if_pos h1)
theorem zl_X10_shiftZero_2 {R : Nat → Nat → Nat} {σ : SG} {o0 : Nat} {x1 : Int32} {x2 : Int32} {x3 : Int32} (h0 : ¬ x3 = 0) (h1 : ¬ (mi σ (R 643 o0) (x2 : Int32).toNatClampNeg) = 0) (h2 : (mi σ (R 643 o0) (x2 : Int32).toNatClampNeg) = 1) (h3 : (mj σ (R 644 o0) (x2 : Int32).toNatClampNeg) < (0 : Int64)) : Z_X10_shiftZero R σ o0 x1 x2 x3 = (Z_X10_make R σ o0 (x1) (1) (0) (((((-1) : Int64).toUInt64 >>> ((x3 : Int32).toInt64.toUInt64 &&& Int64.toUInt64 63)).toInt64)) (1)) := by unfold Z_X10_shiftZero; exact Eq.trans (if_neg h0) (Eq.trans (if_neg h1) (Eq.trans (if_pos h2) (if_pos h3)))
theorem zl_X10_shiftZero_3 {R : Nat → Nat → Nat} {σ : SG} {o0 : Nat} {x1 : Int32} {x2 : Int32} {x3 : Int32} (h0 : ¬ x3 = 0) (h1 : ¬ (mi σ (R 643 o0) (x2 : Int32).toNatClampNeg) = 0) (h2 : (mi σ (R 643 o0) (x2 : Int32).toNatClampNeg) = 1) (h3 : ¬ (mj σ (R 644 o0) (x2 : Int32).toNatClampNeg) < (0 : Int64)) : Z_X10_shiftZero R σ o0 x1 x2 x3 = (Z_X10_shiftDown R σ o0 (x1) (x2) (x3)) := by unfold Z_X10_shiftZero; exact Eq.trans (if_neg h0) (Eq.trans (if_neg h1) (Eq.trans (if_pos h2) (if_neg h3)))
theorem zl_X10_shiftZero_4 {R : Nat → Nat → Nat} {σ : SG} {o0 : Nat} {x1 : Int32} {x2 : Int32} {x3 : Int32} (h0 : ¬ x3 = 0) (h1 : ¬ (mi σ (R 643 o0) (x2 : Int32).toNatClampNeg) = 0) (h2 : ¬ (mi σ (R 643 o0) (x2 : Int32).toNatClampNeg) = 1) : Z_X10_shiftZero R σ o0 x1 x2 x3 = (Z_X10_make R σ o0 (x1) (1) (0) (((((-1) : Int64).toUInt64 >>> ((x3 : Int32).toInt64.toUInt64 &&& Int64.toUInt64 63)).toInt64)) (1)) := by unfold Z_X10_shiftZero; exact Eq.trans (if_neg h0) (Eq.trans (if_neg h1) (if_neg h2))
set_option maxHeartbeats 40000000 in
theorem cz_X10_shiftZero {xi : SX} {S : Hp} {E : List Nat} {kc nc : Nat} {P : Po} {o0 : Nat} {x1 : Int32} {x2 : Int32} {x3 : Int32} {R : Nat → Nat → Nat} (hG : GI S E) (h0 : Oa S E 10 0 o0) (h1 : Rg 0 4939 x1) (h2 : Rg 0 4939 x2) (hR : RK S R) (hP : ∀ r T x y, PV E [9989] S kc nc rV (fun v T => sg T = Z_X10_shiftZero R (sg S) o0 x1 x2 x3) [] r T x y → P r T x y) : TT xi M_X10_shiftZero 0 [(0, .ref o0), (1, .int x1), (2, .int x2), (3, .int x3)] [] S kc nc P := by
  have hA : Af E [9989] S S := af_rf
  refine tt_iload_n (j := 3) dX10_shiftZero_0 rfl ?_
  refine tt_if_eq (tgt := 34) dX10_shiftZero_1 rfl (fun q101 => ?_) (fun q101 => ?_)
  · skip
    have h102 : Rg 0 0 x3 := rg_eq_l (rg_all x3) (⟨by decide, by decide⟩ : Rg 0 0 0) q101
    refine tt_aload_n (j := 0) dX10_shiftZero_34 rfl ?_
    refine tt_iload_n (j := 1) dX10_shiftZero_35 rfl ?_
    refine tt_iload_n (j := 2) dX10_shiftZero_36 rfl ?_
    refine tt_iload_n (j := 3) dX10_shiftZero_37 rfl ?_
    refine gt_Vv (As := [.int x1, .int x2, .int x3]) dX10_shiftZero_38 ca_X10_201 ⟨by decide, by decide⟩ h0 hA rfl (Nat.le_of_ble_eq_true rfl) (Nat.le_of_ble_eq_true rfl) (by decide) (cz_X10_shiftDown hG (oa_af h0 hA) (rg_w h1) (rg_w h2) hR (fun _ _ _ _ h => h)) rfl (fun _ h => nomatch h) (fun S103 hx107 hG104 hB105 hA106 => ?_)
    obtain ⟨d108, hd109⟩ : ∃ q, Z_X10_shiftDown R (sg S) o0 (x1) (x2) (x3) = q := ⟨_, rfl⟩
    have hq110 := (congrArg (fun q9 => Z_X10_shiftDown R q9 o0 (x1) (x2) (x3)) (show sg S = (sg S) from rfl)).trans hd109
    have hs111 := hx107.trans hq110
    refine tt_goto (tgt := 57) dX10_shiftZero_41 rfl ?_
    have hF : Z_X10_shiftZero R (sg S) o0 x1 x2 x3 = d108 := by
      subst hd109
      exact zl_X10_shiftZero_0 q101
    exact tt_vreturn dX10_shiftZero_57 rfl (hP _ _ _ _ ⟨hG104, hA106, Or.inl ⟨_, rfl, rfl, Eq.trans hs111 hF.symm, rfl, rfl⟩⟩)
  · skip
    refine tt_aload_n (j := 0) dX10_shiftZero_4 rfl ?_
    have hr112 := rk_R (k := 643) hR h0 32 4940
    have ho113 := rk_O (k := 643) hG hR h0 32 4940
    refine gt_gR (id := 643) dX10_shiftZero_5 fl_10_13 rfl rfl h0 hA hr112 ?_
    refine tt_iload_n (j := 2) dX10_shiftZero_8 rfl ?_
    refine gx_iL (v := (mi (sg S) (R 643 o0) (x2 : Int32).toNatClampNeg)) dX10_shiftZero_9 ho113 hA (rg_in h2) (sg_i (a := (R 643 o0)) (i := (x2 : Int32).toNatClampNeg) (show sg S = (sg S) from rfl)) ?_
    refine tt_if_eq (tgt := 34) dX10_shiftZero_10 rfl (fun q114 => ?_) (fun q114 => ?_)
    · skip
      have h115 : Rg 0 0 (mi (sg S) (R 643 o0) (x2 : Int32).toNatClampNeg) := rg_eq_l (rg_all (mi (sg S) (R 643 o0) (x2 : Int32).toNatClampNeg)) (⟨by decide, by decide⟩ : Rg 0 0 0) q114
      refine tt_aload_n (j := 0) dX10_shiftZero_34 rfl ?_
      refine tt_iload_n (j := 1) dX10_shiftZero_35 rfl ?_
      refine tt_iload_n (j := 2) dX10_shiftZero_36 rfl ?_
      refine tt_iload_n (j := 3) dX10_shiftZero_37 rfl ?_
      refine gt_Vv (As := [.int x1, .int x2, .int x3]) dX10_shiftZero_38 ca_X10_201 ⟨by decide, by decide⟩ h0 hA rfl (Nat.le_of_ble_eq_true rfl) (Nat.le_of_ble_eq_true rfl) (by decide) (cz_X10_shiftDown hG (oa_af h0 hA) (rg_w h1) (rg_w h2) hR (fun _ _ _ _ h => h)) rfl (fun _ h => nomatch h) (fun S116 hx120 hG117 hB118 hA119 => ?_)
      obtain ⟨d121, hd122⟩ : ∃ q, Z_X10_shiftDown R (sg S) o0 (x1) (x2) (x3) = q := ⟨_, rfl⟩
      have hq123 := (congrArg (fun q9 => Z_X10_shiftDown R q9 o0 (x1) (x2) (x3)) (show sg S = (sg S) from rfl)).trans hd122
      have hs124 := hx120.trans hq123
      refine tt_goto (tgt := 57) dX10_shiftZero_41 rfl ?_
      have hF : Z_X10_shiftZero R (sg S) o0 x1 x2 x3 = d121 := by
        subst hd122
        exact zl_X10_shiftZero_1 q101 q114
      exact tt_vreturn dX10_shiftZero_57 rfl (hP _ _ _ _ ⟨hG117, hA119, Or.inl ⟨_, rfl, rfl, Eq.trans hs124 hF.symm, rfl, rfl⟩⟩)
    · skip
      refine tt_aload_n (j := 0) dX10_shiftZero_13 rfl ?_
      refine gt_gR (id := 643) dX10_shiftZero_14 fl_10_13 rfl rfl h0 hA hr112 ?_
      refine tt_iload_n (j := 2) dX10_shiftZero_17 rfl ?_
      refine gx_iL (v := (mi (sg S) (R 643 o0) (x2 : Int32).toNatClampNeg)) dX10_shiftZero_18 ho113 hA (rg_in h2) (sg_i (a := (R 643 o0)) (i := (x2 : Int32).toNatClampNeg) (show sg S = (sg S) from rfl)) ?_
      refine tt_iconst (v := 1) dX10_shiftZero_19 rfl ?_
      refine tt_icmp_ne (tgt := 44) dX10_shiftZero_20 rfl (fun q125 => ?_) (fun q125 => ?_)
      · skip
        refine tt_aload_n (j := 0) dX10_shiftZero_44 rfl ?_
        refine tt_iload_n (j := 1) dX10_shiftZero_45 rfl ?_
        refine tt_iconst (v := 1) dX10_shiftZero_46 rfl ?_
        refine tt_lconst (v := 0) dX10_shiftZero_47 rfl ?_
        refine tt_ldc2 (v := (-1)) dX10_shiftZero_48 kl_10_204 ?_
        refine tt_iload_n (j := 3) dX10_shiftZero_51 rfl ?_
        refine tt_lushr dX10_shiftZero_52 ?_
        refine tt_lconst (v := 1) dX10_shiftZero_53 rfl ?_
        refine gt_Vv (As := [.int x1, .int 1, .long 0, .long ((((-1) : Int64).toUInt64 >>> ((x3 : Int32).toInt64.toUInt64 &&& Int64.toUInt64 63)).toInt64), .long 1]) dX10_shiftZero_54 ca_X10_165 ⟨by decide, by decide⟩ h0 hA rfl (Nat.le_of_ble_eq_true rfl) (Nat.le_of_ble_eq_true rfl) (by decide) (cz_X10_make hG (oa_af h0 hA) (rg_w h1) hR (fun _ _ _ _ h => h)) rfl (fun _ h => nomatch h) (fun S126 hx130 hG127 hB128 hA129 => ?_)
        obtain ⟨d131, hd132⟩ : ∃ q, Z_X10_make R (sg S) o0 (x1) (1) (0) (((((-1) : Int64).toUInt64 >>> ((x3 : Int32).toInt64.toUInt64 &&& Int64.toUInt64 63)).toInt64)) (1) = q := ⟨_, rfl⟩
        have hq133 := (congrArg (fun q9 => Z_X10_make R q9 o0 (x1) (1) (0) (((((-1) : Int64).toUInt64 >>> ((x3 : Int32).toInt64.toUInt64 &&& Int64.toUInt64 63)).toInt64)) (1)) (show sg S = (sg S) from rfl)).trans hd132
        have hs134 := hx130.trans hq133
        have hF : Z_X10_shiftZero R (sg S) o0 x1 x2 x3 = d131 := by
          subst hd132
          exact zl_X10_shiftZero_4 q101 q114 q125
        exact tt_vreturn dX10_shiftZero_57 rfl (hP _ _ _ _ ⟨hG127, hA129, Or.inl ⟨_, rfl, rfl, Eq.trans hs134 hF.symm, rfl, rfl⟩⟩)
      · skip
        have h135 : Rg 1 1 (mi (sg S) (R 643 o0) (x2 : Int32).toNatClampNeg) := rg_eq_l (rg_all (mi (sg S) (R 643 o0) (x2 : Int32).toNatClampNeg)) (⟨by decide, by decide⟩ : Rg 1 1 1) q125
        refine tt_aload_n (j := 0) dX10_shiftZero_23 rfl ?_
        have hr136 := rk_R (k := 644) hR h0 33 4940
        have ho137 := rk_O (k := 644) hG hR h0 33 4940
        refine gt_gR (id := 644) dX10_shiftZero_24 fl_10_16 rfl rfl h0 hA hr136 ?_
        refine tt_iload_n (j := 2) dX10_shiftZero_27 rfl ?_
        refine gt_lLv (v := (mj (sg S) (R 644 o0) (x2 : Int32).toNatClampNeg)) dX10_shiftZero_28 ho137 hA (rg_in h2) (sg_j (a := (R 644 o0)) (i := (x2 : Int32).toNatClampNeg) (show sg S = (sg S) from rfl)) ?_
        refine tt_lconst (v := 0) dX10_shiftZero_29 rfl ?_
        refine tt_lcmp dX10_shiftZero_30 ?_
        refine tt_if_lt (tgt := 44) dX10_shiftZero_31 rfl (fun q138 => ?_) (fun q138 => ?_)
        · skip
          refine tt_aload_n (j := 0) dX10_shiftZero_44 rfl ?_
          refine tt_iload_n (j := 1) dX10_shiftZero_45 rfl ?_
          refine tt_iconst (v := 1) dX10_shiftZero_46 rfl ?_
          refine tt_lconst (v := 0) dX10_shiftZero_47 rfl ?_
          refine tt_ldc2 (v := (-1)) dX10_shiftZero_48 kl_10_204 ?_
          refine tt_iload_n (j := 3) dX10_shiftZero_51 rfl ?_
          refine tt_lushr dX10_shiftZero_52 ?_
          refine tt_lconst (v := 1) dX10_shiftZero_53 rfl ?_
          refine gt_Vv (As := [.int x1, .int 1, .long 0, .long ((((-1) : Int64).toUInt64 >>> ((x3 : Int32).toInt64.toUInt64 &&& Int64.toUInt64 63)).toInt64), .long 1]) dX10_shiftZero_54 ca_X10_165 ⟨by decide, by decide⟩ h0 hA rfl (Nat.le_of_ble_eq_true rfl) (Nat.le_of_ble_eq_true rfl) (by decide) (cz_X10_make hG (oa_af h0 hA) (rg_w h1) hR (fun _ _ _ _ h => h)) rfl (fun _ h => nomatch h) (fun S139 hx143 hG140 hB141 hA142 => ?_)
          obtain ⟨d144, hd145⟩ : ∃ q, Z_X10_make R (sg S) o0 (x1) (1) (0) (((((-1) : Int64).toUInt64 >>> ((x3 : Int32).toInt64.toUInt64 &&& Int64.toUInt64 63)).toInt64)) (1) = q := ⟨_, rfl⟩
          have hq146 := (congrArg (fun q9 => Z_X10_make R q9 o0 (x1) (1) (0) (((((-1) : Int64).toUInt64 >>> ((x3 : Int32).toInt64.toUInt64 &&& Int64.toUInt64 63)).toInt64)) (1)) (show sg S = (sg S) from rfl)).trans hd145
          have hs147 := hx143.trans hq146
          have hF : Z_X10_shiftZero R (sg S) o0 x1 x2 x3 = d144 := by
            subst hd145
            exact zl_X10_shiftZero_2 q101 q114 q125 (lc_lt_t q138)
          exact tt_vreturn dX10_shiftZero_57 rfl (hP _ _ _ _ ⟨hG140, hA142, Or.inl ⟨_, rfl, rfl, Eq.trans hs147 hF.symm, rfl, rfl⟩⟩)
        · skip
          refine tt_aload_n (j := 0) dX10_shiftZero_34 rfl ?_
          refine tt_iload_n (j := 1) dX10_shiftZero_35 rfl ?_
          refine tt_iload_n (j := 2) dX10_shiftZero_36 rfl ?_
          refine tt_iload_n (j := 3) dX10_shiftZero_37 rfl ?_
          refine gt_Vv (As := [.int x1, .int x2, .int x3]) dX10_shiftZero_38 ca_X10_201 ⟨by decide, by decide⟩ h0 hA rfl (Nat.le_of_ble_eq_true rfl) (Nat.le_of_ble_eq_true rfl) (by decide) (cz_X10_shiftDown hG (oa_af h0 hA) (rg_w h1) (rg_w h2) hR (fun _ _ _ _ h => h)) rfl (fun _ h => nomatch h) (fun S148 hx152 hG149 hB150 hA151 => ?_)
          obtain ⟨d153, hd154⟩ : ∃ q, Z_X10_shiftDown R (sg S) o0 (x1) (x2) (x3) = q := ⟨_, rfl⟩
          have hq155 := (congrArg (fun q9 => Z_X10_shiftDown R q9 o0 (x1) (x2) (x3)) (show sg S = (sg S) from rfl)).trans hd154
          have hs156 := hx152.trans hq155
          refine tt_goto (tgt := 57) dX10_shiftZero_41 rfl ?_
          have hF : Z_X10_shiftZero R (sg S) o0 x1 x2 x3 = d153 := by
            subst hd154
            exact zl_X10_shiftZero_3 q101 q114 q125 (Int64.not_lt.mpr (lc_lt_f q138))
          exact tt_vreturn dX10_shiftZero_57 rfl (hP _ _ _ _ ⟨hG149, hA151, Or.inl ⟨_, rfl, rfl, Eq.trans hs156 hF.symm, rfl, rfl⟩⟩)
def Z_X10_lowPart (R : Nat → Nat → Nat) (σ : SG) (o0 : Nat) (x1 : Int32) (x2 : Int32) : SG :=
  if (mi σ (R 643 o0) (x2 : Int32).toNatClampNeg) = 0 then
    (ui σ (R 643 o0) (x1 : Int32).toNatClampNeg 0)
  else
    if (Z_X10_isOne R σ o0 (x2)) = 0 then
      if (mi σ (R 643 o0) (x2 : Int32).toNatClampNeg) = 1 then
        if (mj σ (R 644 o0) (x2 : Int32).toNatClampNeg) < (0 : Int64) then
          if (mi σ (R 643 o0) (x2 : Int32).toNatClampNeg) = 2 then
            if (0 : Int64) < (0 : Int64) then
              let d201 := Z_X10_make R σ o0 (x1) (1) ((0 + 1)) (((0 + 1) + (((4294967295 - (0 + 1)) / 1) * 1))) (1)
              d201
            else
              let d192 := Z_X10_make R σ o0 (x1) (1) (0) ((0 + (((4294967295 - 0) / 1) * 1))) (1)
              d192
          else
            if ((mj σ (R 644 o0) (x2 : Int32).toNatClampNeg) - (mj σ (R 644 o0) (x2 : Int32).toNatClampNeg) / (gJ ((mj σ (R 646 o0) (x2 : Int32).toNatClampNeg)) (4294967296)) * (gJ ((mj σ (R 646 o0) (x2 : Int32).toNatClampNeg)) (4294967296))) < (0 : Int64) then
              let d182 := Z_X10_make R σ o0 (x1) (1) ((((mj σ (R 644 o0) (x2 : Int32).toNatClampNeg) - (mj σ (R 644 o0) (x2 : Int32).toNatClampNeg) / (gJ ((mj σ (R 646 o0) (x2 : Int32).toNatClampNeg)) (4294967296)) * (gJ ((mj σ (R 646 o0) (x2 : Int32).toNatClampNeg)) (4294967296))) + (gJ ((mj σ (R 646 o0) (x2 : Int32).toNatClampNeg)) (4294967296)))) (((((mj σ (R 644 o0) (x2 : Int32).toNatClampNeg) - (mj σ (R 644 o0) (x2 : Int32).toNatClampNeg) / (gJ ((mj σ (R 646 o0) (x2 : Int32).toNatClampNeg)) (4294967296)) * (gJ ((mj σ (R 646 o0) (x2 : Int32).toNatClampNeg)) (4294967296))) + (gJ ((mj σ (R 646 o0) (x2 : Int32).toNatClampNeg)) (4294967296))) + (((4294967295 - (((mj σ (R 644 o0) (x2 : Int32).toNatClampNeg) - (mj σ (R 644 o0) (x2 : Int32).toNatClampNeg) / (gJ ((mj σ (R 646 o0) (x2 : Int32).toNatClampNeg)) (4294967296)) * (gJ ((mj σ (R 646 o0) (x2 : Int32).toNatClampNeg)) (4294967296))) + (gJ ((mj σ (R 646 o0) (x2 : Int32).toNatClampNeg)) (4294967296)))) / (gJ ((mj σ (R 646 o0) (x2 : Int32).toNatClampNeg)) (4294967296))) * (gJ ((mj σ (R 646 o0) (x2 : Int32).toNatClampNeg)) (4294967296))))) ((gJ ((mj σ (R 646 o0) (x2 : Int32).toNatClampNeg)) (4294967296)))
              d182
            else
              let d173 := Z_X10_make R σ o0 (x1) (1) (((mj σ (R 644 o0) (x2 : Int32).toNatClampNeg) - (mj σ (R 644 o0) (x2 : Int32).toNatClampNeg) / (gJ ((mj σ (R 646 o0) (x2 : Int32).toNatClampNeg)) (4294967296)) * (gJ ((mj σ (R 646 o0) (x2 : Int32).toNatClampNeg)) (4294967296)))) ((((mj σ (R 644 o0) (x2 : Int32).toNatClampNeg) - (mj σ (R 644 o0) (x2 : Int32).toNatClampNeg) / (gJ ((mj σ (R 646 o0) (x2 : Int32).toNatClampNeg)) (4294967296)) * (gJ ((mj σ (R 646 o0) (x2 : Int32).toNatClampNeg)) (4294967296))) + (((4294967295 - ((mj σ (R 644 o0) (x2 : Int32).toNatClampNeg) - (mj σ (R 644 o0) (x2 : Int32).toNatClampNeg) / (gJ ((mj σ (R 646 o0) (x2 : Int32).toNatClampNeg)) (4294967296)) * (gJ ((mj σ (R 646 o0) (x2 : Int32).toNatClampNeg)) (4294967296)))) / (gJ ((mj σ (R 646 o0) (x2 : Int32).toNatClampNeg)) (4294967296))) * (gJ ((mj σ (R 646 o0) (x2 : Int32).toNatClampNeg)) (4294967296))))) ((gJ ((mj σ (R 646 o0) (x2 : Int32).toNatClampNeg)) (4294967296)))
              d173
        else
          if (mj σ (R 645 o0) (x2 : Int32).toNatClampNeg) < (4294967296 : Int64) then
            let d257 := Z_X10_copy R σ o0 (x1) (x2)
            d257
          else
            if (mi σ (R 643 o0) (x2 : Int32).toNatClampNeg) = 2 then
              if (0 : Int64) < (0 : Int64) then
                let d248 := Z_X10_make R σ o0 (x1) (1) ((0 + 1)) (((0 + 1) + (((4294967295 - (0 + 1)) / 1) * 1))) (1)
                d248
              else
                let d239 := Z_X10_make R σ o0 (x1) (1) (0) ((0 + (((4294967295 - 0) / 1) * 1))) (1)
                d239
            else
              if ((mj σ (R 644 o0) (x2 : Int32).toNatClampNeg) - (mj σ (R 644 o0) (x2 : Int32).toNatClampNeg) / (gJ ((mj σ (R 646 o0) (x2 : Int32).toNatClampNeg)) (4294967296)) * (gJ ((mj σ (R 646 o0) (x2 : Int32).toNatClampNeg)) (4294967296))) < (0 : Int64) then
                let d229 := Z_X10_make R σ o0 (x1) (1) ((((mj σ (R 644 o0) (x2 : Int32).toNatClampNeg) - (mj σ (R 644 o0) (x2 : Int32).toNatClampNeg) / (gJ ((mj σ (R 646 o0) (x2 : Int32).toNatClampNeg)) (4294967296)) * (gJ ((mj σ (R 646 o0) (x2 : Int32).toNatClampNeg)) (4294967296))) + (gJ ((mj σ (R 646 o0) (x2 : Int32).toNatClampNeg)) (4294967296)))) (((((mj σ (R 644 o0) (x2 : Int32).toNatClampNeg) - (mj σ (R 644 o0) (x2 : Int32).toNatClampNeg) / (gJ ((mj σ (R 646 o0) (x2 : Int32).toNatClampNeg)) (4294967296)) * (gJ ((mj σ (R 646 o0) (x2 : Int32).toNatClampNeg)) (4294967296))) + (gJ ((mj σ (R 646 o0) (x2 : Int32).toNatClampNeg)) (4294967296))) + (((4294967295 - (((mj σ (R 644 o0) (x2 : Int32).toNatClampNeg) - (mj σ (R 644 o0) (x2 : Int32).toNatClampNeg) / (gJ ((mj σ (R 646 o0) (x2 : Int32).toNatClampNeg)) (4294967296)) * (gJ ((mj σ (R 646 o0) (x2 : Int32).toNatClampNeg)) (4294967296))) + (gJ ((mj σ (R 646 o0) (x2 : Int32).toNatClampNeg)) (4294967296)))) / (gJ ((mj σ (R 646 o0) (x2 : Int32).toNatClampNeg)) (4294967296))) * (gJ ((mj σ (R 646 o0) (x2 : Int32).toNatClampNeg)) (4294967296))))) ((gJ ((mj σ (R 646 o0) (x2 : Int32).toNatClampNeg)) (4294967296)))
                d229
              else
                let d220 := Z_X10_make R σ o0 (x1) (1) (((mj σ (R 644 o0) (x2 : Int32).toNatClampNeg) - (mj σ (R 644 o0) (x2 : Int32).toNatClampNeg) / (gJ ((mj σ (R 646 o0) (x2 : Int32).toNatClampNeg)) (4294967296)) * (gJ ((mj σ (R 646 o0) (x2 : Int32).toNatClampNeg)) (4294967296)))) ((((mj σ (R 644 o0) (x2 : Int32).toNatClampNeg) - (mj σ (R 644 o0) (x2 : Int32).toNatClampNeg) / (gJ ((mj σ (R 646 o0) (x2 : Int32).toNatClampNeg)) (4294967296)) * (gJ ((mj σ (R 646 o0) (x2 : Int32).toNatClampNeg)) (4294967296))) + (((4294967295 - ((mj σ (R 644 o0) (x2 : Int32).toNatClampNeg) - (mj σ (R 644 o0) (x2 : Int32).toNatClampNeg) / (gJ ((mj σ (R 646 o0) (x2 : Int32).toNatClampNeg)) (4294967296)) * (gJ ((mj σ (R 646 o0) (x2 : Int32).toNatClampNeg)) (4294967296)))) / (gJ ((mj σ (R 646 o0) (x2 : Int32).toNatClampNeg)) (4294967296))) * (gJ ((mj σ (R 646 o0) (x2 : Int32).toNatClampNeg)) (4294967296))))) ((gJ ((mj σ (R 646 o0) (x2 : Int32).toNatClampNeg)) (4294967296)))
                d220
      else
        if (mi σ (R 643 o0) (x2 : Int32).toNatClampNeg) = 2 then
          if (0 : Int64) < (0 : Int64) then
            let d153 := Z_X10_make R σ o0 (x1) (1) ((0 + 1)) (((0 + 1) + (((4294967295 - (0 + 1)) / 1) * 1))) (1)
            d153
          else
            let d144 := Z_X10_make R σ o0 (x1) (1) (0) ((0 + (((4294967295 - 0) / 1) * 1))) (1)
            d144
        else
          if ((mj σ (R 644 o0) (x2 : Int32).toNatClampNeg) - (mj σ (R 644 o0) (x2 : Int32).toNatClampNeg) / (gJ ((mj σ (R 646 o0) (x2 : Int32).toNatClampNeg)) (4294967296)) * (gJ ((mj σ (R 646 o0) (x2 : Int32).toNatClampNeg)) (4294967296))) < (0 : Int64) then
            let d133 := Z_X10_make R σ o0 (x1) (1) ((((mj σ (R 644 o0) (x2 : Int32).toNatClampNeg) - (mj σ (R 644 o0) (x2 : Int32).toNatClampNeg) / (gJ ((mj σ (R 646 o0) (x2 : Int32).toNatClampNeg)) (4294967296)) * (gJ ((mj σ (R 646 o0) (x2 : Int32).toNatClampNeg)) (4294967296))) + (gJ ((mj σ (R 646 o0) (x2 : Int32).toNatClampNeg)) (4294967296)))) (((((mj σ (R 644 o0) (x2 : Int32).toNatClampNeg) - (mj σ (R 644 o0) (x2 : Int32).toNatClampNeg) / (gJ ((mj σ (R 646 o0) (x2 : Int32).toNatClampNeg)) (4294967296)) * (gJ ((mj σ (R 646 o0) (x2 : Int32).toNatClampNeg)) (4294967296))) + (gJ ((mj σ (R 646 o0) (x2 : Int32).toNatClampNeg)) (4294967296))) + (((4294967295 - (((mj σ (R 644 o0) (x2 : Int32).toNatClampNeg) - (mj σ (R 644 o0) (x2 : Int32).toNatClampNeg) / (gJ ((mj σ (R 646 o0) (x2 : Int32).toNatClampNeg)) (4294967296)) * (gJ ((mj σ (R 646 o0) (x2 : Int32).toNatClampNeg)) (4294967296))) + (gJ ((mj σ (R 646 o0) (x2 : Int32).toNatClampNeg)) (4294967296)))) / (gJ ((mj σ (R 646 o0) (x2 : Int32).toNatClampNeg)) (4294967296))) * (gJ ((mj σ (R 646 o0) (x2 : Int32).toNatClampNeg)) (4294967296))))) ((gJ ((mj σ (R 646 o0) (x2 : Int32).toNatClampNeg)) (4294967296)))
            d133
          else
            let d124 := Z_X10_make R σ o0 (x1) (1) (((mj σ (R 644 o0) (x2 : Int32).toNatClampNeg) - (mj σ (R 644 o0) (x2 : Int32).toNatClampNeg) / (gJ ((mj σ (R 646 o0) (x2 : Int32).toNatClampNeg)) (4294967296)) * (gJ ((mj σ (R 646 o0) (x2 : Int32).toNatClampNeg)) (4294967296)))) ((((mj σ (R 644 o0) (x2 : Int32).toNatClampNeg) - (mj σ (R 644 o0) (x2 : Int32).toNatClampNeg) / (gJ ((mj σ (R 646 o0) (x2 : Int32).toNatClampNeg)) (4294967296)) * (gJ ((mj σ (R 646 o0) (x2 : Int32).toNatClampNeg)) (4294967296))) + (((4294967295 - ((mj σ (R 644 o0) (x2 : Int32).toNatClampNeg) - (mj σ (R 644 o0) (x2 : Int32).toNatClampNeg) / (gJ ((mj σ (R 646 o0) (x2 : Int32).toNatClampNeg)) (4294967296)) * (gJ ((mj σ (R 646 o0) (x2 : Int32).toNatClampNeg)) (4294967296)))) / (gJ ((mj σ (R 646 o0) (x2 : Int32).toNatClampNeg)) (4294967296))) * (gJ ((mj σ (R 646 o0) (x2 : Int32).toNatClampNeg)) (4294967296))))) ((gJ ((mj σ (R 646 o0) (x2 : Int32).toNatClampNeg)) (4294967296)))
            d124
    else
      let d269 := Z_X10_one R σ o0 (x1) (((mj σ (R 644 o0) (x2 : Int32).toNatClampNeg) &&& 4294967295))
      d269
theorem zl_X10_lowPart_0 {R : Nat → Nat → Nat} {σ : SG} {o0 : Nat} {x1 : Int32} {x2 : Int32} (h0 : (mi σ (R 643 o0) (x2 : Int32).toNatClampNeg) = 0) : Z_X10_lowPart R σ o0 x1 x2 = (ui σ (R 643 o0) (x1 : Int32).toNatClampNeg 0) := by unfold Z_X10_lowPart; exact if_pos h0
theorem zl_X10_lowPart_1 {R : Nat → Nat → Nat} {σ : SG} {o0 : Nat} {x1 : Int32} {x2 : Int32} (h0 : ¬ (mi σ (R 643 o0) (x2 : Int32).toNatClampNeg) = 0) (h1 : (Z_X10_isOne R σ o0 (x2)) = 0) (h2 : (mi σ (R 643 o0) (x2 : Int32).toNatClampNeg) = 1) (h3 : (mj σ (R 644 o0) (x2 : Int32).toNatClampNeg) < (0 : Int64)) (h4 : (mi σ (R 643 o0) (x2 : Int32).toNatClampNeg) = 2) (h5 : (0 : Int64) < (0 : Int64)) : Z_X10_lowPart R σ o0 x1 x2 = (Z_X10_make R σ o0 (x1) (1) ((0 + 1)) (((0 + 1) + (((4294967295 - (0 + 1)) / 1) * 1))) (1)) := by unfold Z_X10_lowPart; exact Eq.trans (if_neg h0) (Eq.trans (if_pos h1) (Eq.trans (if_pos h2) (Eq.trans (if_pos h3) (Eq.trans (if_pos h4) (if_pos h5)))))
theorem zl_X10_lowPart_2 {R : Nat → Nat → Nat} {σ : SG} {o0 : Nat} {x1 : Int32} {x2 : Int32} (h0 : ¬ (mi σ (R 643 o0) (x2 : Int32).toNatClampNeg) = 0) (h1 : (Z_X10_isOne R σ o0 (x2)) = 0) (h2 : (mi σ (R 643 o0) (x2 : Int32).toNatClampNeg) = 1) (h3 : (mj σ (R 644 o0) (x2 : Int32).toNatClampNeg) < (0 : Int64)) (h4 : (mi σ (R 643 o0) (x2 : Int32).toNatClampNeg) = 2) (h5 : ¬ (0 : Int64) < (0 : Int64)) : Z_X10_lowPart R σ o0 x1 x2 = (Z_X10_make R σ o0 (x1) (1) (0) ((0 + (((4294967295 - 0) / 1) * 1))) (1)) := by unfold Z_X10_lowPart; exact Eq.trans (if_neg h0) (Eq.trans (if_pos h1) (Eq.trans (if_pos h2) (Eq.trans (if_pos h3) (Eq.trans (if_pos h4) (if_neg h5)))))
theorem zl_X10_lowPart_3 {R : Nat → Nat → Nat} {σ : SG} {o0 : Nat} {x1 : Int32} {x2 : Int32} (h0 : ¬ (mi σ (R 643 o0) (x2 : Int32).toNatClampNeg) = 0) (h1 : (Z_X10_isOne R σ o0 (x2)) = 0) (h2 : (mi σ (R 643 o0) (x2 : Int32).toNatClampNeg) = 1) (h3 : (mj σ (R 644 o0) (x2 : Int32).toNatClampNeg) < (0 : Int64)) (h4 : ¬ (mi σ (R 643 o0) (x2 : Int32).toNatClampNeg) = 2) (h5 : ((mj σ (R 644 o0) (x2 : Int32).toNatClampNeg) - (mj σ (R 644 o0) (x2 : Int32).toNatClampNeg) / (gJ ((mj σ (R 646 o0) (x2 : Int32).toNatClampNeg)) (4294967296)) * (gJ ((mj σ (R 646 o0) (x2 : Int32).toNatClampNeg)) (4294967296))) < (0 : Int64)) : Z_X10_lowPart R σ o0 x1 x2 = (Z_X10_make R σ o0 (x1) (1) ((((mj σ (R 644 o0) (x2 : Int32).toNatClampNeg) - (mj σ (R 644 o0) (x2 : Int32).toNatClampNeg) / (gJ ((mj σ (R 646 o0) (x2 : Int32).toNatClampNeg)) (4294967296)) * (gJ ((mj σ (R 646 o0) (x2 : Int32).toNatClampNeg)) (4294967296))) + (gJ ((mj σ (R 646 o0) (x2 : Int32).toNatClampNeg)) (4294967296)))) (((((mj σ (R 644 o0) (x2 : Int32).toNatClampNeg) - (mj σ (R 644 o0) (x2 : Int32).toNatClampNeg) / (gJ ((mj σ (R 646 o0) (x2 : Int32).toNatClampNeg)) (4294967296)) * (gJ ((mj σ (R 646 o0) (x2 : Int32).toNatClampNeg)) (4294967296))) + (gJ ((mj σ (R 646 o0) (x2 : Int32).toNatClampNeg)) (4294967296))) + (((4294967295 - (((mj σ (R 644 o0) (x2 : Int32).toNatClampNeg) - (mj σ (R 644 o0) (x2 : Int32).toNatClampNeg) / (gJ ((mj σ (R 646 o0) (x2 : Int32).toNatClampNeg)) (4294967296)) * (gJ ((mj σ (R 646 o0) (x2 : Int32).toNatClampNeg)) (4294967296))) + (gJ ((mj σ (R 646 o0) (x2 : Int32).toNatClampNeg)) (4294967296)))) / (gJ ((mj σ (R 646 o0) (x2 : Int32).toNatClampNeg)) (4294967296))) * (gJ ((mj σ (R 646 o0) (x2 : Int32).toNatClampNeg)) (4294967296))))) ((gJ ((mj σ (R 646 o0) (x2 : Int32).toNatClampNeg)) (4294967296)))) := by unfold Z_X10_lowPart; exact Eq.trans (if_neg h0) (Eq.trans (if_pos h1) (Eq.trans (if_pos h2) (Eq.trans (if_pos h3) (Eq.trans (if_neg h4) (if_pos h5)))))
theorem zl_X10_lowPart_4 {R : Nat → Nat → Nat} {σ : SG} {o0 : Nat} {x1 : Int32} {x2 : Int32} (h0 : ¬ (mi σ (R 643 o0) (x2 : Int32).toNatClampNeg) = 0) (h1 : (Z_X10_isOne R σ o0 (x2)) = 0) (h2 : (mi σ (R 643 o0) (x2 : Int32).toNatClampNeg) = 1) (h3 : (mj σ (R 644 o0) (x2 : Int32).toNatClampNeg) < (0 : Int64)) (h4 : ¬ (mi σ (R 643 o0) (x2 : Int32).toNatClampNeg) = 2) (h5 : ¬ ((mj σ (R 644 o0) (x2 : Int32).toNatClampNeg) - (mj σ (R 644 o0) (x2 : Int32).toNatClampNeg) / (gJ ((mj σ (R 646 o0) (x2 : Int32).toNatClampNeg)) (4294967296)) * (gJ ((mj σ (R 646 o0) (x2 : Int32).toNatClampNeg)) (4294967296))) < (0 : Int64)) : Z_X10_lowPart R σ o0 x1 x2 = (Z_X10_make R σ o0 (x1) (1) (((mj σ (R 644 o0) (x2 : Int32).toNatClampNeg) - (mj σ (R 644 o0) (x2 : Int32).toNatClampNeg) / (gJ ((mj σ (R 646 o0) (x2 : Int32).toNatClampNeg)) (4294967296)) * (gJ ((mj σ (R 646 o0) (x2 : Int32).toNatClampNeg)) (4294967296)))) ((((mj σ (R 644 o0) (x2 : Int32).toNatClampNeg) - (mj σ (R 644 o0) (x2 : Int32).toNatClampNeg) / (gJ ((mj σ (R 646 o0) (x2 : Int32).toNatClampNeg)) (4294967296)) * (gJ ((mj σ (R 646 o0) (x2 : Int32).toNatClampNeg)) (4294967296))) + (((4294967295 - ((mj σ (R 644 o0) (x2 : Int32).toNatClampNeg) - (mj σ (R 644 o0) (x2 : Int32).toNatClampNeg) / (gJ ((mj σ (R 646 o0) (x2 : Int32).toNatClampNeg)) (4294967296)) * (gJ ((mj σ (R 646 o0) (x2 : Int32).toNatClampNeg)) (4294967296)))) / (gJ ((mj σ (R 646 o0) (x2 : Int32).toNatClampNeg)) (4294967296))) * (gJ ((mj σ (R 646 o0) (x2 : Int32).toNatClampNeg)) (4294967296))))) ((gJ ((mj σ (R 646 o0) (x2 : Int32).toNatClampNeg)) (4294967296)))) := by unfold Z_X10_lowPart; exact Eq.trans (if_neg h0) (Eq.trans (if_pos h1) (Eq.trans (if_pos h2) (Eq.trans (if_pos h3) (Eq.trans (if_neg h4) (if_neg h5)))))
theorem zl_X10_lowPart_5 {R : Nat → Nat → Nat} {σ : SG} {o0 : Nat} {x1 : Int32} {x2 : Int32} (h0 : ¬ (mi σ (R 643 o0) (x2 : Int32).toNatClampNeg) = 0) (h1 : (Z_X10_isOne R σ o0 (x2)) = 0) (h2 : (mi σ (R 643 o0) (x2 : Int32).toNatClampNeg) = 1) (h3 : ¬ (mj σ (R 644 o0) (x2 : Int32).toNatClampNeg) < (0 : Int64)) (h4 : (mj σ (R 645 o0) (x2 : Int32).toNatClampNeg) < (4294967296 : Int64)) : Z_X10_lowPart R σ o0 x1 x2 = (Z_X10_copy R σ o0 (x1) (x2)) := by unfold Z_X10_lowPart; exact Eq.trans (if_neg h0) (Eq.trans (if_pos h1) (Eq.trans (if_pos h2) (Eq.trans (if_neg h3) (if_pos h4))))
theorem zl_X10_lowPart_6 {R : Nat → Nat → Nat} {σ : SG} {o0 : Nat} {x1 : Int32} {x2 : Int32} (h0 : ¬ (mi σ (R 643 o0) (x2 : Int32).toNatClampNeg) = 0) (h1 : (Z_X10_isOne R σ o0 (x2)) = 0) (h2 : (mi σ (R 643 o0) (x2 : Int32).toNatClampNeg) = 1) (h3 : ¬ (mj σ (R 644 o0) (x2 : Int32).toNatClampNeg) < (0 : Int64)) (h4 : ¬ (mj σ (R 645 o0) (x2 : Int32).toNatClampNeg) < (4294967296 : Int64)) (h5 : (mi σ (R 643 o0) (x2 : Int32).toNatClampNeg) = 2) (h6 : (0 : Int64) < (0 : Int64)) : Z_X10_lowPart R σ o0 x1 x2 = (Z_X10_make R σ o0 (x1) (1) ((0 + 1)) (((0 + 1) + (((4294967295 - (0 + 1)) / 1) * 1))) (1)) := by unfold Z_X10_lowPart; exact Eq.trans (if_neg h0) (Eq.trans (if_pos h1) (Eq.trans (if_pos h2) (Eq.trans (if_neg h3) (Eq.trans (if_neg h4) (Eq.trans (if_pos h5) (if_pos h6))))))
theorem zl_X10_lowPart_7 {R : Nat → Nat → Nat} {σ : SG} {o0 : Nat} {x1 : Int32} {x2 : Int32} (h0 : ¬ (mi σ (R 643 o0) (x2 : Int32).toNatClampNeg) = 0) (h1 : (Z_X10_isOne R σ o0 (x2)) = 0) (h2 : (mi σ (R 643 o0) (x2 : Int32).toNatClampNeg) = 1) (h3 : ¬ (mj σ (R 644 o0) (x2 : Int32).toNatClampNeg) < (0 : Int64)) (h4 : ¬ (mj σ (R 645 o0) (x2 : Int32).toNatClampNeg) < (4294967296 : Int64)) (h5 : (mi σ (R 643 o0) (x2 : Int32).toNatClampNeg) = 2) (h6 : ¬ (0 : Int64) < (0 : Int64)) : Z_X10_lowPart R σ o0 x1 x2 = (Z_X10_make R σ o0 (x1) (1) (0) ((0 + (((4294967295 - 0) / 1) * 1))) (1)) := by unfold Z_X10_lowPart; exact Eq.trans (if_neg h0) (Eq.trans (if_pos h1) (Eq.trans (if_pos h2) (Eq.trans (if_neg h3) (Eq.trans (if_neg h4) (Eq.trans (if_pos h5) (if_neg h6))))))
theorem zl_X10_lowPart_8 {R : Nat → Nat → Nat} {σ : SG} {o0 : Nat} {x1 : Int32} {x2 : Int32} (h0 : ¬ (mi σ (R 643 o0) (x2 : Int32).toNatClampNeg) = 0) (h1 : (Z_X10_isOne R σ o0 (x2)) = 0) (h2 : (mi σ (R 643 o0) (x2 : Int32).toNatClampNeg) = 1) (h3 : ¬ (mj σ (R 644 o0) (x2 : Int32).toNatClampNeg) < (0 : Int64)) (h4 : ¬ (mj σ (R 645 o0) (x2 : Int32).toNatClampNeg) < (4294967296 : Int64)) (h5 : ¬ (mi σ (R 643 o0) (x2 : Int32).toNatClampNeg) = 2) (h6 : ((mj σ (R 644 o0) (x2 : Int32).toNatClampNeg) - (mj σ (R 644 o0) (x2 : Int32).toNatClampNeg) / (gJ ((mj σ (R 646 o0) (x2 : Int32).toNatClampNeg)) (4294967296)) * (gJ ((mj σ (R 646 o0) (x2 : Int32).toNatClampNeg)) (4294967296))) < (0 : Int64)) : Z_X10_lowPart R σ o0 x1 x2 = (Z_X10_make R σ o0 (x1) (1) ((((mj σ (R 644 o0) (x2 : Int32).toNatClampNeg) - (mj σ (R 644 o0) (x2 : Int32).toNatClampNeg) / (gJ ((mj σ (R 646 o0) (x2 : Int32).toNatClampNeg)) (4294967296)) * (gJ ((mj σ (R 646 o0) (x2 : Int32).toNatClampNeg)) (4294967296))) + (gJ ((mj σ (R 646 o0) (x2 : Int32).toNatClampNeg)) (4294967296)))) (((((mj σ (R 644 o0) (x2 : Int32).toNatClampNeg) - (mj σ (R 644 o0) (x2 : Int32).toNatClampNeg) / (gJ ((mj σ (R 646 o0) (x2 : Int32).toNatClampNeg)) (4294967296)) * (gJ ((mj σ (R 646 o0) (x2 : Int32).toNatClampNeg)) (4294967296))) + (gJ ((mj σ (R 646 o0) (x2 : Int32).toNatClampNeg)) (4294967296))) + (((4294967295 - (((mj σ (R 644 o0) (x2 : Int32).toNatClampNeg) - (mj σ (R 644 o0) (x2 : Int32).toNatClampNeg) / (gJ ((mj σ (R 646 o0) (x2 : Int32).toNatClampNeg)) (4294967296)) * (gJ ((mj σ (R 646 o0) (x2 : Int32).toNatClampNeg)) (4294967296))) + (gJ ((mj σ (R 646 o0) (x2 : Int32).toNatClampNeg)) (4294967296)))) / (gJ ((mj σ (R 646 o0) (x2 : Int32).toNatClampNeg)) (4294967296))) * (gJ ((mj σ (R 646 o0) (x2 : Int32).toNatClampNeg)) (4294967296))))) ((gJ ((mj σ (R 646 o0) (x2 : Int32).toNatClampNeg)) (4294967296)))) := by unfold Z_X10_lowPart; exact Eq.trans (if_neg h0) (Eq.trans (if_pos h1) (Eq.trans (if_pos h2) (Eq.trans (if_neg h3) (Eq.trans (if_neg h4) (Eq.trans (if_neg h5) (if_pos h6))))))
theorem zl_X10_lowPart_9 {R : Nat → Nat → Nat} {σ : SG} {o0 : Nat} {x1 : Int32} {x2 : Int32} (h0 : ¬ (mi σ (R 643 o0) (x2 : Int32).toNatClampNeg) = 0) (h1 : (Z_X10_isOne R σ o0 (x2)) = 0) (h2 : (mi σ (R 643 o0) (x2 : Int32).toNatClampNeg) = 1) (h3 : ¬ (mj σ (R 644 o0) (x2 : Int32).toNatClampNeg) < (0 : Int64)) (h4 : ¬ (mj σ (R 645 o0) (x2 : Int32).toNatClampNeg) < (4294967296 : Int64)) (h5 : ¬ (mi σ (R 643 o0) (x2 : Int32).toNatClampNeg) = 2) (h6 : ¬ ((mj σ (R 644 o0) (x2 : Int32).toNatClampNeg) - (mj σ (R 644 o0) (x2 : Int32).toNatClampNeg) / (gJ ((mj σ (R 646 o0) (x2 : Int32).toNatClampNeg)) (4294967296)) * (gJ ((mj σ (R 646 o0) (x2 : Int32).toNatClampNeg)) (4294967296))) < (0 : Int64)) : Z_X10_lowPart R σ o0 x1 x2 = (Z_X10_make R σ o0 (x1) (1) (((mj σ (R 644 o0) (x2 : Int32).toNatClampNeg) - (mj σ (R 644 o0) (x2 : Int32).toNatClampNeg) / (gJ ((mj σ (R 646 o0) (x2 : Int32).toNatClampNeg)) (4294967296)) * (gJ ((mj σ (R 646 o0) (x2 : Int32).toNatClampNeg)) (4294967296)))) ((((mj σ (R 644 o0) (x2 : Int32).toNatClampNeg) - (mj σ (R 644 o0) (x2 : Int32).toNatClampNeg) / (gJ ((mj σ (R 646 o0) (x2 : Int32).toNatClampNeg)) (4294967296)) * (gJ ((mj σ (R 646 o0) (x2 : Int32).toNatClampNeg)) (4294967296))) + (((4294967295 - ((mj σ (R 644 o0) (x2 : Int32).toNatClampNeg) - (mj σ (R 644 o0) (x2 : Int32).toNatClampNeg) / (gJ ((mj σ (R 646 o0) (x2 : Int32).toNatClampNeg)) (4294967296)) * (gJ ((mj σ (R 646 o0) (x2 : Int32).toNatClampNeg)) (4294967296)))) / (gJ ((mj σ (R 646 o0) (x2 : Int32).toNatClampNeg)) (4294967296))) * (gJ ((mj σ (R 646 o0) (x2 : Int32).toNatClampNeg)) (4294967296))))) ((gJ ((mj σ (R 646 o0) (x2 : Int32).toNatClampNeg)) (4294967296)))) := by unfold Z_X10_lowPart; exact Eq.trans (if_neg h0) (Eq.trans (if_pos h1) (Eq.trans (if_pos h2) (Eq.trans (if_neg h3) (Eq.trans (if_neg h4) (Eq.trans (if_neg h5) (if_neg h6))))))
theorem zl_X10_lowPart_10 {R : Nat → Nat → Nat} {σ : SG} {o0 : Nat} {x1 : Int32} {x2 : Int32} (h0 : ¬ (mi σ (R 643 o0) (x2 : Int32).toNatClampNeg) = 0) (h1 : (Z_X10_isOne R σ o0 (x2)) = 0) (h2 : ¬ (mi σ (R 643 o0) (x2 : Int32).toNatClampNeg) = 1) (h3 : (mi σ (R 643 o0) (x2 : Int32).toNatClampNeg) = 2) (h4 : (0 : Int64) < (0 : Int64)) : Z_X10_lowPart R σ o0 x1 x2 = (Z_X10_make R σ o0 (x1) (1) ((0 + 1)) (((0 + 1) + (((4294967295 - (0 + 1)) / 1) * 1))) (1)) := by unfold Z_X10_lowPart; exact Eq.trans (if_neg h0) (Eq.trans (if_pos h1) (Eq.trans (if_neg h2) (Eq.trans (if_pos h3) (if_pos h4))))
theorem zl_X10_lowPart_11 {R : Nat → Nat → Nat} {σ : SG} {o0 : Nat} {x1 : Int32} {x2 : Int32} (h0 : ¬ (mi σ (R 643 o0) (x2 : Int32).toNatClampNeg) = 0) (h1 : (Z_X10_isOne R σ o0 (x2)) = 0) (h2 : ¬ (mi σ (R 643 o0) (x2 : Int32).toNatClampNeg) = 1) (h3 : (mi σ (R 643 o0) (x2 : Int32).toNatClampNeg) = 2) (h4 : ¬ (0 : Int64) < (0 : Int64)) : Z_X10_lowPart R σ o0 x1 x2 = (Z_X10_make R σ o0 (x1) (1) (0) ((0 + (((4294967295 - 0) / 1) * 1))) (1)) := by unfold Z_X10_lowPart; exact Eq.trans (if_neg h0) (Eq.trans (if_pos h1) (Eq.trans (if_neg h2) (Eq.trans (if_pos h3) (if_neg h4))))
theorem zl_X10_lowPart_12 {R : Nat → Nat → Nat} {σ : SG} {o0 : Nat} {x1 : Int32} {x2 : Int32} (h0 : ¬ (mi σ (R 643 o0) (x2 : Int32).toNatClampNeg) = 0) (h1 : (Z_X10_isOne R σ o0 (x2)) = 0) (h2 : ¬ (mi σ (R 643 o0) (x2 : Int32).toNatClampNeg) = 1) (h3 : ¬ (mi σ (R 643 o0) (x2 : Int32).toNatClampNeg) = 2) (h4 : ((mj σ (R 644 o0) (x2 : Int32).toNatClampNeg) - (mj σ (R 644 o0) (x2 : Int32).toNatClampNeg) / (gJ ((mj σ (R 646 o0) (x2 : Int32).toNatClampNeg)) (4294967296)) * (gJ ((mj σ (R 646 o0) (x2 : Int32).toNatClampNeg)) (4294967296))) < (0 : Int64)) : Z_X10_lowPart R σ o0 x1 x2 = (Z_X10_make R σ o0 (x1) (1) ((((mj σ (R 644 o0) (x2 : Int32).toNatClampNeg) - (mj σ (R 644 o0) (x2 : Int32).toNatClampNeg) / (gJ ((mj σ (R 646 o0) (x2 : Int32).toNatClampNeg)) (4294967296)) * (gJ ((mj σ (R 646 o0) (x2 : Int32).toNatClampNeg)) (4294967296))) + (gJ ((mj σ (R 646 o0) (x2 : Int32).toNatClampNeg)) (4294967296)))) (((((mj σ (R 644 o0) (x2 : Int32).toNatClampNeg) - (mj σ (R 644 o0) (x2 : Int32).toNatClampNeg) / (gJ ((mj σ (R 646 o0) (x2 : Int32).toNatClampNeg)) (4294967296)) * (gJ ((mj σ (R 646 o0) (x2 : Int32).toNatClampNeg)) (4294967296))) + (gJ ((mj σ (R 646 o0) (x2 : Int32).toNatClampNeg)) (4294967296))) + (((4294967295 - (((mj σ (R 644 o0) (x2 : Int32).toNatClampNeg) - (mj σ (R 644 o0) (x2 : Int32).toNatClampNeg) / (gJ ((mj σ (R 646 o0) (x2 : Int32).toNatClampNeg)) (4294967296)) * (gJ ((mj σ (R 646 o0) (x2 : Int32).toNatClampNeg)) (4294967296))) + (gJ ((mj σ (R 646 o0) (x2 : Int32).toNatClampNeg)) (4294967296)))) / (gJ ((mj σ (R 646 o0) (x2 : Int32).toNatClampNeg)) (4294967296))) * (gJ ((mj σ (R 646 o0) (x2 : Int32).toNatClampNeg)) (4294967296))))) ((gJ ((mj σ (R 646 o0) (x2 : Int32).toNatClampNeg)) (4294967296)))) := by unfold Z_X10_lowPart; exact Eq.trans (if_neg h0) (Eq.trans (if_pos h1) (Eq.trans (if_neg h2) (Eq.trans (if_neg h3) (if_pos h4))))
theorem zl_X10_lowPart_13 {R : Nat → Nat → Nat} {σ : SG} {o0 : Nat} {x1 : Int32} {x2 : Int32} (h0 : ¬ (mi σ (R 643 o0) (x2 : Int32).toNatClampNeg) = 0) (h1 : (Z_X10_isOne R σ o0 (x2)) = 0) (h2 : ¬ (mi σ (R 643 o0) (x2 : Int32).toNatClampNeg) = 1) (h3 : ¬ (mi σ (R 643 o0) (x2 : Int32).toNatClampNeg) = 2) (h4 : ¬ ((mj σ (R 644 o0) (x2 : Int32).toNatClampNeg) - (mj σ (R 644 o0) (x2 : Int32).toNatClampNeg) / (gJ ((mj σ (R 646 o0) (x2 : Int32).toNatClampNeg)) (4294967296)) * (gJ ((mj σ (R 646 o0) (x2 : Int32).toNatClampNeg)) (4294967296))) < (0 : Int64)) : Z_X10_lowPart R σ o0 x1 x2 = (Z_X10_make R σ o0 (x1) (1) (((mj σ (R 644 o0) (x2 : Int32).toNatClampNeg) - (mj σ (R 644 o0) (x2 : Int32).toNatClampNeg) / (gJ ((mj σ (R 646 o0) (x2 : Int32).toNatClampNeg)) (4294967296)) * (gJ ((mj σ (R 646 o0) (x2 : Int32).toNatClampNeg)) (4294967296)))) ((((mj σ (R 644 o0) (x2 : Int32).toNatClampNeg) - (mj σ (R 644 o0) (x2 : Int32).toNatClampNeg) / (gJ ((mj σ (R 646 o0) (x2 : Int32).toNatClampNeg)) (4294967296)) * (gJ ((mj σ (R 646 o0) (x2 : Int32).toNatClampNeg)) (4294967296))) + (((4294967295 - ((mj σ (R 644 o0) (x2 : Int32).toNatClampNeg) - (mj σ (R 644 o0) (x2 : Int32).toNatClampNeg) / (gJ ((mj σ (R 646 o0) (x2 : Int32).toNatClampNeg)) (4294967296)) * (gJ ((mj σ (R 646 o0) (x2 : Int32).toNatClampNeg)) (4294967296)))) / (gJ ((mj σ (R 646 o0) (x2 : Int32).toNatClampNeg)) (4294967296))) * (gJ ((mj σ (R 646 o0) (x2 : Int32).toNatClampNeg)) (4294967296))))) ((gJ ((mj σ (R 646 o0) (x2 : Int32).toNatClampNeg)) (4294967296)))) := by unfold Z_X10_lowPart; exact Eq.trans (if_neg h0) (Eq.trans (if_pos h1) (Eq.trans (if_neg h2) (Eq.trans (if_neg h3) (if_neg h4))))
theorem zl_X10_lowPart_14 {R : Nat → Nat → Nat} {σ : SG} {o0 : Nat} {x1 : Int32} {x2 : Int32} (h0 : ¬ (mi σ (R 643 o0) (x2 : Int32).toNatClampNeg) = 0) (h1 : ¬ (Z_X10_isOne R σ o0 (x2)) = 0) : Z_X10_lowPart R σ o0 x1 x2 = (Z_X10_one R σ o0 (x1) (((mj σ (R 644 o0) (x2 : Int32).toNatClampNeg) &&& 4294967295))) := by unfold Z_X10_lowPart; exact Eq.trans (if_neg h0) (if_neg h1)
set_option maxHeartbeats 40000000 in
theorem cz_X10_lowPart {xi : SX} {S : Hp} {E : List Nat} {kc nc : Nat} {P : Po} {o0 : Nat} {x1 : Int32} {x2 : Int32} {R : Nat → Nat → Nat} (hG : GI S E) (h0 : Oa S E 10 0 o0) (h1 : Rg 0 4939 x1) (h2 : Rg 0 4939 x2) (hR : RK S R) (hP : ∀ r T x y, PV E [9989] S kc nc rV (fun v T => sg T = Z_X10_lowPart R (sg S) o0 x1 x2) [] r T x y → P r T x y) : TT xi M_X10_lowPart 0 [(0, .ref o0), (1, .int x1), (2, .int x2)] [] S kc nc P := by
  have hA : Af E [9989] S S := af_rf
  refine tt_aload_n (j := 0) dX10_lowPart_0 rfl ?_
  have hr101 := rk_R (k := 643) hR h0 32 4940
  have ho102 := rk_O (k := 643) hG hR h0 32 4940
  refine gt_gR (id := 643) dX10_lowPart_1 fl_10_13 rfl rfl h0 hA hr101 ?_
  refine tt_iload_n (j := 2) dX10_lowPart_4 rfl ?_
  refine gx_iL (v := (mi (sg S) (R 643 o0) (x2 : Int32).toNatClampNeg)) dX10_lowPart_5 ho102 hA (rg_in h2) (sg_i (a := (R 643 o0)) (i := (x2 : Int32).toNatClampNeg) (show sg S = (sg S) from rfl)) ?_
  refine tt_if_ne (tgt := 19) dX10_lowPart_6 rfl (fun q103 => ?_) (fun q103 => ?_)
  · skip
    refine tt_aload_n (j := 0) dX10_lowPart_19 rfl ?_
    refine tt_iload_n (j := 2) dX10_lowPart_20 rfl ?_
    refine gt_VIp (As := [.int x2]) dX10_lowPart_21 ca_X10_162 ⟨by decide, by decide⟩ h0 hA rfl (Nat.le_of_ble_eq_true rfl) (Nat.le_of_ble_eq_true rfl) (by decide) (cz_X10_isOne hG (oa_af h0 hA) (rg_w h2) hR (fun _ _ _ _ h => h)) rfl (fun _ h => nomatch h) (fun _ _ q => q.1) (fun x104 h105 hx106 => ?_)
    obtain rfl : Z_X10_isOne R (sg S) o0 (x2) = x104 := ((ei_w hx106.2).trans (congrArg (fun q9 => Z_X10_isOne R q9 o0 (x2)) (show sg S = (sg S) from rfl))).symm
    refine tt_if_eq (tgt := 45) dX10_lowPart_24 rfl (fun q107 => ?_) (fun q107 => ?_)
    · skip
      have h108 : Rg 0 0 (Z_X10_isOne R (sg S) o0 (x2)) := rg_eq_l h105 (⟨by decide, by decide⟩ : Rg 0 0 0) q107
      refine tt_aload_n (j := 0) dX10_lowPart_45 rfl ?_
      refine gt_gR (id := 643) dX10_lowPart_46 fl_10_13 rfl rfl h0 hA hr101 ?_
      refine tt_iload_n (j := 2) dX10_lowPart_49 rfl ?_
      refine gx_iL (v := (mi (sg S) (R 643 o0) (x2 : Int32).toNatClampNeg)) dX10_lowPart_50 ho102 hA (rg_in h2) (sg_i (a := (R 643 o0)) (i := (x2 : Int32).toNatClampNeg) (show sg S = (sg S) from rfl)) ?_
      refine tt_iconst (v := 1) dX10_lowPart_51 rfl ?_
      refine tt_icmp_ne (tgt := 88) dX10_lowPart_52 rfl (fun q109 => ?_) (fun q109 => ?_)
      · skip
        refine tt_aload_n (j := 0) dX10_lowPart_88 rfl ?_
        refine gt_gR (id := 643) dX10_lowPart_89 fl_10_13 rfl rfl h0 hA hr101 ?_
        refine tt_iload_n (j := 2) dX10_lowPart_92 rfl ?_
        refine gx_iL (v := (mi (sg S) (R 643 o0) (x2 : Int32).toNatClampNeg)) dX10_lowPart_93 ho102 hA (rg_in h2) (sg_i (a := (R 643 o0)) (i := (x2 : Int32).toNatClampNeg) (show sg S = (sg S) from rfl)) ?_
        refine tt_iconst (v := 2) dX10_lowPart_94 rfl ?_
        refine tt_icmp_ne (tgt := 102) dX10_lowPart_95 rfl (fun q110 => ?_) (fun q110 => ?_)
        · skip
          refine tt_aload_n (j := 0) dX10_lowPart_102 rfl ?_
          have hr111 := rk_R (k := 646) hR h0 33 4940
          have ho112 := rk_O (k := 646) hG hR h0 33 4940
          refine gt_gR (id := 646) dX10_lowPart_103 fl_10_23 rfl rfl h0 hA hr111 ?_
          refine tt_iload_n (j := 2) dX10_lowPart_106 rfl ?_
          refine gt_lLv (v := (mj (sg S) (R 646 o0) (x2 : Int32).toNatClampNeg)) dX10_lowPart_107 ho112 hA (rg_in h2) (sg_j (a := (R 646 o0)) (i := (x2 : Int32).toNatClampNeg) (show sg S = (sg S) from rfl)) ?_
          refine tt_ldc2 (v := 4294967296) dX10_lowPart_108 kl_10_208 ?_
          refine gt_SJp (As := [.long (mj (sg S) (R 646 o0) (x2 : Int32).toNatClampNeg), .long 4294967296]) dX10_lowPart_111 ca_X10_172 ⟨by decide, by decide⟩ hA (Nat.le_of_ble_eq_true rfl) (Nat.le_of_ble_eq_true rfl) (by decide) (cz_X10_gcd hG  (fun _ _ _ _ h => h)) rfl (fun _ h => nomatch h) (fun _ _ q => q.1) (fun y113 hx115 => ?_)
          obtain rfl : gJ ((mj (sg S) (R 646 o0) (x2 : Int32).toNatClampNeg)) (4294967296) = y113 := ((el_w hx115.2).trans rfl).symm
          refine tt_lstore_n (ks := [0, 1, 2, 3]) (L' := [(3, .long (gJ ((mj (sg S) (R 646 o0) (x2 : Int32).toNatClampNeg)) (4294967296))), (0, .ref o0), (1, .int x1), (2, .int x2)]) dX10_lowPart_114 (by decide) rfl ?_
          refine tt_aload_n (j := 1) dX10_lowPart_115 rfl ?_
          refine gt_gR (id := 643) dX10_lowPart_116 fl_10_13 rfl rfl h0 hA hr101 ?_
          refine tt_iload_n (j := 3) dX10_lowPart_119 rfl ?_
          refine gx_iL (v := (mi (sg S) (R 643 o0) (x2 : Int32).toNatClampNeg)) dX10_lowPart_120 ho102 hA (rg_in h2) (sg_i (a := (R 643 o0)) (i := (x2 : Int32).toNatClampNeg) (show sg S = (sg S) from rfl)) ?_
          refine tt_iconst (v := 2) dX10_lowPart_121 rfl ?_
          refine tt_icmp_ne (tgt := 129) dX10_lowPart_122 rfl (fun _ => ?_) (fun q => absurd q q110)
          refine tt_aload_n (j := 1) dX10_lowPart_129 rfl ?_
          have hr116 := rk_R (k := 644) hR h0 33 4940
          have ho117 := rk_O (k := 644) hG hR h0 33 4940
          refine gt_gR (id := 644) dX10_lowPart_130 fl_10_16 rfl rfl h0 hA hr116 ?_
          refine tt_iload_n (j := 3) dX10_lowPart_133 rfl ?_
          refine gt_lLv (v := (mj (sg S) (R 644 o0) (x2 : Int32).toNatClampNeg)) dX10_lowPart_134 ho117 hA (rg_in h2) (sg_j (a := (R 644 o0)) (i := (x2 : Int32).toNatClampNeg) (show sg S = (sg S) from rfl)) ?_
          refine tt_lload_n (j := 0) dX10_lowPart_135 rfl ?_
          refine tt_lrem dX10_lowPart_136 (gJ_w9 _) ?_
          refine tt_lstore (ks := [0, 1, 2, 3, 4]) (L' := [(5, .long ((mj (sg S) (R 644 o0) (x2 : Int32).toNatClampNeg) - (mj (sg S) (R 644 o0) (x2 : Int32).toNatClampNeg) / (gJ ((mj (sg S) (R 646 o0) (x2 : Int32).toNatClampNeg)) (4294967296)) * (gJ ((mj (sg S) (R 646 o0) (x2 : Int32).toNatClampNeg)) (4294967296)))), (3, .long (gJ ((mj (sg S) (R 646 o0) (x2 : Int32).toNatClampNeg)) (4294967296))), (0, .ref o0), (1, .int x1), (2, .int x2)]) dX10_lowPart_137 (by decide) rfl ?_
          refine tt_lload (j := 0) dX10_lowPart_139 rfl ?_
          refine tt_lconst (v := 0) dX10_lowPart_141 rfl ?_
          refine tt_lcmp dX10_lowPart_142 ?_
          refine tt_if_ge (tgt := 153) dX10_lowPart_143 rfl (fun q118 => ?_) (fun q118 => ?_)
          · skip
            refine tt_lload (j := 0) dX10_lowPart_153 rfl ?_
            refine tt_lstore (ks := [0, 1, 2, 3, 4]) (L' := [(5, .long ((mj (sg S) (R 644 o0) (x2 : Int32).toNatClampNeg) - (mj (sg S) (R 644 o0) (x2 : Int32).toNatClampNeg) / (gJ ((mj (sg S) (R 646 o0) (x2 : Int32).toNatClampNeg)) (4294967296)) * (gJ ((mj (sg S) (R 646 o0) (x2 : Int32).toNatClampNeg)) (4294967296)))), (3, .long (gJ ((mj (sg S) (R 646 o0) (x2 : Int32).toNatClampNeg)) (4294967296))), (0, .ref o0), (1, .int x1), (2, .int x2)]) dX10_lowPart_155 (by decide) rfl ?_
            refine tt_aload_n (j := 2) dX10_lowPart_157 rfl ?_
            refine tt_iload_n (j := 3) dX10_lowPart_158 rfl ?_
            refine tt_iconst (v := 1) dX10_lowPart_159 rfl ?_
            refine tt_lload (j := 0) dX10_lowPart_160 rfl ?_
            refine tt_lload (j := 0) dX10_lowPart_162 rfl ?_
            refine tt_ldc2 (v := 4294967295) dX10_lowPart_164 kl_10_206 ?_
            refine tt_lload (j := 0) dX10_lowPart_167 rfl ?_
            refine tt_lsub dX10_lowPart_169 ?_
            refine tt_lload_n (j := 1) dX10_lowPart_170 rfl ?_
            refine tt_ldiv dX10_lowPart_171 (gJ_w9 _) ?_
            refine tt_lload_n (j := 1) dX10_lowPart_172 rfl ?_
            refine tt_lmul dX10_lowPart_173 ?_
            refine tt_ladd dX10_lowPart_174 ?_
            refine tt_lload_n (j := 1) dX10_lowPart_175 rfl ?_
            refine gt_Vv (As := [.int x1, .int 1, .long ((mj (sg S) (R 644 o0) (x2 : Int32).toNatClampNeg) - (mj (sg S) (R 644 o0) (x2 : Int32).toNatClampNeg) / (gJ ((mj (sg S) (R 646 o0) (x2 : Int32).toNatClampNeg)) (4294967296)) * (gJ ((mj (sg S) (R 646 o0) (x2 : Int32).toNatClampNeg)) (4294967296))), .long (((mj (sg S) (R 644 o0) (x2 : Int32).toNatClampNeg) - (mj (sg S) (R 644 o0) (x2 : Int32).toNatClampNeg) / (gJ ((mj (sg S) (R 646 o0) (x2 : Int32).toNatClampNeg)) (4294967296)) * (gJ ((mj (sg S) (R 646 o0) (x2 : Int32).toNatClampNeg)) (4294967296))) + (((4294967295 - ((mj (sg S) (R 644 o0) (x2 : Int32).toNatClampNeg) - (mj (sg S) (R 644 o0) (x2 : Int32).toNatClampNeg) / (gJ ((mj (sg S) (R 646 o0) (x2 : Int32).toNatClampNeg)) (4294967296)) * (gJ ((mj (sg S) (R 646 o0) (x2 : Int32).toNatClampNeg)) (4294967296)))) / (gJ ((mj (sg S) (R 646 o0) (x2 : Int32).toNatClampNeg)) (4294967296))) * (gJ ((mj (sg S) (R 646 o0) (x2 : Int32).toNatClampNeg)) (4294967296)))), .long (gJ ((mj (sg S) (R 646 o0) (x2 : Int32).toNatClampNeg)) (4294967296))]) dX10_lowPart_176 ca_X10_165 ⟨by decide, by decide⟩ h0 hA rfl (Nat.le_of_ble_eq_true rfl) (Nat.le_of_ble_eq_true rfl) (by decide) (cz_X10_make hG (oa_af h0 hA) (rg_w h1) hR (fun _ _ _ _ h => h)) rfl (fun _ h => nomatch h) (fun S119 hx123 hG120 hB121 hA122 => ?_)
            obtain ⟨d124, hd125⟩ : ∃ q, Z_X10_make R (sg S) o0 (x1) (1) (((mj (sg S) (R 644 o0) (x2 : Int32).toNatClampNeg) - (mj (sg S) (R 644 o0) (x2 : Int32).toNatClampNeg) / (gJ ((mj (sg S) (R 646 o0) (x2 : Int32).toNatClampNeg)) (4294967296)) * (gJ ((mj (sg S) (R 646 o0) (x2 : Int32).toNatClampNeg)) (4294967296)))) ((((mj (sg S) (R 644 o0) (x2 : Int32).toNatClampNeg) - (mj (sg S) (R 644 o0) (x2 : Int32).toNatClampNeg) / (gJ ((mj (sg S) (R 646 o0) (x2 : Int32).toNatClampNeg)) (4294967296)) * (gJ ((mj (sg S) (R 646 o0) (x2 : Int32).toNatClampNeg)) (4294967296))) + (((4294967295 - ((mj (sg S) (R 644 o0) (x2 : Int32).toNatClampNeg) - (mj (sg S) (R 644 o0) (x2 : Int32).toNatClampNeg) / (gJ ((mj (sg S) (R 646 o0) (x2 : Int32).toNatClampNeg)) (4294967296)) * (gJ ((mj (sg S) (R 646 o0) (x2 : Int32).toNatClampNeg)) (4294967296)))) / (gJ ((mj (sg S) (R 646 o0) (x2 : Int32).toNatClampNeg)) (4294967296))) * (gJ ((mj (sg S) (R 646 o0) (x2 : Int32).toNatClampNeg)) (4294967296))))) ((gJ ((mj (sg S) (R 646 o0) (x2 : Int32).toNatClampNeg)) (4294967296))) = q := ⟨_, rfl⟩
            have hq126 := (congrArg (fun q9 => Z_X10_make R q9 o0 (x1) (1) (((mj (sg S) (R 644 o0) (x2 : Int32).toNatClampNeg) - (mj (sg S) (R 644 o0) (x2 : Int32).toNatClampNeg) / (gJ ((mj (sg S) (R 646 o0) (x2 : Int32).toNatClampNeg)) (4294967296)) * (gJ ((mj (sg S) (R 646 o0) (x2 : Int32).toNatClampNeg)) (4294967296)))) ((((mj (sg S) (R 644 o0) (x2 : Int32).toNatClampNeg) - (mj (sg S) (R 644 o0) (x2 : Int32).toNatClampNeg) / (gJ ((mj (sg S) (R 646 o0) (x2 : Int32).toNatClampNeg)) (4294967296)) * (gJ ((mj (sg S) (R 646 o0) (x2 : Int32).toNatClampNeg)) (4294967296))) + (((4294967295 - ((mj (sg S) (R 644 o0) (x2 : Int32).toNatClampNeg) - (mj (sg S) (R 644 o0) (x2 : Int32).toNatClampNeg) / (gJ ((mj (sg S) (R 646 o0) (x2 : Int32).toNatClampNeg)) (4294967296)) * (gJ ((mj (sg S) (R 646 o0) (x2 : Int32).toNatClampNeg)) (4294967296)))) / (gJ ((mj (sg S) (R 646 o0) (x2 : Int32).toNatClampNeg)) (4294967296))) * (gJ ((mj (sg S) (R 646 o0) (x2 : Int32).toNatClampNeg)) (4294967296))))) ((gJ ((mj (sg S) (R 646 o0) (x2 : Int32).toNatClampNeg)) (4294967296)))) (show sg S = (sg S) from rfl)).trans hd125
            have hs127 := hx123.trans hq126
            have hF : Z_X10_lowPart R (sg S) o0 x1 x2 = d124 := by
              subst hd125
              exact zl_X10_lowPart_13 q103 q107 q109 q110 (Int64.not_lt.mpr (lc_ge_t q118))
            exact tt_vreturn dX10_lowPart_179 rfl (hP _ _ _ _ ⟨hG120, hA122, Or.inl ⟨_, rfl, rfl, Eq.trans hs127 hF.symm, rfl, rfl⟩⟩)
          · skip
            refine tt_lload (j := 0) dX10_lowPart_146 rfl ?_
            refine tt_lload_n (j := 1) dX10_lowPart_148 rfl ?_
            refine tt_ladd dX10_lowPart_149 ?_
            refine tt_goto (tgt := 155) dX10_lowPart_150 rfl ?_
            refine tt_lstore (ks := [0, 1, 2, 3, 4]) (L' := [(5, .long (((mj (sg S) (R 644 o0) (x2 : Int32).toNatClampNeg) - (mj (sg S) (R 644 o0) (x2 : Int32).toNatClampNeg) / (gJ ((mj (sg S) (R 646 o0) (x2 : Int32).toNatClampNeg)) (4294967296)) * (gJ ((mj (sg S) (R 646 o0) (x2 : Int32).toNatClampNeg)) (4294967296))) + (gJ ((mj (sg S) (R 646 o0) (x2 : Int32).toNatClampNeg)) (4294967296)))), (3, .long (gJ ((mj (sg S) (R 646 o0) (x2 : Int32).toNatClampNeg)) (4294967296))), (0, .ref o0), (1, .int x1), (2, .int x2)]) dX10_lowPart_155 (by decide) rfl ?_
            refine tt_aload_n (j := 2) dX10_lowPart_157 rfl ?_
            refine tt_iload_n (j := 3) dX10_lowPart_158 rfl ?_
            refine tt_iconst (v := 1) dX10_lowPart_159 rfl ?_
            refine tt_lload (j := 0) dX10_lowPart_160 rfl ?_
            refine tt_lload (j := 0) dX10_lowPart_162 rfl ?_
            refine tt_ldc2 (v := 4294967295) dX10_lowPart_164 kl_10_206 ?_
            refine tt_lload (j := 0) dX10_lowPart_167 rfl ?_
            refine tt_lsub dX10_lowPart_169 ?_
            refine tt_lload_n (j := 1) dX10_lowPart_170 rfl ?_
            refine tt_ldiv dX10_lowPart_171 (gJ_w9 _) ?_
            refine tt_lload_n (j := 1) dX10_lowPart_172 rfl ?_
            refine tt_lmul dX10_lowPart_173 ?_
            refine tt_ladd dX10_lowPart_174 ?_
            refine tt_lload_n (j := 1) dX10_lowPart_175 rfl ?_
            refine gt_Vv (As := [.int x1, .int 1, .long (((mj (sg S) (R 644 o0) (x2 : Int32).toNatClampNeg) - (mj (sg S) (R 644 o0) (x2 : Int32).toNatClampNeg) / (gJ ((mj (sg S) (R 646 o0) (x2 : Int32).toNatClampNeg)) (4294967296)) * (gJ ((mj (sg S) (R 646 o0) (x2 : Int32).toNatClampNeg)) (4294967296))) + (gJ ((mj (sg S) (R 646 o0) (x2 : Int32).toNatClampNeg)) (4294967296))), .long ((((mj (sg S) (R 644 o0) (x2 : Int32).toNatClampNeg) - (mj (sg S) (R 644 o0) (x2 : Int32).toNatClampNeg) / (gJ ((mj (sg S) (R 646 o0) (x2 : Int32).toNatClampNeg)) (4294967296)) * (gJ ((mj (sg S) (R 646 o0) (x2 : Int32).toNatClampNeg)) (4294967296))) + (gJ ((mj (sg S) (R 646 o0) (x2 : Int32).toNatClampNeg)) (4294967296))) + (((4294967295 - (((mj (sg S) (R 644 o0) (x2 : Int32).toNatClampNeg) - (mj (sg S) (R 644 o0) (x2 : Int32).toNatClampNeg) / (gJ ((mj (sg S) (R 646 o0) (x2 : Int32).toNatClampNeg)) (4294967296)) * (gJ ((mj (sg S) (R 646 o0) (x2 : Int32).toNatClampNeg)) (4294967296))) + (gJ ((mj (sg S) (R 646 o0) (x2 : Int32).toNatClampNeg)) (4294967296)))) / (gJ ((mj (sg S) (R 646 o0) (x2 : Int32).toNatClampNeg)) (4294967296))) * (gJ ((mj (sg S) (R 646 o0) (x2 : Int32).toNatClampNeg)) (4294967296)))), .long (gJ ((mj (sg S) (R 646 o0) (x2 : Int32).toNatClampNeg)) (4294967296))]) dX10_lowPart_176 ca_X10_165 ⟨by decide, by decide⟩ h0 hA rfl (Nat.le_of_ble_eq_true rfl) (Nat.le_of_ble_eq_true rfl) (by decide) (cz_X10_make hG (oa_af h0 hA) (rg_w h1) hR (fun _ _ _ _ h => h)) rfl (fun _ h => nomatch h) (fun S128 hx132 hG129 hB130 hA131 => ?_)
            obtain ⟨d133, hd134⟩ : ∃ q, Z_X10_make R (sg S) o0 (x1) (1) ((((mj (sg S) (R 644 o0) (x2 : Int32).toNatClampNeg) - (mj (sg S) (R 644 o0) (x2 : Int32).toNatClampNeg) / (gJ ((mj (sg S) (R 646 o0) (x2 : Int32).toNatClampNeg)) (4294967296)) * (gJ ((mj (sg S) (R 646 o0) (x2 : Int32).toNatClampNeg)) (4294967296))) + (gJ ((mj (sg S) (R 646 o0) (x2 : Int32).toNatClampNeg)) (4294967296)))) (((((mj (sg S) (R 644 o0) (x2 : Int32).toNatClampNeg) - (mj (sg S) (R 644 o0) (x2 : Int32).toNatClampNeg) / (gJ ((mj (sg S) (R 646 o0) (x2 : Int32).toNatClampNeg)) (4294967296)) * (gJ ((mj (sg S) (R 646 o0) (x2 : Int32).toNatClampNeg)) (4294967296))) + (gJ ((mj (sg S) (R 646 o0) (x2 : Int32).toNatClampNeg)) (4294967296))) + (((4294967295 - (((mj (sg S) (R 644 o0) (x2 : Int32).toNatClampNeg) - (mj (sg S) (R 644 o0) (x2 : Int32).toNatClampNeg) / (gJ ((mj (sg S) (R 646 o0) (x2 : Int32).toNatClampNeg)) (4294967296)) * (gJ ((mj (sg S) (R 646 o0) (x2 : Int32).toNatClampNeg)) (4294967296))) + (gJ ((mj (sg S) (R 646 o0) (x2 : Int32).toNatClampNeg)) (4294967296)))) / (gJ ((mj (sg S) (R 646 o0) (x2 : Int32).toNatClampNeg)) (4294967296))) * (gJ ((mj (sg S) (R 646 o0) (x2 : Int32).toNatClampNeg)) (4294967296))))) ((gJ ((mj (sg S) (R 646 o0) (x2 : Int32).toNatClampNeg)) (4294967296))) = q := ⟨_, rfl⟩
            have hq135 := (congrArg (fun q9 => Z_X10_make R q9 o0 (x1) (1) ((((mj (sg S) (R 644 o0) (x2 : Int32).toNatClampNeg) - (mj (sg S) (R 644 o0) (x2 : Int32).toNatClampNeg) / (gJ ((mj (sg S) (R 646 o0) (x2 : Int32).toNatClampNeg)) (4294967296)) * (gJ ((mj (sg S) (R 646 o0) (x2 : Int32).toNatClampNeg)) (4294967296))) + (gJ ((mj (sg S) (R 646 o0) (x2 : Int32).toNatClampNeg)) (4294967296)))) (((((mj (sg S) (R 644 o0) (x2 : Int32).toNatClampNeg) - (mj (sg S) (R 644 o0) (x2 : Int32).toNatClampNeg) / (gJ ((mj (sg S) (R 646 o0) (x2 : Int32).toNatClampNeg)) (4294967296)) * (gJ ((mj (sg S) (R 646 o0) (x2 : Int32).toNatClampNeg)) (4294967296))) + (gJ ((mj (sg S) (R 646 o0) (x2 : Int32).toNatClampNeg)) (4294967296))) + (((4294967295 - (((mj (sg S) (R 644 o0) (x2 : Int32).toNatClampNeg) - (mj (sg S) (R 644 o0) (x2 : Int32).toNatClampNeg) / (gJ ((mj (sg S) (R 646 o0) (x2 : Int32).toNatClampNeg)) (4294967296)) * (gJ ((mj (sg S) (R 646 o0) (x2 : Int32).toNatClampNeg)) (4294967296))) + (gJ ((mj (sg S) (R 646 o0) (x2 : Int32).toNatClampNeg)) (4294967296)))) / (gJ ((mj (sg S) (R 646 o0) (x2 : Int32).toNatClampNeg)) (4294967296))) * (gJ ((mj (sg S) (R 646 o0) (x2 : Int32).toNatClampNeg)) (4294967296))))) ((gJ ((mj (sg S) (R 646 o0) (x2 : Int32).toNatClampNeg)) (4294967296)))) (show sg S = (sg S) from rfl)).trans hd134
            have hs136 := hx132.trans hq135
            have hF : Z_X10_lowPart R (sg S) o0 x1 x2 = d133 := by
              subst hd134
              exact zl_X10_lowPart_12 q103 q107 q109 q110 (lc_ge_f q118)
            exact tt_vreturn dX10_lowPart_179 rfl (hP _ _ _ _ ⟨hG129, hA131, Or.inl ⟨_, rfl, rfl, Eq.trans hs136 hF.symm, rfl, rfl⟩⟩)
        · skip
          have h137 : Rg 2 2 (mi (sg S) (R 643 o0) (x2 : Int32).toNatClampNeg) := rg_eq_l (rg_all (mi (sg S) (R 643 o0) (x2 : Int32).toNatClampNeg)) (⟨by decide, by decide⟩ : Rg 2 2 2) q110
          refine tt_lconst (v := 1) dX10_lowPart_98 rfl ?_
          refine tt_goto (tgt := 114) dX10_lowPart_99 rfl ?_
          refine tt_lstore_n (ks := [0, 1, 2, 3]) (L' := [(3, .long 1), (0, .ref o0), (1, .int x1), (2, .int x2)]) dX10_lowPart_114 (by decide) rfl ?_
          refine tt_aload_n (j := 1) dX10_lowPart_115 rfl ?_
          refine gt_gR (id := 643) dX10_lowPart_116 fl_10_13 rfl rfl h0 hA hr101 ?_
          refine tt_iload_n (j := 3) dX10_lowPart_119 rfl ?_
          refine gx_iL (v := (mi (sg S) (R 643 o0) (x2 : Int32).toNatClampNeg)) dX10_lowPart_120 ho102 hA (rg_in h2) (sg_i (a := (R 643 o0)) (i := (x2 : Int32).toNatClampNeg) (show sg S = (sg S) from rfl)) ?_
          refine tt_iconst (v := 2) dX10_lowPart_121 rfl ?_
          refine tt_icmp_ne (tgt := 129) dX10_lowPart_122 rfl (fun q => absurd q110 q) (fun _ => ?_)
          refine tt_lconst (v := 0) dX10_lowPart_125 rfl ?_
          refine tt_goto (tgt := 137) dX10_lowPart_126 rfl ?_
          refine tt_lstore (ks := [0, 1, 2, 3, 4]) (L' := [(5, .long 0), (3, .long 1), (0, .ref o0), (1, .int x1), (2, .int x2)]) dX10_lowPart_137 (by decide) rfl ?_
          refine tt_lload (j := 0) dX10_lowPart_139 rfl ?_
          refine tt_lconst (v := 0) dX10_lowPart_141 rfl ?_
          refine tt_lcmp dX10_lowPart_142 ?_
          refine tt_if_ge (tgt := 153) dX10_lowPart_143 rfl (fun q138 => ?_) (fun q138 => ?_)
          · skip
            refine tt_lload (j := 0) dX10_lowPart_153 rfl ?_
            refine tt_lstore (ks := [0, 1, 2, 3, 4]) (L' := [(5, .long 0), (3, .long 1), (0, .ref o0), (1, .int x1), (2, .int x2)]) dX10_lowPart_155 (by decide) rfl ?_
            refine tt_aload_n (j := 2) dX10_lowPart_157 rfl ?_
            refine tt_iload_n (j := 3) dX10_lowPart_158 rfl ?_
            refine tt_iconst (v := 1) dX10_lowPart_159 rfl ?_
            refine tt_lload (j := 0) dX10_lowPart_160 rfl ?_
            refine tt_lload (j := 0) dX10_lowPart_162 rfl ?_
            refine tt_ldc2 (v := 4294967295) dX10_lowPart_164 kl_10_206 ?_
            refine tt_lload (j := 0) dX10_lowPart_167 rfl ?_
            refine tt_lsub dX10_lowPart_169 ?_
            refine tt_lload_n (j := 1) dX10_lowPart_170 rfl ?_
            refine tt_ldiv dX10_lowPart_171 (by decide) ?_
            refine tt_lload_n (j := 1) dX10_lowPart_172 rfl ?_
            refine tt_lmul dX10_lowPart_173 ?_
            refine tt_ladd dX10_lowPart_174 ?_
            refine tt_lload_n (j := 1) dX10_lowPart_175 rfl ?_
            refine gt_Vv (As := [.int x1, .int 1, .long 0, .long (0 + (((4294967295 - 0) / 1) * 1)), .long 1]) dX10_lowPart_176 ca_X10_165 ⟨by decide, by decide⟩ h0 hA rfl (Nat.le_of_ble_eq_true rfl) (Nat.le_of_ble_eq_true rfl) (by decide) (cz_X10_make hG (oa_af h0 hA) (rg_w h1) hR (fun _ _ _ _ h => h)) rfl (fun _ h => nomatch h) (fun S139 hx143 hG140 hB141 hA142 => ?_)
            obtain ⟨d144, hd145⟩ : ∃ q, Z_X10_make R (sg S) o0 (x1) (1) (0) ((0 + (((4294967295 - 0) / 1) * 1))) (1) = q := ⟨_, rfl⟩
            have hq146 := (congrArg (fun q9 => Z_X10_make R q9 o0 (x1) (1) (0) ((0 + (((4294967295 - 0) / 1) * 1))) (1)) (show sg S = (sg S) from rfl)).trans hd145
            have hs147 := hx143.trans hq146
            have hF : Z_X10_lowPart R (sg S) o0 x1 x2 = d144 := by
              subst hd145
              exact zl_X10_lowPart_11 q103 q107 q109 q110 (Int64.not_lt.mpr (lc_ge_t q138))
            exact tt_vreturn dX10_lowPart_179 rfl (hP _ _ _ _ ⟨hG140, hA142, Or.inl ⟨_, rfl, rfl, Eq.trans hs147 hF.symm, rfl, rfl⟩⟩)
          · skip
            refine tt_lload (j := 0) dX10_lowPart_146 rfl ?_
            refine tt_lload_n (j := 1) dX10_lowPart_148 rfl ?_
            refine tt_ladd dX10_lowPart_149 ?_
            refine tt_goto (tgt := 155) dX10_lowPart_150 rfl ?_
            refine tt_lstore (ks := [0, 1, 2, 3, 4]) (L' := [(5, .long (0 + 1)), (3, .long 1), (0, .ref o0), (1, .int x1), (2, .int x2)]) dX10_lowPart_155 (by decide) rfl ?_
            refine tt_aload_n (j := 2) dX10_lowPart_157 rfl ?_
            refine tt_iload_n (j := 3) dX10_lowPart_158 rfl ?_
            refine tt_iconst (v := 1) dX10_lowPart_159 rfl ?_
            refine tt_lload (j := 0) dX10_lowPart_160 rfl ?_
            refine tt_lload (j := 0) dX10_lowPart_162 rfl ?_
            refine tt_ldc2 (v := 4294967295) dX10_lowPart_164 kl_10_206 ?_
            refine tt_lload (j := 0) dX10_lowPart_167 rfl ?_
            refine tt_lsub dX10_lowPart_169 ?_
            refine tt_lload_n (j := 1) dX10_lowPart_170 rfl ?_
            refine tt_ldiv dX10_lowPart_171 (by decide) ?_
            refine tt_lload_n (j := 1) dX10_lowPart_172 rfl ?_
            refine tt_lmul dX10_lowPart_173 ?_
            refine tt_ladd dX10_lowPart_174 ?_
            refine tt_lload_n (j := 1) dX10_lowPart_175 rfl ?_
            refine gt_Vv (As := [.int x1, .int 1, .long (0 + 1), .long ((0 + 1) + (((4294967295 - (0 + 1)) / 1) * 1)), .long 1]) dX10_lowPart_176 ca_X10_165 ⟨by decide, by decide⟩ h0 hA rfl (Nat.le_of_ble_eq_true rfl) (Nat.le_of_ble_eq_true rfl) (by decide) (cz_X10_make hG (oa_af h0 hA) (rg_w h1) hR (fun _ _ _ _ h => h)) rfl (fun _ h => nomatch h) (fun S148 hx152 hG149 hB150 hA151 => ?_)
            obtain ⟨d153, hd154⟩ : ∃ q, Z_X10_make R (sg S) o0 (x1) (1) ((0 + 1)) (((0 + 1) + (((4294967295 - (0 + 1)) / 1) * 1))) (1) = q := ⟨_, rfl⟩
            have hq155 := (congrArg (fun q9 => Z_X10_make R q9 o0 (x1) (1) ((0 + 1)) (((0 + 1) + (((4294967295 - (0 + 1)) / 1) * 1))) (1)) (show sg S = (sg S) from rfl)).trans hd154
            have hs156 := hx152.trans hq155
            have hF : Z_X10_lowPart R (sg S) o0 x1 x2 = d153 := by
              subst hd154
              exact zl_X10_lowPart_10 q103 q107 q109 q110 (lc_ge_f q138)
            exact tt_vreturn dX10_lowPart_179 rfl (hP _ _ _ _ ⟨hG149, hA151, Or.inl ⟨_, rfl, rfl, Eq.trans hs156 hF.symm, rfl, rfl⟩⟩)
      · skip
        have h157 : Rg 1 1 (mi (sg S) (R 643 o0) (x2 : Int32).toNatClampNeg) := rg_eq_l (rg_all (mi (sg S) (R 643 o0) (x2 : Int32).toNatClampNeg)) (⟨by decide, by decide⟩ : Rg 1 1 1) q109
        refine tt_aload_n (j := 0) dX10_lowPart_55 rfl ?_
        have hr158 := rk_R (k := 644) hR h0 33 4940
        have ho159 := rk_O (k := 644) hG hR h0 33 4940
        refine gt_gR (id := 644) dX10_lowPart_56 fl_10_16 rfl rfl h0 hA hr158 ?_
        refine tt_iload_n (j := 2) dX10_lowPart_59 rfl ?_
        refine gt_lLv (v := (mj (sg S) (R 644 o0) (x2 : Int32).toNatClampNeg)) dX10_lowPart_60 ho159 hA (rg_in h2) (sg_j (a := (R 644 o0)) (i := (x2 : Int32).toNatClampNeg) (show sg S = (sg S) from rfl)) ?_
        refine tt_lconst (v := 0) dX10_lowPart_61 rfl ?_
        refine tt_lcmp dX10_lowPart_62 ?_
        refine tt_if_lt (tgt := 88) dX10_lowPart_63 rfl (fun q160 => ?_) (fun q160 => ?_)
        · skip
          refine tt_aload_n (j := 0) dX10_lowPart_88 rfl ?_
          refine gt_gR (id := 643) dX10_lowPart_89 fl_10_13 rfl rfl h0 hA hr101 ?_
          refine tt_iload_n (j := 2) dX10_lowPart_92 rfl ?_
          refine gx_iL (v := (mi (sg S) (R 643 o0) (x2 : Int32).toNatClampNeg)) dX10_lowPart_93 ho102 hA (rg_in h2) (sg_i (a := (R 643 o0)) (i := (x2 : Int32).toNatClampNeg) (show sg S = (sg S) from rfl)) ?_
          refine tt_iconst (v := 2) dX10_lowPart_94 rfl ?_
          refine tt_icmp_ne (tgt := 102) dX10_lowPart_95 rfl (fun q161 => ?_) (fun q161 => ?_)
          · skip
            refine tt_aload_n (j := 0) dX10_lowPart_102 rfl ?_
            have hr162 := rk_R (k := 646) hR h0 33 4940
            have ho163 := rk_O (k := 646) hG hR h0 33 4940
            refine gt_gR (id := 646) dX10_lowPart_103 fl_10_23 rfl rfl h0 hA hr162 ?_
            refine tt_iload_n (j := 2) dX10_lowPart_106 rfl ?_
            refine gt_lLv (v := (mj (sg S) (R 646 o0) (x2 : Int32).toNatClampNeg)) dX10_lowPart_107 ho163 hA (rg_in h2) (sg_j (a := (R 646 o0)) (i := (x2 : Int32).toNatClampNeg) (show sg S = (sg S) from rfl)) ?_
            refine tt_ldc2 (v := 4294967296) dX10_lowPart_108 kl_10_208 ?_
            refine gt_SJp (As := [.long (mj (sg S) (R 646 o0) (x2 : Int32).toNatClampNeg), .long 4294967296]) dX10_lowPart_111 ca_X10_172 ⟨by decide, by decide⟩ hA (Nat.le_of_ble_eq_true rfl) (Nat.le_of_ble_eq_true rfl) (by decide) (cz_X10_gcd hG  (fun _ _ _ _ h => h)) rfl (fun _ h => nomatch h) (fun _ _ q => q.1) (fun y164 hx166 => ?_)
            obtain rfl : gJ ((mj (sg S) (R 646 o0) (x2 : Int32).toNatClampNeg)) (4294967296) = y164 := ((el_w hx166.2).trans rfl).symm
            refine tt_lstore_n (ks := [0, 1, 2, 3]) (L' := [(3, .long (gJ ((mj (sg S) (R 646 o0) (x2 : Int32).toNatClampNeg)) (4294967296))), (0, .ref o0), (1, .int x1), (2, .int x2)]) dX10_lowPart_114 (by decide) rfl ?_
            refine tt_aload_n (j := 1) dX10_lowPart_115 rfl ?_
            refine gt_gR (id := 643) dX10_lowPart_116 fl_10_13 rfl rfl h0 hA hr101 ?_
            refine tt_iload_n (j := 3) dX10_lowPart_119 rfl ?_
            refine gx_iL (v := (mi (sg S) (R 643 o0) (x2 : Int32).toNatClampNeg)) dX10_lowPart_120 ho102 hA (rg_in h2) (sg_i (a := (R 643 o0)) (i := (x2 : Int32).toNatClampNeg) (show sg S = (sg S) from rfl)) ?_
            refine tt_iconst (v := 2) dX10_lowPart_121 rfl ?_
            refine tt_icmp_ne (tgt := 129) dX10_lowPart_122 rfl (fun _ => ?_) (fun q => absurd q q161)
            refine tt_aload_n (j := 1) dX10_lowPart_129 rfl ?_
            refine gt_gR (id := 644) dX10_lowPart_130 fl_10_16 rfl rfl h0 hA hr158 ?_
            refine tt_iload_n (j := 3) dX10_lowPart_133 rfl ?_
            refine gt_lLv (v := (mj (sg S) (R 644 o0) (x2 : Int32).toNatClampNeg)) dX10_lowPart_134 ho159 hA (rg_in h2) (sg_j (a := (R 644 o0)) (i := (x2 : Int32).toNatClampNeg) (show sg S = (sg S) from rfl)) ?_
            refine tt_lload_n (j := 0) dX10_lowPart_135 rfl ?_
            refine tt_lrem dX10_lowPart_136 (gJ_w9 _) ?_
            refine tt_lstore (ks := [0, 1, 2, 3, 4]) (L' := [(5, .long ((mj (sg S) (R 644 o0) (x2 : Int32).toNatClampNeg) - (mj (sg S) (R 644 o0) (x2 : Int32).toNatClampNeg) / (gJ ((mj (sg S) (R 646 o0) (x2 : Int32).toNatClampNeg)) (4294967296)) * (gJ ((mj (sg S) (R 646 o0) (x2 : Int32).toNatClampNeg)) (4294967296)))), (3, .long (gJ ((mj (sg S) (R 646 o0) (x2 : Int32).toNatClampNeg)) (4294967296))), (0, .ref o0), (1, .int x1), (2, .int x2)]) dX10_lowPart_137 (by decide) rfl ?_
            refine tt_lload (j := 0) dX10_lowPart_139 rfl ?_
            refine tt_lconst (v := 0) dX10_lowPart_141 rfl ?_
            refine tt_lcmp dX10_lowPart_142 ?_
            refine tt_if_ge (tgt := 153) dX10_lowPart_143 rfl (fun q167 => ?_) (fun q167 => ?_)
            · skip
              refine tt_lload (j := 0) dX10_lowPart_153 rfl ?_
              refine tt_lstore (ks := [0, 1, 2, 3, 4]) (L' := [(5, .long ((mj (sg S) (R 644 o0) (x2 : Int32).toNatClampNeg) - (mj (sg S) (R 644 o0) (x2 : Int32).toNatClampNeg) / (gJ ((mj (sg S) (R 646 o0) (x2 : Int32).toNatClampNeg)) (4294967296)) * (gJ ((mj (sg S) (R 646 o0) (x2 : Int32).toNatClampNeg)) (4294967296)))), (3, .long (gJ ((mj (sg S) (R 646 o0) (x2 : Int32).toNatClampNeg)) (4294967296))), (0, .ref o0), (1, .int x1), (2, .int x2)]) dX10_lowPart_155 (by decide) rfl ?_
              refine tt_aload_n (j := 2) dX10_lowPart_157 rfl ?_
              refine tt_iload_n (j := 3) dX10_lowPart_158 rfl ?_
              refine tt_iconst (v := 1) dX10_lowPart_159 rfl ?_
              refine tt_lload (j := 0) dX10_lowPart_160 rfl ?_
              refine tt_lload (j := 0) dX10_lowPart_162 rfl ?_
              refine tt_ldc2 (v := 4294967295) dX10_lowPart_164 kl_10_206 ?_
              refine tt_lload (j := 0) dX10_lowPart_167 rfl ?_
              refine tt_lsub dX10_lowPart_169 ?_
              refine tt_lload_n (j := 1) dX10_lowPart_170 rfl ?_
              refine tt_ldiv dX10_lowPart_171 (gJ_w9 _) ?_
              refine tt_lload_n (j := 1) dX10_lowPart_172 rfl ?_
              refine tt_lmul dX10_lowPart_173 ?_
              refine tt_ladd dX10_lowPart_174 ?_
              refine tt_lload_n (j := 1) dX10_lowPart_175 rfl ?_
              refine gt_Vv (As := [.int x1, .int 1, .long ((mj (sg S) (R 644 o0) (x2 : Int32).toNatClampNeg) - (mj (sg S) (R 644 o0) (x2 : Int32).toNatClampNeg) / (gJ ((mj (sg S) (R 646 o0) (x2 : Int32).toNatClampNeg)) (4294967296)) * (gJ ((mj (sg S) (R 646 o0) (x2 : Int32).toNatClampNeg)) (4294967296))), .long (((mj (sg S) (R 644 o0) (x2 : Int32).toNatClampNeg) - (mj (sg S) (R 644 o0) (x2 : Int32).toNatClampNeg) / (gJ ((mj (sg S) (R 646 o0) (x2 : Int32).toNatClampNeg)) (4294967296)) * (gJ ((mj (sg S) (R 646 o0) (x2 : Int32).toNatClampNeg)) (4294967296))) + (((4294967295 - ((mj (sg S) (R 644 o0) (x2 : Int32).toNatClampNeg) - (mj (sg S) (R 644 o0) (x2 : Int32).toNatClampNeg) / (gJ ((mj (sg S) (R 646 o0) (x2 : Int32).toNatClampNeg)) (4294967296)) * (gJ ((mj (sg S) (R 646 o0) (x2 : Int32).toNatClampNeg)) (4294967296)))) / (gJ ((mj (sg S) (R 646 o0) (x2 : Int32).toNatClampNeg)) (4294967296))) * (gJ ((mj (sg S) (R 646 o0) (x2 : Int32).toNatClampNeg)) (4294967296)))), .long (gJ ((mj (sg S) (R 646 o0) (x2 : Int32).toNatClampNeg)) (4294967296))]) dX10_lowPart_176 ca_X10_165 ⟨by decide, by decide⟩ h0 hA rfl (Nat.le_of_ble_eq_true rfl) (Nat.le_of_ble_eq_true rfl) (by decide) (cz_X10_make hG (oa_af h0 hA) (rg_w h1) hR (fun _ _ _ _ h => h)) rfl (fun _ h => nomatch h) (fun S168 hx172 hG169 hB170 hA171 => ?_)
              obtain ⟨d173, hd174⟩ : ∃ q, Z_X10_make R (sg S) o0 (x1) (1) (((mj (sg S) (R 644 o0) (x2 : Int32).toNatClampNeg) - (mj (sg S) (R 644 o0) (x2 : Int32).toNatClampNeg) / (gJ ((mj (sg S) (R 646 o0) (x2 : Int32).toNatClampNeg)) (4294967296)) * (gJ ((mj (sg S) (R 646 o0) (x2 : Int32).toNatClampNeg)) (4294967296)))) ((((mj (sg S) (R 644 o0) (x2 : Int32).toNatClampNeg) - (mj (sg S) (R 644 o0) (x2 : Int32).toNatClampNeg) / (gJ ((mj (sg S) (R 646 o0) (x2 : Int32).toNatClampNeg)) (4294967296)) * (gJ ((mj (sg S) (R 646 o0) (x2 : Int32).toNatClampNeg)) (4294967296))) + (((4294967295 - ((mj (sg S) (R 644 o0) (x2 : Int32).toNatClampNeg) - (mj (sg S) (R 644 o0) (x2 : Int32).toNatClampNeg) / (gJ ((mj (sg S) (R 646 o0) (x2 : Int32).toNatClampNeg)) (4294967296)) * (gJ ((mj (sg S) (R 646 o0) (x2 : Int32).toNatClampNeg)) (4294967296)))) / (gJ ((mj (sg S) (R 646 o0) (x2 : Int32).toNatClampNeg)) (4294967296))) * (gJ ((mj (sg S) (R 646 o0) (x2 : Int32).toNatClampNeg)) (4294967296))))) ((gJ ((mj (sg S) (R 646 o0) (x2 : Int32).toNatClampNeg)) (4294967296))) = q := ⟨_, rfl⟩
              have hq175 := (congrArg (fun q9 => Z_X10_make R q9 o0 (x1) (1) (((mj (sg S) (R 644 o0) (x2 : Int32).toNatClampNeg) - (mj (sg S) (R 644 o0) (x2 : Int32).toNatClampNeg) / (gJ ((mj (sg S) (R 646 o0) (x2 : Int32).toNatClampNeg)) (4294967296)) * (gJ ((mj (sg S) (R 646 o0) (x2 : Int32).toNatClampNeg)) (4294967296)))) ((((mj (sg S) (R 644 o0) (x2 : Int32).toNatClampNeg) - (mj (sg S) (R 644 o0) (x2 : Int32).toNatClampNeg) / (gJ ((mj (sg S) (R 646 o0) (x2 : Int32).toNatClampNeg)) (4294967296)) * (gJ ((mj (sg S) (R 646 o0) (x2 : Int32).toNatClampNeg)) (4294967296))) + (((4294967295 - ((mj (sg S) (R 644 o0) (x2 : Int32).toNatClampNeg) - (mj (sg S) (R 644 o0) (x2 : Int32).toNatClampNeg) / (gJ ((mj (sg S) (R 646 o0) (x2 : Int32).toNatClampNeg)) (4294967296)) * (gJ ((mj (sg S) (R 646 o0) (x2 : Int32).toNatClampNeg)) (4294967296)))) / (gJ ((mj (sg S) (R 646 o0) (x2 : Int32).toNatClampNeg)) (4294967296))) * (gJ ((mj (sg S) (R 646 o0) (x2 : Int32).toNatClampNeg)) (4294967296))))) ((gJ ((mj (sg S) (R 646 o0) (x2 : Int32).toNatClampNeg)) (4294967296)))) (show sg S = (sg S) from rfl)).trans hd174
              have hs176 := hx172.trans hq175
              have hF : Z_X10_lowPart R (sg S) o0 x1 x2 = d173 := by
                subst hd174
                exact zl_X10_lowPart_4 q103 q107 q109 (lc_lt_t q160) q161 (Int64.not_lt.mpr (lc_ge_t q167))
              exact tt_vreturn dX10_lowPart_179 rfl (hP _ _ _ _ ⟨hG169, hA171, Or.inl ⟨_, rfl, rfl, Eq.trans hs176 hF.symm, rfl, rfl⟩⟩)
            · skip
              refine tt_lload (j := 0) dX10_lowPart_146 rfl ?_
              refine tt_lload_n (j := 1) dX10_lowPart_148 rfl ?_
              refine tt_ladd dX10_lowPart_149 ?_
              refine tt_goto (tgt := 155) dX10_lowPart_150 rfl ?_
              refine tt_lstore (ks := [0, 1, 2, 3, 4]) (L' := [(5, .long (((mj (sg S) (R 644 o0) (x2 : Int32).toNatClampNeg) - (mj (sg S) (R 644 o0) (x2 : Int32).toNatClampNeg) / (gJ ((mj (sg S) (R 646 o0) (x2 : Int32).toNatClampNeg)) (4294967296)) * (gJ ((mj (sg S) (R 646 o0) (x2 : Int32).toNatClampNeg)) (4294967296))) + (gJ ((mj (sg S) (R 646 o0) (x2 : Int32).toNatClampNeg)) (4294967296)))), (3, .long (gJ ((mj (sg S) (R 646 o0) (x2 : Int32).toNatClampNeg)) (4294967296))), (0, .ref o0), (1, .int x1), (2, .int x2)]) dX10_lowPart_155 (by decide) rfl ?_
              refine tt_aload_n (j := 2) dX10_lowPart_157 rfl ?_
              refine tt_iload_n (j := 3) dX10_lowPart_158 rfl ?_
              refine tt_iconst (v := 1) dX10_lowPart_159 rfl ?_
              refine tt_lload (j := 0) dX10_lowPart_160 rfl ?_
              refine tt_lload (j := 0) dX10_lowPart_162 rfl ?_
              refine tt_ldc2 (v := 4294967295) dX10_lowPart_164 kl_10_206 ?_
              refine tt_lload (j := 0) dX10_lowPart_167 rfl ?_
              refine tt_lsub dX10_lowPart_169 ?_
              refine tt_lload_n (j := 1) dX10_lowPart_170 rfl ?_
              refine tt_ldiv dX10_lowPart_171 (gJ_w9 _) ?_
              refine tt_lload_n (j := 1) dX10_lowPart_172 rfl ?_
              refine tt_lmul dX10_lowPart_173 ?_
              refine tt_ladd dX10_lowPart_174 ?_
              refine tt_lload_n (j := 1) dX10_lowPart_175 rfl ?_
              refine gt_Vv (As := [.int x1, .int 1, .long (((mj (sg S) (R 644 o0) (x2 : Int32).toNatClampNeg) - (mj (sg S) (R 644 o0) (x2 : Int32).toNatClampNeg) / (gJ ((mj (sg S) (R 646 o0) (x2 : Int32).toNatClampNeg)) (4294967296)) * (gJ ((mj (sg S) (R 646 o0) (x2 : Int32).toNatClampNeg)) (4294967296))) + (gJ ((mj (sg S) (R 646 o0) (x2 : Int32).toNatClampNeg)) (4294967296))), .long ((((mj (sg S) (R 644 o0) (x2 : Int32).toNatClampNeg) - (mj (sg S) (R 644 o0) (x2 : Int32).toNatClampNeg) / (gJ ((mj (sg S) (R 646 o0) (x2 : Int32).toNatClampNeg)) (4294967296)) * (gJ ((mj (sg S) (R 646 o0) (x2 : Int32).toNatClampNeg)) (4294967296))) + (gJ ((mj (sg S) (R 646 o0) (x2 : Int32).toNatClampNeg)) (4294967296))) + (((4294967295 - (((mj (sg S) (R 644 o0) (x2 : Int32).toNatClampNeg) - (mj (sg S) (R 644 o0) (x2 : Int32).toNatClampNeg) / (gJ ((mj (sg S) (R 646 o0) (x2 : Int32).toNatClampNeg)) (4294967296)) * (gJ ((mj (sg S) (R 646 o0) (x2 : Int32).toNatClampNeg)) (4294967296))) + (gJ ((mj (sg S) (R 646 o0) (x2 : Int32).toNatClampNeg)) (4294967296)))) / (gJ ((mj (sg S) (R 646 o0) (x2 : Int32).toNatClampNeg)) (4294967296))) * (gJ ((mj (sg S) (R 646 o0) (x2 : Int32).toNatClampNeg)) (4294967296)))), .long (gJ ((mj (sg S) (R 646 o0) (x2 : Int32).toNatClampNeg)) (4294967296))]) dX10_lowPart_176 ca_X10_165 ⟨by decide, by decide⟩ h0 hA rfl (Nat.le_of_ble_eq_true rfl) (Nat.le_of_ble_eq_true rfl) (by decide) (cz_X10_make hG (oa_af h0 hA) (rg_w h1) hR (fun _ _ _ _ h => h)) rfl (fun _ h => nomatch h) (fun S177 hx181 hG178 hB179 hA180 => ?_)
              obtain ⟨d182, hd183⟩ : ∃ q, Z_X10_make R (sg S) o0 (x1) (1) ((((mj (sg S) (R 644 o0) (x2 : Int32).toNatClampNeg) - (mj (sg S) (R 644 o0) (x2 : Int32).toNatClampNeg) / (gJ ((mj (sg S) (R 646 o0) (x2 : Int32).toNatClampNeg)) (4294967296)) * (gJ ((mj (sg S) (R 646 o0) (x2 : Int32).toNatClampNeg)) (4294967296))) + (gJ ((mj (sg S) (R 646 o0) (x2 : Int32).toNatClampNeg)) (4294967296)))) (((((mj (sg S) (R 644 o0) (x2 : Int32).toNatClampNeg) - (mj (sg S) (R 644 o0) (x2 : Int32).toNatClampNeg) / (gJ ((mj (sg S) (R 646 o0) (x2 : Int32).toNatClampNeg)) (4294967296)) * (gJ ((mj (sg S) (R 646 o0) (x2 : Int32).toNatClampNeg)) (4294967296))) + (gJ ((mj (sg S) (R 646 o0) (x2 : Int32).toNatClampNeg)) (4294967296))) + (((4294967295 - (((mj (sg S) (R 644 o0) (x2 : Int32).toNatClampNeg) - (mj (sg S) (R 644 o0) (x2 : Int32).toNatClampNeg) / (gJ ((mj (sg S) (R 646 o0) (x2 : Int32).toNatClampNeg)) (4294967296)) * (gJ ((mj (sg S) (R 646 o0) (x2 : Int32).toNatClampNeg)) (4294967296))) + (gJ ((mj (sg S) (R 646 o0) (x2 : Int32).toNatClampNeg)) (4294967296)))) / (gJ ((mj (sg S) (R 646 o0) (x2 : Int32).toNatClampNeg)) (4294967296))) * (gJ ((mj (sg S) (R 646 o0) (x2 : Int32).toNatClampNeg)) (4294967296))))) ((gJ ((mj (sg S) (R 646 o0) (x2 : Int32).toNatClampNeg)) (4294967296))) = q := ⟨_, rfl⟩
              have hq184 := (congrArg (fun q9 => Z_X10_make R q9 o0 (x1) (1) ((((mj (sg S) (R 644 o0) (x2 : Int32).toNatClampNeg) - (mj (sg S) (R 644 o0) (x2 : Int32).toNatClampNeg) / (gJ ((mj (sg S) (R 646 o0) (x2 : Int32).toNatClampNeg)) (4294967296)) * (gJ ((mj (sg S) (R 646 o0) (x2 : Int32).toNatClampNeg)) (4294967296))) + (gJ ((mj (sg S) (R 646 o0) (x2 : Int32).toNatClampNeg)) (4294967296)))) (((((mj (sg S) (R 644 o0) (x2 : Int32).toNatClampNeg) - (mj (sg S) (R 644 o0) (x2 : Int32).toNatClampNeg) / (gJ ((mj (sg S) (R 646 o0) (x2 : Int32).toNatClampNeg)) (4294967296)) * (gJ ((mj (sg S) (R 646 o0) (x2 : Int32).toNatClampNeg)) (4294967296))) + (gJ ((mj (sg S) (R 646 o0) (x2 : Int32).toNatClampNeg)) (4294967296))) + (((4294967295 - (((mj (sg S) (R 644 o0) (x2 : Int32).toNatClampNeg) - (mj (sg S) (R 644 o0) (x2 : Int32).toNatClampNeg) / (gJ ((mj (sg S) (R 646 o0) (x2 : Int32).toNatClampNeg)) (4294967296)) * (gJ ((mj (sg S) (R 646 o0) (x2 : Int32).toNatClampNeg)) (4294967296))) + (gJ ((mj (sg S) (R 646 o0) (x2 : Int32).toNatClampNeg)) (4294967296)))) / (gJ ((mj (sg S) (R 646 o0) (x2 : Int32).toNatClampNeg)) (4294967296))) * (gJ ((mj (sg S) (R 646 o0) (x2 : Int32).toNatClampNeg)) (4294967296))))) ((gJ ((mj (sg S) (R 646 o0) (x2 : Int32).toNatClampNeg)) (4294967296)))) (show sg S = (sg S) from rfl)).trans hd183
              have hs185 := hx181.trans hq184
              have hF : Z_X10_lowPart R (sg S) o0 x1 x2 = d182 := by
                subst hd183
                exact zl_X10_lowPart_3 q103 q107 q109 (lc_lt_t q160) q161 (lc_ge_f q167)
              exact tt_vreturn dX10_lowPart_179 rfl (hP _ _ _ _ ⟨hG178, hA180, Or.inl ⟨_, rfl, rfl, Eq.trans hs185 hF.symm, rfl, rfl⟩⟩)
          · skip
            refine tt_lconst (v := 1) dX10_lowPart_98 rfl ?_
            refine tt_goto (tgt := 114) dX10_lowPart_99 rfl ?_
            refine tt_lstore_n (ks := [0, 1, 2, 3]) (L' := [(3, .long 1), (0, .ref o0), (1, .int x1), (2, .int x2)]) dX10_lowPart_114 (by decide) rfl ?_
            refine tt_aload_n (j := 1) dX10_lowPart_115 rfl ?_
            refine gt_gR (id := 643) dX10_lowPart_116 fl_10_13 rfl rfl h0 hA hr101 ?_
            refine tt_iload_n (j := 3) dX10_lowPart_119 rfl ?_
            refine gx_iL (v := (mi (sg S) (R 643 o0) (x2 : Int32).toNatClampNeg)) dX10_lowPart_120 ho102 hA (rg_in h2) (sg_i (a := (R 643 o0)) (i := (x2 : Int32).toNatClampNeg) (show sg S = (sg S) from rfl)) ?_
            refine tt_iconst (v := 2) dX10_lowPart_121 rfl ?_
            refine tt_icmp_ne (tgt := 129) dX10_lowPart_122 rfl (fun q => absurd q161 q) (fun _ => ?_)
            refine tt_lconst (v := 0) dX10_lowPart_125 rfl ?_
            refine tt_goto (tgt := 137) dX10_lowPart_126 rfl ?_
            refine tt_lstore (ks := [0, 1, 2, 3, 4]) (L' := [(5, .long 0), (3, .long 1), (0, .ref o0), (1, .int x1), (2, .int x2)]) dX10_lowPart_137 (by decide) rfl ?_
            refine tt_lload (j := 0) dX10_lowPart_139 rfl ?_
            refine tt_lconst (v := 0) dX10_lowPart_141 rfl ?_
            refine tt_lcmp dX10_lowPart_142 ?_
            refine tt_if_ge (tgt := 153) dX10_lowPart_143 rfl (fun q186 => ?_) (fun q186 => ?_)
            · skip
              refine tt_lload (j := 0) dX10_lowPart_153 rfl ?_
              refine tt_lstore (ks := [0, 1, 2, 3, 4]) (L' := [(5, .long 0), (3, .long 1), (0, .ref o0), (1, .int x1), (2, .int x2)]) dX10_lowPart_155 (by decide) rfl ?_
              refine tt_aload_n (j := 2) dX10_lowPart_157 rfl ?_
              refine tt_iload_n (j := 3) dX10_lowPart_158 rfl ?_
              refine tt_iconst (v := 1) dX10_lowPart_159 rfl ?_
              refine tt_lload (j := 0) dX10_lowPart_160 rfl ?_
              refine tt_lload (j := 0) dX10_lowPart_162 rfl ?_
              refine tt_ldc2 (v := 4294967295) dX10_lowPart_164 kl_10_206 ?_
              refine tt_lload (j := 0) dX10_lowPart_167 rfl ?_
              refine tt_lsub dX10_lowPart_169 ?_
              refine tt_lload_n (j := 1) dX10_lowPart_170 rfl ?_
              refine tt_ldiv dX10_lowPart_171 (by decide) ?_
              refine tt_lload_n (j := 1) dX10_lowPart_172 rfl ?_
              refine tt_lmul dX10_lowPart_173 ?_
              refine tt_ladd dX10_lowPart_174 ?_
              refine tt_lload_n (j := 1) dX10_lowPart_175 rfl ?_
              refine gt_Vv (As := [.int x1, .int 1, .long 0, .long (0 + (((4294967295 - 0) / 1) * 1)), .long 1]) dX10_lowPart_176 ca_X10_165 ⟨by decide, by decide⟩ h0 hA rfl (Nat.le_of_ble_eq_true rfl) (Nat.le_of_ble_eq_true rfl) (by decide) (cz_X10_make hG (oa_af h0 hA) (rg_w h1) hR (fun _ _ _ _ h => h)) rfl (fun _ h => nomatch h) (fun S187 hx191 hG188 hB189 hA190 => ?_)
              obtain ⟨d192, hd193⟩ : ∃ q, Z_X10_make R (sg S) o0 (x1) (1) (0) ((0 + (((4294967295 - 0) / 1) * 1))) (1) = q := ⟨_, rfl⟩
              have hq194 := (congrArg (fun q9 => Z_X10_make R q9 o0 (x1) (1) (0) ((0 + (((4294967295 - 0) / 1) * 1))) (1)) (show sg S = (sg S) from rfl)).trans hd193
              have hs195 := hx191.trans hq194
              have hF : Z_X10_lowPart R (sg S) o0 x1 x2 = d192 := by
                subst hd193
                exact zl_X10_lowPart_2 q103 q107 q109 (lc_lt_t q160) q161 (Int64.not_lt.mpr (lc_ge_t q186))
              exact tt_vreturn dX10_lowPart_179 rfl (hP _ _ _ _ ⟨hG188, hA190, Or.inl ⟨_, rfl, rfl, Eq.trans hs195 hF.symm, rfl, rfl⟩⟩)
            · skip
              refine tt_lload (j := 0) dX10_lowPart_146 rfl ?_
              refine tt_lload_n (j := 1) dX10_lowPart_148 rfl ?_
              refine tt_ladd dX10_lowPart_149 ?_
              refine tt_goto (tgt := 155) dX10_lowPart_150 rfl ?_
              refine tt_lstore (ks := [0, 1, 2, 3, 4]) (L' := [(5, .long (0 + 1)), (3, .long 1), (0, .ref o0), (1, .int x1), (2, .int x2)]) dX10_lowPart_155 (by decide) rfl ?_
              refine tt_aload_n (j := 2) dX10_lowPart_157 rfl ?_
              refine tt_iload_n (j := 3) dX10_lowPart_158 rfl ?_
              refine tt_iconst (v := 1) dX10_lowPart_159 rfl ?_
              refine tt_lload (j := 0) dX10_lowPart_160 rfl ?_
              refine tt_lload (j := 0) dX10_lowPart_162 rfl ?_
              refine tt_ldc2 (v := 4294967295) dX10_lowPart_164 kl_10_206 ?_
              refine tt_lload (j := 0) dX10_lowPart_167 rfl ?_
              refine tt_lsub dX10_lowPart_169 ?_
              refine tt_lload_n (j := 1) dX10_lowPart_170 rfl ?_
              refine tt_ldiv dX10_lowPart_171 (by decide) ?_
              refine tt_lload_n (j := 1) dX10_lowPart_172 rfl ?_
              refine tt_lmul dX10_lowPart_173 ?_
              refine tt_ladd dX10_lowPart_174 ?_
              refine tt_lload_n (j := 1) dX10_lowPart_175 rfl ?_
              refine gt_Vv (As := [.int x1, .int 1, .long (0 + 1), .long ((0 + 1) + (((4294967295 - (0 + 1)) / 1) * 1)), .long 1]) dX10_lowPart_176 ca_X10_165 ⟨by decide, by decide⟩ h0 hA rfl (Nat.le_of_ble_eq_true rfl) (Nat.le_of_ble_eq_true rfl) (by decide) (cz_X10_make hG (oa_af h0 hA) (rg_w h1) hR (fun _ _ _ _ h => h)) rfl (fun _ h => nomatch h) (fun S196 hx200 hG197 hB198 hA199 => ?_)
              obtain ⟨d201, hd202⟩ : ∃ q, Z_X10_make R (sg S) o0 (x1) (1) ((0 + 1)) (((0 + 1) + (((4294967295 - (0 + 1)) / 1) * 1))) (1) = q := ⟨_, rfl⟩
              have hq203 := (congrArg (fun q9 => Z_X10_make R q9 o0 (x1) (1) ((0 + 1)) (((0 + 1) + (((4294967295 - (0 + 1)) / 1) * 1))) (1)) (show sg S = (sg S) from rfl)).trans hd202
              have hs204 := hx200.trans hq203
              have hF : Z_X10_lowPart R (sg S) o0 x1 x2 = d201 := by
                subst hd202
                exact zl_X10_lowPart_1 q103 q107 q109 (lc_lt_t q160) q161 (lc_ge_f q186)
              exact tt_vreturn dX10_lowPart_179 rfl (hP _ _ _ _ ⟨hG197, hA199, Or.inl ⟨_, rfl, rfl, Eq.trans hs204 hF.symm, rfl, rfl⟩⟩)
        · skip
          refine tt_aload_n (j := 0) dX10_lowPart_66 rfl ?_
          have hr205 := rk_R (k := 645) hR h0 33 4940
          have ho206 := rk_O (k := 645) hG hR h0 33 4940
          refine gt_gR (id := 645) dX10_lowPart_67 fl_10_20 rfl rfl h0 hA hr205 ?_
          refine tt_iload_n (j := 2) dX10_lowPart_70 rfl ?_
          refine gt_lLv (v := (mj (sg S) (R 645 o0) (x2 : Int32).toNatClampNeg)) dX10_lowPart_71 ho206 hA (rg_in h2) (sg_j (a := (R 645 o0)) (i := (x2 : Int32).toNatClampNeg) (show sg S = (sg S) from rfl)) ?_
          refine tt_ldc2 (v := 4294967296) dX10_lowPart_72 kl_10_208 ?_
          refine tt_lcmp dX10_lowPart_75 ?_
          refine tt_if_ge (tgt := 88) dX10_lowPart_76 rfl (fun q207 => ?_) (fun q207 => ?_)
          · skip
            refine tt_aload_n (j := 0) dX10_lowPart_88 rfl ?_
            refine gt_gR (id := 643) dX10_lowPart_89 fl_10_13 rfl rfl h0 hA hr101 ?_
            refine tt_iload_n (j := 2) dX10_lowPart_92 rfl ?_
            refine gx_iL (v := (mi (sg S) (R 643 o0) (x2 : Int32).toNatClampNeg)) dX10_lowPart_93 ho102 hA (rg_in h2) (sg_i (a := (R 643 o0)) (i := (x2 : Int32).toNatClampNeg) (show sg S = (sg S) from rfl)) ?_
            refine tt_iconst (v := 2) dX10_lowPart_94 rfl ?_
            refine tt_icmp_ne (tgt := 102) dX10_lowPart_95 rfl (fun q208 => ?_) (fun q208 => ?_)
            · skip
              refine tt_aload_n (j := 0) dX10_lowPart_102 rfl ?_
              have hr209 := rk_R (k := 646) hR h0 33 4940
              have ho210 := rk_O (k := 646) hG hR h0 33 4940
              refine gt_gR (id := 646) dX10_lowPart_103 fl_10_23 rfl rfl h0 hA hr209 ?_
              refine tt_iload_n (j := 2) dX10_lowPart_106 rfl ?_
              refine gt_lLv (v := (mj (sg S) (R 646 o0) (x2 : Int32).toNatClampNeg)) dX10_lowPart_107 ho210 hA (rg_in h2) (sg_j (a := (R 646 o0)) (i := (x2 : Int32).toNatClampNeg) (show sg S = (sg S) from rfl)) ?_
              refine tt_ldc2 (v := 4294967296) dX10_lowPart_108 kl_10_208 ?_
              refine gt_SJp (As := [.long (mj (sg S) (R 646 o0) (x2 : Int32).toNatClampNeg), .long 4294967296]) dX10_lowPart_111 ca_X10_172 ⟨by decide, by decide⟩ hA (Nat.le_of_ble_eq_true rfl) (Nat.le_of_ble_eq_true rfl) (by decide) (cz_X10_gcd hG  (fun _ _ _ _ h => h)) rfl (fun _ h => nomatch h) (fun _ _ q => q.1) (fun y211 hx213 => ?_)
              obtain rfl : gJ ((mj (sg S) (R 646 o0) (x2 : Int32).toNatClampNeg)) (4294967296) = y211 := ((el_w hx213.2).trans rfl).symm
              refine tt_lstore_n (ks := [0, 1, 2, 3]) (L' := [(3, .long (gJ ((mj (sg S) (R 646 o0) (x2 : Int32).toNatClampNeg)) (4294967296))), (0, .ref o0), (1, .int x1), (2, .int x2)]) dX10_lowPart_114 (by decide) rfl ?_
              refine tt_aload_n (j := 1) dX10_lowPart_115 rfl ?_
              refine gt_gR (id := 643) dX10_lowPart_116 fl_10_13 rfl rfl h0 hA hr101 ?_
              refine tt_iload_n (j := 3) dX10_lowPart_119 rfl ?_
              refine gx_iL (v := (mi (sg S) (R 643 o0) (x2 : Int32).toNatClampNeg)) dX10_lowPart_120 ho102 hA (rg_in h2) (sg_i (a := (R 643 o0)) (i := (x2 : Int32).toNatClampNeg) (show sg S = (sg S) from rfl)) ?_
              refine tt_iconst (v := 2) dX10_lowPart_121 rfl ?_
              refine tt_icmp_ne (tgt := 129) dX10_lowPart_122 rfl (fun _ => ?_) (fun q => absurd q q208)
              refine tt_aload_n (j := 1) dX10_lowPart_129 rfl ?_
              refine gt_gR (id := 644) dX10_lowPart_130 fl_10_16 rfl rfl h0 hA hr158 ?_
              refine tt_iload_n (j := 3) dX10_lowPart_133 rfl ?_
              refine gt_lLv (v := (mj (sg S) (R 644 o0) (x2 : Int32).toNatClampNeg)) dX10_lowPart_134 ho159 hA (rg_in h2) (sg_j (a := (R 644 o0)) (i := (x2 : Int32).toNatClampNeg) (show sg S = (sg S) from rfl)) ?_
              refine tt_lload_n (j := 0) dX10_lowPart_135 rfl ?_
              refine tt_lrem dX10_lowPart_136 (gJ_w9 _) ?_
              refine tt_lstore (ks := [0, 1, 2, 3, 4]) (L' := [(5, .long ((mj (sg S) (R 644 o0) (x2 : Int32).toNatClampNeg) - (mj (sg S) (R 644 o0) (x2 : Int32).toNatClampNeg) / (gJ ((mj (sg S) (R 646 o0) (x2 : Int32).toNatClampNeg)) (4294967296)) * (gJ ((mj (sg S) (R 646 o0) (x2 : Int32).toNatClampNeg)) (4294967296)))), (3, .long (gJ ((mj (sg S) (R 646 o0) (x2 : Int32).toNatClampNeg)) (4294967296))), (0, .ref o0), (1, .int x1), (2, .int x2)]) dX10_lowPart_137 (by decide) rfl ?_
              refine tt_lload (j := 0) dX10_lowPart_139 rfl ?_
              refine tt_lconst (v := 0) dX10_lowPart_141 rfl ?_
              refine tt_lcmp dX10_lowPart_142 ?_
              refine tt_if_ge (tgt := 153) dX10_lowPart_143 rfl (fun q214 => ?_) (fun q214 => ?_)
              · skip
                refine tt_lload (j := 0) dX10_lowPart_153 rfl ?_
                refine tt_lstore (ks := [0, 1, 2, 3, 4]) (L' := [(5, .long ((mj (sg S) (R 644 o0) (x2 : Int32).toNatClampNeg) - (mj (sg S) (R 644 o0) (x2 : Int32).toNatClampNeg) / (gJ ((mj (sg S) (R 646 o0) (x2 : Int32).toNatClampNeg)) (4294967296)) * (gJ ((mj (sg S) (R 646 o0) (x2 : Int32).toNatClampNeg)) (4294967296)))), (3, .long (gJ ((mj (sg S) (R 646 o0) (x2 : Int32).toNatClampNeg)) (4294967296))), (0, .ref o0), (1, .int x1), (2, .int x2)]) dX10_lowPart_155 (by decide) rfl ?_
                refine tt_aload_n (j := 2) dX10_lowPart_157 rfl ?_
                refine tt_iload_n (j := 3) dX10_lowPart_158 rfl ?_
                refine tt_iconst (v := 1) dX10_lowPart_159 rfl ?_
                refine tt_lload (j := 0) dX10_lowPart_160 rfl ?_
                refine tt_lload (j := 0) dX10_lowPart_162 rfl ?_
                refine tt_ldc2 (v := 4294967295) dX10_lowPart_164 kl_10_206 ?_
                refine tt_lload (j := 0) dX10_lowPart_167 rfl ?_
                refine tt_lsub dX10_lowPart_169 ?_
                refine tt_lload_n (j := 1) dX10_lowPart_170 rfl ?_
                refine tt_ldiv dX10_lowPart_171 (gJ_w9 _) ?_
                refine tt_lload_n (j := 1) dX10_lowPart_172 rfl ?_
                refine tt_lmul dX10_lowPart_173 ?_
                refine tt_ladd dX10_lowPart_174 ?_
                refine tt_lload_n (j := 1) dX10_lowPart_175 rfl ?_
                refine gt_Vv (As := [.int x1, .int 1, .long ((mj (sg S) (R 644 o0) (x2 : Int32).toNatClampNeg) - (mj (sg S) (R 644 o0) (x2 : Int32).toNatClampNeg) / (gJ ((mj (sg S) (R 646 o0) (x2 : Int32).toNatClampNeg)) (4294967296)) * (gJ ((mj (sg S) (R 646 o0) (x2 : Int32).toNatClampNeg)) (4294967296))), .long (((mj (sg S) (R 644 o0) (x2 : Int32).toNatClampNeg) - (mj (sg S) (R 644 o0) (x2 : Int32).toNatClampNeg) / (gJ ((mj (sg S) (R 646 o0) (x2 : Int32).toNatClampNeg)) (4294967296)) * (gJ ((mj (sg S) (R 646 o0) (x2 : Int32).toNatClampNeg)) (4294967296))) + (((4294967295 - ((mj (sg S) (R 644 o0) (x2 : Int32).toNatClampNeg) - (mj (sg S) (R 644 o0) (x2 : Int32).toNatClampNeg) / (gJ ((mj (sg S) (R 646 o0) (x2 : Int32).toNatClampNeg)) (4294967296)) * (gJ ((mj (sg S) (R 646 o0) (x2 : Int32).toNatClampNeg)) (4294967296)))) / (gJ ((mj (sg S) (R 646 o0) (x2 : Int32).toNatClampNeg)) (4294967296))) * (gJ ((mj (sg S) (R 646 o0) (x2 : Int32).toNatClampNeg)) (4294967296)))), .long (gJ ((mj (sg S) (R 646 o0) (x2 : Int32).toNatClampNeg)) (4294967296))]) dX10_lowPart_176 ca_X10_165 ⟨by decide, by decide⟩ h0 hA rfl (Nat.le_of_ble_eq_true rfl) (Nat.le_of_ble_eq_true rfl) (by decide) (cz_X10_make hG (oa_af h0 hA) (rg_w h1) hR (fun _ _ _ _ h => h)) rfl (fun _ h => nomatch h) (fun S215 hx219 hG216 hB217 hA218 => ?_)
                obtain ⟨d220, hd221⟩ : ∃ q, Z_X10_make R (sg S) o0 (x1) (1) (((mj (sg S) (R 644 o0) (x2 : Int32).toNatClampNeg) - (mj (sg S) (R 644 o0) (x2 : Int32).toNatClampNeg) / (gJ ((mj (sg S) (R 646 o0) (x2 : Int32).toNatClampNeg)) (4294967296)) * (gJ ((mj (sg S) (R 646 o0) (x2 : Int32).toNatClampNeg)) (4294967296)))) ((((mj (sg S) (R 644 o0) (x2 : Int32).toNatClampNeg) - (mj (sg S) (R 644 o0) (x2 : Int32).toNatClampNeg) / (gJ ((mj (sg S) (R 646 o0) (x2 : Int32).toNatClampNeg)) (4294967296)) * (gJ ((mj (sg S) (R 646 o0) (x2 : Int32).toNatClampNeg)) (4294967296))) + (((4294967295 - ((mj (sg S) (R 644 o0) (x2 : Int32).toNatClampNeg) - (mj (sg S) (R 644 o0) (x2 : Int32).toNatClampNeg) / (gJ ((mj (sg S) (R 646 o0) (x2 : Int32).toNatClampNeg)) (4294967296)) * (gJ ((mj (sg S) (R 646 o0) (x2 : Int32).toNatClampNeg)) (4294967296)))) / (gJ ((mj (sg S) (R 646 o0) (x2 : Int32).toNatClampNeg)) (4294967296))) * (gJ ((mj (sg S) (R 646 o0) (x2 : Int32).toNatClampNeg)) (4294967296))))) ((gJ ((mj (sg S) (R 646 o0) (x2 : Int32).toNatClampNeg)) (4294967296))) = q := ⟨_, rfl⟩
                have hq222 := (congrArg (fun q9 => Z_X10_make R q9 o0 (x1) (1) (((mj (sg S) (R 644 o0) (x2 : Int32).toNatClampNeg) - (mj (sg S) (R 644 o0) (x2 : Int32).toNatClampNeg) / (gJ ((mj (sg S) (R 646 o0) (x2 : Int32).toNatClampNeg)) (4294967296)) * (gJ ((mj (sg S) (R 646 o0) (x2 : Int32).toNatClampNeg)) (4294967296)))) ((((mj (sg S) (R 644 o0) (x2 : Int32).toNatClampNeg) - (mj (sg S) (R 644 o0) (x2 : Int32).toNatClampNeg) / (gJ ((mj (sg S) (R 646 o0) (x2 : Int32).toNatClampNeg)) (4294967296)) * (gJ ((mj (sg S) (R 646 o0) (x2 : Int32).toNatClampNeg)) (4294967296))) + (((4294967295 - ((mj (sg S) (R 644 o0) (x2 : Int32).toNatClampNeg) - (mj (sg S) (R 644 o0) (x2 : Int32).toNatClampNeg) / (gJ ((mj (sg S) (R 646 o0) (x2 : Int32).toNatClampNeg)) (4294967296)) * (gJ ((mj (sg S) (R 646 o0) (x2 : Int32).toNatClampNeg)) (4294967296)))) / (gJ ((mj (sg S) (R 646 o0) (x2 : Int32).toNatClampNeg)) (4294967296))) * (gJ ((mj (sg S) (R 646 o0) (x2 : Int32).toNatClampNeg)) (4294967296))))) ((gJ ((mj (sg S) (R 646 o0) (x2 : Int32).toNatClampNeg)) (4294967296)))) (show sg S = (sg S) from rfl)).trans hd221
                have hs223 := hx219.trans hq222
                have hF : Z_X10_lowPart R (sg S) o0 x1 x2 = d220 := by
                  subst hd221
                  exact zl_X10_lowPart_9 q103 q107 q109 (Int64.not_lt.mpr (lc_lt_f q160)) (Int64.not_lt.mpr (lc_ge_t q207)) q208 (Int64.not_lt.mpr (lc_ge_t q214))
                exact tt_vreturn dX10_lowPart_179 rfl (hP _ _ _ _ ⟨hG216, hA218, Or.inl ⟨_, rfl, rfl, Eq.trans hs223 hF.symm, rfl, rfl⟩⟩)
              · skip
                refine tt_lload (j := 0) dX10_lowPart_146 rfl ?_
                refine tt_lload_n (j := 1) dX10_lowPart_148 rfl ?_
                refine tt_ladd dX10_lowPart_149 ?_
                refine tt_goto (tgt := 155) dX10_lowPart_150 rfl ?_
                refine tt_lstore (ks := [0, 1, 2, 3, 4]) (L' := [(5, .long (((mj (sg S) (R 644 o0) (x2 : Int32).toNatClampNeg) - (mj (sg S) (R 644 o0) (x2 : Int32).toNatClampNeg) / (gJ ((mj (sg S) (R 646 o0) (x2 : Int32).toNatClampNeg)) (4294967296)) * (gJ ((mj (sg S) (R 646 o0) (x2 : Int32).toNatClampNeg)) (4294967296))) + (gJ ((mj (sg S) (R 646 o0) (x2 : Int32).toNatClampNeg)) (4294967296)))), (3, .long (gJ ((mj (sg S) (R 646 o0) (x2 : Int32).toNatClampNeg)) (4294967296))), (0, .ref o0), (1, .int x1), (2, .int x2)]) dX10_lowPart_155 (by decide) rfl ?_
                refine tt_aload_n (j := 2) dX10_lowPart_157 rfl ?_
                refine tt_iload_n (j := 3) dX10_lowPart_158 rfl ?_
                refine tt_iconst (v := 1) dX10_lowPart_159 rfl ?_
                refine tt_lload (j := 0) dX10_lowPart_160 rfl ?_
                refine tt_lload (j := 0) dX10_lowPart_162 rfl ?_
                refine tt_ldc2 (v := 4294967295) dX10_lowPart_164 kl_10_206 ?_
                refine tt_lload (j := 0) dX10_lowPart_167 rfl ?_
                refine tt_lsub dX10_lowPart_169 ?_
                refine tt_lload_n (j := 1) dX10_lowPart_170 rfl ?_
                refine tt_ldiv dX10_lowPart_171 (gJ_w9 _) ?_
                refine tt_lload_n (j := 1) dX10_lowPart_172 rfl ?_
                refine tt_lmul dX10_lowPart_173 ?_
                refine tt_ladd dX10_lowPart_174 ?_
                refine tt_lload_n (j := 1) dX10_lowPart_175 rfl ?_
                refine gt_Vv (As := [.int x1, .int 1, .long (((mj (sg S) (R 644 o0) (x2 : Int32).toNatClampNeg) - (mj (sg S) (R 644 o0) (x2 : Int32).toNatClampNeg) / (gJ ((mj (sg S) (R 646 o0) (x2 : Int32).toNatClampNeg)) (4294967296)) * (gJ ((mj (sg S) (R 646 o0) (x2 : Int32).toNatClampNeg)) (4294967296))) + (gJ ((mj (sg S) (R 646 o0) (x2 : Int32).toNatClampNeg)) (4294967296))), .long ((((mj (sg S) (R 644 o0) (x2 : Int32).toNatClampNeg) - (mj (sg S) (R 644 o0) (x2 : Int32).toNatClampNeg) / (gJ ((mj (sg S) (R 646 o0) (x2 : Int32).toNatClampNeg)) (4294967296)) * (gJ ((mj (sg S) (R 646 o0) (x2 : Int32).toNatClampNeg)) (4294967296))) + (gJ ((mj (sg S) (R 646 o0) (x2 : Int32).toNatClampNeg)) (4294967296))) + (((4294967295 - (((mj (sg S) (R 644 o0) (x2 : Int32).toNatClampNeg) - (mj (sg S) (R 644 o0) (x2 : Int32).toNatClampNeg) / (gJ ((mj (sg S) (R 646 o0) (x2 : Int32).toNatClampNeg)) (4294967296)) * (gJ ((mj (sg S) (R 646 o0) (x2 : Int32).toNatClampNeg)) (4294967296))) + (gJ ((mj (sg S) (R 646 o0) (x2 : Int32).toNatClampNeg)) (4294967296)))) / (gJ ((mj (sg S) (R 646 o0) (x2 : Int32).toNatClampNeg)) (4294967296))) * (gJ ((mj (sg S) (R 646 o0) (x2 : Int32).toNatClampNeg)) (4294967296)))), .long (gJ ((mj (sg S) (R 646 o0) (x2 : Int32).toNatClampNeg)) (4294967296))]) dX10_lowPart_176 ca_X10_165 ⟨by decide, by decide⟩ h0 hA rfl (Nat.le_of_ble_eq_true rfl) (Nat.le_of_ble_eq_true rfl) (by decide) (cz_X10_make hG (oa_af h0 hA) (rg_w h1) hR (fun _ _ _ _ h => h)) rfl (fun _ h => nomatch h) (fun S224 hx228 hG225 hB226 hA227 => ?_)
                obtain ⟨d229, hd230⟩ : ∃ q, Z_X10_make R (sg S) o0 (x1) (1) ((((mj (sg S) (R 644 o0) (x2 : Int32).toNatClampNeg) - (mj (sg S) (R 644 o0) (x2 : Int32).toNatClampNeg) / (gJ ((mj (sg S) (R 646 o0) (x2 : Int32).toNatClampNeg)) (4294967296)) * (gJ ((mj (sg S) (R 646 o0) (x2 : Int32).toNatClampNeg)) (4294967296))) + (gJ ((mj (sg S) (R 646 o0) (x2 : Int32).toNatClampNeg)) (4294967296)))) (((((mj (sg S) (R 644 o0) (x2 : Int32).toNatClampNeg) - (mj (sg S) (R 644 o0) (x2 : Int32).toNatClampNeg) / (gJ ((mj (sg S) (R 646 o0) (x2 : Int32).toNatClampNeg)) (4294967296)) * (gJ ((mj (sg S) (R 646 o0) (x2 : Int32).toNatClampNeg)) (4294967296))) + (gJ ((mj (sg S) (R 646 o0) (x2 : Int32).toNatClampNeg)) (4294967296))) + (((4294967295 - (((mj (sg S) (R 644 o0) (x2 : Int32).toNatClampNeg) - (mj (sg S) (R 644 o0) (x2 : Int32).toNatClampNeg) / (gJ ((mj (sg S) (R 646 o0) (x2 : Int32).toNatClampNeg)) (4294967296)) * (gJ ((mj (sg S) (R 646 o0) (x2 : Int32).toNatClampNeg)) (4294967296))) + (gJ ((mj (sg S) (R 646 o0) (x2 : Int32).toNatClampNeg)) (4294967296)))) / (gJ ((mj (sg S) (R 646 o0) (x2 : Int32).toNatClampNeg)) (4294967296))) * (gJ ((mj (sg S) (R 646 o0) (x2 : Int32).toNatClampNeg)) (4294967296))))) ((gJ ((mj (sg S) (R 646 o0) (x2 : Int32).toNatClampNeg)) (4294967296))) = q := ⟨_, rfl⟩
                have hq231 := (congrArg (fun q9 => Z_X10_make R q9 o0 (x1) (1) ((((mj (sg S) (R 644 o0) (x2 : Int32).toNatClampNeg) - (mj (sg S) (R 644 o0) (x2 : Int32).toNatClampNeg) / (gJ ((mj (sg S) (R 646 o0) (x2 : Int32).toNatClampNeg)) (4294967296)) * (gJ ((mj (sg S) (R 646 o0) (x2 : Int32).toNatClampNeg)) (4294967296))) + (gJ ((mj (sg S) (R 646 o0) (x2 : Int32).toNatClampNeg)) (4294967296)))) (((((mj (sg S) (R 644 o0) (x2 : Int32).toNatClampNeg) - (mj (sg S) (R 644 o0) (x2 : Int32).toNatClampNeg) / (gJ ((mj (sg S) (R 646 o0) (x2 : Int32).toNatClampNeg)) (4294967296)) * (gJ ((mj (sg S) (R 646 o0) (x2 : Int32).toNatClampNeg)) (4294967296))) + (gJ ((mj (sg S) (R 646 o0) (x2 : Int32).toNatClampNeg)) (4294967296))) + (((4294967295 - (((mj (sg S) (R 644 o0) (x2 : Int32).toNatClampNeg) - (mj (sg S) (R 644 o0) (x2 : Int32).toNatClampNeg) / (gJ ((mj (sg S) (R 646 o0) (x2 : Int32).toNatClampNeg)) (4294967296)) * (gJ ((mj (sg S) (R 646 o0) (x2 : Int32).toNatClampNeg)) (4294967296))) + (gJ ((mj (sg S) (R 646 o0) (x2 : Int32).toNatClampNeg)) (4294967296)))) / (gJ ((mj (sg S) (R 646 o0) (x2 : Int32).toNatClampNeg)) (4294967296))) * (gJ ((mj (sg S) (R 646 o0) (x2 : Int32).toNatClampNeg)) (4294967296))))) ((gJ ((mj (sg S) (R 646 o0) (x2 : Int32).toNatClampNeg)) (4294967296)))) (show sg S = (sg S) from rfl)).trans hd230
                have hs232 := hx228.trans hq231
                have hF : Z_X10_lowPart R (sg S) o0 x1 x2 = d229 := by
                  subst hd230
                  exact zl_X10_lowPart_8 q103 q107 q109 (Int64.not_lt.mpr (lc_lt_f q160)) (Int64.not_lt.mpr (lc_ge_t q207)) q208 (lc_ge_f q214)
                exact tt_vreturn dX10_lowPart_179 rfl (hP _ _ _ _ ⟨hG225, hA227, Or.inl ⟨_, rfl, rfl, Eq.trans hs232 hF.symm, rfl, rfl⟩⟩)
            · skip
              refine tt_lconst (v := 1) dX10_lowPart_98 rfl ?_
              refine tt_goto (tgt := 114) dX10_lowPart_99 rfl ?_
              refine tt_lstore_n (ks := [0, 1, 2, 3]) (L' := [(3, .long 1), (0, .ref o0), (1, .int x1), (2, .int x2)]) dX10_lowPart_114 (by decide) rfl ?_
              refine tt_aload_n (j := 1) dX10_lowPart_115 rfl ?_
              refine gt_gR (id := 643) dX10_lowPart_116 fl_10_13 rfl rfl h0 hA hr101 ?_
              refine tt_iload_n (j := 3) dX10_lowPart_119 rfl ?_
              refine gx_iL (v := (mi (sg S) (R 643 o0) (x2 : Int32).toNatClampNeg)) dX10_lowPart_120 ho102 hA (rg_in h2) (sg_i (a := (R 643 o0)) (i := (x2 : Int32).toNatClampNeg) (show sg S = (sg S) from rfl)) ?_
              refine tt_iconst (v := 2) dX10_lowPart_121 rfl ?_
              refine tt_icmp_ne (tgt := 129) dX10_lowPart_122 rfl (fun q => absurd q208 q) (fun _ => ?_)
              refine tt_lconst (v := 0) dX10_lowPart_125 rfl ?_
              refine tt_goto (tgt := 137) dX10_lowPart_126 rfl ?_
              refine tt_lstore (ks := [0, 1, 2, 3, 4]) (L' := [(5, .long 0), (3, .long 1), (0, .ref o0), (1, .int x1), (2, .int x2)]) dX10_lowPart_137 (by decide) rfl ?_
              refine tt_lload (j := 0) dX10_lowPart_139 rfl ?_
              refine tt_lconst (v := 0) dX10_lowPart_141 rfl ?_
              refine tt_lcmp dX10_lowPart_142 ?_
              refine tt_if_ge (tgt := 153) dX10_lowPart_143 rfl (fun q233 => ?_) (fun q233 => ?_)
              · skip
                refine tt_lload (j := 0) dX10_lowPart_153 rfl ?_
                refine tt_lstore (ks := [0, 1, 2, 3, 4]) (L' := [(5, .long 0), (3, .long 1), (0, .ref o0), (1, .int x1), (2, .int x2)]) dX10_lowPart_155 (by decide) rfl ?_
                refine tt_aload_n (j := 2) dX10_lowPart_157 rfl ?_
                refine tt_iload_n (j := 3) dX10_lowPart_158 rfl ?_
                refine tt_iconst (v := 1) dX10_lowPart_159 rfl ?_
                refine tt_lload (j := 0) dX10_lowPart_160 rfl ?_
                refine tt_lload (j := 0) dX10_lowPart_162 rfl ?_
                refine tt_ldc2 (v := 4294967295) dX10_lowPart_164 kl_10_206 ?_
                refine tt_lload (j := 0) dX10_lowPart_167 rfl ?_
                refine tt_lsub dX10_lowPart_169 ?_
                refine tt_lload_n (j := 1) dX10_lowPart_170 rfl ?_
                refine tt_ldiv dX10_lowPart_171 (by decide) ?_
                refine tt_lload_n (j := 1) dX10_lowPart_172 rfl ?_
                refine tt_lmul dX10_lowPart_173 ?_
                refine tt_ladd dX10_lowPart_174 ?_
                refine tt_lload_n (j := 1) dX10_lowPart_175 rfl ?_
                refine gt_Vv (As := [.int x1, .int 1, .long 0, .long (0 + (((4294967295 - 0) / 1) * 1)), .long 1]) dX10_lowPart_176 ca_X10_165 ⟨by decide, by decide⟩ h0 hA rfl (Nat.le_of_ble_eq_true rfl) (Nat.le_of_ble_eq_true rfl) (by decide) (cz_X10_make hG (oa_af h0 hA) (rg_w h1) hR (fun _ _ _ _ h => h)) rfl (fun _ h => nomatch h) (fun S234 hx238 hG235 hB236 hA237 => ?_)
                obtain ⟨d239, hd240⟩ : ∃ q, Z_X10_make R (sg S) o0 (x1) (1) (0) ((0 + (((4294967295 - 0) / 1) * 1))) (1) = q := ⟨_, rfl⟩
                have hq241 := (congrArg (fun q9 => Z_X10_make R q9 o0 (x1) (1) (0) ((0 + (((4294967295 - 0) / 1) * 1))) (1)) (show sg S = (sg S) from rfl)).trans hd240
                have hs242 := hx238.trans hq241
                have hF : Z_X10_lowPart R (sg S) o0 x1 x2 = d239 := by
                  subst hd240
                  exact zl_X10_lowPart_7 q103 q107 q109 (Int64.not_lt.mpr (lc_lt_f q160)) (Int64.not_lt.mpr (lc_ge_t q207)) q208 (Int64.not_lt.mpr (lc_ge_t q233))
                exact tt_vreturn dX10_lowPart_179 rfl (hP _ _ _ _ ⟨hG235, hA237, Or.inl ⟨_, rfl, rfl, Eq.trans hs242 hF.symm, rfl, rfl⟩⟩)
              · skip
                refine tt_lload (j := 0) dX10_lowPart_146 rfl ?_
                refine tt_lload_n (j := 1) dX10_lowPart_148 rfl ?_
                refine tt_ladd dX10_lowPart_149 ?_
                refine tt_goto (tgt := 155) dX10_lowPart_150 rfl ?_
                refine tt_lstore (ks := [0, 1, 2, 3, 4]) (L' := [(5, .long (0 + 1)), (3, .long 1), (0, .ref o0), (1, .int x1), (2, .int x2)]) dX10_lowPart_155 (by decide) rfl ?_
                refine tt_aload_n (j := 2) dX10_lowPart_157 rfl ?_
                refine tt_iload_n (j := 3) dX10_lowPart_158 rfl ?_
                refine tt_iconst (v := 1) dX10_lowPart_159 rfl ?_
                refine tt_lload (j := 0) dX10_lowPart_160 rfl ?_
                refine tt_lload (j := 0) dX10_lowPart_162 rfl ?_
                refine tt_ldc2 (v := 4294967295) dX10_lowPart_164 kl_10_206 ?_
                refine tt_lload (j := 0) dX10_lowPart_167 rfl ?_
                refine tt_lsub dX10_lowPart_169 ?_
                refine tt_lload_n (j := 1) dX10_lowPart_170 rfl ?_
                refine tt_ldiv dX10_lowPart_171 (by decide) ?_
                refine tt_lload_n (j := 1) dX10_lowPart_172 rfl ?_
                refine tt_lmul dX10_lowPart_173 ?_
                refine tt_ladd dX10_lowPart_174 ?_
                refine tt_lload_n (j := 1) dX10_lowPart_175 rfl ?_
                refine gt_Vv (As := [.int x1, .int 1, .long (0 + 1), .long ((0 + 1) + (((4294967295 - (0 + 1)) / 1) * 1)), .long 1]) dX10_lowPart_176 ca_X10_165 ⟨by decide, by decide⟩ h0 hA rfl (Nat.le_of_ble_eq_true rfl) (Nat.le_of_ble_eq_true rfl) (by decide) (cz_X10_make hG (oa_af h0 hA) (rg_w h1) hR (fun _ _ _ _ h => h)) rfl (fun _ h => nomatch h) (fun S243 hx247 hG244 hB245 hA246 => ?_)
                obtain ⟨d248, hd249⟩ : ∃ q, Z_X10_make R (sg S) o0 (x1) (1) ((0 + 1)) (((0 + 1) + (((4294967295 - (0 + 1)) / 1) * 1))) (1) = q := ⟨_, rfl⟩
                have hq250 := (congrArg (fun q9 => Z_X10_make R q9 o0 (x1) (1) ((0 + 1)) (((0 + 1) + (((4294967295 - (0 + 1)) / 1) * 1))) (1)) (show sg S = (sg S) from rfl)).trans hd249
                have hs251 := hx247.trans hq250
                have hF : Z_X10_lowPart R (sg S) o0 x1 x2 = d248 := by
                  subst hd249
                  exact zl_X10_lowPart_6 q103 q107 q109 (Int64.not_lt.mpr (lc_lt_f q160)) (Int64.not_lt.mpr (lc_ge_t q207)) q208 (lc_ge_f q233)
                exact tt_vreturn dX10_lowPart_179 rfl (hP _ _ _ _ ⟨hG244, hA246, Or.inl ⟨_, rfl, rfl, Eq.trans hs251 hF.symm, rfl, rfl⟩⟩)
          · skip
            refine tt_aload_n (j := 0) dX10_lowPart_79 rfl ?_
            refine tt_iload_n (j := 1) dX10_lowPart_80 rfl ?_
            refine tt_iload_n (j := 2) dX10_lowPart_81 rfl ?_
            refine gt_Vv (As := [.int x1, .int x2]) dX10_lowPart_82 ca_X10_169 ⟨by decide, by decide⟩ h0 hA rfl (Nat.le_of_ble_eq_true rfl) (Nat.le_of_ble_eq_true rfl) (by decide) (cz_X10_copy hG (oa_af h0 hA) (rg_w h1) (rg_w h2) hR (fun _ _ _ _ h => h)) rfl (fun _ h => nomatch h) (fun S252 hx256 hG253 hB254 hA255 => ?_)
            obtain ⟨d257, hd258⟩ : ∃ q, Z_X10_copy R (sg S) o0 (x1) (x2) = q := ⟨_, rfl⟩
            have hq259 := (congrArg (fun q9 => Z_X10_copy R q9 o0 (x1) (x2)) (show sg S = (sg S) from rfl)).trans hd258
            have hs260 := hx256.trans hq259
            refine tt_goto (tgt := 179) dX10_lowPart_85 rfl ?_
            have hF : Z_X10_lowPart R (sg S) o0 x1 x2 = d257 := by
              subst hd258
              exact zl_X10_lowPart_5 q103 q107 q109 (Int64.not_lt.mpr (lc_lt_f q160)) (lc_ge_f q207)
            exact tt_vreturn dX10_lowPart_179 rfl (hP _ _ _ _ ⟨hG253, hA255, Or.inl ⟨_, rfl, rfl, Eq.trans hs260 hF.symm, rfl, rfl⟩⟩)
    · skip
      have h261 : Rg 1 1 (Z_X10_isOne R (sg S) o0 (x2)) := rg_ne_lo h105 (⟨by decide, by decide⟩ : Rg 0 0 0) q107
      refine tt_aload_n (j := 0) dX10_lowPart_27 rfl ?_
      refine tt_iload_n (j := 1) dX10_lowPart_28 rfl ?_
      refine tt_aload_n (j := 0) dX10_lowPart_29 rfl ?_
      have hr262 := rk_R (k := 644) hR h0 33 4940
      have ho263 := rk_O (k := 644) hG hR h0 33 4940
      refine gt_gR (id := 644) dX10_lowPart_30 fl_10_16 rfl rfl h0 hA hr262 ?_
      refine tt_iload_n (j := 2) dX10_lowPart_33 rfl ?_
      refine gt_lLv (v := (mj (sg S) (R 644 o0) (x2 : Int32).toNatClampNeg)) dX10_lowPart_34 ho263 hA (rg_in h2) (sg_j (a := (R 644 o0)) (i := (x2 : Int32).toNatClampNeg) (show sg S = (sg S) from rfl)) ?_
      refine tt_ldc2 (v := 4294967295) dX10_lowPart_35 kl_10_206 ?_
      refine tt_land dX10_lowPart_38 ?_
      refine gt_Vv (As := [.int x1, .long ((mj (sg S) (R 644 o0) (x2 : Int32).toNatClampNeg) &&& 4294967295)]) dX10_lowPart_39 ca_X10_193 ⟨by decide, by decide⟩ h0 hA rfl (Nat.le_of_ble_eq_true rfl) (Nat.le_of_ble_eq_true rfl) (by decide) (cz_X10_one hG (oa_af h0 hA) (rg_w h1) hR (fun _ _ _ _ h => h)) rfl (fun _ h => nomatch h) (fun S264 hx268 hG265 hB266 hA267 => ?_)
      obtain ⟨d269, hd270⟩ : ∃ q, Z_X10_one R (sg S) o0 (x1) (((mj (sg S) (R 644 o0) (x2 : Int32).toNatClampNeg) &&& 4294967295)) = q := ⟨_, rfl⟩
      have hq271 := (congrArg (fun q9 => Z_X10_one R q9 o0 (x1) (((mj (sg S) (R 644 o0) (x2 : Int32).toNatClampNeg) &&& 4294967295))) (show sg S = (sg S) from rfl)).trans hd270
      have hs272 := hx268.trans hq271
      refine tt_goto (tgt := 179) dX10_lowPart_42 rfl ?_
      have hF : Z_X10_lowPart R (sg S) o0 x1 x2 = d269 := by
        subst hd270
        exact zl_X10_lowPart_14 q103 q107
      exact tt_vreturn dX10_lowPart_179 rfl (hP _ _ _ _ ⟨hG265, hA267, Or.inl ⟨_, rfl, rfl, Eq.trans hs272 hF.symm, rfl, rfl⟩⟩)
  · skip
    have h273 : Rg 0 0 (mi (sg S) (R 643 o0) (x2 : Int32).toNatClampNeg) := rg_eq_l (rg_all (mi (sg S) (R 643 o0) (x2 : Int32).toNatClampNeg)) (⟨by decide, by decide⟩ : Rg 0 0 0) q103
    refine tt_aload_n (j := 0) dX10_lowPart_9 rfl ?_
    refine gt_gR (id := 643) dX10_lowPart_10 fl_10_13 rfl rfl h0 hA hr101 ?_
    refine tt_iload_n (j := 1) dX10_lowPart_13 rfl ?_
    refine tt_iconst (v := 0) dX10_lowPart_14 rfl ?_
    refine gx_iS dX10_lowPart_15 ho102 hA (Or.inl (by decide)) (rg_in h1) hG (by decide) (show sg S = (sg S) from rfl) (fun S274 hG275 hA276 e277 => ?_)
    refine tt_goto (tgt := 179) dX10_lowPart_16 rfl ?_
    have hF : Z_X10_lowPart R (sg S) o0 x1 x2 = (ui (sg S) (R 643 o0) (x1 : Int32).toNatClampNeg 0) := by
      exact zl_X10_lowPart_0 q103
    exact tt_vreturn dX10_lowPart_179 rfl (hP _ _ _ _ ⟨hG275, hA276, Or.inl ⟨_, rfl, rfl, Eq.trans e277 hF.symm, rfl, rfl⟩⟩)
def Z_X10_signed (R : Nat → Nat → Nat) (σ : SG) (o0 : Nat) (x1 : Int32) (x2 : Int32) : SG :=
  let d106 := Z_X10_lowPart R σ o0 (x1) (x2)
  if (mi d106 (R 643 o0) (x1 : Int32).toNatClampNeg) = 0 then
    d106
  else
    if (mj d106 (R 645 o0) (x1 : Int32).toNatClampNeg) < (2147483648 : Int64) then
      d106
    else
      if (mj d106 (R 644 o0) (x1 : Int32).toNatClampNeg) < (2147483648 : Int64) then
        let d130 := Z_X10_make R d106 o0 (x1) (1) (((mj d106 (R 644 o0) (x1 : Int32).toNatClampNeg) - ((((mj d106 (R 644 o0) (x1 : Int32).toNatClampNeg) + 2147483648) / (gJ ((mj d106 (R 646 o0) (x1 : Int32).toNatClampNeg)) (4294967296))) * (gJ ((mj d106 (R 646 o0) (x1 : Int32).toNatClampNeg)) (4294967296))))) ((((mj d106 (R 644 o0) (x1 : Int32).toNatClampNeg) - ((((mj d106 (R 644 o0) (x1 : Int32).toNatClampNeg) + 2147483648) / (gJ ((mj d106 (R 646 o0) (x1 : Int32).toNatClampNeg)) (4294967296))) * (gJ ((mj d106 (R 646 o0) (x1 : Int32).toNatClampNeg)) (4294967296)))) + ((((2147483648 - 1) - ((mj d106 (R 644 o0) (x1 : Int32).toNatClampNeg) - ((((mj d106 (R 644 o0) (x1 : Int32).toNatClampNeg) + 2147483648) / (gJ ((mj d106 (R 646 o0) (x1 : Int32).toNatClampNeg)) (4294967296))) * (gJ ((mj d106 (R 646 o0) (x1 : Int32).toNatClampNeg)) (4294967296))))) / (gJ ((mj d106 (R 646 o0) (x1 : Int32).toNatClampNeg)) (4294967296))) * (gJ ((mj d106 (R 646 o0) (x1 : Int32).toNatClampNeg)) (4294967296))))) ((gJ ((mj d106 (R 646 o0) (x1 : Int32).toNatClampNeg)) (4294967296)))
        d130
      else
        let d141 := Z_X10_make R d106 o0 (x1) (1) (((mj d106 (R 644 o0) (x1 : Int32).toNatClampNeg) - 4294967296)) (((mj d106 (R 645 o0) (x1 : Int32).toNatClampNeg) - 4294967296)) ((mj d106 (R 646 o0) (x1 : Int32).toNatClampNeg))
        d141
theorem zl_X10_signed_0 {R : Nat → Nat → Nat} {σ : SG} {o0 : Nat} {x1 : Int32} {x2 : Int32} (h0 : (mi (Z_X10_lowPart R σ o0 (x1) (x2)) (R 643 o0) (x1 : Int32).toNatClampNeg) = 0) : Z_X10_signed R σ o0 x1 x2 = (Z_X10_lowPart R σ o0 (x1) (x2)) := by unfold Z_X10_signed; exact if_pos h0
theorem zl_X10_signed_1 {R : Nat → Nat → Nat} {σ : SG} {o0 : Nat} {x1 : Int32} {x2 : Int32} (h0 : ¬ (mi (Z_X10_lowPart R σ o0 (x1) (x2)) (R 643 o0) (x1 : Int32).toNatClampNeg) = 0) (h1 : (mj (Z_X10_lowPart R σ o0 (x1) (x2)) (R 645 o0) (x1 : Int32).toNatClampNeg) < (2147483648 : Int64)) : Z_X10_signed R σ o0 x1 x2 = (Z_X10_lowPart R σ o0 (x1) (x2)) := by unfold Z_X10_signed; exact Eq.trans (if_neg h0) (if_pos h1)
theorem zl_X10_signed_2 {R : Nat → Nat → Nat} {σ : SG} {o0 : Nat} {x1 : Int32} {x2 : Int32} (h0 : ¬ (mi (Z_X10_lowPart R σ o0 (x1) (x2)) (R 643 o0) (x1 : Int32).toNatClampNeg) = 0) (h1 : ¬ (mj (Z_X10_lowPart R σ o0 (x1) (x2)) (R 645 o0) (x1 : Int32).toNatClampNeg) < (2147483648 : Int64)) (h2 : (mj (Z_X10_lowPart R σ o0 (x1) (x2)) (R 644 o0) (x1 : Int32).toNatClampNeg) < (2147483648 : Int64)) : Z_X10_signed R σ o0 x1 x2 = (Z_X10_make R (Z_X10_lowPart R σ o0 (x1) (x2)) o0 (x1) (1) (((mj (Z_X10_lowPart R σ o0 (x1) (x2)) (R 644 o0) (x1 : Int32).toNatClampNeg) - ((((mj (Z_X10_lowPart R σ o0 (x1) (x2)) (R 644 o0) (x1 : Int32).toNatClampNeg) + 2147483648) / (gJ ((mj (Z_X10_lowPart R σ o0 (x1) (x2)) (R 646 o0) (x1 : Int32).toNatClampNeg)) (4294967296))) * (gJ ((mj (Z_X10_lowPart R σ o0 (x1) (x2)) (R 646 o0) (x1 : Int32).toNatClampNeg)) (4294967296))))) ((((mj (Z_X10_lowPart R σ o0 (x1) (x2)) (R 644 o0) (x1 : Int32).toNatClampNeg) - ((((mj (Z_X10_lowPart R σ o0 (x1) (x2)) (R 644 o0) (x1 : Int32).toNatClampNeg) + 2147483648) / (gJ ((mj (Z_X10_lowPart R σ o0 (x1) (x2)) (R 646 o0) (x1 : Int32).toNatClampNeg)) (4294967296))) * (gJ ((mj (Z_X10_lowPart R σ o0 (x1) (x2)) (R 646 o0) (x1 : Int32).toNatClampNeg)) (4294967296)))) + ((((2147483648 - 1) - ((mj (Z_X10_lowPart R σ o0 (x1) (x2)) (R 644 o0) (x1 : Int32).toNatClampNeg) - ((((mj (Z_X10_lowPart R σ o0 (x1) (x2)) (R 644 o0) (x1 : Int32).toNatClampNeg) + 2147483648) / (gJ ((mj (Z_X10_lowPart R σ o0 (x1) (x2)) (R 646 o0) (x1 : Int32).toNatClampNeg)) (4294967296))) * (gJ ((mj (Z_X10_lowPart R σ o0 (x1) (x2)) (R 646 o0) (x1 : Int32).toNatClampNeg)) (4294967296))))) / (gJ ((mj (Z_X10_lowPart R σ o0 (x1) (x2)) (R 646 o0) (x1 : Int32).toNatClampNeg)) (4294967296))) * (gJ ((mj (Z_X10_lowPart R σ o0 (x1) (x2)) (R 646 o0) (x1 : Int32).toNatClampNeg)) (4294967296))))) ((gJ ((mj (Z_X10_lowPart R σ o0 (x1) (x2)) (R 646 o0) (x1 : Int32).toNatClampNeg)) (4294967296)))) := by unfold Z_X10_signed; exact Eq.trans (if_neg h0) (Eq.trans (if_neg h1) (if_pos h2))
theorem zl_X10_signed_3 {R : Nat → Nat → Nat} {σ : SG} {o0 : Nat} {x1 : Int32} {x2 : Int32} (h0 : ¬ (mi (Z_X10_lowPart R σ o0 (x1) (x2)) (R 643 o0) (x1 : Int32).toNatClampNeg) = 0) (h1 : ¬ (mj (Z_X10_lowPart R σ o0 (x1) (x2)) (R 645 o0) (x1 : Int32).toNatClampNeg) < (2147483648 : Int64)) (h2 : ¬ (mj (Z_X10_lowPart R σ o0 (x1) (x2)) (R 644 o0) (x1 : Int32).toNatClampNeg) < (2147483648 : Int64)) : Z_X10_signed R σ o0 x1 x2 = (Z_X10_make R (Z_X10_lowPart R σ o0 (x1) (x2)) o0 (x1) (1) (((mj (Z_X10_lowPart R σ o0 (x1) (x2)) (R 644 o0) (x1 : Int32).toNatClampNeg) - 4294967296)) (((mj (Z_X10_lowPart R σ o0 (x1) (x2)) (R 645 o0) (x1 : Int32).toNatClampNeg) - 4294967296)) ((mj (Z_X10_lowPart R σ o0 (x1) (x2)) (R 646 o0) (x1 : Int32).toNatClampNeg))) := by unfold Z_X10_signed; exact Eq.trans (if_neg h0) (Eq.trans (if_neg h1) (if_neg h2))
set_option maxHeartbeats 40000000 in
theorem cz_X10_signed {xi : SX} {S : Hp} {E : List Nat} {kc nc : Nat} {P : Po} {o0 : Nat} {x1 : Int32} {x2 : Int32} {R : Nat → Nat → Nat} (hG : GI S E) (h0 : Oa S E 10 0 o0) (h1 : Rg 0 4939 x1) (h2 : Rg 0 4939 x2) (hR : RK S R) (hP : ∀ r T x y, PV E [9989] S kc nc rV (fun v T => sg T = Z_X10_signed R (sg S) o0 x1 x2) [] r T x y → P r T x y) : TT xi M_X10_signed 0 [(0, .ref o0), (1, .int x1), (2, .int x2)] [] S kc nc P := by
  have hA : Af E [9989] S S := af_rf
  refine tt_aload_n (j := 0) dX10_signed_0 rfl ?_
  refine tt_iload_n (j := 1) dX10_signed_1 rfl ?_
  refine tt_iload_n (j := 2) dX10_signed_2 rfl ?_
  refine gt_Vv (As := [.int x1, .int x2]) dX10_signed_3 ca_X10_210 ⟨by decide, by decide⟩ h0 hA rfl (Nat.le_of_ble_eq_true rfl) (Nat.le_of_ble_eq_true rfl) (by decide) (cz_X10_lowPart hG (oa_af h0 hA) (rg_w h1) (rg_w h2) hR (fun _ _ _ _ h => h)) rfl (fun _ h => nomatch h) (fun S101 hx105 hG102 hB103 hA104 => ?_)
  obtain ⟨d106, hd107⟩ : ∃ q, Z_X10_lowPart R (sg S) o0 (x1) (x2) = q := ⟨_, rfl⟩
  have hq108 := (congrArg (fun q9 => Z_X10_lowPart R q9 o0 (x1) (x2)) (show sg S = (sg S) from rfl)).trans hd107
  have hs109 := hx105.trans hq108
  refine tt_ldc2 (v := 2147483648) dX10_signed_6 kl_10_213 ?_
  refine tt_lstore_n (ks := [0, 1, 2, 3]) (L' := [(3, .long 2147483648), (0, .ref o0), (1, .int x1), (2, .int x2)]) dX10_signed_9 (by decide) rfl ?_
  refine tt_aload_n (j := 1) dX10_signed_10 rfl ?_
  have hr110 := rk_R (k := 643) hR h0 32 4940
  have ho111 := rk_O (k := 643) hG hR h0 32 4940
  refine gt_gR (id := 643) dX10_signed_11 fl_10_13 rfl rfl h0 hA104 hr110 ?_
  refine tt_iload_n (j := 2) dX10_signed_14 rfl ?_
  refine gx_iL (v := (mi d106 (R 643 o0) (x1 : Int32).toNatClampNeg)) dX10_signed_15 ho111 hA104 (rg_in h1) (sg_i (a := (R 643 o0)) (i := (x1 : Int32).toNatClampNeg) hs109) ?_
  refine tt_if_eq (tgt := 30) dX10_signed_16 rfl (fun q112 => ?_) (fun q112 => ?_)
  · skip
    have h113 : Rg 0 0 (mi d106 (R 643 o0) (x1 : Int32).toNatClampNeg) := rg_eq_l (rg_all (mi d106 (R 643 o0) (x1 : Int32).toNatClampNeg)) (⟨by decide, by decide⟩ : Rg 0 0 0) q112
    have hF : Z_X10_signed R (sg S) o0 x1 x2 = d106 := by
      subst hd107
      exact zl_X10_signed_0 q112
    exact tt_vreturn dX10_signed_30 rfl (hP _ _ _ _ ⟨hG102, hA104, Or.inl ⟨_, rfl, rfl, Eq.trans hs109 hF.symm, rfl, rfl⟩⟩)
  · skip
    refine tt_aload_n (j := 1) dX10_signed_19 rfl ?_
    have hr114 := rk_R (k := 645) hR h0 33 4940
    have ho115 := rk_O (k := 645) hG hR h0 33 4940
    refine gt_gR (id := 645) dX10_signed_20 fl_10_20 rfl rfl h0 hA104 hr114 ?_
    refine tt_iload_n (j := 2) dX10_signed_23 rfl ?_
    refine gt_lLv (v := (mj d106 (R 645 o0) (x1 : Int32).toNatClampNeg)) dX10_signed_24 ho115 hA104 (rg_in h1) (sg_j (a := (R 645 o0)) (i := (x1 : Int32).toNatClampNeg) hs109) ?_
    refine tt_lload_n (j := 0) dX10_signed_25 rfl ?_
    refine tt_lcmp dX10_signed_26 ?_
    refine tt_if_ge (tgt := 31) dX10_signed_27 rfl (fun q116 => ?_) (fun q116 => ?_)
    · skip
      refine tt_aload_n (j := 1) dX10_signed_31 rfl ?_
      have hr117 := rk_R (k := 644) hR h0 33 4940
      have ho118 := rk_O (k := 644) hG hR h0 33 4940
      refine gt_gR (id := 644) dX10_signed_32 fl_10_16 rfl rfl h0 hA104 hr117 ?_
      refine tt_iload_n (j := 2) dX10_signed_35 rfl ?_
      refine gt_lLv (v := (mj d106 (R 644 o0) (x1 : Int32).toNatClampNeg)) dX10_signed_36 ho118 hA104 (rg_in h1) (sg_j (a := (R 644 o0)) (i := (x1 : Int32).toNatClampNeg) hs109) ?_
      refine tt_lload_n (j := 0) dX10_signed_37 rfl ?_
      refine tt_lcmp dX10_signed_38 ?_
      refine tt_if_lt (tgt := 75) dX10_signed_39 rfl (fun q119 => ?_) (fun q119 => ?_)
      · skip
        refine tt_aload_n (j := 1) dX10_signed_75 rfl ?_
        have hr120 := rk_R (k := 646) hR h0 33 4940
        have ho121 := rk_O (k := 646) hG hR h0 33 4940
        refine gt_gR (id := 646) dX10_signed_76 fl_10_23 rfl rfl h0 hA104 hr120 ?_
        refine tt_iload_n (j := 2) dX10_signed_79 rfl ?_
        refine gt_lLv (v := (mj d106 (R 646 o0) (x1 : Int32).toNatClampNeg)) dX10_signed_80 ho121 hA104 (rg_in h1) (sg_j (a := (R 646 o0)) (i := (x1 : Int32).toNatClampNeg) hs109) ?_
        refine tt_ldc2 (v := 4294967296) dX10_signed_81 kl_10_208 ?_
        refine gt_SJp (As := [.long (mj d106 (R 646 o0) (x1 : Int32).toNatClampNeg), .long 4294967296]) dX10_signed_84 ca_X10_172 ⟨by decide, by decide⟩ hA104 (Nat.le_of_ble_eq_true rfl) (Nat.le_of_ble_eq_true rfl) (by decide) (cz_X10_gcd hG102  (fun _ _ _ _ h => h)) rfl (fun _ h => nomatch h) (fun _ _ q => q.1) (fun y122 hx124 => ?_)
        obtain rfl : gJ ((mj d106 (R 646 o0) (x1 : Int32).toNatClampNeg)) (4294967296) = y122 := ((el_w hx124.2).trans rfl).symm
        refine tt_lstore (ks := [0, 1, 2, 3, 4]) (L' := [(5, .long (gJ ((mj d106 (R 646 o0) (x1 : Int32).toNatClampNeg)) (4294967296))), (3, .long 2147483648), (0, .ref o0), (1, .int x1), (2, .int x2)]) dX10_signed_87 (by decide) rfl ?_
        refine tt_aload_n (j := 2) dX10_signed_89 rfl ?_
        refine gt_gR (id := 644) dX10_signed_90 fl_10_16 rfl rfl h0 hA104 hr117 ?_
        refine tt_iload_n (j := 3) dX10_signed_93 rfl ?_
        refine gt_lLv (v := (mj d106 (R 644 o0) (x1 : Int32).toNatClampNeg)) dX10_signed_94 ho118 hA104 (rg_in h1) (sg_j (a := (R 644 o0)) (i := (x1 : Int32).toNatClampNeg) hs109) ?_
        refine tt_aload_n (j := 2) dX10_signed_95 rfl ?_
        refine gt_gR (id := 644) dX10_signed_96 fl_10_16 rfl rfl h0 hA104 hr117 ?_
        refine tt_iload_n (j := 3) dX10_signed_99 rfl ?_
        refine gt_lLv (v := (mj d106 (R 644 o0) (x1 : Int32).toNatClampNeg)) dX10_signed_100 ho118 hA104 (rg_in h1) (sg_j (a := (R 644 o0)) (i := (x1 : Int32).toNatClampNeg) hs109) ?_
        refine tt_lload_n (j := 1) dX10_signed_101 rfl ?_
        refine tt_ladd dX10_signed_102 ?_
        refine tt_lload (j := 0) dX10_signed_103 rfl ?_
        refine tt_ldiv dX10_signed_105 (gJ_w9 _) ?_
        refine tt_lload (j := 0) dX10_signed_106 rfl ?_
        refine tt_lmul dX10_signed_108 ?_
        refine tt_lsub dX10_signed_109 ?_
        refine tt_lstore (ks := [0, 1, 2, 3, 4, 5]) (L' := [(7, .long ((mj d106 (R 644 o0) (x1 : Int32).toNatClampNeg) - ((((mj d106 (R 644 o0) (x1 : Int32).toNatClampNeg) + 2147483648) / (gJ ((mj d106 (R 646 o0) (x1 : Int32).toNatClampNeg)) (4294967296))) * (gJ ((mj d106 (R 646 o0) (x1 : Int32).toNatClampNeg)) (4294967296))))), (5, .long (gJ ((mj d106 (R 646 o0) (x1 : Int32).toNatClampNeg)) (4294967296))), (3, .long 2147483648), (0, .ref o0), (1, .int x1), (2, .int x2)]) dX10_signed_110 (by decide) rfl ?_
        refine tt_aload_n (j := 3) dX10_signed_112 rfl ?_
        refine tt_iload_n (j := 4) dX10_signed_113 rfl ?_
        refine tt_iconst (v := 1) dX10_signed_114 rfl ?_
        refine tt_lload (j := 0) dX10_signed_115 rfl ?_
        refine tt_lload (j := 0) dX10_signed_117 rfl ?_
        refine tt_lload_n (j := 2) dX10_signed_119 rfl ?_
        refine tt_lconst (v := 1) dX10_signed_120 rfl ?_
        refine tt_lsub dX10_signed_121 ?_
        refine tt_lload (j := 0) dX10_signed_122 rfl ?_
        refine tt_lsub dX10_signed_124 ?_
        refine tt_lload (j := 1) dX10_signed_125 rfl ?_
        refine tt_ldiv dX10_signed_127 (gJ_w9 _) ?_
        refine tt_lload (j := 1) dX10_signed_128 rfl ?_
        refine tt_lmul dX10_signed_130 ?_
        refine tt_ladd dX10_signed_131 ?_
        refine tt_lload (j := 1) dX10_signed_132 rfl ?_
        refine gt_Vv (As := [.int x1, .int 1, .long ((mj d106 (R 644 o0) (x1 : Int32).toNatClampNeg) - ((((mj d106 (R 644 o0) (x1 : Int32).toNatClampNeg) + 2147483648) / (gJ ((mj d106 (R 646 o0) (x1 : Int32).toNatClampNeg)) (4294967296))) * (gJ ((mj d106 (R 646 o0) (x1 : Int32).toNatClampNeg)) (4294967296)))), .long (((mj d106 (R 644 o0) (x1 : Int32).toNatClampNeg) - ((((mj d106 (R 644 o0) (x1 : Int32).toNatClampNeg) + 2147483648) / (gJ ((mj d106 (R 646 o0) (x1 : Int32).toNatClampNeg)) (4294967296))) * (gJ ((mj d106 (R 646 o0) (x1 : Int32).toNatClampNeg)) (4294967296)))) + ((((2147483648 - 1) - ((mj d106 (R 644 o0) (x1 : Int32).toNatClampNeg) - ((((mj d106 (R 644 o0) (x1 : Int32).toNatClampNeg) + 2147483648) / (gJ ((mj d106 (R 646 o0) (x1 : Int32).toNatClampNeg)) (4294967296))) * (gJ ((mj d106 (R 646 o0) (x1 : Int32).toNatClampNeg)) (4294967296))))) / (gJ ((mj d106 (R 646 o0) (x1 : Int32).toNatClampNeg)) (4294967296))) * (gJ ((mj d106 (R 646 o0) (x1 : Int32).toNatClampNeg)) (4294967296)))), .long (gJ ((mj d106 (R 646 o0) (x1 : Int32).toNatClampNeg)) (4294967296))]) dX10_signed_134 ca_X10_165 ⟨by decide, by decide⟩ h0 hA104 rfl (Nat.le_of_ble_eq_true rfl) (Nat.le_of_ble_eq_true rfl) (by decide) (cz_X10_make hG102 (oa_af h0 hA104) (rg_w h1) (rk_af hR hA104) (fun _ _ _ _ h => h)) rfl (fun _ h => nomatch h) (fun S125 hx129 hG126 hB127 hA128 => ?_)
        obtain ⟨d130, hd131⟩ : ∃ q, Z_X10_make R d106 o0 (x1) (1) (((mj d106 (R 644 o0) (x1 : Int32).toNatClampNeg) - ((((mj d106 (R 644 o0) (x1 : Int32).toNatClampNeg) + 2147483648) / (gJ ((mj d106 (R 646 o0) (x1 : Int32).toNatClampNeg)) (4294967296))) * (gJ ((mj d106 (R 646 o0) (x1 : Int32).toNatClampNeg)) (4294967296))))) ((((mj d106 (R 644 o0) (x1 : Int32).toNatClampNeg) - ((((mj d106 (R 644 o0) (x1 : Int32).toNatClampNeg) + 2147483648) / (gJ ((mj d106 (R 646 o0) (x1 : Int32).toNatClampNeg)) (4294967296))) * (gJ ((mj d106 (R 646 o0) (x1 : Int32).toNatClampNeg)) (4294967296)))) + ((((2147483648 - 1) - ((mj d106 (R 644 o0) (x1 : Int32).toNatClampNeg) - ((((mj d106 (R 644 o0) (x1 : Int32).toNatClampNeg) + 2147483648) / (gJ ((mj d106 (R 646 o0) (x1 : Int32).toNatClampNeg)) (4294967296))) * (gJ ((mj d106 (R 646 o0) (x1 : Int32).toNatClampNeg)) (4294967296))))) / (gJ ((mj d106 (R 646 o0) (x1 : Int32).toNatClampNeg)) (4294967296))) * (gJ ((mj d106 (R 646 o0) (x1 : Int32).toNatClampNeg)) (4294967296))))) ((gJ ((mj d106 (R 646 o0) (x1 : Int32).toNatClampNeg)) (4294967296))) = q := ⟨_, rfl⟩
        have hq132 := (congrArg (fun q9 => Z_X10_make R q9 o0 (x1) (1) (((mj d106 (R 644 o0) (x1 : Int32).toNatClampNeg) - ((((mj d106 (R 644 o0) (x1 : Int32).toNatClampNeg) + 2147483648) / (gJ ((mj d106 (R 646 o0) (x1 : Int32).toNatClampNeg)) (4294967296))) * (gJ ((mj d106 (R 646 o0) (x1 : Int32).toNatClampNeg)) (4294967296))))) ((((mj d106 (R 644 o0) (x1 : Int32).toNatClampNeg) - ((((mj d106 (R 644 o0) (x1 : Int32).toNatClampNeg) + 2147483648) / (gJ ((mj d106 (R 646 o0) (x1 : Int32).toNatClampNeg)) (4294967296))) * (gJ ((mj d106 (R 646 o0) (x1 : Int32).toNatClampNeg)) (4294967296)))) + ((((2147483648 - 1) - ((mj d106 (R 644 o0) (x1 : Int32).toNatClampNeg) - ((((mj d106 (R 644 o0) (x1 : Int32).toNatClampNeg) + 2147483648) / (gJ ((mj d106 (R 646 o0) (x1 : Int32).toNatClampNeg)) (4294967296))) * (gJ ((mj d106 (R 646 o0) (x1 : Int32).toNatClampNeg)) (4294967296))))) / (gJ ((mj d106 (R 646 o0) (x1 : Int32).toNatClampNeg)) (4294967296))) * (gJ ((mj d106 (R 646 o0) (x1 : Int32).toNatClampNeg)) (4294967296))))) ((gJ ((mj d106 (R 646 o0) (x1 : Int32).toNatClampNeg)) (4294967296)))) hs109).trans hd131
        have hs133 := hx129.trans hq132
        have hF : Z_X10_signed R (sg S) o0 x1 x2 = d130 := by
          subst hd131
          subst hd107
          exact zl_X10_signed_2 q112 (Int64.not_lt.mpr (lc_ge_t q116)) (lc_lt_t q119)
        exact tt_vreturn dX10_signed_137 rfl (hP _ _ _ _ ⟨hG126, hA128, Or.inl ⟨_, rfl, rfl, Eq.trans hs133 hF.symm, rfl, rfl⟩⟩)
      · skip
        refine tt_aload_n (j := 1) dX10_signed_42 rfl ?_
        refine tt_iload_n (j := 2) dX10_signed_43 rfl ?_
        refine tt_iconst (v := 1) dX10_signed_44 rfl ?_
        refine tt_aload_n (j := 1) dX10_signed_45 rfl ?_
        refine gt_gR (id := 644) dX10_signed_46 fl_10_16 rfl rfl h0 hA104 hr117 ?_
        refine tt_iload_n (j := 2) dX10_signed_49 rfl ?_
        refine gt_lLv (v := (mj d106 (R 644 o0) (x1 : Int32).toNatClampNeg)) dX10_signed_50 ho118 hA104 (rg_in h1) (sg_j (a := (R 644 o0)) (i := (x1 : Int32).toNatClampNeg) hs109) ?_
        refine tt_ldc2 (v := 4294967296) dX10_signed_51 kl_10_208 ?_
        refine tt_lsub dX10_signed_54 ?_
        refine tt_aload_n (j := 1) dX10_signed_55 rfl ?_
        refine gt_gR (id := 645) dX10_signed_56 fl_10_20 rfl rfl h0 hA104 hr114 ?_
        refine tt_iload_n (j := 2) dX10_signed_59 rfl ?_
        refine gt_lLv (v := (mj d106 (R 645 o0) (x1 : Int32).toNatClampNeg)) dX10_signed_60 ho115 hA104 (rg_in h1) (sg_j (a := (R 645 o0)) (i := (x1 : Int32).toNatClampNeg) hs109) ?_
        refine tt_ldc2 (v := 4294967296) dX10_signed_61 kl_10_208 ?_
        refine tt_lsub dX10_signed_64 ?_
        refine tt_aload_n (j := 1) dX10_signed_65 rfl ?_
        have hr134 := rk_R (k := 646) hR h0 33 4940
        have ho135 := rk_O (k := 646) hG hR h0 33 4940
        refine gt_gR (id := 646) dX10_signed_66 fl_10_23 rfl rfl h0 hA104 hr134 ?_
        refine tt_iload_n (j := 2) dX10_signed_69 rfl ?_
        refine gt_lLv (v := (mj d106 (R 646 o0) (x1 : Int32).toNatClampNeg)) dX10_signed_70 ho135 hA104 (rg_in h1) (sg_j (a := (R 646 o0)) (i := (x1 : Int32).toNatClampNeg) hs109) ?_
        refine gt_Vv (As := [.int x1, .int 1, .long ((mj d106 (R 644 o0) (x1 : Int32).toNatClampNeg) - 4294967296), .long ((mj d106 (R 645 o0) (x1 : Int32).toNatClampNeg) - 4294967296), .long (mj d106 (R 646 o0) (x1 : Int32).toNatClampNeg)]) dX10_signed_71 ca_X10_165 ⟨by decide, by decide⟩ h0 hA104 rfl (Nat.le_of_ble_eq_true rfl) (Nat.le_of_ble_eq_true rfl) (by decide) (cz_X10_make hG102 (oa_af h0 hA104) (rg_w h1) (rk_af hR hA104) (fun _ _ _ _ h => h)) rfl (fun _ h => nomatch h) (fun S136 hx140 hG137 hB138 hA139 => ?_)
        obtain ⟨d141, hd142⟩ : ∃ q, Z_X10_make R d106 o0 (x1) (1) (((mj d106 (R 644 o0) (x1 : Int32).toNatClampNeg) - 4294967296)) (((mj d106 (R 645 o0) (x1 : Int32).toNatClampNeg) - 4294967296)) ((mj d106 (R 646 o0) (x1 : Int32).toNatClampNeg)) = q := ⟨_, rfl⟩
        have hq143 := (congrArg (fun q9 => Z_X10_make R q9 o0 (x1) (1) (((mj d106 (R 644 o0) (x1 : Int32).toNatClampNeg) - 4294967296)) (((mj d106 (R 645 o0) (x1 : Int32).toNatClampNeg) - 4294967296)) ((mj d106 (R 646 o0) (x1 : Int32).toNatClampNeg))) hs109).trans hd142
        have hs144 := hx140.trans hq143
        have hF : Z_X10_signed R (sg S) o0 x1 x2 = d141 := by
          subst hd142
          subst hd107
          exact zl_X10_signed_3 q112 (Int64.not_lt.mpr (lc_ge_t q116)) (Int64.not_lt.mpr (lc_lt_f q119))
        exact tt_vreturn dX10_signed_74 rfl (hP _ _ _ _ ⟨hG137, hA139, Or.inl ⟨_, rfl, rfl, Eq.trans hs144 hF.symm, rfl, rfl⟩⟩)
    · skip
      have hF : Z_X10_signed R (sg S) o0 x1 x2 = d106 := by
        subst hd107
        exact zl_X10_signed_1 q112 (lc_ge_f q116)
      exact tt_vreturn dX10_signed_30 rfl (hP _ _ _ _ ⟨hG102, hA104, Or.inl ⟨_, rfl, rfl, Eq.trans hs109 hF.symm, rfl, rfl⟩⟩)
def Z_X10_or_p222 (R : Nat → Nat → Nat) (σ : SG) (o0 : Nat) (x1 : Int32) (x4 : Int32) (y7 : Int64) (y9 : Int64) : SG :=
  if x4 = 0 then
    let d108 := Z_X10_make R σ o0 (x1) (1) (y9) (y7) (1)
    d108
  else
    let d118 := Z_X10_make R σ o0 (x1) (1) (0) (y7) (1)
    d118
theorem zl_X10_or_p222_0 {R : Nat → Nat → Nat} {σ : SG} {o0 : Nat} {x1 : Int32} {x4 : Int32} {y7 : Int64} {y9 : Int64} (h0 : x4 = 0) : Z_X10_or_p222 R σ o0 x1 x4 y7 y9 = (Z_X10_make R σ o0 (x1) (1) (y9) (y7) (1)) := by unfold Z_X10_or_p222; exact if_pos h0
theorem zl_X10_or_p222_1 {R : Nat → Nat → Nat} {σ : SG} {o0 : Nat} {x1 : Int32} {x4 : Int32} {y7 : Int64} {y9 : Int64} (h0 : ¬ x4 = 0) : Z_X10_or_p222 R σ o0 x1 x4 y7 y9 = (Z_X10_make R σ o0 (x1) (1) (0) (y7) (1)) := by unfold Z_X10_or_p222; exact if_neg h0
set_option maxHeartbeats 40000000 in
theorem cz_X10_or_p222 {xi : SX} {S : Hp} {E : List Nat} {kc nc : Nat} {P : Po} {o0 : Nat} {x1 : Int32} {x4 : Int32} {y7 : Int64} {y9 : Int64} {R : Nat → Nat → Nat} (hG : GI S E) (h0 : Oa S E 10 0 o0) (h1 : Rg 0 4939 x1) (h4 : Rg 0 1 x4) (hR : RK S R) (hP : ∀ r T x y, PV E [9989] S kc nc rV (fun v T => sg T = Z_X10_or_p222 R (sg S) o0 x1 x4 y7 y9) [] r T x y → P r T x y) : TT xi M_X10_or 222 [(0, .ref o0), (1, .int x1), (4, .int x4), (7, .long y7), (9, .long y9)] [] S kc nc P := by
  have hA : Af E [9989] S S := af_rf
  refine tt_aload_n (j := 0) dX10_or_222 rfl ?_
  refine tt_iload_n (j := 1) dX10_or_223 rfl ?_
  refine tt_iconst (v := 1) dX10_or_224 rfl ?_
  refine tt_iload (j := 2) dX10_or_225 rfl ?_
  refine tt_if_eq (tgt := 234) dX10_or_227 rfl (fun q101 => ?_) (fun q101 => ?_)
  · skip
    have h102 : Rg 0 0 x4 := rg_eq_l h4 (⟨by decide, by decide⟩ : Rg 0 0 0) q101
    refine tt_lload (j := 4) dX10_or_234 rfl ?_
    refine tt_lload (j := 3) dX10_or_236 rfl ?_
    refine tt_lconst (v := 1) dX10_or_238 rfl ?_
    refine gt_Vv (As := [.int x1, .int 1, .long y9, .long y7, .long 1]) dX10_or_239 ca_X10_165 ⟨by decide, by decide⟩ h0 hA rfl (Nat.le_of_ble_eq_true rfl) (Nat.le_of_ble_eq_true rfl) (by decide) (cz_X10_make hG (oa_af h0 hA) (rg_w h1) hR (fun _ _ _ _ h => h)) rfl (fun _ h => nomatch h) (fun S103 hx107 hG104 hB105 hA106 => ?_)
    obtain ⟨d108, hd109⟩ : ∃ q, Z_X10_make R (sg S) o0 (x1) (1) (y9) (y7) (1) = q := ⟨_, rfl⟩
    have hq110 := (congrArg (fun q9 => Z_X10_make R q9 o0 (x1) (1) (y9) (y7) (1)) (show sg S = (sg S) from rfl)).trans hd109
    have hs111 := hx107.trans hq110
    have hF : Z_X10_or_p222 R (sg S) o0 x1 x4 y7 y9 = d108 := by
      subst hd109
      exact zl_X10_or_p222_0 q101
    exact tt_vreturn dX10_or_242 rfl (hP _ _ _ _ ⟨hG104, hA106, Or.inl ⟨_, rfl, rfl, Eq.trans hs111 hF.symm, rfl, rfl⟩⟩)
  · skip
    have h112 : Rg 1 1 x4 := rg_ne_lo h4 (⟨by decide, by decide⟩ : Rg 0 0 0) q101
    refine tt_lconst (v := 0) dX10_or_230 rfl ?_
    refine tt_goto (tgt := 236) dX10_or_231 rfl ?_
    refine tt_lload (j := 3) dX10_or_236 rfl ?_
    refine tt_lconst (v := 1) dX10_or_238 rfl ?_
    refine gt_Vv (As := [.int x1, .int 1, .long 0, .long y7, .long 1]) dX10_or_239 ca_X10_165 ⟨by decide, by decide⟩ h0 hA rfl (Nat.le_of_ble_eq_true rfl) (Nat.le_of_ble_eq_true rfl) (by decide) (cz_X10_make hG (oa_af h0 hA) (rg_w h1) hR (fun _ _ _ _ h => h)) rfl (fun _ h => nomatch h) (fun S113 hx117 hG114 hB115 hA116 => ?_)
    obtain ⟨d118, hd119⟩ : ∃ q, Z_X10_make R (sg S) o0 (x1) (1) (0) (y7) (1) = q := ⟨_, rfl⟩
    have hq120 := (congrArg (fun q9 => Z_X10_make R q9 o0 (x1) (1) (0) (y7) (1)) (show sg S = (sg S) from rfl)).trans hd119
    have hs121 := hx117.trans hq120
    have hF : Z_X10_or_p222 R (sg S) o0 x1 x4 y7 y9 = d118 := by
      subst hd119
      exact zl_X10_or_p222_1 q101
    exact tt_vreturn dX10_or_242 rfl (hP _ _ _ _ ⟨hG114, hA116, Or.inl ⟨_, rfl, rfl, Eq.trans hs121 hF.symm, rfl, rfl⟩⟩)
def Z_X10_or_p189 (R : Nat → Nat → Nat) (σ : SG) (o0 : Nat) (x1 : Int32) (x2 : Int32) (x3 : Int32) (x4 : Int32) (y7 : Int64) : SG :=
  if (mj σ (R 644 o0) (x3 : Int32).toNatClampNeg) < (mj σ (R 644 o0) (x2 : Int32).toNatClampNeg) then
    Z_X10_or_p222 R σ o0 (x1) (x4) (y7) ((mj σ (R 644 o0) (x2 : Int32).toNatClampNeg))
  else
    Z_X10_or_p222 R σ o0 (x1) (x4) (y7) ((mj σ (R 644 o0) (x3 : Int32).toNatClampNeg))
theorem zl_X10_or_p189_0 {R : Nat → Nat → Nat} {σ : SG} {o0 : Nat} {x1 : Int32} {x2 : Int32} {x3 : Int32} {x4 : Int32} {y7 : Int64} (h0 : (mj σ (R 644 o0) (x3 : Int32).toNatClampNeg) < (mj σ (R 644 o0) (x2 : Int32).toNatClampNeg)) : Z_X10_or_p189 R σ o0 x1 x2 x3 x4 y7 = Z_X10_or_p222 R σ o0 (x1) (x4) (y7) ((mj σ (R 644 o0) (x2 : Int32).toNatClampNeg)) := by unfold Z_X10_or_p189; exact if_pos h0
theorem zl_X10_or_p189_1 {R : Nat → Nat → Nat} {σ : SG} {o0 : Nat} {x1 : Int32} {x2 : Int32} {x3 : Int32} {x4 : Int32} {y7 : Int64} (h0 : ¬ (mj σ (R 644 o0) (x3 : Int32).toNatClampNeg) < (mj σ (R 644 o0) (x2 : Int32).toNatClampNeg)) : Z_X10_or_p189 R σ o0 x1 x2 x3 x4 y7 = Z_X10_or_p222 R σ o0 (x1) (x4) (y7) ((mj σ (R 644 o0) (x3 : Int32).toNatClampNeg)) := by unfold Z_X10_or_p189; exact if_neg h0
set_option maxHeartbeats 40000000 in
theorem cz_X10_or_p189 {xi : SX} {S : Hp} {E : List Nat} {kc nc : Nat} {P : Po} {o0 : Nat} {x1 : Int32} {x2 : Int32} {x3 : Int32} {x4 : Int32} {y7 : Int64} {R : Nat → Nat → Nat} (hG : GI S E) (h0 : Oa S E 10 0 o0) (h1 : Rg 0 4939 x1) (h2 : Rg 0 4939 x2) (h3 : Rg 0 4939 x3) (h4 : Rg 0 1 x4) (hR : RK S R) (hP : ∀ r T x y, PV E [9989] S kc nc rV (fun v T => sg T = Z_X10_or_p189 R (sg S) o0 x1 x2 x3 x4 y7) [] r T x y → P r T x y) : TT xi M_X10_or 189 [(0, .ref o0), (1, .int x1), (2, .int x2), (3, .int x3), (4, .int x4), (7, .long y7)] [] S kc nc P := by
  have hA : Af E [9989] S S := af_rf
  refine tt_aload_n (j := 0) dX10_or_189 rfl ?_
  have hr101 := rk_R (k := 644) hR h0 33 4940
  have ho102 := rk_O (k := 644) hG hR h0 33 4940
  refine gt_gR (id := 644) dX10_or_190 fl_10_16 rfl rfl h0 hA hr101 ?_
  refine tt_iload_n (j := 2) dX10_or_193 rfl ?_
  refine gt_lLv (v := (mj (sg S) (R 644 o0) (x2 : Int32).toNatClampNeg)) dX10_or_194 ho102 hA (rg_in h2) (sg_j (a := (R 644 o0)) (i := (x2 : Int32).toNatClampNeg) (show sg S = (sg S) from rfl)) ?_
  refine tt_aload_n (j := 0) dX10_or_195 rfl ?_
  refine gt_gR (id := 644) dX10_or_196 fl_10_16 rfl rfl h0 hA hr101 ?_
  refine tt_iload_n (j := 3) dX10_or_199 rfl ?_
  refine gt_lLv (v := (mj (sg S) (R 644 o0) (x3 : Int32).toNatClampNeg)) dX10_or_200 ho102 hA (rg_in h3) (sg_j (a := (R 644 o0)) (i := (x3 : Int32).toNatClampNeg) (show sg S = (sg S) from rfl)) ?_
  refine tt_lcmp dX10_or_201 ?_
  refine tt_if_le (tgt := 214) dX10_or_202 rfl (fun q103 => ?_) (fun q103 => ?_)
  · skip
    refine tt_aload_n (j := 0) dX10_or_214 rfl ?_
    refine gt_gR (id := 644) dX10_or_215 fl_10_16 rfl rfl h0 hA hr101 ?_
    refine tt_iload_n (j := 3) dX10_or_218 rfl ?_
    refine gt_lLv (v := (mj (sg S) (R 644 o0) (x3 : Int32).toNatClampNeg)) dX10_or_219 ho102 hA (rg_in h3) (sg_j (a := (R 644 o0)) (i := (x3 : Int32).toNatClampNeg) (show sg S = (sg S) from rfl)) ?_
    refine tt_lstore (ks := [0, 1, 2, 3, 4, 5, 6]) (L' := [(9, .long (mj (sg S) (R 644 o0) (x3 : Int32).toNatClampNeg)), (0, .ref o0), (1, .int x1), (2, .int x2), (3, .int x3), (4, .int x4), (7, .long y7)]) dX10_or_220 (by decide) rfl ?_
    have hF : Z_X10_or_p189 R (sg S) o0 x1 x2 x3 x4 y7 = Z_X10_or_p222 R (sg S) o0 (x1) (x4) (y7) ((mj (sg S) (R 644 o0) (x3 : Int32).toNatClampNeg)) := by
      exact zl_X10_or_p189_1 (Int64.not_lt.mpr (lc_le_t q103))
    exact tt_loc (ks := [1, 2, 5, 6, 0]) rfl (cz_X10_or_p222 hG (oa_af h0 hA) (rg_w h1) (rg_w h4) hR (fun r T x y h => hP r T x y (pv_tr hA h (by decide) (fun v T e => e.trans ((congrArg (fun q9 => Z_X10_or_p222 R q9 o0 (x1) (x4) (y7) ((mj (sg S) (R 644 o0) (x3 : Int32).toNatClampNeg))) (show sg S = (sg S) from rfl)).trans hF.symm)))))
  · skip
    refine tt_aload_n (j := 0) dX10_or_205 rfl ?_
    refine gt_gR (id := 644) dX10_or_206 fl_10_16 rfl rfl h0 hA hr101 ?_
    refine tt_iload_n (j := 2) dX10_or_209 rfl ?_
    refine gt_lLv (v := (mj (sg S) (R 644 o0) (x2 : Int32).toNatClampNeg)) dX10_or_210 ho102 hA (rg_in h2) (sg_j (a := (R 644 o0)) (i := (x2 : Int32).toNatClampNeg) (show sg S = (sg S) from rfl)) ?_
    refine tt_goto (tgt := 220) dX10_or_211 rfl ?_
    refine tt_lstore (ks := [0, 1, 2, 3, 4, 5, 6]) (L' := [(9, .long (mj (sg S) (R 644 o0) (x2 : Int32).toNatClampNeg)), (0, .ref o0), (1, .int x1), (2, .int x2), (3, .int x3), (4, .int x4), (7, .long y7)]) dX10_or_220 (by decide) rfl ?_
    have hF : Z_X10_or_p189 R (sg S) o0 x1 x2 x3 x4 y7 = Z_X10_or_p222 R (sg S) o0 (x1) (x4) (y7) ((mj (sg S) (R 644 o0) (x2 : Int32).toNatClampNeg)) := by
      exact zl_X10_or_p189_0 (lc_le_f q103)
    exact tt_loc (ks := [1, 2, 5, 6, 0]) rfl (cz_X10_or_p222 hG (oa_af h0 hA) (rg_w h1) (rg_w h4) hR (fun r T x y h => hP r T x y (pv_tr hA h (by decide) (fun v T e => e.trans ((congrArg (fun q9 => Z_X10_or_p222 R q9 o0 (x1) (x4) (y7) ((mj (sg S) (R 644 o0) (x2 : Int32).toNatClampNeg))) (show sg S = (sg S) from rfl)).trans hF.symm)))))
def Z_X10_or_p168_b (f : (Nat → Nat → Nat) → SG → Nat → Int32 → Int32 → Int32 → Int32 → Int64 → Int64 → SG) (R : Nat → Nat → Nat) (σ : SG) (o0 : Nat) (x1 : Int32) (x2 : Int32) (x3 : Int32) (x4 : Int32) (y5 : Int64) (y7 : Int64) : SG :=
  if y7 < y5 then
    f R σ o0 (x1) (x2) (x3) (x4) (y5) (((2 * y7) + 1))
  else
    Z_X10_or_p189 R σ o0 (x1) (x2) (x3) (x4) (y7)
def Z_X10_or_p168 : Nat → (Nat → Nat → Nat) → SG → Nat → Int32 → Int32 → Int32 → Int32 → Int64 → Int64 → SG
  | 0 => fun R σ o0 x1 x2 x3 x4 y5 y7 => σ
  | n + 1 => Z_X10_or_p168_b (Z_X10_or_p168 n)
theorem zl_X10_or_p168_0 {f : (Nat → Nat → Nat) → SG → Nat → Int32 → Int32 → Int32 → Int32 → Int64 → Int64 → SG} {R : Nat → Nat → Nat} {σ : SG} {o0 : Nat} {x1 : Int32} {x2 : Int32} {x3 : Int32} {x4 : Int32} {y5 : Int64} {y7 : Int64} (h0 : y7 < y5) : Z_X10_or_p168_b f R σ o0 x1 x2 x3 x4 y5 y7 = f R σ o0 (x1) (x2) (x3) (x4) (y5) (((2 * y7) + 1)) := by unfold Z_X10_or_p168_b; exact if_pos h0
theorem zl_X10_or_p168_1 {f : (Nat → Nat → Nat) → SG → Nat → Int32 → Int32 → Int32 → Int32 → Int64 → Int64 → SG} {R : Nat → Nat → Nat} {σ : SG} {o0 : Nat} {x1 : Int32} {x2 : Int32} {x3 : Int32} {x4 : Int32} {y5 : Int64} {y7 : Int64} (h0 : ¬ y7 < y5) : Z_X10_or_p168_b f R σ o0 x1 x2 x3 x4 y5 y7 = Z_X10_or_p189 R σ o0 (x1) (x2) (x3) (x4) (y7) := by unfold Z_X10_or_p168_b; exact if_neg h0
set_option maxHeartbeats 40000000 in
theorem cz_X10_or_p168 {xi : SX} {E : List Nat} {kc nc : Nat} : ∀ (fu : Nat) {S : Hp} {P : Po} {o0 : Nat} {x1 : Int32} {x2 : Int32} {x3 : Int32} {x4 : Int32} {y5 : Int64} {y7 : Int64} {R : Nat → Nat → Nat} (hG : GI S E) (h0 : Oa S E 10 0 o0) (h1 : Rg 0 4939 x1) (h2 : Rg 0 4939 x2) (h3 : Rg 0 4939 x3) (h4 : Rg 0 1 x4) (hR : RK S R) (hfu : Ofu fu y7) (hP : ∀ r T x y, PV E [9989] S kc nc rV (fun v T => sg T = Z_X10_or_p168 fu R (sg S) o0 x1 x2 x3 x4 y5 y7) [] r T x y → P r T x y), TT xi M_X10_or 168 [(0, .ref o0), (1, .int x1), (2, .int x2), (3, .int x3), (4, .int x4), (5, .long y5), (7, .long y7)] [] S kc nc P := by
  intro fu
  induction fu with
  | zero =>
    intro S P o0 x1 x2 x3 x4 y5 y7 R hG h0 h1 h2 h3 h4 hR hfu hP
    exact absurd hfu of_z
  | succ fu ih =>
    intro S P o0 x1 x2 x3 x4 y5 y7 R hG h0 h1 h2 h3 h4 hR hfu hP
    have hA : Af E [9989] S S := af_rf
    refine tt_lload (j := 6) dX10_or_168 rfl ?_
    refine tt_lload (j := 5) dX10_or_170 rfl ?_
    refine tt_lcmp dX10_or_172 ?_
    refine tt_if_ge (tgt := 189) dX10_or_173 rfl (fun q101 => ?_) (fun q101 => ?_)
    · skip
      have hF : Z_X10_or_p168 (fu + 1) R (sg S) o0 x1 x2 x3 x4 y5 y7 = Z_X10_or_p189 R (sg S) o0 (x1) (x2) (x3) (x4) (y7) := by
        exact zl_X10_or_p168_1 (Int64.not_lt.mpr (lc_ge_t q101))
      exact tt_loc (ks := [0, 1, 2, 3, 4, 6]) rfl (cz_X10_or_p189 hG (oa_af h0 hA) (rg_w h1) (rg_w h2) (rg_w h3) (rg_w h4) hR (fun r T x y h => hP r T x y (pv_tr hA h (by decide) (fun v T e => e.trans ((congrArg (fun q9 => Z_X10_or_p189 R q9 o0 (x1) (x2) (x3) (x4) (y7)) (show sg S = (sg S) from rfl)).trans hF.symm)))))
    · skip
      refine tt_ldc2 (v := 2) dX10_or_176 kl_10_199 ?_
      refine tt_lload (j := 6) dX10_or_179 rfl ?_
      refine tt_lmul dX10_or_181 ?_
      refine tt_lconst (v := 1) dX10_or_182 rfl ?_
      refine tt_ladd dX10_or_183 ?_
      refine tt_lstore (ks := [0, 1, 2, 3, 4, 5, 6]) (L' := [(7, .long ((2 * y7) + 1)), (0, .ref o0), (1, .int x1), (2, .int x2), (3, .int x3), (4, .int x4), (5, .long y5)]) dX10_or_184 (by decide) rfl ?_
      refine tt_goto (tgt := 168) dX10_or_186 rfl ?_
      have hF : Z_X10_or_p168 (fu + 1) R (sg S) o0 x1 x2 x3 x4 y5 y7 = Z_X10_or_p168 fu R (sg S) o0 (x1) (x2) (x3) (x4) (y5) (((2 * y7) + 1)) := by
        exact zl_X10_or_p168_0 (lc_ge_f q101)
      exact tt_loc (ks := [1, 2, 3, 4, 5, 6, 0]) rfl (ih hG (oa_af h0 hA) (rg_w h1) (rg_w h2) (rg_w h3) (rg_w h4) hR (of_n hfu (lc_ge_f q101)) (fun r T x y h => hP r T x y (pv_tr hA h (by decide) (fun v T e => e.trans ((congrArg (fun q9 => Z_X10_or_p168 fu R q9 o0 (x1) (x2) (x3) (x4) (y5) (((2 * y7) + 1))) (show sg S = (sg S) from rfl)).trans hF.symm)))))
def Z_X10_or_p132 (R : Nat → Nat → Nat) (σ : SG) (o0 : Nat) (x1 : Int32) (x2 : Int32) (x3 : Int32) (x4 : Int32) : SG :=
  if (mj σ (R 645 o0) (x3 : Int32).toNatClampNeg) < (mj σ (R 645 o0) (x2 : Int32).toNatClampNeg) then
    Z_X10_or_p168 64 R σ o0 (x1) (x2) (x3) (x4) ((mj σ (R 645 o0) (x2 : Int32).toNatClampNeg)) (0)
  else
    Z_X10_or_p168 64 R σ o0 (x1) (x2) (x3) (x4) ((mj σ (R 645 o0) (x3 : Int32).toNatClampNeg)) (0)
theorem zl_X10_or_p132_0 {R : Nat → Nat → Nat} {σ : SG} {o0 : Nat} {x1 : Int32} {x2 : Int32} {x3 : Int32} {x4 : Int32} (h0 : (mj σ (R 645 o0) (x3 : Int32).toNatClampNeg) < (mj σ (R 645 o0) (x2 : Int32).toNatClampNeg)) : Z_X10_or_p132 R σ o0 x1 x2 x3 x4 = Z_X10_or_p168 64 R σ o0 (x1) (x2) (x3) (x4) ((mj σ (R 645 o0) (x2 : Int32).toNatClampNeg)) (0) := by unfold Z_X10_or_p132; exact if_pos h0
theorem zl_X10_or_p132_1 {R : Nat → Nat → Nat} {σ : SG} {o0 : Nat} {x1 : Int32} {x2 : Int32} {x3 : Int32} {x4 : Int32} (h0 : ¬ (mj σ (R 645 o0) (x3 : Int32).toNatClampNeg) < (mj σ (R 645 o0) (x2 : Int32).toNatClampNeg)) : Z_X10_or_p132 R σ o0 x1 x2 x3 x4 = Z_X10_or_p168 64 R σ o0 (x1) (x2) (x3) (x4) ((mj σ (R 645 o0) (x3 : Int32).toNatClampNeg)) (0) := by unfold Z_X10_or_p132; exact if_neg h0
set_option maxHeartbeats 40000000 in
theorem cz_X10_or_p132 {xi : SX} {S : Hp} {E : List Nat} {kc nc : Nat} {P : Po} {o0 : Nat} {x1 : Int32} {x2 : Int32} {x3 : Int32} {x4 : Int32} {R : Nat → Nat → Nat} (hG : GI S E) (h0 : Oa S E 10 0 o0) (h1 : Rg 0 4939 x1) (h2 : Rg 0 4939 x2) (h3 : Rg 0 4939 x3) (h4 : Rg 0 1 x4) (hR : RK S R) (hP : ∀ r T x y, PV E [9989] S kc nc rV (fun v T => sg T = Z_X10_or_p132 R (sg S) o0 x1 x2 x3 x4) [] r T x y → P r T x y) : TT xi M_X10_or 132 [(0, .ref o0), (1, .int x1), (2, .int x2), (3, .int x3), (4, .int x4)] [] S kc nc P := by
  have hA : Af E [9989] S S := af_rf
  refine tt_aload_n (j := 0) dX10_or_132 rfl ?_
  have hr101 := rk_R (k := 645) hR h0 33 4940
  have ho102 := rk_O (k := 645) hG hR h0 33 4940
  refine gt_gR (id := 645) dX10_or_133 fl_10_20 rfl rfl h0 hA hr101 ?_
  refine tt_iload_n (j := 2) dX10_or_136 rfl ?_
  refine gt_lLv (v := (mj (sg S) (R 645 o0) (x2 : Int32).toNatClampNeg)) dX10_or_137 ho102 hA (rg_in h2) (sg_j (a := (R 645 o0)) (i := (x2 : Int32).toNatClampNeg) (show sg S = (sg S) from rfl)) ?_
  refine tt_aload_n (j := 0) dX10_or_138 rfl ?_
  refine gt_gR (id := 645) dX10_or_139 fl_10_20 rfl rfl h0 hA hr101 ?_
  refine tt_iload_n (j := 3) dX10_or_142 rfl ?_
  refine gt_lLv (v := (mj (sg S) (R 645 o0) (x3 : Int32).toNatClampNeg)) dX10_or_143 ho102 hA (rg_in h3) (sg_j (a := (R 645 o0)) (i := (x3 : Int32).toNatClampNeg) (show sg S = (sg S) from rfl)) ?_
  refine tt_lcmp dX10_or_144 ?_
  refine tt_if_le (tgt := 157) dX10_or_145 rfl (fun q103 => ?_) (fun q103 => ?_)
  · skip
    refine tt_aload_n (j := 0) dX10_or_157 rfl ?_
    refine gt_gR (id := 645) dX10_or_158 fl_10_20 rfl rfl h0 hA hr101 ?_
    refine tt_iload_n (j := 3) dX10_or_161 rfl ?_
    refine gt_lLv (v := (mj (sg S) (R 645 o0) (x3 : Int32).toNatClampNeg)) dX10_or_162 ho102 hA (rg_in h3) (sg_j (a := (R 645 o0)) (i := (x3 : Int32).toNatClampNeg) (show sg S = (sg S) from rfl)) ?_
    refine tt_lstore (ks := [0, 1, 2, 3, 4, 5]) (L' := [(5, .long (mj (sg S) (R 645 o0) (x3 : Int32).toNatClampNeg)), (0, .ref o0), (1, .int x1), (2, .int x2), (3, .int x3), (4, .int x4)]) dX10_or_163 (by decide) rfl ?_
    refine tt_lconst (v := 0) dX10_or_165 rfl ?_
    refine tt_lstore (ks := [0, 1, 2, 3, 4, 5, 6]) (L' := [(7, .long 0), (5, .long (mj (sg S) (R 645 o0) (x3 : Int32).toNatClampNeg)), (0, .ref o0), (1, .int x1), (2, .int x2), (3, .int x3), (4, .int x4)]) dX10_or_166 (by decide) rfl ?_
    have hF : Z_X10_or_p132 R (sg S) o0 x1 x2 x3 x4 = Z_X10_or_p168 64 R (sg S) o0 (x1) (x2) (x3) (x4) ((mj (sg S) (R 645 o0) (x3 : Int32).toNatClampNeg)) (0) := by
      exact zl_X10_or_p132_1 (Int64.not_lt.mpr (lc_le_t q103))
    exact tt_loc (ks := [2, 3, 4, 5, 6, 1, 0]) rfl (cz_X10_or_p168 64 hG (oa_af h0 hA) (rg_w h1) (rg_w h2) (rg_w h3) (rg_w h4) hR of_0 (fun r T x y h => hP r T x y (pv_tr hA h (by decide) (fun v T e => e.trans ((congrArg (fun q9 => Z_X10_or_p168 64 R q9 o0 (x1) (x2) (x3) (x4) ((mj (sg S) (R 645 o0) (x3 : Int32).toNatClampNeg)) (0)) (show sg S = (sg S) from rfl)).trans hF.symm)))))
  · skip
    refine tt_aload_n (j := 0) dX10_or_148 rfl ?_
    refine gt_gR (id := 645) dX10_or_149 fl_10_20 rfl rfl h0 hA hr101 ?_
    refine tt_iload_n (j := 2) dX10_or_152 rfl ?_
    refine gt_lLv (v := (mj (sg S) (R 645 o0) (x2 : Int32).toNatClampNeg)) dX10_or_153 ho102 hA (rg_in h2) (sg_j (a := (R 645 o0)) (i := (x2 : Int32).toNatClampNeg) (show sg S = (sg S) from rfl)) ?_
    refine tt_goto (tgt := 163) dX10_or_154 rfl ?_
    refine tt_lstore (ks := [0, 1, 2, 3, 4, 5]) (L' := [(5, .long (mj (sg S) (R 645 o0) (x2 : Int32).toNatClampNeg)), (0, .ref o0), (1, .int x1), (2, .int x2), (3, .int x3), (4, .int x4)]) dX10_or_163 (by decide) rfl ?_
    refine tt_lconst (v := 0) dX10_or_165 rfl ?_
    refine tt_lstore (ks := [0, 1, 2, 3, 4, 5, 6]) (L' := [(7, .long 0), (5, .long (mj (sg S) (R 645 o0) (x2 : Int32).toNatClampNeg)), (0, .ref o0), (1, .int x1), (2, .int x2), (3, .int x3), (4, .int x4)]) dX10_or_166 (by decide) rfl ?_
    have hF : Z_X10_or_p132 R (sg S) o0 x1 x2 x3 x4 = Z_X10_or_p168 64 R (sg S) o0 (x1) (x2) (x3) (x4) ((mj (sg S) (R 645 o0) (x2 : Int32).toNatClampNeg)) (0) := by
      exact zl_X10_or_p132_0 (lc_le_f q103)
    exact tt_loc (ks := [2, 3, 4, 5, 6, 1, 0]) rfl (cz_X10_or_p168 64 hG (oa_af h0 hA) (rg_w h1) (rg_w h2) (rg_w h3) (rg_w h4) hR of_0 (fun r T x y h => hP r T x y (pv_tr hA h (by decide) (fun v T e => e.trans ((congrArg (fun q9 => Z_X10_or_p168 64 R q9 o0 (x1) (x2) (x3) (x4) ((mj (sg S) (R 645 o0) (x2 : Int32).toNatClampNeg)) (0)) (show sg S = (sg S) from rfl)).trans hF.symm)))))
def Z_X10_or (R : Nat → Nat → Nat) (σ : SG) (o0 : Nat) (x1 : Int32) (x2 : Int32) (x3 : Int32) (x4 : Int32) : SG :=
  if (mi σ (R 643 o0) (x2 : Int32).toNatClampNeg) = 0 then
    (ui σ (R 643 o0) (x1 : Int32).toNatClampNeg 0)
  else
    if (mi σ (R 643 o0) (x3 : Int32).toNatClampNeg) = 0 then
      (ui σ (R 643 o0) (x1 : Int32).toNatClampNeg 0)
    else
      if (Z_X10_isOne R σ o0 (x2)) = 0 then
        if (mi σ (R 643 o0) (x2 : Int32).toNatClampNeg) = 2 then
          (ui σ (R 643 o0) (x1 : Int32).toNatClampNeg 2)
        else
          if (mi σ (R 643 o0) (x3 : Int32).toNatClampNeg) = 2 then
            (ui σ (R 643 o0) (x1 : Int32).toNatClampNeg 2)
          else
            if (mj σ (R 644 o0) (x2 : Int32).toNatClampNeg) < (0 : Int64) then
              (ui σ (R 643 o0) (x1 : Int32).toNatClampNeg 2)
            else
              if (mj σ (R 644 o0) (x3 : Int32).toNatClampNeg) < (0 : Int64) then
                (ui σ (R 643 o0) (x1 : Int32).toNatClampNeg 2)
              else
                Z_X10_or_p132 R σ o0 (x1) (x2) (x3) (x4)
      else
        if (Z_X10_isOne R σ o0 (x3)) = 0 then
          if (mi σ (R 643 o0) (x2 : Int32).toNatClampNeg) = 2 then
            (ui σ (R 643 o0) (x1 : Int32).toNatClampNeg 2)
          else
            if (mi σ (R 643 o0) (x3 : Int32).toNatClampNeg) = 2 then
              (ui σ (R 643 o0) (x1 : Int32).toNatClampNeg 2)
            else
              if (mj σ (R 644 o0) (x2 : Int32).toNatClampNeg) < (0 : Int64) then
                (ui σ (R 643 o0) (x1 : Int32).toNatClampNeg 2)
              else
                if (mj σ (R 644 o0) (x3 : Int32).toNatClampNeg) < (0 : Int64) then
                  (ui σ (R 643 o0) (x1 : Int32).toNatClampNeg 2)
                else
                  Z_X10_or_p132 R σ o0 (x1) (x2) (x3) (x4)
        else
          if x4 = 0 then
            let d179 := Z_X10_one R σ o0 (x1) (((mj σ (R 644 o0) (x2 : Int32).toNatClampNeg) ||| (mj σ (R 644 o0) (x3 : Int32).toNatClampNeg)))
            d179
          else
            let d191 := Z_X10_one R σ o0 (x1) (((mj σ (R 644 o0) (x2 : Int32).toNatClampNeg) ^^^ (mj σ (R 644 o0) (x3 : Int32).toNatClampNeg)))
            d191
theorem zl_X10_or_0 {R : Nat → Nat → Nat} {σ : SG} {o0 : Nat} {x1 : Int32} {x2 : Int32} {x3 : Int32} {x4 : Int32} (h0 : (mi σ (R 643 o0) (x2 : Int32).toNatClampNeg) = 0) : Z_X10_or R σ o0 x1 x2 x3 x4 = (ui σ (R 643 o0) (x1 : Int32).toNatClampNeg 0) := by unfold Z_X10_or; exact if_pos h0
theorem zl_X10_or_1 {R : Nat → Nat → Nat} {σ : SG} {o0 : Nat} {x1 : Int32} {x2 : Int32} {x3 : Int32} {x4 : Int32} (h0 : ¬ (mi σ (R 643 o0) (x2 : Int32).toNatClampNeg) = 0) (h1 : (mi σ (R 643 o0) (x3 : Int32).toNatClampNeg) = 0) : Z_X10_or R σ o0 x1 x2 x3 x4 = (ui σ (R 643 o0) (x1 : Int32).toNatClampNeg 0) := by unfold Z_X10_or; exact Eq.trans (if_neg h0) (if_pos h1)
theorem zl_X10_or_2 {R : Nat → Nat → Nat} {σ : SG} {o0 : Nat} {x1 : Int32} {x2 : Int32} {x3 : Int32} {x4 : Int32} (h0 : ¬ (mi σ (R 643 o0) (x2 : Int32).toNatClampNeg) = 0) (h1 : ¬ (mi σ (R 643 o0) (x3 : Int32).toNatClampNeg) = 0) (h2 : (Z_X10_isOne R σ o0 (x2)) = 0) (h3 : (mi σ (R 643 o0) (x2 : Int32).toNatClampNeg) = 2) : Z_X10_or R σ o0 x1 x2 x3 x4 = (ui σ (R 643 o0) (x1 : Int32).toNatClampNeg 2) := by unfold Z_X10_or; exact Eq.trans (if_neg h0) (Eq.trans (if_neg h1) (Eq.trans (if_pos h2) (if_pos h3)))
theorem zl_X10_or_3 {R : Nat → Nat → Nat} {σ : SG} {o0 : Nat} {x1 : Int32} {x2 : Int32} {x3 : Int32} {x4 : Int32} (h0 : ¬ (mi σ (R 643 o0) (x2 : Int32).toNatClampNeg) = 0) (h1 : ¬ (mi σ (R 643 o0) (x3 : Int32).toNatClampNeg) = 0) (h2 : (Z_X10_isOne R σ o0 (x2)) = 0) (h3 : ¬ (mi σ (R 643 o0) (x2 : Int32).toNatClampNeg) = 2) (h4 : (mi σ (R 643 o0) (x3 : Int32).toNatClampNeg) = 2) : Z_X10_or R σ o0 x1 x2 x3 x4 = (ui σ (R 643 o0) (x1 : Int32).toNatClampNeg 2) := by unfold Z_X10_or; exact Eq.trans (if_neg h0) (Eq.trans (if_neg h1) (Eq.trans (if_pos h2) (Eq.trans (if_neg h3) (if_pos h4))))
theorem zl_X10_or_4 {R : Nat → Nat → Nat} {σ : SG} {o0 : Nat} {x1 : Int32} {x2 : Int32} {x3 : Int32} {x4 : Int32} (h0 : ¬ (mi σ (R 643 o0) (x2 : Int32).toNatClampNeg) = 0) (h1 : ¬ (mi σ (R 643 o0) (x3 : Int32).toNatClampNeg) = 0) (h2 : (Z_X10_isOne R σ o0 (x2)) = 0) (h3 : ¬ (mi σ (R 643 o0) (x2 : Int32).toNatClampNeg) = 2) (h4 : ¬ (mi σ (R 643 o0) (x3 : Int32).toNatClampNeg) = 2) (h5 : (mj σ (R 644 o0) (x2 : Int32).toNatClampNeg) < (0 : Int64)) : Z_X10_or R σ o0 x1 x2 x3 x4 = (ui σ (R 643 o0) (x1 : Int32).toNatClampNeg 2) := by unfold Z_X10_or; exact Eq.trans (if_neg h0) (Eq.trans (if_neg h1) (Eq.trans (if_pos h2) (Eq.trans (if_neg h3) (Eq.trans (if_neg h4) (if_pos h5)))))
theorem zl_X10_or_5 {R : Nat → Nat → Nat} {σ : SG} {o0 : Nat} {x1 : Int32} {x2 : Int32} {x3 : Int32} {x4 : Int32} (h0 : ¬ (mi σ (R 643 o0) (x2 : Int32).toNatClampNeg) = 0) (h1 : ¬ (mi σ (R 643 o0) (x3 : Int32).toNatClampNeg) = 0) (h2 : (Z_X10_isOne R σ o0 (x2)) = 0) (h3 : ¬ (mi σ (R 643 o0) (x2 : Int32).toNatClampNeg) = 2) (h4 : ¬ (mi σ (R 643 o0) (x3 : Int32).toNatClampNeg) = 2) (h5 : ¬ (mj σ (R 644 o0) (x2 : Int32).toNatClampNeg) < (0 : Int64)) (h6 : (mj σ (R 644 o0) (x3 : Int32).toNatClampNeg) < (0 : Int64)) : Z_X10_or R σ o0 x1 x2 x3 x4 = (ui σ (R 643 o0) (x1 : Int32).toNatClampNeg 2) := by unfold Z_X10_or; exact Eq.trans (if_neg h0) (Eq.trans (if_neg h1) (Eq.trans (if_pos h2) (Eq.trans (if_neg h3) (Eq.trans (if_neg h4) (Eq.trans (if_neg h5) (if_pos h6))))))
theorem zl_X10_or_6 {R : Nat → Nat → Nat} {σ : SG} {o0 : Nat} {x1 : Int32} {x2 : Int32} {x3 : Int32} {x4 : Int32} (h0 : ¬ (mi σ (R 643 o0) (x2 : Int32).toNatClampNeg) = 0) (h1 : ¬ (mi σ (R 643 o0) (x3 : Int32).toNatClampNeg) = 0) (h2 : (Z_X10_isOne R σ o0 (x2)) = 0) (h3 : ¬ (mi σ (R 643 o0) (x2 : Int32).toNatClampNeg) = 2) (h4 : ¬ (mi σ (R 643 o0) (x3 : Int32).toNatClampNeg) = 2) (h5 : ¬ (mj σ (R 644 o0) (x2 : Int32).toNatClampNeg) < (0 : Int64)) (h6 : ¬ (mj σ (R 644 o0) (x3 : Int32).toNatClampNeg) < (0 : Int64)) : Z_X10_or R σ o0 x1 x2 x3 x4 = Z_X10_or_p132 R σ o0 (x1) (x2) (x3) (x4) := by unfold Z_X10_or; exact Eq.trans (if_neg h0) (Eq.trans (if_neg h1) (Eq.trans (if_pos h2) (Eq.trans (if_neg h3) (Eq.trans (if_neg h4) (Eq.trans (if_neg h5) (if_neg h6))))))
theorem zl_X10_or_7 {R : Nat → Nat → Nat} {σ : SG} {o0 : Nat} {x1 : Int32} {x2 : Int32} {x3 : Int32} {x4 : Int32} (h0 : ¬ (mi σ (R 643 o0) (x2 : Int32).toNatClampNeg) = 0) (h1 : ¬ (mi σ (R 643 o0) (x3 : Int32).toNatClampNeg) = 0) (h2 : ¬ (Z_X10_isOne R σ o0 (x2)) = 0) (h3 : (Z_X10_isOne R σ o0 (x3)) = 0) (h4 : (mi σ (R 643 o0) (x2 : Int32).toNatClampNeg) = 2) : Z_X10_or R σ o0 x1 x2 x3 x4 = (ui σ (R 643 o0) (x1 : Int32).toNatClampNeg 2) := by unfold Z_X10_or; exact Eq.trans (if_neg h0) (Eq.trans (if_neg h1) (Eq.trans (if_neg h2) (Eq.trans (if_pos h3) (if_pos h4))))
theorem zl_X10_or_8 {R : Nat → Nat → Nat} {σ : SG} {o0 : Nat} {x1 : Int32} {x2 : Int32} {x3 : Int32} {x4 : Int32} (h0 : ¬ (mi σ (R 643 o0) (x2 : Int32).toNatClampNeg) = 0) (h1 : ¬ (mi σ (R 643 o0) (x3 : Int32).toNatClampNeg) = 0) (h2 : ¬ (Z_X10_isOne R σ o0 (x2)) = 0) (h3 : (Z_X10_isOne R σ o0 (x3)) = 0) (h4 : ¬ (mi σ (R 643 o0) (x2 : Int32).toNatClampNeg) = 2) (h5 : (mi σ (R 643 o0) (x3 : Int32).toNatClampNeg) = 2) : Z_X10_or R σ o0 x1 x2 x3 x4 = (ui σ (R 643 o0) (x1 : Int32).toNatClampNeg 2) := by unfold Z_X10_or; exact Eq.trans (if_neg h0) (Eq.trans (if_neg h1) (Eq.trans (if_neg h2) (Eq.trans (if_pos h3) (Eq.trans (if_neg h4) (if_pos h5)))))
theorem zl_X10_or_9 {R : Nat → Nat → Nat} {σ : SG} {o0 : Nat} {x1 : Int32} {x2 : Int32} {x3 : Int32} {x4 : Int32} (h0 : ¬ (mi σ (R 643 o0) (x2 : Int32).toNatClampNeg) = 0) (h1 : ¬ (mi σ (R 643 o0) (x3 : Int32).toNatClampNeg) = 0) (h2 : ¬ (Z_X10_isOne R σ o0 (x2)) = 0) (h3 : (Z_X10_isOne R σ o0 (x3)) = 0) (h4 : ¬ (mi σ (R 643 o0) (x2 : Int32).toNatClampNeg) = 2) (h5 : ¬ (mi σ (R 643 o0) (x3 : Int32).toNatClampNeg) = 2) (h6 : (mj σ (R 644 o0) (x2 : Int32).toNatClampNeg) < (0 : Int64)) : Z_X10_or R σ o0 x1 x2 x3 x4 = (ui σ (R 643 o0) (x1 : Int32).toNatClampNeg 2) := by unfold Z_X10_or; exact Eq.trans (if_neg h0) (Eq.trans (if_neg h1) (Eq.trans (if_neg h2) (Eq.trans (if_pos h3) (Eq.trans (if_neg h4) (Eq.trans (if_neg h5) (if_pos h6))))))
theorem zl_X10_or_10 {R : Nat → Nat → Nat} {σ : SG} {o0 : Nat} {x1 : Int32} {x2 : Int32} {x3 : Int32} {x4 : Int32} (h0 : ¬ (mi σ (R 643 o0) (x2 : Int32).toNatClampNeg) = 0) (h1 : ¬ (mi σ (R 643 o0) (x3 : Int32).toNatClampNeg) = 0) (h2 : ¬ (Z_X10_isOne R σ o0 (x2)) = 0) (h3 : (Z_X10_isOne R σ o0 (x3)) = 0) (h4 : ¬ (mi σ (R 643 o0) (x2 : Int32).toNatClampNeg) = 2) (h5 : ¬ (mi σ (R 643 o0) (x3 : Int32).toNatClampNeg) = 2) (h6 : ¬ (mj σ (R 644 o0) (x2 : Int32).toNatClampNeg) < (0 : Int64)) (h7 : (mj σ (R 644 o0) (x3 : Int32).toNatClampNeg) < (0 : Int64)) : Z_X10_or R σ o0 x1 x2 x3 x4 = (ui σ (R 643 o0) (x1 : Int32).toNatClampNeg 2) := by unfold Z_X10_or; exact Eq.trans (if_neg h0) (Eq.trans (if_neg h1) (Eq.trans (if_neg h2) (Eq.trans (if_pos h3) (Eq.trans (if_neg h4) (Eq.trans (if_neg h5) (Eq.trans (if_neg h6) (if_pos h7)))))))
theorem zl_X10_or_11 {R : Nat → Nat → Nat} {σ : SG} {o0 : Nat} {x1 : Int32} {x2 : Int32} {x3 : Int32} {x4 : Int32} (h0 : ¬ (mi σ (R 643 o0) (x2 : Int32).toNatClampNeg) = 0) (h1 : ¬ (mi σ (R 643 o0) (x3 : Int32).toNatClampNeg) = 0) (h2 : ¬ (Z_X10_isOne R σ o0 (x2)) = 0) (h3 : (Z_X10_isOne R σ o0 (x3)) = 0) (h4 : ¬ (mi σ (R 643 o0) (x2 : Int32).toNatClampNeg) = 2) (h5 : ¬ (mi σ (R 643 o0) (x3 : Int32).toNatClampNeg) = 2) (h6 : ¬ (mj σ (R 644 o0) (x2 : Int32).toNatClampNeg) < (0 : Int64)) (h7 : ¬ (mj σ (R 644 o0) (x3 : Int32).toNatClampNeg) < (0 : Int64)) : Z_X10_or R σ o0 x1 x2 x3 x4 = Z_X10_or_p132 R σ o0 (x1) (x2) (x3) (x4) := by unfold Z_X10_or; exact Eq.trans (if_neg h0) (Eq.trans (if_neg h1) (Eq.trans (if_neg h2) (Eq.trans (if_pos h3) (Eq.trans (if_neg h4) (Eq.trans (if_neg h5) (Eq.trans (if_neg h6) (if_neg h7)))))))
theorem zl_X10_or_12 {R : Nat → Nat → Nat} {σ : SG} {o0 : Nat} {x1 : Int32} {x2 : Int32} {x3 : Int32} {x4 : Int32} (h0 : ¬ (mi σ (R 643 o0) (x2 : Int32).toNatClampNeg) = 0) (h1 : ¬ (mi σ (R 643 o0) (x3 : Int32).toNatClampNeg) = 0) (h2 : ¬ (Z_X10_isOne R σ o0 (x2)) = 0) (h3 : ¬ (Z_X10_isOne R σ o0 (x3)) = 0) (h4 : x4 = 0) : Z_X10_or R σ o0 x1 x2 x3 x4 = (Z_X10_one R σ o0 (x1) (((mj σ (R 644 o0) (x2 : Int32).toNatClampNeg) ||| (mj σ (R 644 o0) (x3 : Int32).toNatClampNeg)))) := by unfold Z_X10_or; exact Eq.trans (if_neg h0) (Eq.trans (if_neg h1) (Eq.trans (if_neg h2) (Eq.trans (if_neg h3) (if_pos h4))))
theorem zl_X10_or_13 {R : Nat → Nat → Nat} {σ : SG} {o0 : Nat} {x1 : Int32} {x2 : Int32} {x3 : Int32} {x4 : Int32} (h0 : ¬ (mi σ (R 643 o0) (x2 : Int32).toNatClampNeg) = 0) (h1 : ¬ (mi σ (R 643 o0) (x3 : Int32).toNatClampNeg) = 0) (h2 : ¬ (Z_X10_isOne R σ o0 (x2)) = 0) (h3 : ¬ (Z_X10_isOne R σ o0 (x3)) = 0) (h4 : ¬ x4 = 0) : Z_X10_or R σ o0 x1 x2 x3 x4 = (Z_X10_one R σ o0 (x1) (((mj σ (R 644 o0) (x2 : Int32).toNatClampNeg) ^^^ (mj σ (R 644 o0) (x3 : Int32).toNatClampNeg)))) := by unfold Z_X10_or; exact Eq.trans (if_neg h0) (Eq.trans (if_neg h1) (Eq.trans (if_neg h2) (Eq.trans (if_neg h3) (if_neg h4))))
set_option maxHeartbeats 40000000 in
theorem cz_X10_or {xi : SX} {S : Hp} {E : List Nat} {kc nc : Nat} {P : Po} {o0 : Nat} {x1 : Int32} {x2 : Int32} {x3 : Int32} {x4 : Int32} {R : Nat → Nat → Nat} (hG : GI S E) (h0 : Oa S E 10 0 o0) (h1 : Rg 0 4939 x1) (h2 : Rg 0 4939 x2) (h3 : Rg 0 4939 x3) (h4 : Rg 0 1 x4) (hR : RK S R) (hP : ∀ r T x y, PV E [9989] S kc nc rV (fun v T => sg T = Z_X10_or R (sg S) o0 x1 x2 x3 x4) [] r T x y → P r T x y) : TT xi M_X10_or 0 [(0, .ref o0), (1, .int x1), (2, .int x2), (3, .int x3), (4, .int x4)] [] S kc nc P := by
  have hA : Af E [9989] S S := af_rf
  refine tt_aload_n (j := 0) dX10_or_0 rfl ?_
  have hr101 := rk_R (k := 643) hR h0 32 4940
  have ho102 := rk_O (k := 643) hG hR h0 32 4940
  refine gt_gR (id := 643) dX10_or_1 fl_10_13 rfl rfl h0 hA hr101 ?_
  refine tt_iload_n (j := 2) dX10_or_4 rfl ?_
  refine gx_iL (v := (mi (sg S) (R 643 o0) (x2 : Int32).toNatClampNeg)) dX10_or_5 ho102 hA (rg_in h2) (sg_i (a := (R 643 o0)) (i := (x2 : Int32).toNatClampNeg) (show sg S = (sg S) from rfl)) ?_
  refine tt_if_eq (tgt := 18) dX10_or_6 rfl (fun q103 => ?_) (fun q103 => ?_)
  · skip
    have h104 : Rg 0 0 (mi (sg S) (R 643 o0) (x2 : Int32).toNatClampNeg) := rg_eq_l (rg_all (mi (sg S) (R 643 o0) (x2 : Int32).toNatClampNeg)) (⟨by decide, by decide⟩ : Rg 0 0 0) q103
    refine tt_aload_n (j := 0) dX10_or_18 rfl ?_
    refine gt_gR (id := 643) dX10_or_19 fl_10_13 rfl rfl h0 hA hr101 ?_
    refine tt_iload_n (j := 1) dX10_or_22 rfl ?_
    refine tt_iconst (v := 0) dX10_or_23 rfl ?_
    refine gx_iS dX10_or_24 ho102 hA (Or.inl (by decide)) (rg_in h1) hG (by decide) (show sg S = (sg S) from rfl) (fun S105 hG106 hA107 e108 => ?_)
    have hF : Z_X10_or R (sg S) o0 x1 x2 x3 x4 = (ui (sg S) (R 643 o0) (x1 : Int32).toNatClampNeg 0) := by
      exact zl_X10_or_0 q103
    exact tt_vreturn dX10_or_25 rfl (hP _ _ _ _ ⟨hG106, hA107, Or.inl ⟨_, rfl, rfl, Eq.trans e108 hF.symm, rfl, rfl⟩⟩)
  · skip
    refine tt_aload_n (j := 0) dX10_or_9 rfl ?_
    refine gt_gR (id := 643) dX10_or_10 fl_10_13 rfl rfl h0 hA hr101 ?_
    refine tt_iload_n (j := 3) dX10_or_13 rfl ?_
    refine gx_iL (v := (mi (sg S) (R 643 o0) (x3 : Int32).toNatClampNeg)) dX10_or_14 ho102 hA (rg_in h3) (sg_i (a := (R 643 o0)) (i := (x3 : Int32).toNatClampNeg) (show sg S = (sg S) from rfl)) ?_
    refine tt_if_ne (tgt := 26) dX10_or_15 rfl (fun q109 => ?_) (fun q109 => ?_)
    · skip
      refine tt_aload_n (j := 0) dX10_or_26 rfl ?_
      refine tt_iload_n (j := 2) dX10_or_27 rfl ?_
      refine gt_VIp (As := [.int x2]) dX10_or_28 ca_X10_162 ⟨by decide, by decide⟩ h0 hA rfl (Nat.le_of_ble_eq_true rfl) (Nat.le_of_ble_eq_true rfl) (by decide) (cz_X10_isOne hG (oa_af h0 hA) (rg_w h2) hR (fun _ _ _ _ h => h)) rfl (fun _ h => nomatch h) (fun _ _ q => q.1) (fun x110 h111 hx112 => ?_)
      obtain rfl : Z_X10_isOne R (sg S) o0 (x2) = x110 := ((ei_w hx112.2).trans (congrArg (fun q9 => Z_X10_isOne R q9 o0 (x2)) (show sg S = (sg S) from rfl))).symm
      refine tt_if_eq (tgt := 82) dX10_or_31 rfl (fun q113 => ?_) (fun q113 => ?_)
      · skip
        have h114 : Rg 0 0 (Z_X10_isOne R (sg S) o0 (x2)) := rg_eq_l h111 (⟨by decide, by decide⟩ : Rg 0 0 0) q113
        refine tt_aload_n (j := 0) dX10_or_82 rfl ?_
        refine gt_gR (id := 643) dX10_or_83 fl_10_13 rfl rfl h0 hA hr101 ?_
        refine tt_iload_n (j := 2) dX10_or_86 rfl ?_
        refine gx_iL (v := (mi (sg S) (R 643 o0) (x2 : Int32).toNatClampNeg)) dX10_or_87 ho102 hA (rg_in h2) (sg_i (a := (R 643 o0)) (i := (x2 : Int32).toNatClampNeg) (show sg S = (sg S) from rfl)) ?_
        refine tt_iconst (v := 2) dX10_or_88 rfl ?_
        refine tt_icmp_eq (tgt := 124) dX10_or_89 rfl (fun q115 => ?_) (fun q115 => ?_)
        · skip
          have h116 : Rg 2 2 (mi (sg S) (R 643 o0) (x2 : Int32).toNatClampNeg) := rg_eq_l (rg_all (mi (sg S) (R 643 o0) (x2 : Int32).toNatClampNeg)) (⟨by decide, by decide⟩ : Rg 2 2 2) q115
          refine tt_aload_n (j := 0) dX10_or_124 rfl ?_
          refine gt_gR (id := 643) dX10_or_125 fl_10_13 rfl rfl h0 hA hr101 ?_
          refine tt_iload_n (j := 1) dX10_or_128 rfl ?_
          refine tt_iconst (v := 2) dX10_or_129 rfl ?_
          refine gx_iS dX10_or_130 ho102 hA (Or.inl (by decide)) (rg_in h1) hG (by decide) (show sg S = (sg S) from rfl) (fun S117 hG118 hA119 e120 => ?_)
          have hF : Z_X10_or R (sg S) o0 x1 x2 x3 x4 = (ui (sg S) (R 643 o0) (x1 : Int32).toNatClampNeg 2) := by
            exact zl_X10_or_2 q103 q109 q113 q115
          exact tt_vreturn dX10_or_131 rfl (hP _ _ _ _ ⟨hG118, hA119, Or.inl ⟨_, rfl, rfl, Eq.trans e120 hF.symm, rfl, rfl⟩⟩)
        · skip
          refine tt_aload_n (j := 0) dX10_or_92 rfl ?_
          refine gt_gR (id := 643) dX10_or_93 fl_10_13 rfl rfl h0 hA hr101 ?_
          refine tt_iload_n (j := 3) dX10_or_96 rfl ?_
          refine gx_iL (v := (mi (sg S) (R 643 o0) (x3 : Int32).toNatClampNeg)) dX10_or_97 ho102 hA (rg_in h3) (sg_i (a := (R 643 o0)) (i := (x3 : Int32).toNatClampNeg) (show sg S = (sg S) from rfl)) ?_
          refine tt_iconst (v := 2) dX10_or_98 rfl ?_
          refine tt_icmp_eq (tgt := 124) dX10_or_99 rfl (fun q121 => ?_) (fun q121 => ?_)
          · skip
            have h122 : Rg 2 2 (mi (sg S) (R 643 o0) (x3 : Int32).toNatClampNeg) := rg_eq_l (rg_all (mi (sg S) (R 643 o0) (x3 : Int32).toNatClampNeg)) (⟨by decide, by decide⟩ : Rg 2 2 2) q121
            refine tt_aload_n (j := 0) dX10_or_124 rfl ?_
            refine gt_gR (id := 643) dX10_or_125 fl_10_13 rfl rfl h0 hA hr101 ?_
            refine tt_iload_n (j := 1) dX10_or_128 rfl ?_
            refine tt_iconst (v := 2) dX10_or_129 rfl ?_
            refine gx_iS dX10_or_130 ho102 hA (Or.inl (by decide)) (rg_in h1) hG (by decide) (show sg S = (sg S) from rfl) (fun S123 hG124 hA125 e126 => ?_)
            have hF : Z_X10_or R (sg S) o0 x1 x2 x3 x4 = (ui (sg S) (R 643 o0) (x1 : Int32).toNatClampNeg 2) := by
              exact zl_X10_or_3 q103 q109 q113 q115 q121
            exact tt_vreturn dX10_or_131 rfl (hP _ _ _ _ ⟨hG124, hA125, Or.inl ⟨_, rfl, rfl, Eq.trans e126 hF.symm, rfl, rfl⟩⟩)
          · skip
            refine tt_aload_n (j := 0) dX10_or_102 rfl ?_
            have hr127 := rk_R (k := 644) hR h0 33 4940
            have ho128 := rk_O (k := 644) hG hR h0 33 4940
            refine gt_gR (id := 644) dX10_or_103 fl_10_16 rfl rfl h0 hA hr127 ?_
            refine tt_iload_n (j := 2) dX10_or_106 rfl ?_
            refine gt_lLv (v := (mj (sg S) (R 644 o0) (x2 : Int32).toNatClampNeg)) dX10_or_107 ho128 hA (rg_in h2) (sg_j (a := (R 644 o0)) (i := (x2 : Int32).toNatClampNeg) (show sg S = (sg S) from rfl)) ?_
            refine tt_lconst (v := 0) dX10_or_108 rfl ?_
            refine tt_lcmp dX10_or_109 ?_
            refine tt_if_lt (tgt := 124) dX10_or_110 rfl (fun q129 => ?_) (fun q129 => ?_)
            · skip
              refine tt_aload_n (j := 0) dX10_or_124 rfl ?_
              refine gt_gR (id := 643) dX10_or_125 fl_10_13 rfl rfl h0 hA hr101 ?_
              refine tt_iload_n (j := 1) dX10_or_128 rfl ?_
              refine tt_iconst (v := 2) dX10_or_129 rfl ?_
              refine gx_iS dX10_or_130 ho102 hA (Or.inl (by decide)) (rg_in h1) hG (by decide) (show sg S = (sg S) from rfl) (fun S130 hG131 hA132 e133 => ?_)
              have hF : Z_X10_or R (sg S) o0 x1 x2 x3 x4 = (ui (sg S) (R 643 o0) (x1 : Int32).toNatClampNeg 2) := by
                exact zl_X10_or_4 q103 q109 q113 q115 q121 (lc_lt_t q129)
              exact tt_vreturn dX10_or_131 rfl (hP _ _ _ _ ⟨hG131, hA132, Or.inl ⟨_, rfl, rfl, Eq.trans e133 hF.symm, rfl, rfl⟩⟩)
            · skip
              refine tt_aload_n (j := 0) dX10_or_113 rfl ?_
              refine gt_gR (id := 644) dX10_or_114 fl_10_16 rfl rfl h0 hA hr127 ?_
              refine tt_iload_n (j := 3) dX10_or_117 rfl ?_
              refine gt_lLv (v := (mj (sg S) (R 644 o0) (x3 : Int32).toNatClampNeg)) dX10_or_118 ho128 hA (rg_in h3) (sg_j (a := (R 644 o0)) (i := (x3 : Int32).toNatClampNeg) (show sg S = (sg S) from rfl)) ?_
              refine tt_lconst (v := 0) dX10_or_119 rfl ?_
              refine tt_lcmp dX10_or_120 ?_
              refine tt_if_ge (tgt := 132) dX10_or_121 rfl (fun q134 => ?_) (fun q134 => ?_)
              · skip
                have hF : Z_X10_or R (sg S) o0 x1 x2 x3 x4 = Z_X10_or_p132 R (sg S) o0 (x1) (x2) (x3) (x4) := by
                  exact zl_X10_or_6 q103 q109 q113 q115 q121 (Int64.not_lt.mpr (lc_lt_f q129)) (Int64.not_lt.mpr (lc_ge_t q134))
                exact tt_loc (ks := [0, 1, 2, 3, 4]) rfl (cz_X10_or_p132 hG (oa_af h0 hA) (rg_w h1) (rg_w h2) (rg_w h3) (rg_w h4) hR (fun r T x y h => hP r T x y (pv_tr hA h (by decide) (fun v T e => e.trans ((congrArg (fun q9 => Z_X10_or_p132 R q9 o0 (x1) (x2) (x3) (x4)) (show sg S = (sg S) from rfl)).trans hF.symm)))))
              · skip
                refine tt_aload_n (j := 0) dX10_or_124 rfl ?_
                refine gt_gR (id := 643) dX10_or_125 fl_10_13 rfl rfl h0 hA hr101 ?_
                refine tt_iload_n (j := 1) dX10_or_128 rfl ?_
                refine tt_iconst (v := 2) dX10_or_129 rfl ?_
                refine gx_iS dX10_or_130 ho102 hA (Or.inl (by decide)) (rg_in h1) hG (by decide) (show sg S = (sg S) from rfl) (fun S135 hG136 hA137 e138 => ?_)
                have hF : Z_X10_or R (sg S) o0 x1 x2 x3 x4 = (ui (sg S) (R 643 o0) (x1 : Int32).toNatClampNeg 2) := by
                  exact zl_X10_or_5 q103 q109 q113 q115 q121 (Int64.not_lt.mpr (lc_lt_f q129)) (lc_ge_f q134)
                exact tt_vreturn dX10_or_131 rfl (hP _ _ _ _ ⟨hG136, hA137, Or.inl ⟨_, rfl, rfl, Eq.trans e138 hF.symm, rfl, rfl⟩⟩)
      · skip
        have h139 : Rg 1 1 (Z_X10_isOne R (sg S) o0 (x2)) := rg_ne_lo h111 (⟨by decide, by decide⟩ : Rg 0 0 0) q113
        refine tt_aload_n (j := 0) dX10_or_34 rfl ?_
        refine tt_iload_n (j := 3) dX10_or_35 rfl ?_
        refine gt_VIp (As := [.int x3]) dX10_or_36 ca_X10_162 ⟨by decide, by decide⟩ h0 hA rfl (Nat.le_of_ble_eq_true rfl) (Nat.le_of_ble_eq_true rfl) (by decide) (cz_X10_isOne hG (oa_af h0 hA) (rg_w h3) hR (fun _ _ _ _ h => h)) rfl (fun _ h => nomatch h) (fun _ _ q => q.1) (fun x140 h141 hx142 => ?_)
        obtain rfl : Z_X10_isOne R (sg S) o0 (x3) = x140 := ((ei_w hx142.2).trans (congrArg (fun q9 => Z_X10_isOne R q9 o0 (x3)) (show sg S = (sg S) from rfl))).symm
        refine tt_if_eq (tgt := 82) dX10_or_39 rfl (fun q143 => ?_) (fun q143 => ?_)
        · skip
          have h144 : Rg 0 0 (Z_X10_isOne R (sg S) o0 (x3)) := rg_eq_l h141 (⟨by decide, by decide⟩ : Rg 0 0 0) q143
          refine tt_aload_n (j := 0) dX10_or_82 rfl ?_
          refine gt_gR (id := 643) dX10_or_83 fl_10_13 rfl rfl h0 hA hr101 ?_
          refine tt_iload_n (j := 2) dX10_or_86 rfl ?_
          refine gx_iL (v := (mi (sg S) (R 643 o0) (x2 : Int32).toNatClampNeg)) dX10_or_87 ho102 hA (rg_in h2) (sg_i (a := (R 643 o0)) (i := (x2 : Int32).toNatClampNeg) (show sg S = (sg S) from rfl)) ?_
          refine tt_iconst (v := 2) dX10_or_88 rfl ?_
          refine tt_icmp_eq (tgt := 124) dX10_or_89 rfl (fun q145 => ?_) (fun q145 => ?_)
          · skip
            have h146 : Rg 2 2 (mi (sg S) (R 643 o0) (x2 : Int32).toNatClampNeg) := rg_eq_l (rg_all (mi (sg S) (R 643 o0) (x2 : Int32).toNatClampNeg)) (⟨by decide, by decide⟩ : Rg 2 2 2) q145
            refine tt_aload_n (j := 0) dX10_or_124 rfl ?_
            refine gt_gR (id := 643) dX10_or_125 fl_10_13 rfl rfl h0 hA hr101 ?_
            refine tt_iload_n (j := 1) dX10_or_128 rfl ?_
            refine tt_iconst (v := 2) dX10_or_129 rfl ?_
            refine gx_iS dX10_or_130 ho102 hA (Or.inl (by decide)) (rg_in h1) hG (by decide) (show sg S = (sg S) from rfl) (fun S147 hG148 hA149 e150 => ?_)
            have hF : Z_X10_or R (sg S) o0 x1 x2 x3 x4 = (ui (sg S) (R 643 o0) (x1 : Int32).toNatClampNeg 2) := by
              exact zl_X10_or_7 q103 q109 q113 q143 q145
            exact tt_vreturn dX10_or_131 rfl (hP _ _ _ _ ⟨hG148, hA149, Or.inl ⟨_, rfl, rfl, Eq.trans e150 hF.symm, rfl, rfl⟩⟩)
          · skip
            refine tt_aload_n (j := 0) dX10_or_92 rfl ?_
            refine gt_gR (id := 643) dX10_or_93 fl_10_13 rfl rfl h0 hA hr101 ?_
            refine tt_iload_n (j := 3) dX10_or_96 rfl ?_
            refine gx_iL (v := (mi (sg S) (R 643 o0) (x3 : Int32).toNatClampNeg)) dX10_or_97 ho102 hA (rg_in h3) (sg_i (a := (R 643 o0)) (i := (x3 : Int32).toNatClampNeg) (show sg S = (sg S) from rfl)) ?_
            refine tt_iconst (v := 2) dX10_or_98 rfl ?_
            refine tt_icmp_eq (tgt := 124) dX10_or_99 rfl (fun q151 => ?_) (fun q151 => ?_)
            · skip
              have h152 : Rg 2 2 (mi (sg S) (R 643 o0) (x3 : Int32).toNatClampNeg) := rg_eq_l (rg_all (mi (sg S) (R 643 o0) (x3 : Int32).toNatClampNeg)) (⟨by decide, by decide⟩ : Rg 2 2 2) q151
              refine tt_aload_n (j := 0) dX10_or_124 rfl ?_
              refine gt_gR (id := 643) dX10_or_125 fl_10_13 rfl rfl h0 hA hr101 ?_
              refine tt_iload_n (j := 1) dX10_or_128 rfl ?_
              refine tt_iconst (v := 2) dX10_or_129 rfl ?_
              refine gx_iS dX10_or_130 ho102 hA (Or.inl (by decide)) (rg_in h1) hG (by decide) (show sg S = (sg S) from rfl) (fun S153 hG154 hA155 e156 => ?_)
              have hF : Z_X10_or R (sg S) o0 x1 x2 x3 x4 = (ui (sg S) (R 643 o0) (x1 : Int32).toNatClampNeg 2) := by
                exact zl_X10_or_8 q103 q109 q113 q143 q145 q151
              exact tt_vreturn dX10_or_131 rfl (hP _ _ _ _ ⟨hG154, hA155, Or.inl ⟨_, rfl, rfl, Eq.trans e156 hF.symm, rfl, rfl⟩⟩)
            · skip
              refine tt_aload_n (j := 0) dX10_or_102 rfl ?_
              have hr157 := rk_R (k := 644) hR h0 33 4940
              have ho158 := rk_O (k := 644) hG hR h0 33 4940
              refine gt_gR (id := 644) dX10_or_103 fl_10_16 rfl rfl h0 hA hr157 ?_
              refine tt_iload_n (j := 2) dX10_or_106 rfl ?_
              refine gt_lLv (v := (mj (sg S) (R 644 o0) (x2 : Int32).toNatClampNeg)) dX10_or_107 ho158 hA (rg_in h2) (sg_j (a := (R 644 o0)) (i := (x2 : Int32).toNatClampNeg) (show sg S = (sg S) from rfl)) ?_
              refine tt_lconst (v := 0) dX10_or_108 rfl ?_
              refine tt_lcmp dX10_or_109 ?_
              refine tt_if_lt (tgt := 124) dX10_or_110 rfl (fun q159 => ?_) (fun q159 => ?_)
              · skip
                refine tt_aload_n (j := 0) dX10_or_124 rfl ?_
                refine gt_gR (id := 643) dX10_or_125 fl_10_13 rfl rfl h0 hA hr101 ?_
                refine tt_iload_n (j := 1) dX10_or_128 rfl ?_
                refine tt_iconst (v := 2) dX10_or_129 rfl ?_
                refine gx_iS dX10_or_130 ho102 hA (Or.inl (by decide)) (rg_in h1) hG (by decide) (show sg S = (sg S) from rfl) (fun S160 hG161 hA162 e163 => ?_)
                have hF : Z_X10_or R (sg S) o0 x1 x2 x3 x4 = (ui (sg S) (R 643 o0) (x1 : Int32).toNatClampNeg 2) := by
                  exact zl_X10_or_9 q103 q109 q113 q143 q145 q151 (lc_lt_t q159)
                exact tt_vreturn dX10_or_131 rfl (hP _ _ _ _ ⟨hG161, hA162, Or.inl ⟨_, rfl, rfl, Eq.trans e163 hF.symm, rfl, rfl⟩⟩)
              · skip
                refine tt_aload_n (j := 0) dX10_or_113 rfl ?_
                refine gt_gR (id := 644) dX10_or_114 fl_10_16 rfl rfl h0 hA hr157 ?_
                refine tt_iload_n (j := 3) dX10_or_117 rfl ?_
                refine gt_lLv (v := (mj (sg S) (R 644 o0) (x3 : Int32).toNatClampNeg)) dX10_or_118 ho158 hA (rg_in h3) (sg_j (a := (R 644 o0)) (i := (x3 : Int32).toNatClampNeg) (show sg S = (sg S) from rfl)) ?_
                refine tt_lconst (v := 0) dX10_or_119 rfl ?_
                refine tt_lcmp dX10_or_120 ?_
                refine tt_if_ge (tgt := 132) dX10_or_121 rfl (fun q164 => ?_) (fun q164 => ?_)
                · skip
                  have hF : Z_X10_or R (sg S) o0 x1 x2 x3 x4 = Z_X10_or_p132 R (sg S) o0 (x1) (x2) (x3) (x4) := by
                    exact zl_X10_or_11 q103 q109 q113 q143 q145 q151 (Int64.not_lt.mpr (lc_lt_f q159)) (Int64.not_lt.mpr (lc_ge_t q164))
                  exact tt_loc (ks := [0, 1, 2, 3, 4]) rfl (cz_X10_or_p132 hG (oa_af h0 hA) (rg_w h1) (rg_w h2) (rg_w h3) (rg_w h4) hR (fun r T x y h => hP r T x y (pv_tr hA h (by decide) (fun v T e => e.trans ((congrArg (fun q9 => Z_X10_or_p132 R q9 o0 (x1) (x2) (x3) (x4)) (show sg S = (sg S) from rfl)).trans hF.symm)))))
                · skip
                  refine tt_aload_n (j := 0) dX10_or_124 rfl ?_
                  refine gt_gR (id := 643) dX10_or_125 fl_10_13 rfl rfl h0 hA hr101 ?_
                  refine tt_iload_n (j := 1) dX10_or_128 rfl ?_
                  refine tt_iconst (v := 2) dX10_or_129 rfl ?_
                  refine gx_iS dX10_or_130 ho102 hA (Or.inl (by decide)) (rg_in h1) hG (by decide) (show sg S = (sg S) from rfl) (fun S165 hG166 hA167 e168 => ?_)
                  have hF : Z_X10_or R (sg S) o0 x1 x2 x3 x4 = (ui (sg S) (R 643 o0) (x1 : Int32).toNatClampNeg 2) := by
                    exact zl_X10_or_10 q103 q109 q113 q143 q145 q151 (Int64.not_lt.mpr (lc_lt_f q159)) (lc_ge_f q164)
                  exact tt_vreturn dX10_or_131 rfl (hP _ _ _ _ ⟨hG166, hA167, Or.inl ⟨_, rfl, rfl, Eq.trans e168 hF.symm, rfl, rfl⟩⟩)
        · skip
          have h169 : Rg 1 1 (Z_X10_isOne R (sg S) o0 (x3)) := rg_ne_lo h141 (⟨by decide, by decide⟩ : Rg 0 0 0) q143
          refine tt_aload_n (j := 0) dX10_or_42 rfl ?_
          refine tt_iload_n (j := 1) dX10_or_43 rfl ?_
          refine tt_iload (j := 4) dX10_or_44 rfl ?_
          refine tt_if_eq (tgt := 65) dX10_or_46 rfl (fun q170 => ?_) (fun q170 => ?_)
          · skip
            have h171 : Rg 0 0 x4 := rg_eq_l h4 (⟨by decide, by decide⟩ : Rg 0 0 0) q170
            refine tt_aload_n (j := 0) dX10_or_65 rfl ?_
            have hr172 := rk_R (k := 644) hR h0 33 4940
            have ho173 := rk_O (k := 644) hG hR h0 33 4940
            refine gt_gR (id := 644) dX10_or_66 fl_10_16 rfl rfl h0 hA hr172 ?_
            refine tt_iload_n (j := 2) dX10_or_69 rfl ?_
            refine gt_lLv (v := (mj (sg S) (R 644 o0) (x2 : Int32).toNatClampNeg)) dX10_or_70 ho173 hA (rg_in h2) (sg_j (a := (R 644 o0)) (i := (x2 : Int32).toNatClampNeg) (show sg S = (sg S) from rfl)) ?_
            refine tt_aload_n (j := 0) dX10_or_71 rfl ?_
            refine gt_gR (id := 644) dX10_or_72 fl_10_16 rfl rfl h0 hA hr172 ?_
            refine tt_iload_n (j := 3) dX10_or_75 rfl ?_
            refine gt_lLv (v := (mj (sg S) (R 644 o0) (x3 : Int32).toNatClampNeg)) dX10_or_76 ho173 hA (rg_in h3) (sg_j (a := (R 644 o0)) (i := (x3 : Int32).toNatClampNeg) (show sg S = (sg S) from rfl)) ?_
            refine tt_lor dX10_or_77 ?_
            refine gt_Vv (As := [.int x1, .long ((mj (sg S) (R 644 o0) (x2 : Int32).toNatClampNeg) ||| (mj (sg S) (R 644 o0) (x3 : Int32).toNatClampNeg))]) dX10_or_78 ca_X10_193 ⟨by decide, by decide⟩ h0 hA rfl (Nat.le_of_ble_eq_true rfl) (Nat.le_of_ble_eq_true rfl) (by decide) (cz_X10_one hG (oa_af h0 hA) (rg_w h1) hR (fun _ _ _ _ h => h)) rfl (fun _ h => nomatch h) (fun S174 hx178 hG175 hB176 hA177 => ?_)
            obtain ⟨d179, hd180⟩ : ∃ q, Z_X10_one R (sg S) o0 (x1) (((mj (sg S) (R 644 o0) (x2 : Int32).toNatClampNeg) ||| (mj (sg S) (R 644 o0) (x3 : Int32).toNatClampNeg))) = q := ⟨_, rfl⟩
            have hq181 := (congrArg (fun q9 => Z_X10_one R q9 o0 (x1) (((mj (sg S) (R 644 o0) (x2 : Int32).toNatClampNeg) ||| (mj (sg S) (R 644 o0) (x3 : Int32).toNatClampNeg)))) (show sg S = (sg S) from rfl)).trans hd180
            have hs182 := hx178.trans hq181
            have hF : Z_X10_or R (sg S) o0 x1 x2 x3 x4 = d179 := by
              subst hd180
              exact zl_X10_or_12 q103 q109 q113 q143 q170
            exact tt_vreturn dX10_or_81 rfl (hP _ _ _ _ ⟨hG175, hA177, Or.inl ⟨_, rfl, rfl, Eq.trans hs182 hF.symm, rfl, rfl⟩⟩)
          · skip
            have h183 : Rg 1 1 x4 := rg_ne_lo h4 (⟨by decide, by decide⟩ : Rg 0 0 0) q170
            refine tt_aload_n (j := 0) dX10_or_49 rfl ?_
            have hr184 := rk_R (k := 644) hR h0 33 4940
            have ho185 := rk_O (k := 644) hG hR h0 33 4940
            refine gt_gR (id := 644) dX10_or_50 fl_10_16 rfl rfl h0 hA hr184 ?_
            refine tt_iload_n (j := 2) dX10_or_53 rfl ?_
            refine gt_lLv (v := (mj (sg S) (R 644 o0) (x2 : Int32).toNatClampNeg)) dX10_or_54 ho185 hA (rg_in h2) (sg_j (a := (R 644 o0)) (i := (x2 : Int32).toNatClampNeg) (show sg S = (sg S) from rfl)) ?_
            refine tt_aload_n (j := 0) dX10_or_55 rfl ?_
            refine gt_gR (id := 644) dX10_or_56 fl_10_16 rfl rfl h0 hA hr184 ?_
            refine tt_iload_n (j := 3) dX10_or_59 rfl ?_
            refine gt_lLv (v := (mj (sg S) (R 644 o0) (x3 : Int32).toNatClampNeg)) dX10_or_60 ho185 hA (rg_in h3) (sg_j (a := (R 644 o0)) (i := (x3 : Int32).toNatClampNeg) (show sg S = (sg S) from rfl)) ?_
            refine tt_lxor dX10_or_61 ?_
            refine tt_goto (tgt := 78) dX10_or_62 rfl ?_
            refine gt_Vv (As := [.int x1, .long ((mj (sg S) (R 644 o0) (x2 : Int32).toNatClampNeg) ^^^ (mj (sg S) (R 644 o0) (x3 : Int32).toNatClampNeg))]) dX10_or_78 ca_X10_193 ⟨by decide, by decide⟩ h0 hA rfl (Nat.le_of_ble_eq_true rfl) (Nat.le_of_ble_eq_true rfl) (by decide) (cz_X10_one hG (oa_af h0 hA) (rg_w h1) hR (fun _ _ _ _ h => h)) rfl (fun _ h => nomatch h) (fun S186 hx190 hG187 hB188 hA189 => ?_)
            obtain ⟨d191, hd192⟩ : ∃ q, Z_X10_one R (sg S) o0 (x1) (((mj (sg S) (R 644 o0) (x2 : Int32).toNatClampNeg) ^^^ (mj (sg S) (R 644 o0) (x3 : Int32).toNatClampNeg))) = q := ⟨_, rfl⟩
            have hq193 := (congrArg (fun q9 => Z_X10_one R q9 o0 (x1) (((mj (sg S) (R 644 o0) (x2 : Int32).toNatClampNeg) ^^^ (mj (sg S) (R 644 o0) (x3 : Int32).toNatClampNeg)))) (show sg S = (sg S) from rfl)).trans hd192
            have hs194 := hx190.trans hq193
            have hF : Z_X10_or R (sg S) o0 x1 x2 x3 x4 = d191 := by
              subst hd192
              exact zl_X10_or_13 q103 q109 q113 q143 q170
            exact tt_vreturn dX10_or_81 rfl (hP _ _ _ _ ⟨hG187, hA189, Or.inl ⟨_, rfl, rfl, Eq.trans hs194 hF.symm, rfl, rfl⟩⟩)
    · skip
      have h195 : Rg 0 0 (mi (sg S) (R 643 o0) (x3 : Int32).toNatClampNeg) := rg_eq_l (rg_all (mi (sg S) (R 643 o0) (x3 : Int32).toNatClampNeg)) (⟨by decide, by decide⟩ : Rg 0 0 0) q109
      refine tt_aload_n (j := 0) dX10_or_18 rfl ?_
      refine gt_gR (id := 643) dX10_or_19 fl_10_13 rfl rfl h0 hA hr101 ?_
      refine tt_iload_n (j := 1) dX10_or_22 rfl ?_
      refine tt_iconst (v := 0) dX10_or_23 rfl ?_
      refine gx_iS dX10_or_24 ho102 hA (Or.inl (by decide)) (rg_in h1) hG (by decide) (show sg S = (sg S) from rfl) (fun S196 hG197 hA198 e199 => ?_)
      have hF : Z_X10_or R (sg S) o0 x1 x2 x3 x4 = (ui (sg S) (R 643 o0) (x1 : Int32).toNatClampNeg 0) := by
        exact zl_X10_or_1 q103 q109
      exact tt_vreturn dX10_or_25 rfl (hP _ _ _ _ ⟨hG197, hA198, Or.inl ⟨_, rfl, rfl, Eq.trans e199 hF.symm, rfl, rfl⟩⟩)
def Z_X10_operand (R : Nat → Nat → Nat) (σ : SG) (o0 : Nat) (x1 : Int32) : SG :=
  if (mI σ 658 o0) < 0 then
    if (mI σ 655 o0) = 11 then
      let d110 := Z_X10_one R σ o0 (x1) (1)
      d110
    else
      if (mI σ 655 o0) = 12 then
        let d130 := Z_X10_one R σ o0 (x1) (1)
        d130
      else
        let d120 := Z_X10_one R σ o0 (x1) ((mJ σ 660 o0))
        d120
  else
    let d140 := Z_X10_copy R σ o0 (x1) ((4856 + (mI σ 658 o0)))
    d140
theorem zl_X10_operand_0 {R : Nat → Nat → Nat} {σ : SG} {o0 : Nat} {x1 : Int32} (h0 : (mI σ 658 o0) < 0) (h1 : (mI σ 655 o0) = 11) : Z_X10_operand R σ o0 x1 = (Z_X10_one R σ o0 (x1) (1)) := by unfold Z_X10_operand; exact Eq.trans (if_pos h0) (if_pos h1)
theorem zl_X10_operand_1 {R : Nat → Nat → Nat} {σ : SG} {o0 : Nat} {x1 : Int32} (h0 : (mI σ 658 o0) < 0) (h1 : ¬ (mI σ 655 o0) = 11) (h2 : (mI σ 655 o0) = 12) : Z_X10_operand R σ o0 x1 = (Z_X10_one R σ o0 (x1) (1)) := by unfold Z_X10_operand; exact Eq.trans (if_pos h0) (Eq.trans (if_neg h1) (if_pos h2))
theorem zl_X10_operand_2 {R : Nat → Nat → Nat} {σ : SG} {o0 : Nat} {x1 : Int32} (h0 : (mI σ 658 o0) < 0) (h1 : ¬ (mI σ 655 o0) = 11) (h2 : ¬ (mI σ 655 o0) = 12) : Z_X10_operand R σ o0 x1 = (Z_X10_one R σ o0 (x1) ((mJ σ 660 o0))) := by unfold Z_X10_operand; exact Eq.trans (if_pos h0) (Eq.trans (if_neg h1) (if_neg h2))
theorem zl_X10_operand_3 {R : Nat → Nat → Nat} {σ : SG} {o0 : Nat} {x1 : Int32} (h0 : ¬ (mI σ 658 o0) < 0) : Z_X10_operand R σ o0 x1 = (Z_X10_copy R σ o0 (x1) ((4856 + (mI σ 658 o0)))) := by unfold Z_X10_operand; exact if_neg h0
set_option maxHeartbeats 40000000 in
theorem cz_X10_operand {xi : SX} {S : Hp} {E : List Nat} {kc nc : Nat} {P : Po} {o0 : Nat} {x1 : Int32} {R : Nat → Nat → Nat} (hG : GI S E) (h0 : Oa S E 10 0 o0) (h1 : Rg 0 4939 x1) (hR : RK S R) (ho : Rg (-1) 23 (mI (sg S) 658 o0)) (hP : ∀ r T x y, PV E [9989] S kc nc rV (fun v T => sg T = Z_X10_operand R (sg S) o0 x1) [] r T x y → P r T x y) : TT xi M_X10_operand 0 [(0, .ref o0), (1, .int x1)] [] S kc nc P := by
  have hA : Af E [9989] S S := af_rf
  refine tt_aload_n (j := 0) dX10_operand_0 rfl ?_
  refine gt_gI (id := 658) (v := (mI (sg S) 658 o0)) dX10_operand_1 fl_10_113 rfl rfl h0 hA (sg_I (k := 658) (o := o0) (show sg S = (sg S) from rfl)) ?_
  refine tt_if_lt (tgt := 23) dX10_operand_4 rfl (fun q101 => ?_) (fun q101 => ?_)
  · skip
    have h102 : Rg (-1) (-1) (mI (sg S) 658 o0) := rg_lt_l ho (⟨by decide, by decide⟩ : Rg 0 0 0) q101
    refine tt_aload_n (j := 0) dX10_operand_23 rfl ?_
    refine tt_iload_n (j := 1) dX10_operand_24 rfl ?_
    refine tt_aload_n (j := 0) dX10_operand_25 rfl ?_
    refine gt_gI (id := 655) (v := (mI (sg S) 655 o0)) dX10_operand_26 fl_10_107 rfl rfl h0 hA (sg_I (k := 655) (o := o0) (show sg S = (sg S) from rfl)) ?_
    refine tt_bipush (v := 11) dX10_operand_29 rfl ?_
    refine tt_icmp_eq (tgt := 43) dX10_operand_31 rfl (fun q103 => ?_) (fun q103 => ?_)
    · skip
      have h104 : Rg 11 11 (mI (sg S) 655 o0) := rg_eq_l (rg_all (mI (sg S) 655 o0)) (⟨by decide, by decide⟩ : Rg 11 11 11) q103
      refine tt_lconst (v := 1) dX10_operand_43 rfl ?_
      refine tt_goto (tgt := 51) dX10_operand_44 rfl ?_
      refine gt_Vv (As := [.int x1, .long 1]) dX10_operand_51 ca_X10_193 ⟨by decide, by decide⟩ h0 hA rfl (Nat.le_of_ble_eq_true rfl) (Nat.le_of_ble_eq_true rfl) (by decide) (cz_X10_one hG (oa_af h0 hA) (rg_w h1) hR (fun _ _ _ _ h => h)) rfl (fun _ h => nomatch h) (fun S105 hx109 hG106 hB107 hA108 => ?_)
      obtain ⟨d110, hd111⟩ : ∃ q, Z_X10_one R (sg S) o0 (x1) (1) = q := ⟨_, rfl⟩
      have hq112 := (congrArg (fun q9 => Z_X10_one R q9 o0 (x1) (1)) (show sg S = (sg S) from rfl)).trans hd111
      have hs113 := hx109.trans hq112
      have hF : Z_X10_operand R (sg S) o0 x1 = d110 := by
        subst hd111
        exact zl_X10_operand_0 q101 q103
      exact tt_vreturn dX10_operand_54 rfl (hP _ _ _ _ ⟨hG106, hA108, Or.inl ⟨_, rfl, rfl, Eq.trans hs113 hF.symm, rfl, rfl⟩⟩)
    · skip
      refine tt_aload_n (j := 0) dX10_operand_34 rfl ?_
      refine gt_gI (id := 655) (v := (mI (sg S) 655 o0)) dX10_operand_35 fl_10_107 rfl rfl h0 hA (sg_I (k := 655) (o := o0) (show sg S = (sg S) from rfl)) ?_
      refine tt_bipush (v := 12) dX10_operand_38 rfl ?_
      refine tt_icmp_ne (tgt := 47) dX10_operand_40 rfl (fun q114 => ?_) (fun q114 => ?_)
      · skip
        refine tt_aload_n (j := 0) dX10_operand_47 rfl ?_
        refine gt_gJ (id := 660) (v := (mJ (sg S) 660 o0)) dX10_operand_48 fl_10_116 rfl rfl h0 hA (sg_J (k := 660) (o := o0) (show sg S = (sg S) from rfl)) ?_
        refine gt_Vv (As := [.int x1, .long (mJ (sg S) 660 o0)]) dX10_operand_51 ca_X10_193 ⟨by decide, by decide⟩ h0 hA rfl (Nat.le_of_ble_eq_true rfl) (Nat.le_of_ble_eq_true rfl) (by decide) (cz_X10_one hG (oa_af h0 hA) (rg_w h1) hR (fun _ _ _ _ h => h)) rfl (fun _ h => nomatch h) (fun S115 hx119 hG116 hB117 hA118 => ?_)
        obtain ⟨d120, hd121⟩ : ∃ q, Z_X10_one R (sg S) o0 (x1) ((mJ (sg S) 660 o0)) = q := ⟨_, rfl⟩
        have hq122 := (congrArg (fun q9 => Z_X10_one R q9 o0 (x1) ((mJ (sg S) 660 o0))) (show sg S = (sg S) from rfl)).trans hd121
        have hs123 := hx119.trans hq122
        have hF : Z_X10_operand R (sg S) o0 x1 = d120 := by
          subst hd121
          exact zl_X10_operand_2 q101 q103 q114
        exact tt_vreturn dX10_operand_54 rfl (hP _ _ _ _ ⟨hG116, hA118, Or.inl ⟨_, rfl, rfl, Eq.trans hs123 hF.symm, rfl, rfl⟩⟩)
      · skip
        have h124 : Rg 12 12 (mI (sg S) 655 o0) := rg_eq_l (rg_all (mI (sg S) 655 o0)) (⟨by decide, by decide⟩ : Rg 12 12 12) q114
        refine tt_lconst (v := 1) dX10_operand_43 rfl ?_
        refine tt_goto (tgt := 51) dX10_operand_44 rfl ?_
        refine gt_Vv (As := [.int x1, .long 1]) dX10_operand_51 ca_X10_193 ⟨by decide, by decide⟩ h0 hA rfl (Nat.le_of_ble_eq_true rfl) (Nat.le_of_ble_eq_true rfl) (by decide) (cz_X10_one hG (oa_af h0 hA) (rg_w h1) hR (fun _ _ _ _ h => h)) rfl (fun _ h => nomatch h) (fun S125 hx129 hG126 hB127 hA128 => ?_)
        obtain ⟨d130, hd131⟩ : ∃ q, Z_X10_one R (sg S) o0 (x1) (1) = q := ⟨_, rfl⟩
        have hq132 := (congrArg (fun q9 => Z_X10_one R q9 o0 (x1) (1)) (show sg S = (sg S) from rfl)).trans hd131
        have hs133 := hx129.trans hq132
        have hF : Z_X10_operand R (sg S) o0 x1 = d130 := by
          subst hd131
          exact zl_X10_operand_1 q101 q103 q114
        exact tt_vreturn dX10_operand_54 rfl (hP _ _ _ _ ⟨hG126, hA128, Or.inl ⟨_, rfl, rfl, Eq.trans hs133 hF.symm, rfl, rfl⟩⟩)
  · skip
    have h134 : Rg 0 23 (mI (sg S) 658 o0) := rg_le_r (⟨by decide, by decide⟩ : Rg 0 0 0) ho (nlt_le q101)
    refine tt_aload_n (j := 0) dX10_operand_7 rfl ?_
    refine tt_iload_n (j := 1) dX10_operand_8 rfl ?_
    refine tt_sipush (v := 4856) dX10_operand_9 rfl ?_
    refine tt_aload_n (j := 0) dX10_operand_12 rfl ?_
    refine gt_gI (id := 658) (v := (mI (sg S) 658 o0)) dX10_operand_13 fl_10_113 rfl rfl h0 hA (sg_I (k := 658) (o := o0) (show sg S = (sg S) from rfl)) ?_
    refine tt_iadd dX10_operand_16 ?_
    refine gt_Vv (As := [.int x1, .int (4856 + (mI (sg S) 658 o0))]) dX10_operand_17 ca_X10_169 ⟨by decide, by decide⟩ h0 hA rfl (Nat.le_of_ble_eq_true rfl) (Nat.le_of_ble_eq_true rfl) (by decide) (cz_X10_copy hG (oa_af h0 hA) (rg_w h1) (rg_w (rg_add (lo := 4856) (hi := 4879) (⟨by decide, by decide⟩ : Rg 4856 4856 4856) h134)) hR (fun _ _ _ _ h => h)) rfl (fun _ h => nomatch h) (fun S135 hx139 hG136 hB137 hA138 => ?_)
    obtain ⟨d140, hd141⟩ : ∃ q, Z_X10_copy R (sg S) o0 (x1) ((4856 + (mI (sg S) 658 o0))) = q := ⟨_, rfl⟩
    have hq142 := (congrArg (fun q9 => Z_X10_copy R q9 o0 (x1) ((4856 + (mI (sg S) 658 o0)))) (show sg S = (sg S) from rfl)).trans hd141
    have hs143 := hx139.trans hq142
    refine tt_goto (tgt := 54) dX10_operand_20 rfl ?_
    have hF : Z_X10_operand R (sg S) o0 x1 = d140 := by
      subst hd141
      exact zl_X10_operand_3 q101
    exact tt_vreturn dX10_operand_54 rfl (hP _ _ _ _ ⟨hG136, hA138, Or.inl ⟨_, rfl, rfl, Eq.trans hs143 hF.symm, rfl, rfl⟩⟩)
def Z_X10_narrowed (R : Nat → Nat → Nat) (σ : SG) (o0 : Nat) (x1 : Int32) (x2 : Int32) : SG :=
  let d106 := Z_X10_copy R σ o0 (4851) (x1)
  if x2 = 0 then
    let d117 := Z_X10_lowPart R d106 o0 (x1) (4851)
    d117
  else
    let d127 := Z_X10_signed R d106 o0 (x1) (4851)
    d127
theorem zl_X10_narrowed_0 {R : Nat → Nat → Nat} {σ : SG} {o0 : Nat} {x1 : Int32} {x2 : Int32} (h0 : x2 = 0) : Z_X10_narrowed R σ o0 x1 x2 = (Z_X10_lowPart R (Z_X10_copy R σ o0 (4851) (x1)) o0 (x1) (4851)) := by unfold Z_X10_narrowed; exact if_pos h0
theorem zl_X10_narrowed_1 {R : Nat → Nat → Nat} {σ : SG} {o0 : Nat} {x1 : Int32} {x2 : Int32} (h0 : ¬ x2 = 0) : Z_X10_narrowed R σ o0 x1 x2 = (Z_X10_signed R (Z_X10_copy R σ o0 (4851) (x1)) o0 (x1) (4851)) := by unfold Z_X10_narrowed; exact if_neg h0
set_option maxHeartbeats 40000000 in
theorem cz_X10_narrowed {xi : SX} {S : Hp} {E : List Nat} {kc nc : Nat} {P : Po} {o0 : Nat} {x1 : Int32} {x2 : Int32} {R : Nat → Nat → Nat} (hG : GI S E) (h0 : Oa S E 10 0 o0) (h1 : Rg 0 4939 x1) (h2 : Rg 0 1 x2) (hR : RK S R) (hP : ∀ r T x y, PV E [9989] S kc nc rV (fun v T => sg T = Z_X10_narrowed R (sg S) o0 x1 x2) [] r T x y → P r T x y) : TT xi M_X10_narrowed 0 [(0, .ref o0), (1, .int x1), (2, .int x2)] [] S kc nc P := by
  have hA : Af E [9989] S S := af_rf
  refine tt_aload_n (j := 0) dX10_narrowed_0 rfl ?_
  refine tt_sipush (v := 4851) dX10_narrowed_1 rfl ?_
  refine tt_iload_n (j := 1) dX10_narrowed_4 rfl ?_
  refine gt_Vv (As := [.int 4851, .int x1]) dX10_narrowed_5 ca_X10_169 ⟨by decide, by decide⟩ h0 hA rfl (Nat.le_of_ble_eq_true rfl) (Nat.le_of_ble_eq_true rfl) (by decide) (cz_X10_copy hG (oa_af h0 hA) (rg_w (⟨by decide, by decide⟩ : Rg 4851 4851 4851)) (rg_w h1) hR (fun _ _ _ _ h => h)) rfl (fun _ h => nomatch h) (fun S101 hx105 hG102 hB103 hA104 => ?_)
  obtain ⟨d106, hd107⟩ : ∃ q, Z_X10_copy R (sg S) o0 (4851) (x1) = q := ⟨_, rfl⟩
  have hq108 := (congrArg (fun q9 => Z_X10_copy R q9 o0 (4851) (x1)) (show sg S = (sg S) from rfl)).trans hd107
  have hs109 := hx105.trans hq108
  refine tt_iload_n (j := 2) dX10_narrowed_8 rfl ?_
  refine tt_if_eq (tgt := 23) dX10_narrowed_9 rfl (fun q110 => ?_) (fun q110 => ?_)
  · skip
    have h111 : Rg 0 0 x2 := rg_eq_l h2 (⟨by decide, by decide⟩ : Rg 0 0 0) q110
    refine tt_aload_n (j := 0) dX10_narrowed_23 rfl ?_
    refine tt_iload_n (j := 1) dX10_narrowed_24 rfl ?_
    refine tt_sipush (v := 4851) dX10_narrowed_25 rfl ?_
    refine gt_Vv (As := [.int x1, .int 4851]) dX10_narrowed_28 ca_X10_210 ⟨by decide, by decide⟩ h0 hA104 rfl (Nat.le_of_ble_eq_true rfl) (Nat.le_of_ble_eq_true rfl) (by decide) (cz_X10_lowPart hG102 (oa_af h0 hA104) (rg_w h1) (rg_w (⟨by decide, by decide⟩ : Rg 4851 4851 4851)) (rk_af hR hA104) (fun _ _ _ _ h => h)) rfl (fun _ h => nomatch h) (fun S112 hx116 hG113 hB114 hA115 => ?_)
    obtain ⟨d117, hd118⟩ : ∃ q, Z_X10_lowPart R d106 o0 (x1) (4851) = q := ⟨_, rfl⟩
    have hq119 := (congrArg (fun q9 => Z_X10_lowPart R q9 o0 (x1) (4851)) hs109).trans hd118
    have hs120 := hx116.trans hq119
    have hF : Z_X10_narrowed R (sg S) o0 x1 x2 = d117 := by
      subst hd118
      subst hd107
      exact zl_X10_narrowed_0 q110
    exact tt_vreturn dX10_narrowed_31 rfl (hP _ _ _ _ ⟨hG113, hA115, Or.inl ⟨_, rfl, rfl, Eq.trans hs120 hF.symm, rfl, rfl⟩⟩)
  · skip
    have h121 : Rg 1 1 x2 := rg_ne_lo h2 (⟨by decide, by decide⟩ : Rg 0 0 0) q110
    refine tt_aload_n (j := 0) dX10_narrowed_12 rfl ?_
    refine tt_iload_n (j := 1) dX10_narrowed_13 rfl ?_
    refine tt_sipush (v := 4851) dX10_narrowed_14 rfl ?_
    refine gt_Vv (As := [.int x1, .int 4851]) dX10_narrowed_17 ca_X10_228 ⟨by decide, by decide⟩ h0 hA104 rfl (Nat.le_of_ble_eq_true rfl) (Nat.le_of_ble_eq_true rfl) (by decide) (cz_X10_signed hG102 (oa_af h0 hA104) (rg_w h1) (rg_w (⟨by decide, by decide⟩ : Rg 4851 4851 4851)) (rk_af hR hA104) (fun _ _ _ _ h => h)) rfl (fun _ h => nomatch h) (fun S122 hx126 hG123 hB124 hA125 => ?_)
    obtain ⟨d127, hd128⟩ : ∃ q, Z_X10_signed R d106 o0 (x1) (4851) = q := ⟨_, rfl⟩
    have hq129 := (congrArg (fun q9 => Z_X10_signed R q9 o0 (x1) (4851)) hs109).trans hd128
    have hs130 := hx126.trans hq129
    refine tt_goto (tgt := 31) dX10_narrowed_20 rfl ?_
    have hF : Z_X10_narrowed R (sg S) o0 x1 x2 = d127 := by
      subst hd128
      subst hd107
      exact zl_X10_narrowed_1 q110
    exact tt_vreturn dX10_narrowed_31 rfl (hP _ _ _ _ ⟨hG123, hA125, Or.inl ⟨_, rfl, rfl, Eq.trans hs130 hF.symm, rfl, rfl⟩⟩)
def Z_X10_workMore (R : Nat → Nat → Nat) (σ : SG) (o0 : Nat) : SG :=
  if (mI σ 655 o0) = 14 then
    if (mI σ 659 o0) ≤ 30 then
      let d143 := Z_X10_one R σ o0 (4931) ((1 <<< (((mI σ 659 o0) : Int32).toInt64 &&& 63)))
      let d152 := Z_X10_times R d143 o0 (4850) (4848) (4931)
      d152
    else
      if (mi σ (R 643 o0) (4848 : Int32).toNatClampNeg) = 0 then
        (ui σ (R 643 o0) (4850 : Int32).toNatClampNeg 0)
      else
        (ui σ (R 643 o0) (4850 : Int32).toNatClampNeg 2)
  else
    if (mI σ 655 o0) = 15 then
      let d131 := Z_X10_shiftZero R σ o0 (4850) (4848) ((mI σ 659 o0))
      d131
    else
      if (mI σ 655 o0) = 16 then
        let d121 := Z_X10_shiftDown R σ o0 (4850) (4848) ((mI σ 659 o0))
        d121
      else
        if (mI σ 655 o0) = 17 then
          let d111 := Z_X10_times R σ o0 (4850) (4848) (4849)
          d111
        else
          σ
theorem zl_X10_workMore_0 {R : Nat → Nat → Nat} {σ : SG} {o0 : Nat} (h0 : (mI σ 655 o0) = 14) (h1 : (mI σ 659 o0) ≤ 30) : Z_X10_workMore R σ o0 = (Z_X10_times R (Z_X10_one R σ o0 (4931) ((1 <<< (((mI σ 659 o0) : Int32).toInt64 &&& 63)))) o0 (4850) (4848) (4931)) := by unfold Z_X10_workMore; exact Eq.trans (if_pos h0) (if_pos h1)
theorem zl_X10_workMore_1 {R : Nat → Nat → Nat} {σ : SG} {o0 : Nat} (h0 : (mI σ 655 o0) = 14) (h1 : ¬ (mI σ 659 o0) ≤ 30) (h2 : (mi σ (R 643 o0) (4848 : Int32).toNatClampNeg) = 0) : Z_X10_workMore R σ o0 = (ui σ (R 643 o0) (4850 : Int32).toNatClampNeg 0) := by unfold Z_X10_workMore; exact Eq.trans (if_pos h0) (Eq.trans (if_neg h1) (if_pos h2))
theorem zl_X10_workMore_2 {R : Nat → Nat → Nat} {σ : SG} {o0 : Nat} (h0 : (mI σ 655 o0) = 14) (h1 : ¬ (mI σ 659 o0) ≤ 30) (h2 : ¬ (mi σ (R 643 o0) (4848 : Int32).toNatClampNeg) = 0) : Z_X10_workMore R σ o0 = (ui σ (R 643 o0) (4850 : Int32).toNatClampNeg 2) := by unfold Z_X10_workMore; exact Eq.trans (if_pos h0) (Eq.trans (if_neg h1) (if_neg h2))
theorem zl_X10_workMore_3 {R : Nat → Nat → Nat} {σ : SG} {o0 : Nat} (h0 : ¬ (mI σ 655 o0) = 14) (h1 : (mI σ 655 o0) = 15) : Z_X10_workMore R σ o0 = (Z_X10_shiftZero R σ o0 (4850) (4848) ((mI σ 659 o0))) := by unfold Z_X10_workMore; exact Eq.trans (if_neg h0) (if_pos h1)
theorem zl_X10_workMore_4 {R : Nat → Nat → Nat} {σ : SG} {o0 : Nat} (h0 : ¬ (mI σ 655 o0) = 14) (h1 : ¬ (mI σ 655 o0) = 15) (h2 : (mI σ 655 o0) = 16) : Z_X10_workMore R σ o0 = (Z_X10_shiftDown R σ o0 (4850) (4848) ((mI σ 659 o0))) := by unfold Z_X10_workMore; exact Eq.trans (if_neg h0) (Eq.trans (if_neg h1) (if_pos h2))
theorem zl_X10_workMore_5 {R : Nat → Nat → Nat} {σ : SG} {o0 : Nat} (h0 : ¬ (mI σ 655 o0) = 14) (h1 : ¬ (mI σ 655 o0) = 15) (h2 : ¬ (mI σ 655 o0) = 16) (h3 : (mI σ 655 o0) = 17) : Z_X10_workMore R σ o0 = (Z_X10_times R σ o0 (4850) (4848) (4849)) := by unfold Z_X10_workMore; exact Eq.trans (if_neg h0) (Eq.trans (if_neg h1) (Eq.trans (if_neg h2) (if_pos h3)))
theorem zl_X10_workMore_6 {R : Nat → Nat → Nat} {σ : SG} {o0 : Nat} (h0 : ¬ (mI σ 655 o0) = 14) (h1 : ¬ (mI σ 655 o0) = 15) (h2 : ¬ (mI σ 655 o0) = 16) (h3 : ¬ (mI σ 655 o0) = 17) : Z_X10_workMore R σ o0 = σ := by unfold Z_X10_workMore; exact Eq.trans (if_neg h0) (Eq.trans (if_neg h1) (Eq.trans (if_neg h2) (if_neg h3)))
set_option maxHeartbeats 40000000 in
theorem cz_X10_workMore {xi : SX} {S : Hp} {E : List Nat} {kc nc : Nat} {P : Po} {o0 : Nat} {R : Nat → Nat → Nat} (hG : GI S E) (h0 : Oa S E 10 0 o0) (hR : RK S R) (hP : ∀ r T x y, PV E [9989] S kc nc rV (fun v T => sg T = Z_X10_workMore R (sg S) o0) [] r T x y → P r T x y) : TT xi M_X10_workMore 0 [(0, .ref o0)] [] S kc nc P := by
  have hA : Af E [9989] S S := af_rf
  refine tt_aload_n (j := 0) dX10_workMore_0 rfl ?_
  refine gt_gI (id := 655) (v := (mI (sg S) 655 o0)) dX10_workMore_1 fl_10_107 rfl rfl h0 hA (sg_I (k := 655) (o := o0) (show sg S = (sg S) from rfl)) ?_
  refine tt_bipush (v := 14) dX10_workMore_4 rfl ?_
  refine tt_icmp_ne (tgt := 74) dX10_workMore_6 rfl (fun q101 => ?_) (fun q101 => ?_)
  · skip
    refine tt_aload_n (j := 0) dX10_workMore_74 rfl ?_
    refine gt_gI (id := 655) (v := (mI (sg S) 655 o0)) dX10_workMore_75 fl_10_107 rfl rfl h0 hA (sg_I (k := 655) (o := o0) (show sg S = (sg S) from rfl)) ?_
    refine tt_bipush (v := 15) dX10_workMore_78 rfl ?_
    refine tt_icmp_ne (tgt := 100) dX10_workMore_80 rfl (fun q102 => ?_) (fun q102 => ?_)
    · skip
      refine tt_aload_n (j := 0) dX10_workMore_100 rfl ?_
      refine gt_gI (id := 655) (v := (mI (sg S) 655 o0)) dX10_workMore_101 fl_10_107 rfl rfl h0 hA (sg_I (k := 655) (o := o0) (show sg S = (sg S) from rfl)) ?_
      refine tt_bipush (v := 16) dX10_workMore_104 rfl ?_
      refine tt_icmp_ne (tgt := 126) dX10_workMore_106 rfl (fun q103 => ?_) (fun q103 => ?_)
      · skip
        refine tt_aload_n (j := 0) dX10_workMore_126 rfl ?_
        refine gt_gI (id := 655) (v := (mI (sg S) 655 o0)) dX10_workMore_127 fl_10_107 rfl rfl h0 hA (sg_I (k := 655) (o := o0) (show sg S = (sg S) from rfl)) ?_
        refine tt_bipush (v := 17) dX10_workMore_130 rfl ?_
        refine tt_icmp_ne (tgt := 148) dX10_workMore_132 rfl (fun q104 => ?_) (fun q104 => ?_)
        · skip
          have hF : Z_X10_workMore R (sg S) o0 = (sg S) := by
            exact zl_X10_workMore_6 q101 q102 q103 q104
          exact tt_vreturn dX10_workMore_148 rfl (hP _ _ _ _ ⟨hG, hA, Or.inl ⟨_, rfl, rfl, Eq.trans (show sg S = (sg S) from rfl) hF.symm, rfl, rfl⟩⟩)
        · skip
          have h105 : Rg 17 17 (mI (sg S) 655 o0) := rg_eq_l (rg_all (mI (sg S) 655 o0)) (⟨by decide, by decide⟩ : Rg 17 17 17) q104
          refine tt_aload_n (j := 0) dX10_workMore_135 rfl ?_
          refine tt_sipush (v := 4850) dX10_workMore_136 rfl ?_
          refine tt_sipush (v := 4848) dX10_workMore_139 rfl ?_
          refine tt_sipush (v := 4849) dX10_workMore_142 rfl ?_
          refine gt_Vv (As := [.int 4850, .int 4848, .int 4849]) dX10_workMore_145 ca_X10_244 ⟨by decide, by decide⟩ h0 hA rfl (Nat.le_of_ble_eq_true rfl) (Nat.le_of_ble_eq_true rfl) (by decide) (cz_X10_times hG (oa_af h0 hA) (rg_w (⟨by decide, by decide⟩ : Rg 4850 4850 4850)) (rg_w (⟨by decide, by decide⟩ : Rg 4848 4848 4848)) (rg_w (⟨by decide, by decide⟩ : Rg 4849 4849 4849)) hR (fun _ _ _ _ h => h)) rfl (fun _ h => nomatch h) (fun S106 hx110 hG107 hB108 hA109 => ?_)
          obtain ⟨d111, hd112⟩ : ∃ q, Z_X10_times R (sg S) o0 (4850) (4848) (4849) = q := ⟨_, rfl⟩
          have hq113 := (congrArg (fun q9 => Z_X10_times R q9 o0 (4850) (4848) (4849)) (show sg S = (sg S) from rfl)).trans hd112
          have hs114 := hx110.trans hq113
          have hF : Z_X10_workMore R (sg S) o0 = d111 := by
            subst hd112
            exact zl_X10_workMore_5 q101 q102 q103 q104
          exact tt_vreturn dX10_workMore_148 rfl (hP _ _ _ _ ⟨hG107, hA109, Or.inl ⟨_, rfl, rfl, Eq.trans hs114 hF.symm, rfl, rfl⟩⟩)
      · skip
        have h115 : Rg 16 16 (mI (sg S) 655 o0) := rg_eq_l (rg_all (mI (sg S) 655 o0)) (⟨by decide, by decide⟩ : Rg 16 16 16) q103
        refine tt_aload_n (j := 0) dX10_workMore_109 rfl ?_
        refine tt_sipush (v := 4850) dX10_workMore_110 rfl ?_
        refine tt_sipush (v := 4848) dX10_workMore_113 rfl ?_
        refine tt_aload_n (j := 0) dX10_workMore_116 rfl ?_
        refine gt_gI (id := 659) (v := (mI (sg S) 659 o0)) dX10_workMore_117 fl_10_120 rfl rfl h0 hA (sg_I (k := 659) (o := o0) (show sg S = (sg S) from rfl)) ?_
        refine gt_Vv (As := [.int 4850, .int 4848, .int (mI (sg S) 659 o0)]) dX10_workMore_120 ca_X10_201 ⟨by decide, by decide⟩ h0 hA rfl (Nat.le_of_ble_eq_true rfl) (Nat.le_of_ble_eq_true rfl) (by decide) (cz_X10_shiftDown hG (oa_af h0 hA) (rg_w (⟨by decide, by decide⟩ : Rg 4850 4850 4850)) (rg_w (⟨by decide, by decide⟩ : Rg 4848 4848 4848)) hR (fun _ _ _ _ h => h)) rfl (fun _ h => nomatch h) (fun S116 hx120 hG117 hB118 hA119 => ?_)
        obtain ⟨d121, hd122⟩ : ∃ q, Z_X10_shiftDown R (sg S) o0 (4850) (4848) ((mI (sg S) 659 o0)) = q := ⟨_, rfl⟩
        have hq123 := (congrArg (fun q9 => Z_X10_shiftDown R q9 o0 (4850) (4848) ((mI (sg S) 659 o0))) (show sg S = (sg S) from rfl)).trans hd122
        have hs124 := hx120.trans hq123
        refine tt_goto (tgt := 148) dX10_workMore_123 rfl ?_
        have hF : Z_X10_workMore R (sg S) o0 = d121 := by
          subst hd122
          exact zl_X10_workMore_4 q101 q102 q103
        exact tt_vreturn dX10_workMore_148 rfl (hP _ _ _ _ ⟨hG117, hA119, Or.inl ⟨_, rfl, rfl, Eq.trans hs124 hF.symm, rfl, rfl⟩⟩)
    · skip
      have h125 : Rg 15 15 (mI (sg S) 655 o0) := rg_eq_l (rg_all (mI (sg S) 655 o0)) (⟨by decide, by decide⟩ : Rg 15 15 15) q102
      refine tt_aload_n (j := 0) dX10_workMore_83 rfl ?_
      refine tt_sipush (v := 4850) dX10_workMore_84 rfl ?_
      refine tt_sipush (v := 4848) dX10_workMore_87 rfl ?_
      refine tt_aload_n (j := 0) dX10_workMore_90 rfl ?_
      refine gt_gI (id := 659) (v := (mI (sg S) 659 o0)) dX10_workMore_91 fl_10_120 rfl rfl h0 hA (sg_I (k := 659) (o := o0) (show sg S = (sg S) from rfl)) ?_
      refine gt_Vv (As := [.int 4850, .int 4848, .int (mI (sg S) 659 o0)]) dX10_workMore_94 ca_X10_247 ⟨by decide, by decide⟩ h0 hA rfl (Nat.le_of_ble_eq_true rfl) (Nat.le_of_ble_eq_true rfl) (by decide) (cz_X10_shiftZero hG (oa_af h0 hA) (rg_w (⟨by decide, by decide⟩ : Rg 4850 4850 4850)) (rg_w (⟨by decide, by decide⟩ : Rg 4848 4848 4848)) hR (fun _ _ _ _ h => h)) rfl (fun _ h => nomatch h) (fun S126 hx130 hG127 hB128 hA129 => ?_)
      obtain ⟨d131, hd132⟩ : ∃ q, Z_X10_shiftZero R (sg S) o0 (4850) (4848) ((mI (sg S) 659 o0)) = q := ⟨_, rfl⟩
      have hq133 := (congrArg (fun q9 => Z_X10_shiftZero R q9 o0 (4850) (4848) ((mI (sg S) 659 o0))) (show sg S = (sg S) from rfl)).trans hd132
      have hs134 := hx130.trans hq133
      refine tt_goto (tgt := 148) dX10_workMore_97 rfl ?_
      have hF : Z_X10_workMore R (sg S) o0 = d131 := by
        subst hd132
        exact zl_X10_workMore_3 q101 q102
      exact tt_vreturn dX10_workMore_148 rfl (hP _ _ _ _ ⟨hG127, hA129, Or.inl ⟨_, rfl, rfl, Eq.trans hs134 hF.symm, rfl, rfl⟩⟩)
  · skip
    have h135 : Rg 14 14 (mI (sg S) 655 o0) := rg_eq_l (rg_all (mI (sg S) 655 o0)) (⟨by decide, by decide⟩ : Rg 14 14 14) q101
    refine tt_aload_n (j := 0) dX10_workMore_9 rfl ?_
    refine gt_gI (id := 659) (v := (mI (sg S) 659 o0)) dX10_workMore_10 fl_10_120 rfl rfl h0 hA (sg_I (k := 659) (o := o0) (show sg S = (sg S) from rfl)) ?_
    refine tt_bipush (v := 30) dX10_workMore_13 rfl ?_
    refine tt_icmp_le (tgt := 45) dX10_workMore_15 rfl (fun q136 => ?_) (fun q136 => ?_)
    · skip
      have h137 : Rg (-2147483648) 30 (mI (sg S) 659 o0) := rg_le_l (rg_all (mI (sg S) 659 o0)) (⟨by decide, by decide⟩ : Rg 30 30 30) q136
      refine tt_aload_n (j := 0) dX10_workMore_45 rfl ?_
      refine tt_sipush (v := 4931) dX10_workMore_46 rfl ?_
      refine tt_lconst (v := 1) dX10_workMore_49 rfl ?_
      refine tt_aload_n (j := 0) dX10_workMore_50 rfl ?_
      refine gt_gI (id := 659) (v := (mI (sg S) 659 o0)) dX10_workMore_51 fl_10_120 rfl rfl h0 hA (sg_I (k := 659) (o := o0) (show sg S = (sg S) from rfl)) ?_
      refine tt_lshl dX10_workMore_54 ?_
      refine gt_Vv (As := [.int 4931, .long (1 <<< (((mI (sg S) 659 o0) : Int32).toInt64 &&& 63))]) dX10_workMore_55 ca_X10_193 ⟨by decide, by decide⟩ h0 hA rfl (Nat.le_of_ble_eq_true rfl) (Nat.le_of_ble_eq_true rfl) (by decide) (cz_X10_one hG (oa_af h0 hA) (rg_w (⟨by decide, by decide⟩ : Rg 4931 4931 4931)) hR (fun _ _ _ _ h => h)) rfl (fun _ h => nomatch h) (fun S138 hx142 hG139 hB140 hA141 => ?_)
      obtain ⟨d143, hd144⟩ : ∃ q, Z_X10_one R (sg S) o0 (4931) ((1 <<< (((mI (sg S) 659 o0) : Int32).toInt64 &&& 63))) = q := ⟨_, rfl⟩
      have hq145 := (congrArg (fun q9 => Z_X10_one R q9 o0 (4931) ((1 <<< (((mI (sg S) 659 o0) : Int32).toInt64 &&& 63)))) (show sg S = (sg S) from rfl)).trans hd144
      have hs146 := hx142.trans hq145
      refine tt_aload_n (j := 0) dX10_workMore_58 rfl ?_
      refine tt_sipush (v := 4850) dX10_workMore_59 rfl ?_
      refine tt_sipush (v := 4848) dX10_workMore_62 rfl ?_
      refine tt_sipush (v := 4931) dX10_workMore_65 rfl ?_
      refine gt_Vv (As := [.int 4850, .int 4848, .int 4931]) dX10_workMore_68 ca_X10_244 ⟨by decide, by decide⟩ h0 hA141 rfl (Nat.le_of_ble_eq_true rfl) (Nat.le_of_ble_eq_true rfl) (by decide) (cz_X10_times hG139 (oa_af h0 hA141) (rg_w (⟨by decide, by decide⟩ : Rg 4850 4850 4850)) (rg_w (⟨by decide, by decide⟩ : Rg 4848 4848 4848)) (rg_w (⟨by decide, by decide⟩ : Rg 4931 4931 4931)) (rk_af hR hA141) (fun _ _ _ _ h => h)) rfl (fun _ h => nomatch h) (fun S147 hx151 hG148 hB149 hA150 => ?_)
      obtain ⟨d152, hd153⟩ : ∃ q, Z_X10_times R d143 o0 (4850) (4848) (4931) = q := ⟨_, rfl⟩
      have hq154 := (congrArg (fun q9 => Z_X10_times R q9 o0 (4850) (4848) (4931)) hs146).trans hd153
      have hs155 := hx151.trans hq154
      refine tt_goto (tgt := 148) dX10_workMore_71 rfl ?_
      have hF : Z_X10_workMore R (sg S) o0 = d152 := by
        subst hd153
        subst hd144
        exact zl_X10_workMore_0 q101 q136
      exact tt_vreturn dX10_workMore_148 rfl (hP _ _ _ _ ⟨hG148, hA150, Or.inl ⟨_, rfl, rfl, Eq.trans hs155 hF.symm, rfl, rfl⟩⟩)
    · skip
      have h156 : Rg 31 2147483647 (mI (sg S) 659 o0) := rg_lt_r (⟨by decide, by decide⟩ : Rg 30 30 30) (rg_all (mI (sg S) 659 o0)) (nle_lt q136)
      refine tt_aload_n (j := 0) dX10_workMore_18 rfl ?_
      have hr157 := rk_R (k := 643) hR h0 32 4940
      have ho158 := rk_O (k := 643) hG hR h0 32 4940
      refine gt_gR (id := 643) dX10_workMore_19 fl_10_13 rfl rfl h0 hA hr157 ?_
      refine tt_sipush (v := 4850) dX10_workMore_22 rfl ?_
      refine tt_aload_n (j := 0) dX10_workMore_25 rfl ?_
      refine gt_gR (id := 643) dX10_workMore_26 fl_10_13 rfl rfl h0 hA hr157 ?_
      refine tt_sipush (v := 4848) dX10_workMore_29 rfl ?_
      refine gx_iL (v := (mi (sg S) (R 643 o0) (4848 : Int32).toNatClampNeg)) dX10_workMore_32 ho158 hA (rg_in (⟨by decide, by decide⟩ : Rg 4848 4848 4848)) (sg_i (a := (R 643 o0)) (i := (4848 : Int32).toNatClampNeg) (show sg S = (sg S) from rfl)) ?_
      refine tt_if_ne (tgt := 40) dX10_workMore_33 rfl (fun q159 => ?_) (fun q159 => ?_)
      · skip
        refine tt_iconst (v := 2) dX10_workMore_40 rfl ?_
        refine gx_iS dX10_workMore_41 ho158 hA (Or.inl (by decide)) (rg_in (⟨by decide, by decide⟩ : Rg 4850 4850 4850)) hG (by decide) (show sg S = (sg S) from rfl) (fun S160 hG161 hA162 e163 => ?_)
        refine tt_goto (tgt := 148) dX10_workMore_42 rfl ?_
        have hF : Z_X10_workMore R (sg S) o0 = (ui (sg S) (R 643 o0) (4850 : Int32).toNatClampNeg 2) := by
          exact zl_X10_workMore_2 q101 q136 q159
        exact tt_vreturn dX10_workMore_148 rfl (hP _ _ _ _ ⟨hG161, hA162, Or.inl ⟨_, rfl, rfl, Eq.trans e163 hF.symm, rfl, rfl⟩⟩)
      · skip
        have h164 : Rg 0 0 (mi (sg S) (R 643 o0) (4848 : Int32).toNatClampNeg) := rg_eq_l (rg_all (mi (sg S) (R 643 o0) (4848 : Int32).toNatClampNeg)) (⟨by decide, by decide⟩ : Rg 0 0 0) q159
        refine tt_iconst (v := 0) dX10_workMore_36 rfl ?_
        refine tt_goto (tgt := 41) dX10_workMore_37 rfl ?_
        refine gx_iS dX10_workMore_41 ho158 hA (Or.inl (by decide)) (rg_in (⟨by decide, by decide⟩ : Rg 4850 4850 4850)) hG (by decide) (show sg S = (sg S) from rfl) (fun S165 hG166 hA167 e168 => ?_)
        refine tt_goto (tgt := 148) dX10_workMore_42 rfl ?_
        have hF : Z_X10_workMore R (sg S) o0 = (ui (sg S) (R 643 o0) (4850 : Int32).toNatClampNeg 0) := by
          exact zl_X10_workMore_1 q101 q136 q159
        exact tt_vreturn dX10_workMore_148 rfl (hP _ _ _ _ ⟨hG166, hA167, Or.inl ⟨_, rfl, rfl, Eq.trans e168 hF.symm, rfl, rfl⟩⟩)
theorem sl_Z_X10_work_4 : (#[92, 124, 235, 235, 154, 108, 124, 235, 235, 170, 196, 92, 108, 209, 235, 235, 235, 235, 222] : Array Int).toList = [92, 124, 235, 235, 154, 108, 124, 235, 235, 170, 196, 92, 108, 209, 235, 235, 235, 235, 222] := rfl
def Z_X10_work (R : Nat → Nat → Nat) (σ : SG) (o0 : Nat) : SG :=
  if (mI σ 655 o0) = 0 then
    let d107 := Z_X10_add R σ o0 (4850) (4848) (4849)
    d107
  else
    if (mI σ 655 o0) = 1 then
      if (mI σ 655 o0) = 6 then
        let d128 := Z_X10_or R σ o0 (4850) (4848) (4849) (1)
        d128
      else
        let d118 := Z_X10_or R σ o0 (4850) (4848) (4849) (0)
        d118
    else
      if (mI σ 655 o0) = 2 then
        let d138 := Z_X10_workMore R σ o0
        d138
      else
        if (mI σ 655 o0) = 3 then
          let d148 := Z_X10_workMore R σ o0
          d148
        else
          if (mI σ 655 o0) = 4 then
            let d158 := Z_X10_and R σ o0 (4850) (4848) (4849)
            d158
          else
            if (mI σ 655 o0) = 5 then
              let d168 := Z_X10_subtract R σ o0 (4850) (4848) (4849)
              d168
            else
              if (mI σ 655 o0) = 6 then
                let d178 := Z_X10_or R σ o0 (4850) (4848) (4849) (1)
                d178
              else
                if (mI σ 655 o0) = 7 then
                  let d188 := Z_X10_workMore R σ o0
                  d188
                else
                  if (mI σ 655 o0) = 8 then
                    let d198 := Z_X10_workMore R σ o0
                    d198
                  else
                    if (mI σ 655 o0) = 9 then
                      let d208 := Z_X10_one R σ o0 (4931) ((-1))
                      let d217 := Z_X10_subtract R d208 o0 (4850) (4931) (4848)
                      d217
                    else
                      if (mI σ 655 o0) = 10 then
                        let d227 := Z_X10_negate R σ o0 (4850) (4848)
                        d227
                      else
                        if (mI σ 655 o0) = 11 then
                          let d237 := Z_X10_add R σ o0 (4850) (4848) (4849)
                          d237
                        else
                          if (mI σ 655 o0) = 12 then
                            let d247 := Z_X10_subtract R σ o0 (4850) (4848) (4849)
                            d247
                          else
                            if (mI σ 655 o0) = 13 then
                              let d257 := Z_X10_copy R σ o0 (4850) (4849)
                              d257
                            else
                              if (mI σ 655 o0) = 14 then
                                let d267 := Z_X10_workMore R σ o0
                                d267
                              else
                                if (mI σ 655 o0) = 15 then
                                  let d277 := Z_X10_workMore R σ o0
                                  d277
                                else
                                  if (mI σ 655 o0) = 16 then
                                    let d287 := Z_X10_workMore R σ o0
                                    d287
                                  else
                                    if (mI σ 655 o0) = 17 then
                                      let d297 := Z_X10_workMore R σ o0
                                      d297
                                    else
                                      if (mI σ 655 o0) = 18 then
                                        let d307 := Z_X10_signed R σ o0 (4850) (4849)
                                        d307
                                      else
                                        let d335 := Z_X10_workMore R σ o0
                                        d335
theorem zl_X10_work_0 {R : Nat → Nat → Nat} {σ : SG} {o0 : Nat} (h0 : (mI σ 655 o0) = 0) : Z_X10_work R σ o0 = (Z_X10_add R σ o0 (4850) (4848) (4849)) := by unfold Z_X10_work; exact if_pos h0
theorem zl_X10_work_1 {R : Nat → Nat → Nat} {σ : SG} {o0 : Nat} (h0 : ¬ (mI σ 655 o0) = 0) (h1 : (mI σ 655 o0) = 1) (h2 : (mI σ 655 o0) = 6) : Z_X10_work R σ o0 = (Z_X10_or R σ o0 (4850) (4848) (4849) (1)) := by unfold Z_X10_work; exact Eq.trans (if_neg h0) (Eq.trans (if_pos h1) (if_pos h2))
theorem zl_X10_work_2 {R : Nat → Nat → Nat} {σ : SG} {o0 : Nat} (h0 : ¬ (mI σ 655 o0) = 0) (h1 : (mI σ 655 o0) = 1) (h2 : ¬ (mI σ 655 o0) = 6) : Z_X10_work R σ o0 = (Z_X10_or R σ o0 (4850) (4848) (4849) (0)) := by unfold Z_X10_work; exact Eq.trans (if_neg h0) (Eq.trans (if_pos h1) (if_neg h2))
theorem zl_X10_work_3 {R : Nat → Nat → Nat} {σ : SG} {o0 : Nat} (h0 : ¬ (mI σ 655 o0) = 0) (h1 : ¬ (mI σ 655 o0) = 1) (h2 : (mI σ 655 o0) = 2) : Z_X10_work R σ o0 = (Z_X10_workMore R σ o0) := by unfold Z_X10_work; exact Eq.trans (if_neg h0) (Eq.trans (if_neg h1) (if_pos h2))
theorem zl_X10_work_4 {R : Nat → Nat → Nat} {σ : SG} {o0 : Nat} (h0 : ¬ (mI σ 655 o0) = 0) (h1 : ¬ (mI σ 655 o0) = 1) (h2 : ¬ (mI σ 655 o0) = 2) (h3 : (mI σ 655 o0) = 3) : Z_X10_work R σ o0 = (Z_X10_workMore R σ o0) := by unfold Z_X10_work; exact Eq.trans (if_neg h0) (Eq.trans (if_neg h1) (Eq.trans (if_neg h2) (if_pos h3)))
theorem zl_X10_work_5 {R : Nat → Nat → Nat} {σ : SG} {o0 : Nat} (h0 : ¬ (mI σ 655 o0) = 0) (h1 : ¬ (mI σ 655 o0) = 1) (h2 : ¬ (mI σ 655 o0) = 2) (h3 : ¬ (mI σ 655 o0) = 3) (h4 : (mI σ 655 o0) = 4) : Z_X10_work R σ o0 = (Z_X10_and R σ o0 (4850) (4848) (4849)) := by unfold Z_X10_work; exact Eq.trans (if_neg h0) (Eq.trans (if_neg h1) (Eq.trans (if_neg h2) (Eq.trans (if_neg h3) (if_pos h4))))
theorem zl_X10_work_6 {R : Nat → Nat → Nat} {σ : SG} {o0 : Nat} (h0 : ¬ (mI σ 655 o0) = 0) (h1 : ¬ (mI σ 655 o0) = 1) (h2 : ¬ (mI σ 655 o0) = 2) (h3 : ¬ (mI σ 655 o0) = 3) (h4 : ¬ (mI σ 655 o0) = 4) (h5 : (mI σ 655 o0) = 5) : Z_X10_work R σ o0 = (Z_X10_subtract R σ o0 (4850) (4848) (4849)) := by unfold Z_X10_work; exact Eq.trans (if_neg h0) (Eq.trans (if_neg h1) (Eq.trans (if_neg h2) (Eq.trans (if_neg h3) (Eq.trans (if_neg h4) (if_pos h5)))))
theorem zl_X10_work_7 {R : Nat → Nat → Nat} {σ : SG} {o0 : Nat} (h0 : ¬ (mI σ 655 o0) = 0) (h1 : ¬ (mI σ 655 o0) = 1) (h2 : ¬ (mI σ 655 o0) = 2) (h3 : ¬ (mI σ 655 o0) = 3) (h4 : ¬ (mI σ 655 o0) = 4) (h5 : ¬ (mI σ 655 o0) = 5) (h6 : (mI σ 655 o0) = 6) : Z_X10_work R σ o0 = (Z_X10_or R σ o0 (4850) (4848) (4849) (1)) := by unfold Z_X10_work; exact Eq.trans (if_neg h0) (Eq.trans (if_neg h1) (Eq.trans (if_neg h2) (Eq.trans (if_neg h3) (Eq.trans (if_neg h4) (Eq.trans (if_neg h5) (if_pos h6))))))
theorem zl_X10_work_8 {R : Nat → Nat → Nat} {σ : SG} {o0 : Nat} (h0 : ¬ (mI σ 655 o0) = 0) (h1 : ¬ (mI σ 655 o0) = 1) (h2 : ¬ (mI σ 655 o0) = 2) (h3 : ¬ (mI σ 655 o0) = 3) (h4 : ¬ (mI σ 655 o0) = 4) (h5 : ¬ (mI σ 655 o0) = 5) (h6 : ¬ (mI σ 655 o0) = 6) (h7 : (mI σ 655 o0) = 7) : Z_X10_work R σ o0 = (Z_X10_workMore R σ o0) := by unfold Z_X10_work; exact Eq.trans (if_neg h0) (Eq.trans (if_neg h1) (Eq.trans (if_neg h2) (Eq.trans (if_neg h3) (Eq.trans (if_neg h4) (Eq.trans (if_neg h5) (Eq.trans (if_neg h6) (if_pos h7)))))))
theorem zl_X10_work_9 {R : Nat → Nat → Nat} {σ : SG} {o0 : Nat} (h0 : ¬ (mI σ 655 o0) = 0) (h1 : ¬ (mI σ 655 o0) = 1) (h2 : ¬ (mI σ 655 o0) = 2) (h3 : ¬ (mI σ 655 o0) = 3) (h4 : ¬ (mI σ 655 o0) = 4) (h5 : ¬ (mI σ 655 o0) = 5) (h6 : ¬ (mI σ 655 o0) = 6) (h7 : ¬ (mI σ 655 o0) = 7) (h8 : (mI σ 655 o0) = 8) : Z_X10_work R σ o0 = (Z_X10_workMore R σ o0) := by unfold Z_X10_work; exact Eq.trans (if_neg h0) (Eq.trans (if_neg h1) (Eq.trans (if_neg h2) (Eq.trans (if_neg h3) (Eq.trans (if_neg h4) (Eq.trans (if_neg h5) (Eq.trans (if_neg h6) (Eq.trans (if_neg h7) (if_pos h8))))))))
theorem zl_X10_work_10 {R : Nat → Nat → Nat} {σ : SG} {o0 : Nat} (h0 : ¬ (mI σ 655 o0) = 0) (h1 : ¬ (mI σ 655 o0) = 1) (h2 : ¬ (mI σ 655 o0) = 2) (h3 : ¬ (mI σ 655 o0) = 3) (h4 : ¬ (mI σ 655 o0) = 4) (h5 : ¬ (mI σ 655 o0) = 5) (h6 : ¬ (mI σ 655 o0) = 6) (h7 : ¬ (mI σ 655 o0) = 7) (h8 : ¬ (mI σ 655 o0) = 8) (h9 : (mI σ 655 o0) = 9) : Z_X10_work R σ o0 = (Z_X10_subtract R (Z_X10_one R σ o0 (4931) ((-1))) o0 (4850) (4931) (4848)) := by unfold Z_X10_work; exact Eq.trans (if_neg h0) (Eq.trans (if_neg h1) (Eq.trans (if_neg h2) (Eq.trans (if_neg h3) (Eq.trans (if_neg h4) (Eq.trans (if_neg h5) (Eq.trans (if_neg h6) (Eq.trans (if_neg h7) (Eq.trans (if_neg h8) (if_pos h9)))))))))
theorem zl_X10_work_11 {R : Nat → Nat → Nat} {σ : SG} {o0 : Nat} (h0 : ¬ (mI σ 655 o0) = 0) (h1 : ¬ (mI σ 655 o0) = 1) (h2 : ¬ (mI σ 655 o0) = 2) (h3 : ¬ (mI σ 655 o0) = 3) (h4 : ¬ (mI σ 655 o0) = 4) (h5 : ¬ (mI σ 655 o0) = 5) (h6 : ¬ (mI σ 655 o0) = 6) (h7 : ¬ (mI σ 655 o0) = 7) (h8 : ¬ (mI σ 655 o0) = 8) (h9 : ¬ (mI σ 655 o0) = 9) (h10 : (mI σ 655 o0) = 10) : Z_X10_work R σ o0 = (Z_X10_negate R σ o0 (4850) (4848)) := by unfold Z_X10_work; exact Eq.trans (if_neg h0) (Eq.trans (if_neg h1) (Eq.trans (if_neg h2) (Eq.trans (if_neg h3) (Eq.trans (if_neg h4) (Eq.trans (if_neg h5) (Eq.trans (if_neg h6) (Eq.trans (if_neg h7) (Eq.trans (if_neg h8) (Eq.trans (if_neg h9) (if_pos h10))))))))))
theorem zl_X10_work_12 {R : Nat → Nat → Nat} {σ : SG} {o0 : Nat} (h0 : ¬ (mI σ 655 o0) = 0) (h1 : ¬ (mI σ 655 o0) = 1) (h2 : ¬ (mI σ 655 o0) = 2) (h3 : ¬ (mI σ 655 o0) = 3) (h4 : ¬ (mI σ 655 o0) = 4) (h5 : ¬ (mI σ 655 o0) = 5) (h6 : ¬ (mI σ 655 o0) = 6) (h7 : ¬ (mI σ 655 o0) = 7) (h8 : ¬ (mI σ 655 o0) = 8) (h9 : ¬ (mI σ 655 o0) = 9) (h10 : ¬ (mI σ 655 o0) = 10) (h11 : (mI σ 655 o0) = 11) : Z_X10_work R σ o0 = (Z_X10_add R σ o0 (4850) (4848) (4849)) := by unfold Z_X10_work; exact Eq.trans (if_neg h0) (Eq.trans (if_neg h1) (Eq.trans (if_neg h2) (Eq.trans (if_neg h3) (Eq.trans (if_neg h4) (Eq.trans (if_neg h5) (Eq.trans (if_neg h6) (Eq.trans (if_neg h7) (Eq.trans (if_neg h8) (Eq.trans (if_neg h9) (Eq.trans (if_neg h10) (if_pos h11)))))))))))
theorem zl_X10_work_13 {R : Nat → Nat → Nat} {σ : SG} {o0 : Nat} (h0 : ¬ (mI σ 655 o0) = 0) (h1 : ¬ (mI σ 655 o0) = 1) (h2 : ¬ (mI σ 655 o0) = 2) (h3 : ¬ (mI σ 655 o0) = 3) (h4 : ¬ (mI σ 655 o0) = 4) (h5 : ¬ (mI σ 655 o0) = 5) (h6 : ¬ (mI σ 655 o0) = 6) (h7 : ¬ (mI σ 655 o0) = 7) (h8 : ¬ (mI σ 655 o0) = 8) (h9 : ¬ (mI σ 655 o0) = 9) (h10 : ¬ (mI σ 655 o0) = 10) (h11 : ¬ (mI σ 655 o0) = 11) (h12 : (mI σ 655 o0) = 12) : Z_X10_work R σ o0 = (Z_X10_subtract R σ o0 (4850) (4848) (4849)) := by unfold Z_X10_work; exact Eq.trans (if_neg h0) (Eq.trans (if_neg h1) (Eq.trans (if_neg h2) (Eq.trans (if_neg h3) (Eq.trans (if_neg h4) (Eq.trans (if_neg h5) (Eq.trans (if_neg h6) (Eq.trans (if_neg h7) (Eq.trans (if_neg h8) (Eq.trans (if_neg h9) (Eq.trans (if_neg h10) (Eq.trans (if_neg h11) (if_pos h12))))))))))))
theorem zl_X10_work_14 {R : Nat → Nat → Nat} {σ : SG} {o0 : Nat} (h0 : ¬ (mI σ 655 o0) = 0) (h1 : ¬ (mI σ 655 o0) = 1) (h2 : ¬ (mI σ 655 o0) = 2) (h3 : ¬ (mI σ 655 o0) = 3) (h4 : ¬ (mI σ 655 o0) = 4) (h5 : ¬ (mI σ 655 o0) = 5) (h6 : ¬ (mI σ 655 o0) = 6) (h7 : ¬ (mI σ 655 o0) = 7) (h8 : ¬ (mI σ 655 o0) = 8) (h9 : ¬ (mI σ 655 o0) = 9) (h10 : ¬ (mI σ 655 o0) = 10) (h11 : ¬ (mI σ 655 o0) = 11) (h12 : ¬ (mI σ 655 o0) = 12) (h13 : (mI σ 655 o0) = 13) : Z_X10_work R σ o0 = (Z_X10_copy R σ o0 (4850) (4849)) := by unfold Z_X10_work; exact Eq.trans (if_neg h0) (Eq.trans (if_neg h1) (Eq.trans (if_neg h2) (Eq.trans (if_neg h3) (Eq.trans (if_neg h4) (Eq.trans (if_neg h5) (Eq.trans (if_neg h6) (Eq.trans (if_neg h7) (Eq.trans (if_neg h8) (Eq.trans (if_neg h9) (Eq.trans (if_neg h10) (Eq.trans (if_neg h11) (Eq.trans (if_neg h12) (if_pos h13)))))))))))))
theorem zl_X10_work_15 {R : Nat → Nat → Nat} {σ : SG} {o0 : Nat} (h0 : ¬ (mI σ 655 o0) = 0) (h1 : ¬ (mI σ 655 o0) = 1) (h2 : ¬ (mI σ 655 o0) = 2) (h3 : ¬ (mI σ 655 o0) = 3) (h4 : ¬ (mI σ 655 o0) = 4) (h5 : ¬ (mI σ 655 o0) = 5) (h6 : ¬ (mI σ 655 o0) = 6) (h7 : ¬ (mI σ 655 o0) = 7) (h8 : ¬ (mI σ 655 o0) = 8) (h9 : ¬ (mI σ 655 o0) = 9) (h10 : ¬ (mI σ 655 o0) = 10) (h11 : ¬ (mI σ 655 o0) = 11) (h12 : ¬ (mI σ 655 o0) = 12) (h13 : ¬ (mI σ 655 o0) = 13) (h14 : (mI σ 655 o0) = 14) : Z_X10_work R σ o0 = (Z_X10_workMore R σ o0) := by unfold Z_X10_work; exact Eq.trans (if_neg h0) (Eq.trans (if_neg h1) (Eq.trans (if_neg h2) (Eq.trans (if_neg h3) (Eq.trans (if_neg h4) (Eq.trans (if_neg h5) (Eq.trans (if_neg h6) (Eq.trans (if_neg h7) (Eq.trans (if_neg h8) (Eq.trans (if_neg h9) (Eq.trans (if_neg h10) (Eq.trans (if_neg h11) (Eq.trans (if_neg h12) (Eq.trans (if_neg h13) (if_pos h14))))))))))))))
theorem zl_X10_work_16 {R : Nat → Nat → Nat} {σ : SG} {o0 : Nat} (h0 : ¬ (mI σ 655 o0) = 0) (h1 : ¬ (mI σ 655 o0) = 1) (h2 : ¬ (mI σ 655 o0) = 2) (h3 : ¬ (mI σ 655 o0) = 3) (h4 : ¬ (mI σ 655 o0) = 4) (h5 : ¬ (mI σ 655 o0) = 5) (h6 : ¬ (mI σ 655 o0) = 6) (h7 : ¬ (mI σ 655 o0) = 7) (h8 : ¬ (mI σ 655 o0) = 8) (h9 : ¬ (mI σ 655 o0) = 9) (h10 : ¬ (mI σ 655 o0) = 10) (h11 : ¬ (mI σ 655 o0) = 11) (h12 : ¬ (mI σ 655 o0) = 12) (h13 : ¬ (mI σ 655 o0) = 13) (h14 : ¬ (mI σ 655 o0) = 14) (h15 : (mI σ 655 o0) = 15) : Z_X10_work R σ o0 = (Z_X10_workMore R σ o0) := by unfold Z_X10_work; exact Eq.trans (if_neg h0) (Eq.trans (if_neg h1) (Eq.trans (if_neg h2) (Eq.trans (if_neg h3) (Eq.trans (if_neg h4) (Eq.trans (if_neg h5) (Eq.trans (if_neg h6) (Eq.trans (if_neg h7) (Eq.trans (if_neg h8) (Eq.trans (if_neg h9) (Eq.trans (if_neg h10) (Eq.trans (if_neg h11) (Eq.trans (if_neg h12) (Eq.trans (if_neg h13) (Eq.trans (if_neg h14) (if_pos h15)))))))))))))))
theorem zl_X10_work_17 {R : Nat → Nat → Nat} {σ : SG} {o0 : Nat} (h0 : ¬ (mI σ 655 o0) = 0) (h1 : ¬ (mI σ 655 o0) = 1) (h2 : ¬ (mI σ 655 o0) = 2) (h3 : ¬ (mI σ 655 o0) = 3) (h4 : ¬ (mI σ 655 o0) = 4) (h5 : ¬ (mI σ 655 o0) = 5) (h6 : ¬ (mI σ 655 o0) = 6) (h7 : ¬ (mI σ 655 o0) = 7) (h8 : ¬ (mI σ 655 o0) = 8) (h9 : ¬ (mI σ 655 o0) = 9) (h10 : ¬ (mI σ 655 o0) = 10) (h11 : ¬ (mI σ 655 o0) = 11) (h12 : ¬ (mI σ 655 o0) = 12) (h13 : ¬ (mI σ 655 o0) = 13) (h14 : ¬ (mI σ 655 o0) = 14) (h15 : ¬ (mI σ 655 o0) = 15) (h16 : (mI σ 655 o0) = 16) : Z_X10_work R σ o0 = (Z_X10_workMore R σ o0) := by unfold Z_X10_work; exact Eq.trans (if_neg h0) (Eq.trans (if_neg h1) (Eq.trans (if_neg h2) (Eq.trans (if_neg h3) (Eq.trans (if_neg h4) (Eq.trans (if_neg h5) (Eq.trans (if_neg h6) (Eq.trans (if_neg h7) (Eq.trans (if_neg h8) (Eq.trans (if_neg h9) (Eq.trans (if_neg h10) (Eq.trans (if_neg h11) (Eq.trans (if_neg h12) (Eq.trans (if_neg h13) (Eq.trans (if_neg h14) (Eq.trans (if_neg h15) (if_pos h16))))))))))))))))
theorem zl_X10_work_18 {R : Nat → Nat → Nat} {σ : SG} {o0 : Nat} (h0 : ¬ (mI σ 655 o0) = 0) (h1 : ¬ (mI σ 655 o0) = 1) (h2 : ¬ (mI σ 655 o0) = 2) (h3 : ¬ (mI σ 655 o0) = 3) (h4 : ¬ (mI σ 655 o0) = 4) (h5 : ¬ (mI σ 655 o0) = 5) (h6 : ¬ (mI σ 655 o0) = 6) (h7 : ¬ (mI σ 655 o0) = 7) (h8 : ¬ (mI σ 655 o0) = 8) (h9 : ¬ (mI σ 655 o0) = 9) (h10 : ¬ (mI σ 655 o0) = 10) (h11 : ¬ (mI σ 655 o0) = 11) (h12 : ¬ (mI σ 655 o0) = 12) (h13 : ¬ (mI σ 655 o0) = 13) (h14 : ¬ (mI σ 655 o0) = 14) (h15 : ¬ (mI σ 655 o0) = 15) (h16 : ¬ (mI σ 655 o0) = 16) (h17 : (mI σ 655 o0) = 17) : Z_X10_work R σ o0 = (Z_X10_workMore R σ o0) := by unfold Z_X10_work; exact Eq.trans (if_neg h0) (Eq.trans (if_neg h1) (Eq.trans (if_neg h2) (Eq.trans (if_neg h3) (Eq.trans (if_neg h4) (Eq.trans (if_neg h5) (Eq.trans (if_neg h6) (Eq.trans (if_neg h7) (Eq.trans (if_neg h8) (Eq.trans (if_neg h9) (Eq.trans (if_neg h10) (Eq.trans (if_neg h11) (Eq.trans (if_neg h12) (Eq.trans (if_neg h13) (Eq.trans (if_neg h14) (Eq.trans (if_neg h15) (Eq.trans (if_neg h16) (if_pos h17)))))))))))))))))
theorem zl_X10_work_19 {R : Nat → Nat → Nat} {σ : SG} {o0 : Nat} (h0 : ¬ (mI σ 655 o0) = 0) (h1 : ¬ (mI σ 655 o0) = 1) (h2 : ¬ (mI σ 655 o0) = 2) (h3 : ¬ (mI σ 655 o0) = 3) (h4 : ¬ (mI σ 655 o0) = 4) (h5 : ¬ (mI σ 655 o0) = 5) (h6 : ¬ (mI σ 655 o0) = 6) (h7 : ¬ (mI σ 655 o0) = 7) (h8 : ¬ (mI σ 655 o0) = 8) (h9 : ¬ (mI σ 655 o0) = 9) (h10 : ¬ (mI σ 655 o0) = 10) (h11 : ¬ (mI σ 655 o0) = 11) (h12 : ¬ (mI σ 655 o0) = 12) (h13 : ¬ (mI σ 655 o0) = 13) (h14 : ¬ (mI σ 655 o0) = 14) (h15 : ¬ (mI σ 655 o0) = 15) (h16 : ¬ (mI σ 655 o0) = 16) (h17 : ¬ (mI σ 655 o0) = 17) (h18 : (mI σ 655 o0) = 18) : Z_X10_work R σ o0 = (Z_X10_signed R σ o0 (4850) (4849)) := by unfold Z_X10_work; exact Eq.trans (if_neg h0) (Eq.trans (if_neg h1) (Eq.trans (if_neg h2) (Eq.trans (if_neg h3) (Eq.trans (if_neg h4) (Eq.trans (if_neg h5) (Eq.trans (if_neg h6) (Eq.trans (if_neg h7) (Eq.trans (if_neg h8) (Eq.trans (if_neg h9) (Eq.trans (if_neg h10) (Eq.trans (if_neg h11) (Eq.trans (if_neg h12) (Eq.trans (if_neg h13) (Eq.trans (if_neg h14) (Eq.trans (if_neg h15) (Eq.trans (if_neg h16) (Eq.trans (if_neg h17) (if_pos h18))))))))))))))))))
theorem zl_X10_work_20 {R : Nat → Nat → Nat} {σ : SG} {o0 : Nat} (h0 : ¬ (mI σ 655 o0) = 0) (h1 : ¬ (mI σ 655 o0) = 1) (h2 : ¬ (mI σ 655 o0) = 2) (h3 : ¬ (mI σ 655 o0) = 3) (h4 : ¬ (mI σ 655 o0) = 4) (h5 : ¬ (mI σ 655 o0) = 5) (h6 : ¬ (mI σ 655 o0) = 6) (h7 : ¬ (mI σ 655 o0) = 7) (h8 : ¬ (mI σ 655 o0) = 8) (h9 : ¬ (mI σ 655 o0) = 9) (h10 : ¬ (mI σ 655 o0) = 10) (h11 : ¬ (mI σ 655 o0) = 11) (h12 : ¬ (mI σ 655 o0) = 12) (h13 : ¬ (mI σ 655 o0) = 13) (h14 : ¬ (mI σ 655 o0) = 14) (h15 : ¬ (mI σ 655 o0) = 15) (h16 : ¬ (mI σ 655 o0) = 16) (h17 : ¬ (mI σ 655 o0) = 17) (h18 : ¬ (mI σ 655 o0) = 18) : Z_X10_work R σ o0 = (Z_X10_workMore R σ o0) := by unfold Z_X10_work; exact Eq.trans (if_neg h0) (Eq.trans (if_neg h1) (Eq.trans (if_neg h2) (Eq.trans (if_neg h3) (Eq.trans (if_neg h4) (Eq.trans (if_neg h5) (Eq.trans (if_neg h6) (Eq.trans (if_neg h7) (Eq.trans (if_neg h8) (Eq.trans (if_neg h9) (Eq.trans (if_neg h10) (Eq.trans (if_neg h11) (Eq.trans (if_neg h12) (Eq.trans (if_neg h13) (Eq.trans (if_neg h14) (Eq.trans (if_neg h15) (Eq.trans (if_neg h16) (Eq.trans (if_neg h17) (if_neg h18))))))))))))))))))
set_option maxHeartbeats 40000000 in
theorem cz_X10_work {xi : SX} {S : Hp} {E : List Nat} {kc nc : Nat} {P : Po} {o0 : Nat} {R : Nat → Nat → Nat} (hG : GI S E) (h0 : Oa S E 10 0 o0) (hR : RK S R) (hP : ∀ r T x y, PV E [9989] S kc nc rV (fun v T => sg T = Z_X10_work R (sg S) o0) [] r T x y → P r T x y) : TT xi M_X10_work 0 [(0, .ref o0)] [] S kc nc P := by
  have hA : Af E [9989] S S := af_rf
  refine tt_aload_n (j := 0) dX10_work_0 rfl ?_
  refine gt_gI (id := 655) (v := (mI (sg S) 655 o0)) dX10_work_1 fl_10_107 rfl rfl h0 hA (sg_I (k := 655) (o := o0) (show sg S = (sg S) from rfl)) ?_
  refine gt_by (c := (mI (sg S) 655 o0) = 0) (fun q101 => ?_) (fun q101 => ?_)
  · skip
    refine gt_tseqL (off := 92) (tgt := 96) 0 0 dX10_work_4 sl_Z_X10_work_4 q101 rfl (by decide) (by decide) rfl rfl ?_
    refine tt_aload_n (j := 0) dX10_work_96 rfl ?_
    refine tt_sipush (v := 4850) dX10_work_97 rfl ?_
    refine tt_sipush (v := 4848) dX10_work_100 rfl ?_
    refine tt_sipush (v := 4849) dX10_work_103 rfl ?_
    refine gt_Vv (As := [.int 4850, .int 4848, .int 4849]) dX10_work_106 ca_X10_186 ⟨by decide, by decide⟩ h0 hA rfl (Nat.le_of_ble_eq_true rfl) (Nat.le_of_ble_eq_true rfl) (by decide) (cz_X10_add hG (oa_af h0 hA) (rg_w (⟨by decide, by decide⟩ : Rg 4850 4850 4850)) (rg_w (⟨by decide, by decide⟩ : Rg 4848 4848 4848)) (rg_w (⟨by decide, by decide⟩ : Rg 4849 4849 4849)) hR (fun _ _ _ _ h => h)) rfl (fun _ h => nomatch h) (fun S102 hx106 hG103 hB104 hA105 => ?_)
    obtain ⟨d107, hd108⟩ : ∃ q, Z_X10_add R (sg S) o0 (4850) (4848) (4849) = q := ⟨_, rfl⟩
    have hq109 := (congrArg (fun q9 => Z_X10_add R q9 o0 (4850) (4848) (4849)) (show sg S = (sg S) from rfl)).trans hd108
    have hs110 := hx106.trans hq109
    refine tt_goto (tgt := 243) dX10_work_109 rfl ?_
    have hF : Z_X10_work R (sg S) o0 = d107 := by
      subst hd108
      exact zl_X10_work_0 q101
    exact tt_vreturn dX10_work_243 rfl (hP _ _ _ _ ⟨hG103, hA105, Or.inl ⟨_, rfl, rfl, Eq.trans hs110 hF.symm, rfl, rfl⟩⟩)
  refine gt_by (c := (mI (sg S) 655 o0) = 1) (fun q111 => ?_) (fun q111 => ?_)
  · skip
    refine gt_tseqL (off := 124) (tgt := 128) 1 1 dX10_work_4 sl_Z_X10_work_4 q111 rfl (by decide) (by decide) rfl rfl ?_
    refine tt_aload_n (j := 0) dX10_work_128 rfl ?_
    refine tt_sipush (v := 4850) dX10_work_129 rfl ?_
    refine tt_sipush (v := 4848) dX10_work_132 rfl ?_
    refine tt_sipush (v := 4849) dX10_work_135 rfl ?_
    refine tt_aload_n (j := 0) dX10_work_138 rfl ?_
    refine gt_gI (id := 655) (v := (mI (sg S) 655 o0)) dX10_work_139 fl_10_107 rfl rfl h0 hA (sg_I (k := 655) (o := o0) (show sg S = (sg S) from rfl)) ?_
    refine tt_bipush (v := 6) dX10_work_142 rfl ?_
    refine tt_icmp_ne (tgt := 151) dX10_work_144 rfl (fun q112 => ?_) (fun q112 => ?_)
    · skip
      refine tt_iconst (v := 0) dX10_work_151 rfl ?_
      refine gt_Vv (As := [.int 4850, .int 4848, .int 4849, .int 0]) dX10_work_152 ca_X10_234 ⟨by decide, by decide⟩ h0 hA rfl (Nat.le_of_ble_eq_true rfl) (Nat.le_of_ble_eq_true rfl) (by decide) (cz_X10_or hG (oa_af h0 hA) (rg_w (⟨by decide, by decide⟩ : Rg 4850 4850 4850)) (rg_w (⟨by decide, by decide⟩ : Rg 4848 4848 4848)) (rg_w (⟨by decide, by decide⟩ : Rg 4849 4849 4849)) (rg_w (⟨by decide, by decide⟩ : Rg 0 0 0)) hR (fun _ _ _ _ h => h)) rfl (fun _ h => nomatch h) (fun S113 hx117 hG114 hB115 hA116 => ?_)
      obtain ⟨d118, hd119⟩ : ∃ q, Z_X10_or R (sg S) o0 (4850) (4848) (4849) (0) = q := ⟨_, rfl⟩
      have hq120 := (congrArg (fun q9 => Z_X10_or R q9 o0 (4850) (4848) (4849) (0)) (show sg S = (sg S) from rfl)).trans hd119
      have hs121 := hx117.trans hq120
      refine tt_goto (tgt := 243) dX10_work_155 rfl ?_
      have hF : Z_X10_work R (sg S) o0 = d118 := by
        subst hd119
        exact zl_X10_work_2 q101 q111 q112
      exact tt_vreturn dX10_work_243 rfl (hP _ _ _ _ ⟨hG114, hA116, Or.inl ⟨_, rfl, rfl, Eq.trans hs121 hF.symm, rfl, rfl⟩⟩)
    · skip
      have h122 : Rg 6 6 (mI (sg S) 655 o0) := rg_eq_l (rg_all (mI (sg S) 655 o0)) (⟨by decide, by decide⟩ : Rg 6 6 6) q112
      refine tt_iconst (v := 1) dX10_work_147 rfl ?_
      refine tt_goto (tgt := 152) dX10_work_148 rfl ?_
      refine gt_Vv (As := [.int 4850, .int 4848, .int 4849, .int 1]) dX10_work_152 ca_X10_234 ⟨by decide, by decide⟩ h0 hA rfl (Nat.le_of_ble_eq_true rfl) (Nat.le_of_ble_eq_true rfl) (by decide) (cz_X10_or hG (oa_af h0 hA) (rg_w (⟨by decide, by decide⟩ : Rg 4850 4850 4850)) (rg_w (⟨by decide, by decide⟩ : Rg 4848 4848 4848)) (rg_w (⟨by decide, by decide⟩ : Rg 4849 4849 4849)) (rg_w (⟨by decide, by decide⟩ : Rg 1 1 1)) hR (fun _ _ _ _ h => h)) rfl (fun _ h => nomatch h) (fun S123 hx127 hG124 hB125 hA126 => ?_)
      obtain ⟨d128, hd129⟩ : ∃ q, Z_X10_or R (sg S) o0 (4850) (4848) (4849) (1) = q := ⟨_, rfl⟩
      have hq130 := (congrArg (fun q9 => Z_X10_or R q9 o0 (4850) (4848) (4849) (1)) (show sg S = (sg S) from rfl)).trans hd129
      have hs131 := hx127.trans hq130
      refine tt_goto (tgt := 243) dX10_work_155 rfl ?_
      have hF : Z_X10_work R (sg S) o0 = d128 := by
        subst hd129
        exact zl_X10_work_1 q101 q111 q112
      exact tt_vreturn dX10_work_243 rfl (hP _ _ _ _ ⟨hG124, hA126, Or.inl ⟨_, rfl, rfl, Eq.trans hs131 hF.symm, rfl, rfl⟩⟩)
  refine gt_by (c := (mI (sg S) 655 o0) = 2) (fun q132 => ?_) (fun q132 => ?_)
  · skip
    refine gt_tseqL (off := 235) (tgt := 239) 2 2 dX10_work_4 sl_Z_X10_work_4 q132 rfl (by decide) (by decide) rfl rfl ?_
    refine tt_aload_n (j := 0) dX10_work_239 rfl ?_
    refine gt_Vv (As := []) dX10_work_240 ca_X10_241 ⟨by decide, by decide⟩ h0 hA rfl (Nat.le_of_ble_eq_true rfl) (Nat.le_of_ble_eq_true rfl) (by decide) (cz_X10_workMore hG (oa_af h0 hA) hR (fun _ _ _ _ h => h)) rfl (fun _ h => nomatch h) (fun S133 hx137 hG134 hB135 hA136 => ?_)
    obtain ⟨d138, hd139⟩ : ∃ q, Z_X10_workMore R (sg S) o0 = q := ⟨_, rfl⟩
    have hq140 := (congrArg (fun q9 => Z_X10_workMore R q9 o0) (show sg S = (sg S) from rfl)).trans hd139
    have hs141 := hx137.trans hq140
    have hF : Z_X10_work R (sg S) o0 = d138 := by
      subst hd139
      exact zl_X10_work_3 q101 q111 q132
    exact tt_vreturn dX10_work_243 rfl (hP _ _ _ _ ⟨hG134, hA136, Or.inl ⟨_, rfl, rfl, Eq.trans hs141 hF.symm, rfl, rfl⟩⟩)
  refine gt_by (c := (mI (sg S) 655 o0) = 3) (fun q142 => ?_) (fun q142 => ?_)
  · skip
    refine gt_tseqL (off := 235) (tgt := 239) 3 3 dX10_work_4 sl_Z_X10_work_4 q142 rfl (by decide) (by decide) rfl rfl ?_
    refine tt_aload_n (j := 0) dX10_work_239 rfl ?_
    refine gt_Vv (As := []) dX10_work_240 ca_X10_241 ⟨by decide, by decide⟩ h0 hA rfl (Nat.le_of_ble_eq_true rfl) (Nat.le_of_ble_eq_true rfl) (by decide) (cz_X10_workMore hG (oa_af h0 hA) hR (fun _ _ _ _ h => h)) rfl (fun _ h => nomatch h) (fun S143 hx147 hG144 hB145 hA146 => ?_)
    obtain ⟨d148, hd149⟩ : ∃ q, Z_X10_workMore R (sg S) o0 = q := ⟨_, rfl⟩
    have hq150 := (congrArg (fun q9 => Z_X10_workMore R q9 o0) (show sg S = (sg S) from rfl)).trans hd149
    have hs151 := hx147.trans hq150
    have hF : Z_X10_work R (sg S) o0 = d148 := by
      subst hd149
      exact zl_X10_work_4 q101 q111 q132 q142
    exact tt_vreturn dX10_work_243 rfl (hP _ _ _ _ ⟨hG144, hA146, Or.inl ⟨_, rfl, rfl, Eq.trans hs151 hF.symm, rfl, rfl⟩⟩)
  refine gt_by (c := (mI (sg S) 655 o0) = 4) (fun q152 => ?_) (fun q152 => ?_)
  · skip
    refine gt_tseqL (off := 154) (tgt := 158) 4 4 dX10_work_4 sl_Z_X10_work_4 q152 rfl (by decide) (by decide) rfl rfl ?_
    refine tt_aload_n (j := 0) dX10_work_158 rfl ?_
    refine tt_sipush (v := 4850) dX10_work_159 rfl ?_
    refine tt_sipush (v := 4848) dX10_work_162 rfl ?_
    refine tt_sipush (v := 4849) dX10_work_165 rfl ?_
    refine gt_Vv (As := [.int 4850, .int 4848, .int 4849]) dX10_work_168 ca_X10_238 ⟨by decide, by decide⟩ h0 hA rfl (Nat.le_of_ble_eq_true rfl) (Nat.le_of_ble_eq_true rfl) (by decide) (cz_X10_and hG (oa_af h0 hA) (rg_w (⟨by decide, by decide⟩ : Rg 4850 4850 4850)) (rg_w (⟨by decide, by decide⟩ : Rg 4848 4848 4848)) (rg_w (⟨by decide, by decide⟩ : Rg 4849 4849 4849)) hR (fun _ _ _ _ h => h)) rfl (fun _ h => nomatch h) (fun S153 hx157 hG154 hB155 hA156 => ?_)
    obtain ⟨d158, hd159⟩ : ∃ q, Z_X10_and R (sg S) o0 (4850) (4848) (4849) = q := ⟨_, rfl⟩
    have hq160 := (congrArg (fun q9 => Z_X10_and R q9 o0 (4850) (4848) (4849)) (show sg S = (sg S) from rfl)).trans hd159
    have hs161 := hx157.trans hq160
    refine tt_goto (tgt := 243) dX10_work_171 rfl ?_
    have hF : Z_X10_work R (sg S) o0 = d158 := by
      subst hd159
      exact zl_X10_work_5 q101 q111 q132 q142 q152
    exact tt_vreturn dX10_work_243 rfl (hP _ _ _ _ ⟨hG154, hA156, Or.inl ⟨_, rfl, rfl, Eq.trans hs161 hF.symm, rfl, rfl⟩⟩)
  refine gt_by (c := (mI (sg S) 655 o0) = 5) (fun q162 => ?_) (fun q162 => ?_)
  · skip
    refine gt_tseqL (off := 108) (tgt := 112) 5 5 dX10_work_4 sl_Z_X10_work_4 q162 rfl (by decide) (by decide) rfl rfl ?_
    refine tt_aload_n (j := 0) dX10_work_112 rfl ?_
    refine tt_sipush (v := 4850) dX10_work_113 rfl ?_
    refine tt_sipush (v := 4848) dX10_work_116 rfl ?_
    refine tt_sipush (v := 4849) dX10_work_119 rfl ?_
    refine gt_Vv (As := [.int 4850, .int 4848, .int 4849]) dX10_work_122 ca_X10_231 ⟨by decide, by decide⟩ h0 hA rfl (Nat.le_of_ble_eq_true rfl) (Nat.le_of_ble_eq_true rfl) (by decide) (cz_X10_subtract hG (oa_af h0 hA) (rg_w (⟨by decide, by decide⟩ : Rg 4850 4850 4850)) (rg_w (⟨by decide, by decide⟩ : Rg 4848 4848 4848)) (rg_w (⟨by decide, by decide⟩ : Rg 4849 4849 4849)) hR (fun _ _ _ _ h => h)) rfl (fun _ h => nomatch h) (fun S163 hx167 hG164 hB165 hA166 => ?_)
    obtain ⟨d168, hd169⟩ : ∃ q, Z_X10_subtract R (sg S) o0 (4850) (4848) (4849) = q := ⟨_, rfl⟩
    have hq170 := (congrArg (fun q9 => Z_X10_subtract R q9 o0 (4850) (4848) (4849)) (show sg S = (sg S) from rfl)).trans hd169
    have hs171 := hx167.trans hq170
    refine tt_goto (tgt := 243) dX10_work_125 rfl ?_
    have hF : Z_X10_work R (sg S) o0 = d168 := by
      subst hd169
      exact zl_X10_work_6 q101 q111 q132 q142 q152 q162
    exact tt_vreturn dX10_work_243 rfl (hP _ _ _ _ ⟨hG164, hA166, Or.inl ⟨_, rfl, rfl, Eq.trans hs171 hF.symm, rfl, rfl⟩⟩)
  refine gt_by (c := (mI (sg S) 655 o0) = 6) (fun q172 => ?_) (fun q172 => ?_)
  · skip
    refine gt_tseqL (off := 124) (tgt := 128) 6 6 dX10_work_4 sl_Z_X10_work_4 q172 rfl (by decide) (by decide) rfl rfl ?_
    refine tt_aload_n (j := 0) dX10_work_128 rfl ?_
    refine tt_sipush (v := 4850) dX10_work_129 rfl ?_
    refine tt_sipush (v := 4848) dX10_work_132 rfl ?_
    refine tt_sipush (v := 4849) dX10_work_135 rfl ?_
    refine tt_aload_n (j := 0) dX10_work_138 rfl ?_
    refine gt_gI (id := 655) (v := (mI (sg S) 655 o0)) dX10_work_139 fl_10_107 rfl rfl h0 hA (sg_I (k := 655) (o := o0) (show sg S = (sg S) from rfl)) ?_
    refine tt_bipush (v := 6) dX10_work_142 rfl ?_
    refine tt_icmp_ne (tgt := 151) dX10_work_144 rfl (fun q => absurd q172 q) (fun _ => ?_)
    refine tt_iconst (v := 1) dX10_work_147 rfl ?_
    refine tt_goto (tgt := 152) dX10_work_148 rfl ?_
    refine gt_Vv (As := [.int 4850, .int 4848, .int 4849, .int 1]) dX10_work_152 ca_X10_234 ⟨by decide, by decide⟩ h0 hA rfl (Nat.le_of_ble_eq_true rfl) (Nat.le_of_ble_eq_true rfl) (by decide) (cz_X10_or hG (oa_af h0 hA) (rg_w (⟨by decide, by decide⟩ : Rg 4850 4850 4850)) (rg_w (⟨by decide, by decide⟩ : Rg 4848 4848 4848)) (rg_w (⟨by decide, by decide⟩ : Rg 4849 4849 4849)) (rg_w (⟨by decide, by decide⟩ : Rg 1 1 1)) hR (fun _ _ _ _ h => h)) rfl (fun _ h => nomatch h) (fun S173 hx177 hG174 hB175 hA176 => ?_)
    obtain ⟨d178, hd179⟩ : ∃ q, Z_X10_or R (sg S) o0 (4850) (4848) (4849) (1) = q := ⟨_, rfl⟩
    have hq180 := (congrArg (fun q9 => Z_X10_or R q9 o0 (4850) (4848) (4849) (1)) (show sg S = (sg S) from rfl)).trans hd179
    have hs181 := hx177.trans hq180
    refine tt_goto (tgt := 243) dX10_work_155 rfl ?_
    have hF : Z_X10_work R (sg S) o0 = d178 := by
      subst hd179
      exact zl_X10_work_7 q101 q111 q132 q142 q152 q162 q172
    exact tt_vreturn dX10_work_243 rfl (hP _ _ _ _ ⟨hG174, hA176, Or.inl ⟨_, rfl, rfl, Eq.trans hs181 hF.symm, rfl, rfl⟩⟩)
  refine gt_by (c := (mI (sg S) 655 o0) = 7) (fun q182 => ?_) (fun q182 => ?_)
  · skip
    refine gt_tseqL (off := 235) (tgt := 239) 7 7 dX10_work_4 sl_Z_X10_work_4 q182 rfl (by decide) (by decide) rfl rfl ?_
    refine tt_aload_n (j := 0) dX10_work_239 rfl ?_
    refine gt_Vv (As := []) dX10_work_240 ca_X10_241 ⟨by decide, by decide⟩ h0 hA rfl (Nat.le_of_ble_eq_true rfl) (Nat.le_of_ble_eq_true rfl) (by decide) (cz_X10_workMore hG (oa_af h0 hA) hR (fun _ _ _ _ h => h)) rfl (fun _ h => nomatch h) (fun S183 hx187 hG184 hB185 hA186 => ?_)
    obtain ⟨d188, hd189⟩ : ∃ q, Z_X10_workMore R (sg S) o0 = q := ⟨_, rfl⟩
    have hq190 := (congrArg (fun q9 => Z_X10_workMore R q9 o0) (show sg S = (sg S) from rfl)).trans hd189
    have hs191 := hx187.trans hq190
    have hF : Z_X10_work R (sg S) o0 = d188 := by
      subst hd189
      exact zl_X10_work_8 q101 q111 q132 q142 q152 q162 q172 q182
    exact tt_vreturn dX10_work_243 rfl (hP _ _ _ _ ⟨hG184, hA186, Or.inl ⟨_, rfl, rfl, Eq.trans hs191 hF.symm, rfl, rfl⟩⟩)
  refine gt_by (c := (mI (sg S) 655 o0) = 8) (fun q192 => ?_) (fun q192 => ?_)
  · skip
    refine gt_tseqL (off := 235) (tgt := 239) 8 8 dX10_work_4 sl_Z_X10_work_4 q192 rfl (by decide) (by decide) rfl rfl ?_
    refine tt_aload_n (j := 0) dX10_work_239 rfl ?_
    refine gt_Vv (As := []) dX10_work_240 ca_X10_241 ⟨by decide, by decide⟩ h0 hA rfl (Nat.le_of_ble_eq_true rfl) (Nat.le_of_ble_eq_true rfl) (by decide) (cz_X10_workMore hG (oa_af h0 hA) hR (fun _ _ _ _ h => h)) rfl (fun _ h => nomatch h) (fun S193 hx197 hG194 hB195 hA196 => ?_)
    obtain ⟨d198, hd199⟩ : ∃ q, Z_X10_workMore R (sg S) o0 = q := ⟨_, rfl⟩
    have hq200 := (congrArg (fun q9 => Z_X10_workMore R q9 o0) (show sg S = (sg S) from rfl)).trans hd199
    have hs201 := hx197.trans hq200
    have hF : Z_X10_work R (sg S) o0 = d198 := by
      subst hd199
      exact zl_X10_work_9 q101 q111 q132 q142 q152 q162 q172 q182 q192
    exact tt_vreturn dX10_work_243 rfl (hP _ _ _ _ ⟨hG194, hA196, Or.inl ⟨_, rfl, rfl, Eq.trans hs201 hF.symm, rfl, rfl⟩⟩)
  refine gt_by (c := (mI (sg S) 655 o0) = 9) (fun q202 => ?_) (fun q202 => ?_)
  · skip
    refine gt_tseqL (off := 170) (tgt := 174) 9 9 dX10_work_4 sl_Z_X10_work_4 q202 rfl (by decide) (by decide) rfl rfl ?_
    refine tt_aload_n (j := 0) dX10_work_174 rfl ?_
    refine tt_sipush (v := 4931) dX10_work_175 rfl ?_
    refine tt_ldc2 (v := (-1)) dX10_work_178 kl_10_204 ?_
    refine gt_Vv (As := [.int 4931, .long (-1)]) dX10_work_181 ca_X10_193 ⟨by decide, by decide⟩ h0 hA rfl (Nat.le_of_ble_eq_true rfl) (Nat.le_of_ble_eq_true rfl) (by decide) (cz_X10_one hG (oa_af h0 hA) (rg_w (⟨by decide, by decide⟩ : Rg 4931 4931 4931)) hR (fun _ _ _ _ h => h)) rfl (fun _ h => nomatch h) (fun S203 hx207 hG204 hB205 hA206 => ?_)
    obtain ⟨d208, hd209⟩ : ∃ q, Z_X10_one R (sg S) o0 (4931) ((-1)) = q := ⟨_, rfl⟩
    have hq210 := (congrArg (fun q9 => Z_X10_one R q9 o0 (4931) ((-1))) (show sg S = (sg S) from rfl)).trans hd209
    have hs211 := hx207.trans hq210
    refine tt_aload_n (j := 0) dX10_work_184 rfl ?_
    refine tt_sipush (v := 4850) dX10_work_185 rfl ?_
    refine tt_sipush (v := 4931) dX10_work_188 rfl ?_
    refine tt_sipush (v := 4848) dX10_work_191 rfl ?_
    refine gt_Vv (As := [.int 4850, .int 4931, .int 4848]) dX10_work_194 ca_X10_231 ⟨by decide, by decide⟩ h0 hA206 rfl (Nat.le_of_ble_eq_true rfl) (Nat.le_of_ble_eq_true rfl) (by decide) (cz_X10_subtract hG204 (oa_af h0 hA206) (rg_w (⟨by decide, by decide⟩ : Rg 4850 4850 4850)) (rg_w (⟨by decide, by decide⟩ : Rg 4931 4931 4931)) (rg_w (⟨by decide, by decide⟩ : Rg 4848 4848 4848)) (rk_af hR hA206) (fun _ _ _ _ h => h)) rfl (fun _ h => nomatch h) (fun S212 hx216 hG213 hB214 hA215 => ?_)
    obtain ⟨d217, hd218⟩ : ∃ q, Z_X10_subtract R d208 o0 (4850) (4931) (4848) = q := ⟨_, rfl⟩
    have hq219 := (congrArg (fun q9 => Z_X10_subtract R q9 o0 (4850) (4931) (4848)) hs211).trans hd218
    have hs220 := hx216.trans hq219
    refine tt_goto (tgt := 243) dX10_work_197 rfl ?_
    have hF : Z_X10_work R (sg S) o0 = d217 := by
      subst hd218
      subst hd209
      exact zl_X10_work_10 q101 q111 q132 q142 q152 q162 q172 q182 q192 q202
    exact tt_vreturn dX10_work_243 rfl (hP _ _ _ _ ⟨hG213, hA215, Or.inl ⟨_, rfl, rfl, Eq.trans hs220 hF.symm, rfl, rfl⟩⟩)
  refine gt_by (c := (mI (sg S) 655 o0) = 10) (fun q221 => ?_) (fun q221 => ?_)
  · skip
    refine gt_tseqL (off := 196) (tgt := 200) 10 10 dX10_work_4 sl_Z_X10_work_4 q221 rfl (by decide) (by decide) rfl rfl ?_
    refine tt_aload_n (j := 0) dX10_work_200 rfl ?_
    refine tt_sipush (v := 4850) dX10_work_201 rfl ?_
    refine tt_sipush (v := 4848) dX10_work_204 rfl ?_
    refine gt_Vv (As := [.int 4850, .int 4848]) dX10_work_207 ca_X10_183 ⟨by decide, by decide⟩ h0 hA rfl (Nat.le_of_ble_eq_true rfl) (Nat.le_of_ble_eq_true rfl) (by decide) (cz_X10_negate hG (oa_af h0 hA) (rg_w (⟨by decide, by decide⟩ : Rg 4850 4850 4850)) (rg_w (⟨by decide, by decide⟩ : Rg 4848 4848 4848)) hR (fun _ _ _ _ h => h)) rfl (fun _ h => nomatch h) (fun S222 hx226 hG223 hB224 hA225 => ?_)
    obtain ⟨d227, hd228⟩ : ∃ q, Z_X10_negate R (sg S) o0 (4850) (4848) = q := ⟨_, rfl⟩
    have hq229 := (congrArg (fun q9 => Z_X10_negate R q9 o0 (4850) (4848)) (show sg S = (sg S) from rfl)).trans hd228
    have hs230 := hx226.trans hq229
    refine tt_goto (tgt := 243) dX10_work_210 rfl ?_
    have hF : Z_X10_work R (sg S) o0 = d227 := by
      subst hd228
      exact zl_X10_work_11 q101 q111 q132 q142 q152 q162 q172 q182 q192 q202 q221
    exact tt_vreturn dX10_work_243 rfl (hP _ _ _ _ ⟨hG223, hA225, Or.inl ⟨_, rfl, rfl, Eq.trans hs230 hF.symm, rfl, rfl⟩⟩)
  refine gt_by (c := (mI (sg S) 655 o0) = 11) (fun q231 => ?_) (fun q231 => ?_)
  · skip
    refine gt_tseqL (off := 92) (tgt := 96) 11 11 dX10_work_4 sl_Z_X10_work_4 q231 rfl (by decide) (by decide) rfl rfl ?_
    refine tt_aload_n (j := 0) dX10_work_96 rfl ?_
    refine tt_sipush (v := 4850) dX10_work_97 rfl ?_
    refine tt_sipush (v := 4848) dX10_work_100 rfl ?_
    refine tt_sipush (v := 4849) dX10_work_103 rfl ?_
    refine gt_Vv (As := [.int 4850, .int 4848, .int 4849]) dX10_work_106 ca_X10_186 ⟨by decide, by decide⟩ h0 hA rfl (Nat.le_of_ble_eq_true rfl) (Nat.le_of_ble_eq_true rfl) (by decide) (cz_X10_add hG (oa_af h0 hA) (rg_w (⟨by decide, by decide⟩ : Rg 4850 4850 4850)) (rg_w (⟨by decide, by decide⟩ : Rg 4848 4848 4848)) (rg_w (⟨by decide, by decide⟩ : Rg 4849 4849 4849)) hR (fun _ _ _ _ h => h)) rfl (fun _ h => nomatch h) (fun S232 hx236 hG233 hB234 hA235 => ?_)
    obtain ⟨d237, hd238⟩ : ∃ q, Z_X10_add R (sg S) o0 (4850) (4848) (4849) = q := ⟨_, rfl⟩
    have hq239 := (congrArg (fun q9 => Z_X10_add R q9 o0 (4850) (4848) (4849)) (show sg S = (sg S) from rfl)).trans hd238
    have hs240 := hx236.trans hq239
    refine tt_goto (tgt := 243) dX10_work_109 rfl ?_
    have hF : Z_X10_work R (sg S) o0 = d237 := by
      subst hd238
      exact zl_X10_work_12 q101 q111 q132 q142 q152 q162 q172 q182 q192 q202 q221 q231
    exact tt_vreturn dX10_work_243 rfl (hP _ _ _ _ ⟨hG233, hA235, Or.inl ⟨_, rfl, rfl, Eq.trans hs240 hF.symm, rfl, rfl⟩⟩)
  refine gt_by (c := (mI (sg S) 655 o0) = 12) (fun q241 => ?_) (fun q241 => ?_)
  · skip
    refine gt_tseqL (off := 108) (tgt := 112) 12 12 dX10_work_4 sl_Z_X10_work_4 q241 rfl (by decide) (by decide) rfl rfl ?_
    refine tt_aload_n (j := 0) dX10_work_112 rfl ?_
    refine tt_sipush (v := 4850) dX10_work_113 rfl ?_
    refine tt_sipush (v := 4848) dX10_work_116 rfl ?_
    refine tt_sipush (v := 4849) dX10_work_119 rfl ?_
    refine gt_Vv (As := [.int 4850, .int 4848, .int 4849]) dX10_work_122 ca_X10_231 ⟨by decide, by decide⟩ h0 hA rfl (Nat.le_of_ble_eq_true rfl) (Nat.le_of_ble_eq_true rfl) (by decide) (cz_X10_subtract hG (oa_af h0 hA) (rg_w (⟨by decide, by decide⟩ : Rg 4850 4850 4850)) (rg_w (⟨by decide, by decide⟩ : Rg 4848 4848 4848)) (rg_w (⟨by decide, by decide⟩ : Rg 4849 4849 4849)) hR (fun _ _ _ _ h => h)) rfl (fun _ h => nomatch h) (fun S242 hx246 hG243 hB244 hA245 => ?_)
    obtain ⟨d247, hd248⟩ : ∃ q, Z_X10_subtract R (sg S) o0 (4850) (4848) (4849) = q := ⟨_, rfl⟩
    have hq249 := (congrArg (fun q9 => Z_X10_subtract R q9 o0 (4850) (4848) (4849)) (show sg S = (sg S) from rfl)).trans hd248
    have hs250 := hx246.trans hq249
    refine tt_goto (tgt := 243) dX10_work_125 rfl ?_
    have hF : Z_X10_work R (sg S) o0 = d247 := by
      subst hd248
      exact zl_X10_work_13 q101 q111 q132 q142 q152 q162 q172 q182 q192 q202 q221 q231 q241
    exact tt_vreturn dX10_work_243 rfl (hP _ _ _ _ ⟨hG243, hA245, Or.inl ⟨_, rfl, rfl, Eq.trans hs250 hF.symm, rfl, rfl⟩⟩)
  refine gt_by (c := (mI (sg S) 655 o0) = 13) (fun q251 => ?_) (fun q251 => ?_)
  · skip
    refine gt_tseqL (off := 209) (tgt := 213) 13 13 dX10_work_4 sl_Z_X10_work_4 q251 rfl (by decide) (by decide) rfl rfl ?_
    refine tt_aload_n (j := 0) dX10_work_213 rfl ?_
    refine tt_sipush (v := 4850) dX10_work_214 rfl ?_
    refine tt_sipush (v := 4849) dX10_work_217 rfl ?_
    refine gt_Vv (As := [.int 4850, .int 4849]) dX10_work_220 ca_X10_169 ⟨by decide, by decide⟩ h0 hA rfl (Nat.le_of_ble_eq_true rfl) (Nat.le_of_ble_eq_true rfl) (by decide) (cz_X10_copy hG (oa_af h0 hA) (rg_w (⟨by decide, by decide⟩ : Rg 4850 4850 4850)) (rg_w (⟨by decide, by decide⟩ : Rg 4849 4849 4849)) hR (fun _ _ _ _ h => h)) rfl (fun _ h => nomatch h) (fun S252 hx256 hG253 hB254 hA255 => ?_)
    obtain ⟨d257, hd258⟩ : ∃ q, Z_X10_copy R (sg S) o0 (4850) (4849) = q := ⟨_, rfl⟩
    have hq259 := (congrArg (fun q9 => Z_X10_copy R q9 o0 (4850) (4849)) (show sg S = (sg S) from rfl)).trans hd258
    have hs260 := hx256.trans hq259
    refine tt_goto (tgt := 243) dX10_work_223 rfl ?_
    have hF : Z_X10_work R (sg S) o0 = d257 := by
      subst hd258
      exact zl_X10_work_14 q101 q111 q132 q142 q152 q162 q172 q182 q192 q202 q221 q231 q241 q251
    exact tt_vreturn dX10_work_243 rfl (hP _ _ _ _ ⟨hG253, hA255, Or.inl ⟨_, rfl, rfl, Eq.trans hs260 hF.symm, rfl, rfl⟩⟩)
  refine gt_by (c := (mI (sg S) 655 o0) = 14) (fun q261 => ?_) (fun q261 => ?_)
  · skip
    refine gt_tseqL (off := 235) (tgt := 239) 14 14 dX10_work_4 sl_Z_X10_work_4 q261 rfl (by decide) (by decide) rfl rfl ?_
    refine tt_aload_n (j := 0) dX10_work_239 rfl ?_
    refine gt_Vv (As := []) dX10_work_240 ca_X10_241 ⟨by decide, by decide⟩ h0 hA rfl (Nat.le_of_ble_eq_true rfl) (Nat.le_of_ble_eq_true rfl) (by decide) (cz_X10_workMore hG (oa_af h0 hA) hR (fun _ _ _ _ h => h)) rfl (fun _ h => nomatch h) (fun S262 hx266 hG263 hB264 hA265 => ?_)
    obtain ⟨d267, hd268⟩ : ∃ q, Z_X10_workMore R (sg S) o0 = q := ⟨_, rfl⟩
    have hq269 := (congrArg (fun q9 => Z_X10_workMore R q9 o0) (show sg S = (sg S) from rfl)).trans hd268
    have hs270 := hx266.trans hq269
    have hF : Z_X10_work R (sg S) o0 = d267 := by
      subst hd268
      exact zl_X10_work_15 q101 q111 q132 q142 q152 q162 q172 q182 q192 q202 q221 q231 q241 q251 q261
    exact tt_vreturn dX10_work_243 rfl (hP _ _ _ _ ⟨hG263, hA265, Or.inl ⟨_, rfl, rfl, Eq.trans hs270 hF.symm, rfl, rfl⟩⟩)
  refine gt_by (c := (mI (sg S) 655 o0) = 15) (fun q271 => ?_) (fun q271 => ?_)
  · skip
    refine gt_tseqL (off := 235) (tgt := 239) 15 15 dX10_work_4 sl_Z_X10_work_4 q271 rfl (by decide) (by decide) rfl rfl ?_
    refine tt_aload_n (j := 0) dX10_work_239 rfl ?_
    refine gt_Vv (As := []) dX10_work_240 ca_X10_241 ⟨by decide, by decide⟩ h0 hA rfl (Nat.le_of_ble_eq_true rfl) (Nat.le_of_ble_eq_true rfl) (by decide) (cz_X10_workMore hG (oa_af h0 hA) hR (fun _ _ _ _ h => h)) rfl (fun _ h => nomatch h) (fun S272 hx276 hG273 hB274 hA275 => ?_)
    obtain ⟨d277, hd278⟩ : ∃ q, Z_X10_workMore R (sg S) o0 = q := ⟨_, rfl⟩
    have hq279 := (congrArg (fun q9 => Z_X10_workMore R q9 o0) (show sg S = (sg S) from rfl)).trans hd278
    have hs280 := hx276.trans hq279
    have hF : Z_X10_work R (sg S) o0 = d277 := by
      subst hd278
      exact zl_X10_work_16 q101 q111 q132 q142 q152 q162 q172 q182 q192 q202 q221 q231 q241 q251 q261 q271
    exact tt_vreturn dX10_work_243 rfl (hP _ _ _ _ ⟨hG273, hA275, Or.inl ⟨_, rfl, rfl, Eq.trans hs280 hF.symm, rfl, rfl⟩⟩)
  refine gt_by (c := (mI (sg S) 655 o0) = 16) (fun q281 => ?_) (fun q281 => ?_)
  · skip
    refine gt_tseqL (off := 235) (tgt := 239) 16 16 dX10_work_4 sl_Z_X10_work_4 q281 rfl (by decide) (by decide) rfl rfl ?_
    refine tt_aload_n (j := 0) dX10_work_239 rfl ?_
    refine gt_Vv (As := []) dX10_work_240 ca_X10_241 ⟨by decide, by decide⟩ h0 hA rfl (Nat.le_of_ble_eq_true rfl) (Nat.le_of_ble_eq_true rfl) (by decide) (cz_X10_workMore hG (oa_af h0 hA) hR (fun _ _ _ _ h => h)) rfl (fun _ h => nomatch h) (fun S282 hx286 hG283 hB284 hA285 => ?_)
    obtain ⟨d287, hd288⟩ : ∃ q, Z_X10_workMore R (sg S) o0 = q := ⟨_, rfl⟩
    have hq289 := (congrArg (fun q9 => Z_X10_workMore R q9 o0) (show sg S = (sg S) from rfl)).trans hd288
    have hs290 := hx286.trans hq289
    have hF : Z_X10_work R (sg S) o0 = d287 := by
      subst hd288
      exact zl_X10_work_17 q101 q111 q132 q142 q152 q162 q172 q182 q192 q202 q221 q231 q241 q251 q261 q271 q281
    exact tt_vreturn dX10_work_243 rfl (hP _ _ _ _ ⟨hG283, hA285, Or.inl ⟨_, rfl, rfl, Eq.trans hs290 hF.symm, rfl, rfl⟩⟩)
  refine gt_by (c := (mI (sg S) 655 o0) = 17) (fun q291 => ?_) (fun q291 => ?_)
  · skip
    refine gt_tseqL (off := 235) (tgt := 239) 17 17 dX10_work_4 sl_Z_X10_work_4 q291 rfl (by decide) (by decide) rfl rfl ?_
    refine tt_aload_n (j := 0) dX10_work_239 rfl ?_
    refine gt_Vv (As := []) dX10_work_240 ca_X10_241 ⟨by decide, by decide⟩ h0 hA rfl (Nat.le_of_ble_eq_true rfl) (Nat.le_of_ble_eq_true rfl) (by decide) (cz_X10_workMore hG (oa_af h0 hA) hR (fun _ _ _ _ h => h)) rfl (fun _ h => nomatch h) (fun S292 hx296 hG293 hB294 hA295 => ?_)
    obtain ⟨d297, hd298⟩ : ∃ q, Z_X10_workMore R (sg S) o0 = q := ⟨_, rfl⟩
    have hq299 := (congrArg (fun q9 => Z_X10_workMore R q9 o0) (show sg S = (sg S) from rfl)).trans hd298
    have hs300 := hx296.trans hq299
    have hF : Z_X10_work R (sg S) o0 = d297 := by
      subst hd298
      exact zl_X10_work_18 q101 q111 q132 q142 q152 q162 q172 q182 q192 q202 q221 q231 q241 q251 q261 q271 q281 q291
    exact tt_vreturn dX10_work_243 rfl (hP _ _ _ _ ⟨hG293, hA295, Or.inl ⟨_, rfl, rfl, Eq.trans hs300 hF.symm, rfl, rfl⟩⟩)
  refine gt_by (c := (mI (sg S) 655 o0) = 18) (fun q301 => ?_) (fun q301 => ?_)
  · skip
    refine gt_tseqL (off := 222) (tgt := 226) 18 18 dX10_work_4 sl_Z_X10_work_4 q301 rfl (by decide) (by decide) rfl rfl ?_
    refine tt_aload_n (j := 0) dX10_work_226 rfl ?_
    refine tt_sipush (v := 4850) dX10_work_227 rfl ?_
    refine tt_sipush (v := 4849) dX10_work_230 rfl ?_
    refine gt_Vv (As := [.int 4850, .int 4849]) dX10_work_233 ca_X10_228 ⟨by decide, by decide⟩ h0 hA rfl (Nat.le_of_ble_eq_true rfl) (Nat.le_of_ble_eq_true rfl) (by decide) (cz_X10_signed hG (oa_af h0 hA) (rg_w (⟨by decide, by decide⟩ : Rg 4850 4850 4850)) (rg_w (⟨by decide, by decide⟩ : Rg 4849 4849 4849)) hR (fun _ _ _ _ h => h)) rfl (fun _ h => nomatch h) (fun S302 hx306 hG303 hB304 hA305 => ?_)
    obtain ⟨d307, hd308⟩ : ∃ q, Z_X10_signed R (sg S) o0 (4850) (4849) = q := ⟨_, rfl⟩
    have hq309 := (congrArg (fun q9 => Z_X10_signed R q9 o0 (4850) (4849)) (show sg S = (sg S) from rfl)).trans hd308
    have hs310 := hx306.trans hq309
    refine tt_goto (tgt := 243) dX10_work_236 rfl ?_
    have hF : Z_X10_work R (sg S) o0 = d307 := by
      subst hd308
      exact zl_X10_work_19 q101 q111 q132 q142 q152 q162 q172 q182 q192 q202 q221 q231 q241 q251 q261 q271 q281 q291 q301
    exact tt_vreturn dX10_work_243 rfl (hP _ _ _ _ ⟨hG303, hA305, Or.inl ⟨_, rfl, rfl, Eq.trans hs310 hF.symm, rfl, rfl⟩⟩)
  have g311 := ne_i (k := 0) 0 q101 rfl
  have g312 := ne_i (k := 1) 1 q111 rfl
  have g313 := ne_i (k := 2) 2 q132 rfl
  have g314 := ne_i (k := 3) 3 q142 rfl
  have g315 := ne_i (k := 4) 4 q152 rfl
  have g316 := ne_i (k := 5) 5 q162 rfl
  have g317 := ne_i (k := 6) 6 q172 rfl
  have g318 := ne_i (k := 7) 7 q182 rfl
  have g319 := ne_i (k := 8) 8 q192 rfl
  have g320 := ne_i (k := 9) 9 q202 rfl
  have g321 := ne_i (k := 10) 10 q221 rfl
  have g322 := ne_i (k := 11) 11 q231 rfl
  have g323 := ne_i (k := 12) 12 q241 rfl
  have g324 := ne_i (k := 13) 13 q251 rfl
  have g325 := ne_i (k := 14) 14 q261 rfl
  have g326 := ne_i (k := 15) 15 q271 rfl
  have g327 := ne_i (k := 16) 16 q281 rfl
  have g328 := ne_i (k := 17) 17 q291 rfl
  have g329 := ne_i (k := 18) 18 q301 rfl
  refine tt_tableOut (tgt := 239) dX10_work_4 (by omega) rfl ?_
  refine tt_aload_n (j := 0) dX10_work_239 rfl ?_
  refine gt_Vv (As := []) dX10_work_240 ca_X10_241 ⟨by decide, by decide⟩ h0 hA rfl (Nat.le_of_ble_eq_true rfl) (Nat.le_of_ble_eq_true rfl) (by decide) (cz_X10_workMore hG (oa_af h0 hA) hR (fun _ _ _ _ h => h)) rfl (fun _ h => nomatch h) (fun S330 hx334 hG331 hB332 hA333 => ?_)
  obtain ⟨d335, hd336⟩ : ∃ q, Z_X10_workMore R (sg S) o0 = q := ⟨_, rfl⟩
  have hq337 := (congrArg (fun q9 => Z_X10_workMore R q9 o0) (show sg S = (sg S) from rfl)).trans hd336
  have hs338 := hx334.trans hq337
  have hF : Z_X10_work R (sg S) o0 = d335 := by
    subst hd336
    exact zl_X10_work_20 q101 q111 q132 q142 q152 q162 q172 q182 q192 q202 q221 q231 q241 q251 q261 q271 q281 q291 q301
  exact tt_vreturn dX10_work_243 rfl (hP _ _ _ _ ⟨hG331, hA333, Or.inl ⟨_, rfl, rfl, Eq.trans hs338 hF.symm, rfl, rfl⟩⟩)
def Z_X10_note_p258 (R : Nat → Nat → Nat) (σ : SG) (o0 : Nat) (x1 : Int32) : SG :=
  if (mI σ 655 o0) = 7 then
    if (mI σ 658 o0) = (mI σ 657 o0) then
      (ui σ (R 649 o0) (201 : Int32).toNatClampNeg 0)
    else
      if (mI σ 658 o0) < 0 then
        (ui σ (R 649 o0) (201 : Int32).toNatClampNeg 2)
      else
        (ui σ (R 649 o0) (201 : Int32).toNatClampNeg 1)
  else
    if x1 = 0 then
      (ui σ (R 649 o0) (201 : Int32).toNatClampNeg 0)
    else
      (ui σ (R 649 o0) (201 : Int32).toNatClampNeg 3)
theorem zl_X10_note_p258_0 {R : Nat → Nat → Nat} {σ : SG} {o0 : Nat} {x1 : Int32} (h0 : (mI σ 655 o0) = 7) (h1 : (mI σ 658 o0) = (mI σ 657 o0)) : Z_X10_note_p258 R σ o0 x1 = (ui σ (R 649 o0) (201 : Int32).toNatClampNeg 0) := by unfold Z_X10_note_p258; exact Eq.trans (if_pos h0) (if_pos h1)
theorem zl_X10_note_p258_1 {R : Nat → Nat → Nat} {σ : SG} {o0 : Nat} {x1 : Int32} (h0 : (mI σ 655 o0) = 7) (h1 : ¬ (mI σ 658 o0) = (mI σ 657 o0)) (h2 : (mI σ 658 o0) < 0) : Z_X10_note_p258 R σ o0 x1 = (ui σ (R 649 o0) (201 : Int32).toNatClampNeg 2) := by unfold Z_X10_note_p258; exact Eq.trans (if_pos h0) (Eq.trans (if_neg h1) (if_pos h2))
theorem zl_X10_note_p258_2 {R : Nat → Nat → Nat} {σ : SG} {o0 : Nat} {x1 : Int32} (h0 : (mI σ 655 o0) = 7) (h1 : ¬ (mI σ 658 o0) = (mI σ 657 o0)) (h2 : ¬ (mI σ 658 o0) < 0) : Z_X10_note_p258 R σ o0 x1 = (ui σ (R 649 o0) (201 : Int32).toNatClampNeg 1) := by unfold Z_X10_note_p258; exact Eq.trans (if_pos h0) (Eq.trans (if_neg h1) (if_neg h2))
theorem zl_X10_note_p258_3 {R : Nat → Nat → Nat} {σ : SG} {o0 : Nat} {x1 : Int32} (h0 : ¬ (mI σ 655 o0) = 7) (h1 : x1 = 0) : Z_X10_note_p258 R σ o0 x1 = (ui σ (R 649 o0) (201 : Int32).toNatClampNeg 0) := by unfold Z_X10_note_p258; exact Eq.trans (if_neg h0) (if_pos h1)
theorem zl_X10_note_p258_4 {R : Nat → Nat → Nat} {σ : SG} {o0 : Nat} {x1 : Int32} (h0 : ¬ (mI σ 655 o0) = 7) (h1 : ¬ x1 = 0) : Z_X10_note_p258 R σ o0 x1 = (ui σ (R 649 o0) (201 : Int32).toNatClampNeg 3) := by unfold Z_X10_note_p258; exact Eq.trans (if_neg h0) (if_neg h1)
set_option maxHeartbeats 40000000 in
theorem cz_X10_note_p258 {xi : SX} {S : Hp} {E : List Nat} {kc nc : Nat} {P : Po} {o0 : Nat} {x1 : Int32} {R : Nat → Nat → Nat} (hG : GI S E) (h0 : Oa S E 10 0 o0) (h1 : Rg 0 1 x1) (hR : RK S R) (hg : Rg 0 23 (mI (sg S) 657 o0)) (ho : Rg (-1) 23 (mI (sg S) 658 o0)) (hP : ∀ r T x y, PV E [9988] S kc nc rV (fun v T => sg T = Z_X10_note_p258 R (sg S) o0 x1) [] r T x y → P r T x y) : TT xi M_X10_note 258 [(0, .ref o0), (1, .int x1)] [] S kc nc P := by
  have hA : Af E [9988] S S := af_rf
  refine tt_aload_n (j := 0) dX10_note_258 rfl ?_
  have hr101 := rk_R (k := 649) hR h0 32 202
  have ho102 := rk_O (k := 649) hG hR h0 32 202
  refine gt_gR (id := 649) dX10_note_259 fl_10_33 rfl rfl h0 hA hr101 ?_
  refine tt_sipush (v := 201) dX10_note_262 rfl ?_
  refine tt_aload_n (j := 0) dX10_note_265 rfl ?_
  refine gt_gI (id := 655) (v := (mI (sg S) 655 o0)) dX10_note_266 fl_10_107 rfl rfl h0 hA (sg_I (k := 655) (o := o0) (show sg S = (sg S) from rfl)) ?_
  refine tt_bipush (v := 7) dX10_note_269 rfl ?_
  refine tt_icmp_ne (tgt := 304) dX10_note_271 rfl (fun q103 => ?_) (fun q103 => ?_)
  · skip
    refine tt_iload_n (j := 1) dX10_note_304 rfl ?_
    refine tt_if_eq (tgt := 312) dX10_note_305 rfl (fun q104 => ?_) (fun q104 => ?_)
    · skip
      have h105 : Rg 0 0 x1 := rg_eq_l h1 (⟨by decide, by decide⟩ : Rg 0 0 0) q104
      refine tt_iconst (v := 0) dX10_note_312 rfl ?_
      refine gx_iSR dX10_note_313 ho102 hA (rg_in (⟨by decide, by decide⟩ : Rg 201 201 201)) hG (rg_w (⟨by decide, by decide⟩ : Rg 0 0 0)) (show sg S = (sg S) from rfl) (fun S106 hG107 hA108 e109 => ?_)
      have hF : Z_X10_note_p258 R (sg S) o0 x1 = (ui (sg S) (R 649 o0) (201 : Int32).toNatClampNeg 0) := by
        exact zl_X10_note_p258_3 q103 q104
      exact tt_vreturn dX10_note_314 rfl (hP _ _ _ _ ⟨hG107, hA108, Or.inl ⟨_, rfl, rfl, Eq.trans e109 hF.symm, rfl, rfl⟩⟩)
    · skip
      have h110 : Rg 1 1 x1 := rg_ne_lo h1 (⟨by decide, by decide⟩ : Rg 0 0 0) q104
      refine tt_iconst (v := 3) dX10_note_308 rfl ?_
      refine tt_goto (tgt := 313) dX10_note_309 rfl ?_
      refine gx_iSR dX10_note_313 ho102 hA (rg_in (⟨by decide, by decide⟩ : Rg 201 201 201)) hG (rg_w (⟨by decide, by decide⟩ : Rg 3 3 3)) (show sg S = (sg S) from rfl) (fun S111 hG112 hA113 e114 => ?_)
      have hF : Z_X10_note_p258 R (sg S) o0 x1 = (ui (sg S) (R 649 o0) (201 : Int32).toNatClampNeg 3) := by
        exact zl_X10_note_p258_4 q103 q104
      exact tt_vreturn dX10_note_314 rfl (hP _ _ _ _ ⟨hG112, hA113, Or.inl ⟨_, rfl, rfl, Eq.trans e114 hF.symm, rfl, rfl⟩⟩)
  · skip
    have h115 : Rg 7 7 (mI (sg S) 655 o0) := rg_eq_l (rg_all (mI (sg S) 655 o0)) (⟨by decide, by decide⟩ : Rg 7 7 7) q103
    refine tt_aload_n (j := 0) dX10_note_274 rfl ?_
    refine gt_gI (id := 658) (v := (mI (sg S) 658 o0)) dX10_note_275 fl_10_113 rfl rfl h0 hA (sg_I (k := 658) (o := o0) (show sg S = (sg S) from rfl)) ?_
    refine tt_aload_n (j := 0) dX10_note_278 rfl ?_
    refine gt_gI (id := 657) (v := (mI (sg S) 657 o0)) dX10_note_279 fl_10_110 rfl rfl h0 hA (sg_I (k := 657) (o := o0) (show sg S = (sg S) from rfl)) ?_
    refine tt_icmp_ne (tgt := 289) dX10_note_282 rfl (fun q116 => ?_) (fun q116 => ?_)
    · skip
      refine tt_aload_n (j := 0) dX10_note_289 rfl ?_
      refine gt_gI (id := 658) (v := (mI (sg S) 658 o0)) dX10_note_290 fl_10_113 rfl rfl h0 hA (sg_I (k := 658) (o := o0) (show sg S = (sg S) from rfl)) ?_
      refine tt_if_lt (tgt := 300) dX10_note_293 rfl (fun q117 => ?_) (fun q117 => ?_)
      · skip
        have h118 : Rg (-1) (-1) (mI (sg S) 658 o0) := rg_lt_l ho (⟨by decide, by decide⟩ : Rg 0 0 0) q117
        refine tt_iconst (v := 2) dX10_note_300 rfl ?_
        refine tt_goto (tgt := 313) dX10_note_301 rfl ?_
        refine gx_iSR dX10_note_313 ho102 hA (rg_in (⟨by decide, by decide⟩ : Rg 201 201 201)) hG (rg_w (⟨by decide, by decide⟩ : Rg 2 2 2)) (show sg S = (sg S) from rfl) (fun S119 hG120 hA121 e122 => ?_)
        have hF : Z_X10_note_p258 R (sg S) o0 x1 = (ui (sg S) (R 649 o0) (201 : Int32).toNatClampNeg 2) := by
          exact zl_X10_note_p258_1 q103 q116 q117
        exact tt_vreturn dX10_note_314 rfl (hP _ _ _ _ ⟨hG120, hA121, Or.inl ⟨_, rfl, rfl, Eq.trans e122 hF.symm, rfl, rfl⟩⟩)
      · skip
        have h123 : Rg 0 23 (mI (sg S) 658 o0) := rg_le_r (⟨by decide, by decide⟩ : Rg 0 0 0) ho (nlt_le q117)
        refine tt_iconst (v := 1) dX10_note_296 rfl ?_
        refine tt_goto (tgt := 313) dX10_note_297 rfl ?_
        refine gx_iSR dX10_note_313 ho102 hA (rg_in (⟨by decide, by decide⟩ : Rg 201 201 201)) hG (rg_w (⟨by decide, by decide⟩ : Rg 1 1 1)) (show sg S = (sg S) from rfl) (fun S124 hG125 hA126 e127 => ?_)
        have hF : Z_X10_note_p258 R (sg S) o0 x1 = (ui (sg S) (R 649 o0) (201 : Int32).toNatClampNeg 1) := by
          exact zl_X10_note_p258_2 q103 q116 q117
        exact tt_vreturn dX10_note_314 rfl (hP _ _ _ _ ⟨hG125, hA126, Or.inl ⟨_, rfl, rfl, Eq.trans e127 hF.symm, rfl, rfl⟩⟩)
    · skip
      have h128 : Rg 0 23 (mI (sg S) 658 o0) := rg_eq_l ho hg q116
      refine tt_iconst (v := 0) dX10_note_285 rfl ?_
      refine tt_goto (tgt := 313) dX10_note_286 rfl ?_
      refine gx_iSR dX10_note_313 ho102 hA (rg_in (⟨by decide, by decide⟩ : Rg 201 201 201)) hG (rg_w (⟨by decide, by decide⟩ : Rg 0 0 0)) (show sg S = (sg S) from rfl) (fun S129 hG130 hA131 e132 => ?_)
      have hF : Z_X10_note_p258 R (sg S) o0 x1 = (ui (sg S) (R 649 o0) (201 : Int32).toNatClampNeg 0) := by
        exact zl_X10_note_p258_0 q103 q116
      exact tt_vreturn dX10_note_314 rfl (hP _ _ _ _ ⟨hG130, hA131, Or.inl ⟨_, rfl, rfl, Eq.trans e132 hF.symm, rfl, rfl⟩⟩)
def Z_X10_note_p111 (R : Nat → Nat → Nat) (σ : SG) (o0 : Nat) : SG :=
  if (mI σ 656 o0) = 64 then
    if (mI σ 655 o0) = 0 then
      Z_X10_note_p258 R (uj (ui (ui (ui σ (R 649 o0) (201 : Int32).toNatClampNeg 0) (R 650 o0) (201 : Int32).toNatClampNeg (mI σ 657 o0)) (R 651 o0) (201 : Int32).toNatClampNeg (mI σ 658 o0)) (R 652 o0) (201 : Int32).toNatClampNeg (mJ σ 660 o0)) o0 (1)
    else
      if (mI σ 655 o0) = 5 then
        Z_X10_note_p258 R (uj (ui (ui (ui σ (R 649 o0) (201 : Int32).toNatClampNeg 0) (R 650 o0) (201 : Int32).toNatClampNeg (mI σ 657 o0)) (R 651 o0) (201 : Int32).toNatClampNeg (mI σ 658 o0)) (R 652 o0) (201 : Int32).toNatClampNeg (mJ σ 660 o0)) o0 (1)
      else
        if (mI σ 655 o0) = 4 then
          Z_X10_note_p258 R (uj (ui (ui (ui σ (R 649 o0) (201 : Int32).toNatClampNeg 0) (R 650 o0) (201 : Int32).toNatClampNeg (mI σ 657 o0)) (R 651 o0) (201 : Int32).toNatClampNeg (mI σ 658 o0)) (R 652 o0) (201 : Int32).toNatClampNeg (mJ σ 660 o0)) o0 (1)
        else
          if (mI σ 655 o0) = 1 then
            Z_X10_note_p258 R (uj (ui (ui (ui σ (R 649 o0) (201 : Int32).toNatClampNeg 0) (R 650 o0) (201 : Int32).toNatClampNeg (mI σ 657 o0)) (R 651 o0) (201 : Int32).toNatClampNeg (mI σ 658 o0)) (R 652 o0) (201 : Int32).toNatClampNeg (mJ σ 660 o0)) o0 (1)
          else
            if (mI σ 655 o0) = 6 then
              Z_X10_note_p258 R (uj (ui (ui (ui σ (R 649 o0) (201 : Int32).toNatClampNeg 0) (R 650 o0) (201 : Int32).toNatClampNeg (mI σ 657 o0)) (R 651 o0) (201 : Int32).toNatClampNeg (mI σ 658 o0)) (R 652 o0) (201 : Int32).toNatClampNeg (mJ σ 660 o0)) o0 (1)
            else
              if (mI σ 655 o0) = 11 then
                Z_X10_note_p258 R (uj (ui (ui (ui σ (R 649 o0) (201 : Int32).toNatClampNeg 0) (R 650 o0) (201 : Int32).toNatClampNeg (mI σ 657 o0)) (R 651 o0) (201 : Int32).toNatClampNeg (mI σ 658 o0)) (R 652 o0) (201 : Int32).toNatClampNeg (mJ σ 660 o0)) o0 (1)
              else
                if (mI σ 655 o0) = 12 then
                  Z_X10_note_p258 R (uj (ui (ui (ui σ (R 649 o0) (201 : Int32).toNatClampNeg 0) (R 650 o0) (201 : Int32).toNatClampNeg (mI σ 657 o0)) (R 651 o0) (201 : Int32).toNatClampNeg (mI σ 658 o0)) (R 652 o0) (201 : Int32).toNatClampNeg (mJ σ 660 o0)) o0 (1)
                else
                  if (mI σ 655 o0) = 10 then
                    Z_X10_note_p258 R (uj (ui (ui (ui σ (R 649 o0) (201 : Int32).toNatClampNeg 0) (R 650 o0) (201 : Int32).toNatClampNeg (mI σ 657 o0)) (R 651 o0) (201 : Int32).toNatClampNeg (mI σ 658 o0)) (R 652 o0) (201 : Int32).toNatClampNeg (mJ σ 660 o0)) o0 (1)
                  else
                    if (mI σ 655 o0) = 8 then
                      if (mI σ 658 o0) = (mI σ 657 o0) then
                        Z_X10_note_p258 R (uj (ui (ui (ui σ (R 649 o0) (201 : Int32).toNatClampNeg 0) (R 650 o0) (201 : Int32).toNatClampNeg (mI σ 657 o0)) (R 651 o0) (201 : Int32).toNatClampNeg (mI σ 658 o0)) (R 652 o0) (201 : Int32).toNatClampNeg (mJ σ 660 o0)) o0 (1)
                      else
                        Z_X10_note_p258 R (uj (ui (ui (ui σ (R 649 o0) (201 : Int32).toNatClampNeg 0) (R 650 o0) (201 : Int32).toNatClampNeg (mI σ 657 o0)) (R 651 o0) (201 : Int32).toNatClampNeg (mI σ 658 o0)) (R 652 o0) (201 : Int32).toNatClampNeg (mJ σ 660 o0)) o0 (0)
                    else
                      Z_X10_note_p258 R (uj (ui (ui (ui σ (R 649 o0) (201 : Int32).toNatClampNeg 0) (R 650 o0) (201 : Int32).toNatClampNeg (mI σ 657 o0)) (R 651 o0) (201 : Int32).toNatClampNeg (mI σ 658 o0)) (R 652 o0) (201 : Int32).toNatClampNeg (mJ σ 660 o0)) o0 (0)
  else
    (uj (ui (ui (ui σ (R 649 o0) (201 : Int32).toNatClampNeg 0) (R 650 o0) (201 : Int32).toNatClampNeg (mI σ 657 o0)) (R 651 o0) (201 : Int32).toNatClampNeg (mI σ 658 o0)) (R 652 o0) (201 : Int32).toNatClampNeg (mJ σ 660 o0))
theorem zl_X10_note_p111_0 {R : Nat → Nat → Nat} {σ : SG} {o0 : Nat} (h0 : (mI σ 656 o0) = 64) (h1 : (mI σ 655 o0) = 0) : Z_X10_note_p111 R σ o0 = Z_X10_note_p258 R (uj (ui (ui (ui σ (R 649 o0) (201 : Int32).toNatClampNeg 0) (R 650 o0) (201 : Int32).toNatClampNeg (mI σ 657 o0)) (R 651 o0) (201 : Int32).toNatClampNeg (mI σ 658 o0)) (R 652 o0) (201 : Int32).toNatClampNeg (mJ σ 660 o0)) o0 (1) := by unfold Z_X10_note_p111; exact Eq.trans (if_pos h0) (if_pos h1)
theorem zl_X10_note_p111_1 {R : Nat → Nat → Nat} {σ : SG} {o0 : Nat} (h0 : (mI σ 656 o0) = 64) (h1 : ¬ (mI σ 655 o0) = 0) (h2 : (mI σ 655 o0) = 5) : Z_X10_note_p111 R σ o0 = Z_X10_note_p258 R (uj (ui (ui (ui σ (R 649 o0) (201 : Int32).toNatClampNeg 0) (R 650 o0) (201 : Int32).toNatClampNeg (mI σ 657 o0)) (R 651 o0) (201 : Int32).toNatClampNeg (mI σ 658 o0)) (R 652 o0) (201 : Int32).toNatClampNeg (mJ σ 660 o0)) o0 (1) := by unfold Z_X10_note_p111; exact Eq.trans (if_pos h0) (Eq.trans (if_neg h1) (if_pos h2))
theorem zl_X10_note_p111_2 {R : Nat → Nat → Nat} {σ : SG} {o0 : Nat} (h0 : (mI σ 656 o0) = 64) (h1 : ¬ (mI σ 655 o0) = 0) (h2 : ¬ (mI σ 655 o0) = 5) (h3 : (mI σ 655 o0) = 4) : Z_X10_note_p111 R σ o0 = Z_X10_note_p258 R (uj (ui (ui (ui σ (R 649 o0) (201 : Int32).toNatClampNeg 0) (R 650 o0) (201 : Int32).toNatClampNeg (mI σ 657 o0)) (R 651 o0) (201 : Int32).toNatClampNeg (mI σ 658 o0)) (R 652 o0) (201 : Int32).toNatClampNeg (mJ σ 660 o0)) o0 (1) := by unfold Z_X10_note_p111; exact Eq.trans (if_pos h0) (Eq.trans (if_neg h1) (Eq.trans (if_neg h2) (if_pos h3)))
theorem zl_X10_note_p111_3 {R : Nat → Nat → Nat} {σ : SG} {o0 : Nat} (h0 : (mI σ 656 o0) = 64) (h1 : ¬ (mI σ 655 o0) = 0) (h2 : ¬ (mI σ 655 o0) = 5) (h3 : ¬ (mI σ 655 o0) = 4) (h4 : (mI σ 655 o0) = 1) : Z_X10_note_p111 R σ o0 = Z_X10_note_p258 R (uj (ui (ui (ui σ (R 649 o0) (201 : Int32).toNatClampNeg 0) (R 650 o0) (201 : Int32).toNatClampNeg (mI σ 657 o0)) (R 651 o0) (201 : Int32).toNatClampNeg (mI σ 658 o0)) (R 652 o0) (201 : Int32).toNatClampNeg (mJ σ 660 o0)) o0 (1) := by unfold Z_X10_note_p111; exact Eq.trans (if_pos h0) (Eq.trans (if_neg h1) (Eq.trans (if_neg h2) (Eq.trans (if_neg h3) (if_pos h4))))
theorem zl_X10_note_p111_4 {R : Nat → Nat → Nat} {σ : SG} {o0 : Nat} (h0 : (mI σ 656 o0) = 64) (h1 : ¬ (mI σ 655 o0) = 0) (h2 : ¬ (mI σ 655 o0) = 5) (h3 : ¬ (mI σ 655 o0) = 4) (h4 : ¬ (mI σ 655 o0) = 1) (h5 : (mI σ 655 o0) = 6) : Z_X10_note_p111 R σ o0 = Z_X10_note_p258 R (uj (ui (ui (ui σ (R 649 o0) (201 : Int32).toNatClampNeg 0) (R 650 o0) (201 : Int32).toNatClampNeg (mI σ 657 o0)) (R 651 o0) (201 : Int32).toNatClampNeg (mI σ 658 o0)) (R 652 o0) (201 : Int32).toNatClampNeg (mJ σ 660 o0)) o0 (1) := by unfold Z_X10_note_p111; exact Eq.trans (if_pos h0) (Eq.trans (if_neg h1) (Eq.trans (if_neg h2) (Eq.trans (if_neg h3) (Eq.trans (if_neg h4) (if_pos h5)))))
theorem zl_X10_note_p111_5 {R : Nat → Nat → Nat} {σ : SG} {o0 : Nat} (h0 : (mI σ 656 o0) = 64) (h1 : ¬ (mI σ 655 o0) = 0) (h2 : ¬ (mI σ 655 o0) = 5) (h3 : ¬ (mI σ 655 o0) = 4) (h4 : ¬ (mI σ 655 o0) = 1) (h5 : ¬ (mI σ 655 o0) = 6) (h6 : (mI σ 655 o0) = 11) : Z_X10_note_p111 R σ o0 = Z_X10_note_p258 R (uj (ui (ui (ui σ (R 649 o0) (201 : Int32).toNatClampNeg 0) (R 650 o0) (201 : Int32).toNatClampNeg (mI σ 657 o0)) (R 651 o0) (201 : Int32).toNatClampNeg (mI σ 658 o0)) (R 652 o0) (201 : Int32).toNatClampNeg (mJ σ 660 o0)) o0 (1) := by unfold Z_X10_note_p111; exact Eq.trans (if_pos h0) (Eq.trans (if_neg h1) (Eq.trans (if_neg h2) (Eq.trans (if_neg h3) (Eq.trans (if_neg h4) (Eq.trans (if_neg h5) (if_pos h6))))))
theorem zl_X10_note_p111_6 {R : Nat → Nat → Nat} {σ : SG} {o0 : Nat} (h0 : (mI σ 656 o0) = 64) (h1 : ¬ (mI σ 655 o0) = 0) (h2 : ¬ (mI σ 655 o0) = 5) (h3 : ¬ (mI σ 655 o0) = 4) (h4 : ¬ (mI σ 655 o0) = 1) (h5 : ¬ (mI σ 655 o0) = 6) (h6 : ¬ (mI σ 655 o0) = 11) (h7 : (mI σ 655 o0) = 12) : Z_X10_note_p111 R σ o0 = Z_X10_note_p258 R (uj (ui (ui (ui σ (R 649 o0) (201 : Int32).toNatClampNeg 0) (R 650 o0) (201 : Int32).toNatClampNeg (mI σ 657 o0)) (R 651 o0) (201 : Int32).toNatClampNeg (mI σ 658 o0)) (R 652 o0) (201 : Int32).toNatClampNeg (mJ σ 660 o0)) o0 (1) := by unfold Z_X10_note_p111; exact Eq.trans (if_pos h0) (Eq.trans (if_neg h1) (Eq.trans (if_neg h2) (Eq.trans (if_neg h3) (Eq.trans (if_neg h4) (Eq.trans (if_neg h5) (Eq.trans (if_neg h6) (if_pos h7)))))))
theorem zl_X10_note_p111_7 {R : Nat → Nat → Nat} {σ : SG} {o0 : Nat} (h0 : (mI σ 656 o0) = 64) (h1 : ¬ (mI σ 655 o0) = 0) (h2 : ¬ (mI σ 655 o0) = 5) (h3 : ¬ (mI σ 655 o0) = 4) (h4 : ¬ (mI σ 655 o0) = 1) (h5 : ¬ (mI σ 655 o0) = 6) (h6 : ¬ (mI σ 655 o0) = 11) (h7 : ¬ (mI σ 655 o0) = 12) (h8 : (mI σ 655 o0) = 10) : Z_X10_note_p111 R σ o0 = Z_X10_note_p258 R (uj (ui (ui (ui σ (R 649 o0) (201 : Int32).toNatClampNeg 0) (R 650 o0) (201 : Int32).toNatClampNeg (mI σ 657 o0)) (R 651 o0) (201 : Int32).toNatClampNeg (mI σ 658 o0)) (R 652 o0) (201 : Int32).toNatClampNeg (mJ σ 660 o0)) o0 (1) := by unfold Z_X10_note_p111; exact Eq.trans (if_pos h0) (Eq.trans (if_neg h1) (Eq.trans (if_neg h2) (Eq.trans (if_neg h3) (Eq.trans (if_neg h4) (Eq.trans (if_neg h5) (Eq.trans (if_neg h6) (Eq.trans (if_neg h7) (if_pos h8))))))))
theorem zl_X10_note_p111_8 {R : Nat → Nat → Nat} {σ : SG} {o0 : Nat} (h0 : (mI σ 656 o0) = 64) (h1 : ¬ (mI σ 655 o0) = 0) (h2 : ¬ (mI σ 655 o0) = 5) (h3 : ¬ (mI σ 655 o0) = 4) (h4 : ¬ (mI σ 655 o0) = 1) (h5 : ¬ (mI σ 655 o0) = 6) (h6 : ¬ (mI σ 655 o0) = 11) (h7 : ¬ (mI σ 655 o0) = 12) (h8 : ¬ (mI σ 655 o0) = 10) (h9 : (mI σ 655 o0) = 8) (h10 : (mI σ 658 o0) = (mI σ 657 o0)) : Z_X10_note_p111 R σ o0 = Z_X10_note_p258 R (uj (ui (ui (ui σ (R 649 o0) (201 : Int32).toNatClampNeg 0) (R 650 o0) (201 : Int32).toNatClampNeg (mI σ 657 o0)) (R 651 o0) (201 : Int32).toNatClampNeg (mI σ 658 o0)) (R 652 o0) (201 : Int32).toNatClampNeg (mJ σ 660 o0)) o0 (1) := by unfold Z_X10_note_p111; exact Eq.trans (if_pos h0) (Eq.trans (if_neg h1) (Eq.trans (if_neg h2) (Eq.trans (if_neg h3) (Eq.trans (if_neg h4) (Eq.trans (if_neg h5) (Eq.trans (if_neg h6) (Eq.trans (if_neg h7) (Eq.trans (if_neg h8) (Eq.trans (if_pos h9) (if_pos h10))))))))))
theorem zl_X10_note_p111_9 {R : Nat → Nat → Nat} {σ : SG} {o0 : Nat} (h0 : (mI σ 656 o0) = 64) (h1 : ¬ (mI σ 655 o0) = 0) (h2 : ¬ (mI σ 655 o0) = 5) (h3 : ¬ (mI σ 655 o0) = 4) (h4 : ¬ (mI σ 655 o0) = 1) (h5 : ¬ (mI σ 655 o0) = 6) (h6 : ¬ (mI σ 655 o0) = 11) (h7 : ¬ (mI σ 655 o0) = 12) (h8 : ¬ (mI σ 655 o0) = 10) (h9 : (mI σ 655 o0) = 8) (h10 : ¬ (mI σ 658 o0) = (mI σ 657 o0)) : Z_X10_note_p111 R σ o0 = Z_X10_note_p258 R (uj (ui (ui (ui σ (R 649 o0) (201 : Int32).toNatClampNeg 0) (R 650 o0) (201 : Int32).toNatClampNeg (mI σ 657 o0)) (R 651 o0) (201 : Int32).toNatClampNeg (mI σ 658 o0)) (R 652 o0) (201 : Int32).toNatClampNeg (mJ σ 660 o0)) o0 (0) := by unfold Z_X10_note_p111; exact Eq.trans (if_pos h0) (Eq.trans (if_neg h1) (Eq.trans (if_neg h2) (Eq.trans (if_neg h3) (Eq.trans (if_neg h4) (Eq.trans (if_neg h5) (Eq.trans (if_neg h6) (Eq.trans (if_neg h7) (Eq.trans (if_neg h8) (Eq.trans (if_pos h9) (if_neg h10))))))))))
theorem zl_X10_note_p111_10 {R : Nat → Nat → Nat} {σ : SG} {o0 : Nat} (h0 : (mI σ 656 o0) = 64) (h1 : ¬ (mI σ 655 o0) = 0) (h2 : ¬ (mI σ 655 o0) = 5) (h3 : ¬ (mI σ 655 o0) = 4) (h4 : ¬ (mI σ 655 o0) = 1) (h5 : ¬ (mI σ 655 o0) = 6) (h6 : ¬ (mI σ 655 o0) = 11) (h7 : ¬ (mI σ 655 o0) = 12) (h8 : ¬ (mI σ 655 o0) = 10) (h9 : ¬ (mI σ 655 o0) = 8) : Z_X10_note_p111 R σ o0 = Z_X10_note_p258 R (uj (ui (ui (ui σ (R 649 o0) (201 : Int32).toNatClampNeg 0) (R 650 o0) (201 : Int32).toNatClampNeg (mI σ 657 o0)) (R 651 o0) (201 : Int32).toNatClampNeg (mI σ 658 o0)) (R 652 o0) (201 : Int32).toNatClampNeg (mJ σ 660 o0)) o0 (0) := by unfold Z_X10_note_p111; exact Eq.trans (if_pos h0) (Eq.trans (if_neg h1) (Eq.trans (if_neg h2) (Eq.trans (if_neg h3) (Eq.trans (if_neg h4) (Eq.trans (if_neg h5) (Eq.trans (if_neg h6) (Eq.trans (if_neg h7) (Eq.trans (if_neg h8) (if_neg h9)))))))))
theorem zl_X10_note_p111_11 {R : Nat → Nat → Nat} {σ : SG} {o0 : Nat} (h0 : ¬ (mI σ 656 o0) = 64) : Z_X10_note_p111 R σ o0 = (uj (ui (ui (ui σ (R 649 o0) (201 : Int32).toNatClampNeg 0) (R 650 o0) (201 : Int32).toNatClampNeg (mI σ 657 o0)) (R 651 o0) (201 : Int32).toNatClampNeg (mI σ 658 o0)) (R 652 o0) (201 : Int32).toNatClampNeg (mJ σ 660 o0)) := by unfold Z_X10_note_p111; exact if_neg h0
set_option maxHeartbeats 40000000 in
theorem cz_X10_note_p111 {xi : SX} {S : Hp} {E : List Nat} {kc nc : Nat} {P : Po} {o0 : Nat} {R : Nat → Nat → Nat} (hG : GI S E) (h0 : Oa S E 10 0 o0) (hR : RK S R) (hg : Rg 0 23 (mI (sg S) 657 o0)) (ho : Rg (-1) 23 (mI (sg S) 658 o0)) (hP : ∀ r T x y, PV E [9988] S kc nc rV (fun v T => sg T = Z_X10_note_p111 R (sg S) o0) [] r T x y → P r T x y) : TT xi M_X10_note 111 [(0, .ref o0)] [] S kc nc P := by
  have hA : Af E [9988] S S := af_rf
  refine tt_aload_n (j := 0) dX10_note_111 rfl ?_
  have hr101 := rk_R (k := 649) hR h0 32 202
  have ho102 := rk_O (k := 649) hG hR h0 32 202
  refine gt_gR (id := 649) dX10_note_112 fl_10_33 rfl rfl h0 hA hr101 ?_
  refine tt_sipush (v := 201) dX10_note_115 rfl ?_
  refine tt_iconst (v := 0) dX10_note_118 rfl ?_
  refine gx_iSR dX10_note_119 ho102 hA (rg_in (⟨by decide, by decide⟩ : Rg 201 201 201)) hG (rg_w (⟨by decide, by decide⟩ : Rg 0 0 0)) (show sg S = (sg S) from rfl) (fun S103 hG104 hA105 e106 => ?_)
  refine tt_aload_n (j := 0) dX10_note_120 rfl ?_
  have hr107 := rk_R (k := 650) hR h0 32 202
  have ho108 := rk_O (k := 650) hG hR h0 32 202
  refine gt_gR (id := 650) dX10_note_121 fl_10_36 rfl rfl h0 hA105 hr107 ?_
  refine tt_sipush (v := 201) dX10_note_124 rfl ?_
  refine tt_aload_n (j := 0) dX10_note_127 rfl ?_
  refine gt_gI (id := 657) (v := (mI (sg S) 657 o0)) dX10_note_128 fl_10_110 rfl rfl h0 hA105 (show hp_I S103 657 o0 = mI (sg S) 657 o0 from i_af (k := 657) h0 hA105) ?_
  refine gx_iSR dX10_note_131 ho108 hA105 (rg_in (⟨by decide, by decide⟩ : Rg 201 201 201)) hG104 (rg_w hg) e106 (fun S109 hG110 hA111 e112 => ?_)
  refine tt_aload_n (j := 0) dX10_note_132 rfl ?_
  have hr113 := rk_R (k := 651) hR h0 32 202
  have ho114 := rk_O (k := 651) hG hR h0 32 202
  refine gt_gR (id := 651) dX10_note_133 fl_10_39 rfl rfl h0 hA111 hr113 ?_
  refine tt_sipush (v := 201) dX10_note_136 rfl ?_
  refine tt_aload_n (j := 0) dX10_note_139 rfl ?_
  refine gt_gI (id := 658) (v := (mI (sg S) 658 o0)) dX10_note_140 fl_10_113 rfl rfl h0 hA111 (show hp_I S109 658 o0 = mI (sg S) 658 o0 from i_af (k := 658) h0 hA111) ?_
  refine gx_iSR dX10_note_143 ho114 hA111 (rg_in (⟨by decide, by decide⟩ : Rg 201 201 201)) hG110 (rg_w ho) e112 (fun S115 hG116 hA117 e118 => ?_)
  refine tt_aload_n (j := 0) dX10_note_144 rfl ?_
  have hr119 := rk_R (k := 652) hR h0 33 202
  have ho120 := rk_O (k := 652) hG hR h0 33 202
  refine gt_gR (id := 652) dX10_note_145 fl_10_42 rfl rfl h0 hA117 hr119 ?_
  refine tt_sipush (v := 201) dX10_note_148 rfl ?_
  refine tt_aload_n (j := 0) dX10_note_151 rfl ?_
  refine gt_gJ (id := 660) (v := (mJ (sg S) 660 o0)) dX10_note_152 fl_10_116 rfl rfl h0 hA117 ((((sg_J (k := 660) (o := o0) e118).trans (show mJ _ 660 o0 = mJ (ui (ui (sg S) (R 649 o0) (201 : Int32).toNatClampNeg 0) (R 650 o0) (201 : Int32).toNatClampNeg (mI (sg S) 657 o0)) 660 o0 from rfl)).trans (show mJ _ 660 o0 = mJ (ui (sg S) (R 649 o0) (201 : Int32).toNatClampNeg 0) 660 o0 from rfl)).trans (show mJ _ 660 o0 = mJ (sg S) 660 o0 from rfl)) ?_
  refine gx_lS dX10_note_155 ho120 hA117 (rg_in (⟨by decide, by decide⟩ : Rg 201 201 201)) hG116 (Or.inl (by decide)) (Or.inl (by decide)) e118 (fun S121 hG122 hA123 e124 => ?_)
  refine tt_aload_n (j := 0) dX10_note_156 rfl ?_
  refine gt_gI (id := 656) (v := (mI (sg S) 656 o0)) dX10_note_157 fl_10_127 rfl rfl h0 hA123 (show hp_I S121 656 o0 = mI (sg S) 656 o0 from i_af (k := 656) h0 hA123) ?_
  refine tt_bipush (v := 64) dX10_note_160 rfl ?_
  refine tt_icmp_ne (tgt := 314) dX10_note_162 rfl (fun q125 => ?_) (fun q125 => ?_)
  · skip
    have hF : Z_X10_note_p111 R (sg S) o0 = (uj (ui (ui (ui (sg S) (R 649 o0) (201 : Int32).toNatClampNeg 0) (R 650 o0) (201 : Int32).toNatClampNeg (mI (sg S) 657 o0)) (R 651 o0) (201 : Int32).toNatClampNeg (mI (sg S) 658 o0)) (R 652 o0) (201 : Int32).toNatClampNeg (mJ (sg S) 660 o0)) := by
      exact zl_X10_note_p111_11 q125
    exact tt_vreturn dX10_note_314 rfl (hP _ _ _ _ ⟨hG122, hA123, Or.inl ⟨_, rfl, rfl, Eq.trans e124 hF.symm, rfl, rfl⟩⟩)
  · skip
    have h126 : Rg 64 64 (mI (sg S) 656 o0) := rg_eq_l (rg_all (mI (sg S) 656 o0)) (⟨by decide, by decide⟩ : Rg 64 64 64) q125
    refine tt_aload_n (j := 0) dX10_note_165 rfl ?_
    refine gt_gI (id := 655) (v := (mI (sg S) 655 o0)) dX10_note_166 fl_10_107 rfl rfl h0 hA123 (show hp_I S121 655 o0 = mI (sg S) 655 o0 from i_af (k := 655) h0 hA123) ?_
    refine tt_if_eq (tgt := 252) dX10_note_169 rfl (fun q127 => ?_) (fun q127 => ?_)
    · skip
      have h128 : Rg 0 0 (mI (sg S) 655 o0) := rg_eq_l (rg_all (mI (sg S) 655 o0)) (⟨by decide, by decide⟩ : Rg 0 0 0) q127
      refine tt_iconst (v := 1) dX10_note_252 rfl ?_
      refine tt_goto (tgt := 257) dX10_note_253 rfl ?_
      refine tt_istore_n (ks := [0, 1]) (L' := [(1, .int 1), (0, .ref o0)]) dX10_note_257 (by decide) rfl ?_
      have hF : Z_X10_note_p111 R (sg S) o0 = Z_X10_note_p258 R (uj (ui (ui (ui (sg S) (R 649 o0) (201 : Int32).toNatClampNeg 0) (R 650 o0) (201 : Int32).toNatClampNeg (mI (sg S) 657 o0)) (R 651 o0) (201 : Int32).toNatClampNeg (mI (sg S) 658 o0)) (R 652 o0) (201 : Int32).toNatClampNeg (mJ (sg S) 660 o0)) o0 (1) := by
        exact zl_X10_note_p111_0 q125 q127
      exact tt_loc (ks := [1, 0]) rfl (cz_X10_note_p258 hG122 (oa_af h0 hA123) (rg_w (⟨by decide, by decide⟩ : Rg 1 1 1)) (rk_af hR hA123) (rg_cast (show mI (sg S121) 657 o0 = mI (sg S) 657 o0 from i_af (k := 657) h0 hA123) hg) (rg_cast (show mI (sg S121) 658 o0 = mI (sg S) 658 o0 from i_af (k := 658) h0 hA123) ho) (fun r T x y h => hP r T x y (pv_tr hA123 h (by decide) (fun v T e => e.trans ((congrArg (fun q9 => Z_X10_note_p258 R q9 o0 (1)) e124).trans hF.symm)))))
    · skip
      refine tt_aload_n (j := 0) dX10_note_172 rfl ?_
      refine gt_gI (id := 655) (v := (mI (sg S) 655 o0)) dX10_note_173 fl_10_107 rfl rfl h0 hA123 (show hp_I S121 655 o0 = mI (sg S) 655 o0 from i_af (k := 655) h0 hA123) ?_
      refine tt_iconst (v := 5) dX10_note_176 rfl ?_
      refine tt_icmp_eq (tgt := 252) dX10_note_177 rfl (fun q129 => ?_) (fun q129 => ?_)
      · skip
        have h130 : Rg 5 5 (mI (sg S) 655 o0) := rg_eq_l (rg_all (mI (sg S) 655 o0)) (⟨by decide, by decide⟩ : Rg 5 5 5) q129
        refine tt_iconst (v := 1) dX10_note_252 rfl ?_
        refine tt_goto (tgt := 257) dX10_note_253 rfl ?_
        refine tt_istore_n (ks := [0, 1]) (L' := [(1, .int 1), (0, .ref o0)]) dX10_note_257 (by decide) rfl ?_
        have hF : Z_X10_note_p111 R (sg S) o0 = Z_X10_note_p258 R (uj (ui (ui (ui (sg S) (R 649 o0) (201 : Int32).toNatClampNeg 0) (R 650 o0) (201 : Int32).toNatClampNeg (mI (sg S) 657 o0)) (R 651 o0) (201 : Int32).toNatClampNeg (mI (sg S) 658 o0)) (R 652 o0) (201 : Int32).toNatClampNeg (mJ (sg S) 660 o0)) o0 (1) := by
          exact zl_X10_note_p111_1 q125 q127 q129
        exact tt_loc (ks := [1, 0]) rfl (cz_X10_note_p258 hG122 (oa_af h0 hA123) (rg_w (⟨by decide, by decide⟩ : Rg 1 1 1)) (rk_af hR hA123) (rg_cast (show mI (sg S121) 657 o0 = mI (sg S) 657 o0 from i_af (k := 657) h0 hA123) hg) (rg_cast (show mI (sg S121) 658 o0 = mI (sg S) 658 o0 from i_af (k := 658) h0 hA123) ho) (fun r T x y h => hP r T x y (pv_tr hA123 h (by decide) (fun v T e => e.trans ((congrArg (fun q9 => Z_X10_note_p258 R q9 o0 (1)) e124).trans hF.symm)))))
      · skip
        refine tt_aload_n (j := 0) dX10_note_180 rfl ?_
        refine gt_gI (id := 655) (v := (mI (sg S) 655 o0)) dX10_note_181 fl_10_107 rfl rfl h0 hA123 (show hp_I S121 655 o0 = mI (sg S) 655 o0 from i_af (k := 655) h0 hA123) ?_
        refine tt_iconst (v := 4) dX10_note_184 rfl ?_
        refine tt_icmp_eq (tgt := 252) dX10_note_185 rfl (fun q131 => ?_) (fun q131 => ?_)
        · skip
          have h132 : Rg 4 4 (mI (sg S) 655 o0) := rg_eq_l (rg_all (mI (sg S) 655 o0)) (⟨by decide, by decide⟩ : Rg 4 4 4) q131
          refine tt_iconst (v := 1) dX10_note_252 rfl ?_
          refine tt_goto (tgt := 257) dX10_note_253 rfl ?_
          refine tt_istore_n (ks := [0, 1]) (L' := [(1, .int 1), (0, .ref o0)]) dX10_note_257 (by decide) rfl ?_
          have hF : Z_X10_note_p111 R (sg S) o0 = Z_X10_note_p258 R (uj (ui (ui (ui (sg S) (R 649 o0) (201 : Int32).toNatClampNeg 0) (R 650 o0) (201 : Int32).toNatClampNeg (mI (sg S) 657 o0)) (R 651 o0) (201 : Int32).toNatClampNeg (mI (sg S) 658 o0)) (R 652 o0) (201 : Int32).toNatClampNeg (mJ (sg S) 660 o0)) o0 (1) := by
            exact zl_X10_note_p111_2 q125 q127 q129 q131
          exact tt_loc (ks := [1, 0]) rfl (cz_X10_note_p258 hG122 (oa_af h0 hA123) (rg_w (⟨by decide, by decide⟩ : Rg 1 1 1)) (rk_af hR hA123) (rg_cast (show mI (sg S121) 657 o0 = mI (sg S) 657 o0 from i_af (k := 657) h0 hA123) hg) (rg_cast (show mI (sg S121) 658 o0 = mI (sg S) 658 o0 from i_af (k := 658) h0 hA123) ho) (fun r T x y h => hP r T x y (pv_tr hA123 h (by decide) (fun v T e => e.trans ((congrArg (fun q9 => Z_X10_note_p258 R q9 o0 (1)) e124).trans hF.symm)))))
        · skip
          refine tt_aload_n (j := 0) dX10_note_188 rfl ?_
          refine gt_gI (id := 655) (v := (mI (sg S) 655 o0)) dX10_note_189 fl_10_107 rfl rfl h0 hA123 (show hp_I S121 655 o0 = mI (sg S) 655 o0 from i_af (k := 655) h0 hA123) ?_
          refine tt_iconst (v := 1) dX10_note_192 rfl ?_
          refine tt_icmp_eq (tgt := 252) dX10_note_193 rfl (fun q133 => ?_) (fun q133 => ?_)
          · skip
            have h134 : Rg 1 1 (mI (sg S) 655 o0) := rg_eq_l (rg_all (mI (sg S) 655 o0)) (⟨by decide, by decide⟩ : Rg 1 1 1) q133
            refine tt_iconst (v := 1) dX10_note_252 rfl ?_
            refine tt_goto (tgt := 257) dX10_note_253 rfl ?_
            refine tt_istore_n (ks := [0, 1]) (L' := [(1, .int 1), (0, .ref o0)]) dX10_note_257 (by decide) rfl ?_
            have hF : Z_X10_note_p111 R (sg S) o0 = Z_X10_note_p258 R (uj (ui (ui (ui (sg S) (R 649 o0) (201 : Int32).toNatClampNeg 0) (R 650 o0) (201 : Int32).toNatClampNeg (mI (sg S) 657 o0)) (R 651 o0) (201 : Int32).toNatClampNeg (mI (sg S) 658 o0)) (R 652 o0) (201 : Int32).toNatClampNeg (mJ (sg S) 660 o0)) o0 (1) := by
              exact zl_X10_note_p111_3 q125 q127 q129 q131 q133
            exact tt_loc (ks := [1, 0]) rfl (cz_X10_note_p258 hG122 (oa_af h0 hA123) (rg_w (⟨by decide, by decide⟩ : Rg 1 1 1)) (rk_af hR hA123) (rg_cast (show mI (sg S121) 657 o0 = mI (sg S) 657 o0 from i_af (k := 657) h0 hA123) hg) (rg_cast (show mI (sg S121) 658 o0 = mI (sg S) 658 o0 from i_af (k := 658) h0 hA123) ho) (fun r T x y h => hP r T x y (pv_tr hA123 h (by decide) (fun v T e => e.trans ((congrArg (fun q9 => Z_X10_note_p258 R q9 o0 (1)) e124).trans hF.symm)))))
          · skip
            refine tt_aload_n (j := 0) dX10_note_196 rfl ?_
            refine gt_gI (id := 655) (v := (mI (sg S) 655 o0)) dX10_note_197 fl_10_107 rfl rfl h0 hA123 (show hp_I S121 655 o0 = mI (sg S) 655 o0 from i_af (k := 655) h0 hA123) ?_
            refine tt_bipush (v := 6) dX10_note_200 rfl ?_
            refine tt_icmp_eq (tgt := 252) dX10_note_202 rfl (fun q135 => ?_) (fun q135 => ?_)
            · skip
              have h136 : Rg 6 6 (mI (sg S) 655 o0) := rg_eq_l (rg_all (mI (sg S) 655 o0)) (⟨by decide, by decide⟩ : Rg 6 6 6) q135
              refine tt_iconst (v := 1) dX10_note_252 rfl ?_
              refine tt_goto (tgt := 257) dX10_note_253 rfl ?_
              refine tt_istore_n (ks := [0, 1]) (L' := [(1, .int 1), (0, .ref o0)]) dX10_note_257 (by decide) rfl ?_
              have hF : Z_X10_note_p111 R (sg S) o0 = Z_X10_note_p258 R (uj (ui (ui (ui (sg S) (R 649 o0) (201 : Int32).toNatClampNeg 0) (R 650 o0) (201 : Int32).toNatClampNeg (mI (sg S) 657 o0)) (R 651 o0) (201 : Int32).toNatClampNeg (mI (sg S) 658 o0)) (R 652 o0) (201 : Int32).toNatClampNeg (mJ (sg S) 660 o0)) o0 (1) := by
                exact zl_X10_note_p111_4 q125 q127 q129 q131 q133 q135
              exact tt_loc (ks := [1, 0]) rfl (cz_X10_note_p258 hG122 (oa_af h0 hA123) (rg_w (⟨by decide, by decide⟩ : Rg 1 1 1)) (rk_af hR hA123) (rg_cast (show mI (sg S121) 657 o0 = mI (sg S) 657 o0 from i_af (k := 657) h0 hA123) hg) (rg_cast (show mI (sg S121) 658 o0 = mI (sg S) 658 o0 from i_af (k := 658) h0 hA123) ho) (fun r T x y h => hP r T x y (pv_tr hA123 h (by decide) (fun v T e => e.trans ((congrArg (fun q9 => Z_X10_note_p258 R q9 o0 (1)) e124).trans hF.symm)))))
            · skip
              refine tt_aload_n (j := 0) dX10_note_205 rfl ?_
              refine gt_gI (id := 655) (v := (mI (sg S) 655 o0)) dX10_note_206 fl_10_107 rfl rfl h0 hA123 (show hp_I S121 655 o0 = mI (sg S) 655 o0 from i_af (k := 655) h0 hA123) ?_
              refine tt_bipush (v := 11) dX10_note_209 rfl ?_
              refine tt_icmp_eq (tgt := 252) dX10_note_211 rfl (fun q137 => ?_) (fun q137 => ?_)
              · skip
                have h138 : Rg 11 11 (mI (sg S) 655 o0) := rg_eq_l (rg_all (mI (sg S) 655 o0)) (⟨by decide, by decide⟩ : Rg 11 11 11) q137
                refine tt_iconst (v := 1) dX10_note_252 rfl ?_
                refine tt_goto (tgt := 257) dX10_note_253 rfl ?_
                refine tt_istore_n (ks := [0, 1]) (L' := [(1, .int 1), (0, .ref o0)]) dX10_note_257 (by decide) rfl ?_
                have hF : Z_X10_note_p111 R (sg S) o0 = Z_X10_note_p258 R (uj (ui (ui (ui (sg S) (R 649 o0) (201 : Int32).toNatClampNeg 0) (R 650 o0) (201 : Int32).toNatClampNeg (mI (sg S) 657 o0)) (R 651 o0) (201 : Int32).toNatClampNeg (mI (sg S) 658 o0)) (R 652 o0) (201 : Int32).toNatClampNeg (mJ (sg S) 660 o0)) o0 (1) := by
                  exact zl_X10_note_p111_5 q125 q127 q129 q131 q133 q135 q137
                exact tt_loc (ks := [1, 0]) rfl (cz_X10_note_p258 hG122 (oa_af h0 hA123) (rg_w (⟨by decide, by decide⟩ : Rg 1 1 1)) (rk_af hR hA123) (rg_cast (show mI (sg S121) 657 o0 = mI (sg S) 657 o0 from i_af (k := 657) h0 hA123) hg) (rg_cast (show mI (sg S121) 658 o0 = mI (sg S) 658 o0 from i_af (k := 658) h0 hA123) ho) (fun r T x y h => hP r T x y (pv_tr hA123 h (by decide) (fun v T e => e.trans ((congrArg (fun q9 => Z_X10_note_p258 R q9 o0 (1)) e124).trans hF.symm)))))
              · skip
                refine tt_aload_n (j := 0) dX10_note_214 rfl ?_
                refine gt_gI (id := 655) (v := (mI (sg S) 655 o0)) dX10_note_215 fl_10_107 rfl rfl h0 hA123 (show hp_I S121 655 o0 = mI (sg S) 655 o0 from i_af (k := 655) h0 hA123) ?_
                refine tt_bipush (v := 12) dX10_note_218 rfl ?_
                refine tt_icmp_eq (tgt := 252) dX10_note_220 rfl (fun q139 => ?_) (fun q139 => ?_)
                · skip
                  have h140 : Rg 12 12 (mI (sg S) 655 o0) := rg_eq_l (rg_all (mI (sg S) 655 o0)) (⟨by decide, by decide⟩ : Rg 12 12 12) q139
                  refine tt_iconst (v := 1) dX10_note_252 rfl ?_
                  refine tt_goto (tgt := 257) dX10_note_253 rfl ?_
                  refine tt_istore_n (ks := [0, 1]) (L' := [(1, .int 1), (0, .ref o0)]) dX10_note_257 (by decide) rfl ?_
                  have hF : Z_X10_note_p111 R (sg S) o0 = Z_X10_note_p258 R (uj (ui (ui (ui (sg S) (R 649 o0) (201 : Int32).toNatClampNeg 0) (R 650 o0) (201 : Int32).toNatClampNeg (mI (sg S) 657 o0)) (R 651 o0) (201 : Int32).toNatClampNeg (mI (sg S) 658 o0)) (R 652 o0) (201 : Int32).toNatClampNeg (mJ (sg S) 660 o0)) o0 (1) := by
                    exact zl_X10_note_p111_6 q125 q127 q129 q131 q133 q135 q137 q139
                  exact tt_loc (ks := [1, 0]) rfl (cz_X10_note_p258 hG122 (oa_af h0 hA123) (rg_w (⟨by decide, by decide⟩ : Rg 1 1 1)) (rk_af hR hA123) (rg_cast (show mI (sg S121) 657 o0 = mI (sg S) 657 o0 from i_af (k := 657) h0 hA123) hg) (rg_cast (show mI (sg S121) 658 o0 = mI (sg S) 658 o0 from i_af (k := 658) h0 hA123) ho) (fun r T x y h => hP r T x y (pv_tr hA123 h (by decide) (fun v T e => e.trans ((congrArg (fun q9 => Z_X10_note_p258 R q9 o0 (1)) e124).trans hF.symm)))))
                · skip
                  refine tt_aload_n (j := 0) dX10_note_223 rfl ?_
                  refine gt_gI (id := 655) (v := (mI (sg S) 655 o0)) dX10_note_224 fl_10_107 rfl rfl h0 hA123 (show hp_I S121 655 o0 = mI (sg S) 655 o0 from i_af (k := 655) h0 hA123) ?_
                  refine tt_bipush (v := 10) dX10_note_227 rfl ?_
                  refine tt_icmp_eq (tgt := 252) dX10_note_229 rfl (fun q141 => ?_) (fun q141 => ?_)
                  · skip
                    have h142 : Rg 10 10 (mI (sg S) 655 o0) := rg_eq_l (rg_all (mI (sg S) 655 o0)) (⟨by decide, by decide⟩ : Rg 10 10 10) q141
                    refine tt_iconst (v := 1) dX10_note_252 rfl ?_
                    refine tt_goto (tgt := 257) dX10_note_253 rfl ?_
                    refine tt_istore_n (ks := [0, 1]) (L' := [(1, .int 1), (0, .ref o0)]) dX10_note_257 (by decide) rfl ?_
                    have hF : Z_X10_note_p111 R (sg S) o0 = Z_X10_note_p258 R (uj (ui (ui (ui (sg S) (R 649 o0) (201 : Int32).toNatClampNeg 0) (R 650 o0) (201 : Int32).toNatClampNeg (mI (sg S) 657 o0)) (R 651 o0) (201 : Int32).toNatClampNeg (mI (sg S) 658 o0)) (R 652 o0) (201 : Int32).toNatClampNeg (mJ (sg S) 660 o0)) o0 (1) := by
                      exact zl_X10_note_p111_7 q125 q127 q129 q131 q133 q135 q137 q139 q141
                    exact tt_loc (ks := [1, 0]) rfl (cz_X10_note_p258 hG122 (oa_af h0 hA123) (rg_w (⟨by decide, by decide⟩ : Rg 1 1 1)) (rk_af hR hA123) (rg_cast (show mI (sg S121) 657 o0 = mI (sg S) 657 o0 from i_af (k := 657) h0 hA123) hg) (rg_cast (show mI (sg S121) 658 o0 = mI (sg S) 658 o0 from i_af (k := 658) h0 hA123) ho) (fun r T x y h => hP r T x y (pv_tr hA123 h (by decide) (fun v T e => e.trans ((congrArg (fun q9 => Z_X10_note_p258 R q9 o0 (1)) e124).trans hF.symm)))))
                  · skip
                    refine tt_aload_n (j := 0) dX10_note_232 rfl ?_
                    refine gt_gI (id := 655) (v := (mI (sg S) 655 o0)) dX10_note_233 fl_10_107 rfl rfl h0 hA123 (show hp_I S121 655 o0 = mI (sg S) 655 o0 from i_af (k := 655) h0 hA123) ?_
                    refine tt_bipush (v := 8) dX10_note_236 rfl ?_
                    refine tt_icmp_ne (tgt := 256) dX10_note_238 rfl (fun q143 => ?_) (fun q143 => ?_)
                    · skip
                      refine tt_iconst (v := 0) dX10_note_256 rfl ?_
                      refine tt_istore_n (ks := [0, 1]) (L' := [(1, .int 0), (0, .ref o0)]) dX10_note_257 (by decide) rfl ?_
                      have hF : Z_X10_note_p111 R (sg S) o0 = Z_X10_note_p258 R (uj (ui (ui (ui (sg S) (R 649 o0) (201 : Int32).toNatClampNeg 0) (R 650 o0) (201 : Int32).toNatClampNeg (mI (sg S) 657 o0)) (R 651 o0) (201 : Int32).toNatClampNeg (mI (sg S) 658 o0)) (R 652 o0) (201 : Int32).toNatClampNeg (mJ (sg S) 660 o0)) o0 (0) := by
                        exact zl_X10_note_p111_10 q125 q127 q129 q131 q133 q135 q137 q139 q141 q143
                      exact tt_loc (ks := [1, 0]) rfl (cz_X10_note_p258 hG122 (oa_af h0 hA123) (rg_w (⟨by decide, by decide⟩ : Rg 0 0 0)) (rk_af hR hA123) (rg_cast (show mI (sg S121) 657 o0 = mI (sg S) 657 o0 from i_af (k := 657) h0 hA123) hg) (rg_cast (show mI (sg S121) 658 o0 = mI (sg S) 658 o0 from i_af (k := 658) h0 hA123) ho) (fun r T x y h => hP r T x y (pv_tr hA123 h (by decide) (fun v T e => e.trans ((congrArg (fun q9 => Z_X10_note_p258 R q9 o0 (0)) e124).trans hF.symm)))))
                    · skip
                      have h144 : Rg 8 8 (mI (sg S) 655 o0) := rg_eq_l (rg_all (mI (sg S) 655 o0)) (⟨by decide, by decide⟩ : Rg 8 8 8) q143
                      refine tt_aload_n (j := 0) dX10_note_241 rfl ?_
                      refine gt_gI (id := 658) (v := (mI (sg S) 658 o0)) dX10_note_242 fl_10_113 rfl rfl h0 hA123 (show hp_I S121 658 o0 = mI (sg S) 658 o0 from i_af (k := 658) h0 hA123) ?_
                      refine tt_aload_n (j := 0) dX10_note_245 rfl ?_
                      refine gt_gI (id := 657) (v := (mI (sg S) 657 o0)) dX10_note_246 fl_10_110 rfl rfl h0 hA123 (show hp_I S121 657 o0 = mI (sg S) 657 o0 from i_af (k := 657) h0 hA123) ?_
                      refine tt_icmp_ne (tgt := 256) dX10_note_249 rfl (fun q145 => ?_) (fun q145 => ?_)
                      · skip
                        refine tt_iconst (v := 0) dX10_note_256 rfl ?_
                        refine tt_istore_n (ks := [0, 1]) (L' := [(1, .int 0), (0, .ref o0)]) dX10_note_257 (by decide) rfl ?_
                        have hF : Z_X10_note_p111 R (sg S) o0 = Z_X10_note_p258 R (uj (ui (ui (ui (sg S) (R 649 o0) (201 : Int32).toNatClampNeg 0) (R 650 o0) (201 : Int32).toNatClampNeg (mI (sg S) 657 o0)) (R 651 o0) (201 : Int32).toNatClampNeg (mI (sg S) 658 o0)) (R 652 o0) (201 : Int32).toNatClampNeg (mJ (sg S) 660 o0)) o0 (0) := by
                          exact zl_X10_note_p111_9 q125 q127 q129 q131 q133 q135 q137 q139 q141 q143 q145
                        exact tt_loc (ks := [1, 0]) rfl (cz_X10_note_p258 hG122 (oa_af h0 hA123) (rg_w (⟨by decide, by decide⟩ : Rg 0 0 0)) (rk_af hR hA123) (rg_cast (show mI (sg S121) 657 o0 = mI (sg S) 657 o0 from i_af (k := 657) h0 hA123) hg) (rg_cast (show mI (sg S121) 658 o0 = mI (sg S) 658 o0 from i_af (k := 658) h0 hA123) ho) (fun r T x y h => hP r T x y (pv_tr hA123 h (by decide) (fun v T e => e.trans ((congrArg (fun q9 => Z_X10_note_p258 R q9 o0 (0)) e124).trans hF.symm)))))
                      · skip
                        have h146 : Rg 0 23 (mI (sg S) 658 o0) := rg_eq_l ho hg q145
                        refine tt_iconst (v := 1) dX10_note_252 rfl ?_
                        refine tt_goto (tgt := 257) dX10_note_253 rfl ?_
                        refine tt_istore_n (ks := [0, 1]) (L' := [(1, .int 1), (0, .ref o0)]) dX10_note_257 (by decide) rfl ?_
                        have hF : Z_X10_note_p111 R (sg S) o0 = Z_X10_note_p258 R (uj (ui (ui (ui (sg S) (R 649 o0) (201 : Int32).toNatClampNeg 0) (R 650 o0) (201 : Int32).toNatClampNeg (mI (sg S) 657 o0)) (R 651 o0) (201 : Int32).toNatClampNeg (mI (sg S) 658 o0)) (R 652 o0) (201 : Int32).toNatClampNeg (mJ (sg S) 660 o0)) o0 (1) := by
                          exact zl_X10_note_p111_8 q125 q127 q129 q131 q133 q135 q137 q139 q141 q143 q145
                        exact tt_loc (ks := [1, 0]) rfl (cz_X10_note_p258 hG122 (oa_af h0 hA123) (rg_w (⟨by decide, by decide⟩ : Rg 1 1 1)) (rk_af hR hA123) (rg_cast (show mI (sg S121) 657 o0 = mI (sg S) 657 o0 from i_af (k := 657) h0 hA123) hg) (rg_cast (show mI (sg S121) 658 o0 = mI (sg S) 658 o0 from i_af (k := 658) h0 hA123) ho) (fun r T x y h => hP r T x y (pv_tr hA123 h (by decide) (fun v T e => e.trans ((congrArg (fun q9 => Z_X10_note_p258 R q9 o0 (1)) e124).trans hF.symm)))))
def Z_X10_note_p86 (R : Nat → Nat → Nat) (σ : SG) (o0 : Nat) (x1 : Int32) : SG :=
  if x1 = 0 then
    (ui σ (R 649 o0) (201 : Int32).toNatClampNeg (mi σ (R 649 o0) (201 : Int32).toNatClampNeg))
  else
    (ui σ (R 649 o0) (201 : Int32).toNatClampNeg 0)
theorem zl_X10_note_p86_0 {R : Nat → Nat → Nat} {σ : SG} {o0 : Nat} {x1 : Int32} (h0 : x1 = 0) : Z_X10_note_p86 R σ o0 x1 = (ui σ (R 649 o0) (201 : Int32).toNatClampNeg (mi σ (R 649 o0) (201 : Int32).toNatClampNeg)) := by unfold Z_X10_note_p86; exact if_pos h0
theorem zl_X10_note_p86_1 {R : Nat → Nat → Nat} {σ : SG} {o0 : Nat} {x1 : Int32} (h0 : ¬ x1 = 0) : Z_X10_note_p86 R σ o0 x1 = (ui σ (R 649 o0) (201 : Int32).toNatClampNeg 0) := by unfold Z_X10_note_p86; exact if_neg h0
set_option maxHeartbeats 40000000 in
theorem cz_X10_note_p86 {xi : SX} {S : Hp} {E : List Nat} {kc nc : Nat} {P : Po} {o0 : Nat} {x1 : Int32} {R : Nat → Nat → Nat} (hG : GI S E) (h0 : Oa S E 10 0 o0) (h1 : Rg 0 1 x1) (hR : RK S R) (hg : Rg 0 23 (mI (sg S) 657 o0)) (ho : Rg (-1) 23 (mI (sg S) 658 o0)) (hP : ∀ r T x y, PV E [9988] S kc nc rV (fun v T => sg T = Z_X10_note_p86 R (sg S) o0 x1) [] r T x y → P r T x y) : TT xi M_X10_note 86 [(0, .ref o0), (1, .int x1)] [] S kc nc P := by
  have hA : Af E [9988] S S := af_rf
  refine tt_aload_n (j := 0) dX10_note_86 rfl ?_
  have hr101 := rk_R (k := 649) hR h0 32 202
  have ho102 := rk_O (k := 649) hG hR h0 32 202
  refine gt_gR (id := 649) dX10_note_87 fl_10_33 rfl rfl h0 hA hr101 ?_
  refine tt_sipush (v := 201) dX10_note_90 rfl ?_
  refine tt_iload_n (j := 1) dX10_note_93 rfl ?_
  refine tt_if_eq (tgt := 101) dX10_note_94 rfl (fun q103 => ?_) (fun q103 => ?_)
  · skip
    have h104 : Rg 0 0 x1 := rg_eq_l h1 (⟨by decide, by decide⟩ : Rg 0 0 0) q103
    refine tt_aload_n (j := 0) dX10_note_101 rfl ?_
    refine gt_gR (id := 649) dX10_note_102 fl_10_33 rfl rfl h0 hA hr101 ?_
    refine tt_sipush (v := 201) dX10_note_105 rfl ?_
    refine gx_iL (v := (mi (sg S) (R 649 o0) (201 : Int32).toNatClampNeg)) dX10_note_108 ho102 hA (rg_in (⟨by decide, by decide⟩ : Rg 201 201 201)) (sg_i (a := (R 649 o0)) (i := (201 : Int32).toNatClampNeg) (show sg S = (sg S) from rfl)) ?_
    refine gx_iSR dX10_note_109 ho102 hA (rg_in (⟨by decide, by decide⟩ : Rg 201 201 201)) hG (rg_w (rg_cast (sg_i (a := (R 649 o0)) (i := (201 : Int32).toNatClampNeg) (show sg S = (sg S) from rfl)).symm (gi_i hG (oa_af ho102 hA)))) (show sg S = (sg S) from rfl) (fun S105 hG106 hA107 e108 => ?_)
    have hF : Z_X10_note_p86 R (sg S) o0 x1 = (ui (sg S) (R 649 o0) (201 : Int32).toNatClampNeg (mi (sg S) (R 649 o0) (201 : Int32).toNatClampNeg)) := by
      exact zl_X10_note_p86_0 q103
    exact tt_vreturn dX10_note_110 rfl (hP _ _ _ _ ⟨hG106, hA107, Or.inl ⟨_, rfl, rfl, Eq.trans e108 hF.symm, rfl, rfl⟩⟩)
  · skip
    have h109 : Rg 1 1 x1 := rg_ne_lo h1 (⟨by decide, by decide⟩ : Rg 0 0 0) q103
    refine tt_iconst (v := 0) dX10_note_97 rfl ?_
    refine tt_goto (tgt := 109) dX10_note_98 rfl ?_
    refine gx_iSR dX10_note_109 ho102 hA (rg_in (⟨by decide, by decide⟩ : Rg 201 201 201)) hG (rg_w (⟨by decide, by decide⟩ : Rg 0 0 0)) (show sg S = (sg S) from rfl) (fun S110 hG111 hA112 e113 => ?_)
    have hF : Z_X10_note_p86 R (sg S) o0 x1 = (ui (sg S) (R 649 o0) (201 : Int32).toNatClampNeg 0) := by
      exact zl_X10_note_p86_1 q103
    exact tt_vreturn dX10_note_110 rfl (hP _ _ _ _ ⟨hG111, hA112, Or.inl ⟨_, rfl, rfl, Eq.trans e113 hF.symm, rfl, rfl⟩⟩)
