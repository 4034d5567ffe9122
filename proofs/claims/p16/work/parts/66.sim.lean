def aw (q : AU) (y : Int64) : Int64 := if u1 q = 64 then y else (y.toInt32).toInt64
theorem aw_c {q : AU} {w : RS} {y : Int64} : G_X6_atWidth q w y = aw q y := rfl
theorem aw_r {q : AU} {w : RS} {y : Int64} : G_X10_cutDown q w y = aw q y := rfl
theorem aw_64 {q : AU} {y : Int64} (h : u1 q = 64) : aw q y = y := if_pos h
theorem aw_32 {q : AU} {y : Int64} (h : ¬ u1 q = 64) : aw q y = (y.toInt32).toInt64 := if_neg h
theorem aw_aw {q : AU} {y : Int64} : aw q (aw q y) = aw q y := by
  by_cases h : u1 q = 64
  · rw [aw_64 h]
  · rw [aw_32 h, aw_32 h, Int32.toInt32_toInt64]
theorem aw_and {q : AU} {a b : Int64} (ha : aw q a = a) (hb : aw q b = b) : aw q (a &&& b) = a &&& b := by
  by_cases h : u1 q = 64
  · rw [aw_64 h]
  · rw [aw_32 h] at ha hb ⊢
    rw [Int64.toInt32_and, Int32.toInt64_and, ha, hb]
theorem aw_or {q : AU} {a b : Int64} (ha : aw q a = a) (hb : aw q b = b) : aw q (a ||| b) = a ||| b := by
  by_cases h : u1 q = 64
  · rw [aw_64 h]
  · rw [aw_32 h] at ha hb ⊢
    rw [Int64.toInt32_or, Int32.toInt64_or, ha, hb]
theorem aw_xor {q : AU} {a b : Int64} (ha : aw q a = a) (hb : aw q b = b) : aw q (a ^^^ b) = a ^^^ b := by
  by_cases h : u1 q = 64
  · rw [aw_64 h]
  · rw [aw_32 h] at ha hb ⊢
    rw [Int64.toInt32_xor, Int32.toInt64_xor, ha, hb]
theorem mk_bv (x : BitVec 64) : (x.signExtend 32).signExtend 64 &&& 4294967295#64 = x &&& 4294967295#64 := by
  apply BitVec.eq_of_getLsbD_eq
  intro i hi
  rw [BitVec.getLsbD_and, BitVec.getLsbD_and, BitVec.getLsbD_signExtend]
  by_cases h : i < 32
  · rw [if_pos h, BitVec.getLsbD_signExtend, if_pos (show i < 64 by omega)]
    have h1 : decide (i < 64) = true := by simp; omega
    have h2 : decide (i < 32) = true := by simp; omega
    rw [h1, h2, Bool.true_and, Bool.true_and]
  · have e : (4294967295#64).getLsbD i = false := by
      rw [BitVec.getLsbD_ofNat]
      have : Nat.testBit 4294967295 i = false := Nat.testBit_lt_two_pow (Nat.lt_of_lt_of_le (by decide : 4294967295 < 2 ^ 32) (Nat.pow_le_pow_right (by decide) (by omega)))
      rw [this, Bool.and_false]
    rw [e, Bool.and_false, Bool.and_false]
theorem mk_eq (y : Int64) : (y.toInt32).toInt64 &&& 4294967295 = y &&& 4294967295 := by
  apply Int64.toBitVec_inj.mp
  show (y.toBitVec.signExtend 32).signExtend 64 &&& 4294967295#64 = y.toBitVec &&& 4294967295#64
  exact mk_bv _
theorem aw_mk {q : AU} {y : Int64} : aw q y &&& 4294967295 = y &&& 4294967295 := by
  by_cases h : u1 q = 64
  · rw [aw_64 h]
  · rw [aw_32 h, mk_eq]
/-! signs -/
theorem lt_msb (x : Int64) : x < 0 ↔ x.toBitVec.msb = true := by
  rw [Int64.lt_iff_toInt_lt, show (0 : Int64).toInt = 0 from rfl]
  show x.toBitVec.toInt < 0 ↔ _
  rw [BitVec.msb_eq_toInt]
  exact decide_eq_true_iff.symm
theorem and_lt (x y : Int64) : x &&& y < 0 ↔ x < 0 ∧ y < 0 := by
  rw [lt_msb, lt_msb, lt_msb, Int64.toBitVec_and, BitVec.msb_and, Bool.and_eq_true]
theorem xor_lt (x y : Int64) : x ^^^ y < 0 ↔ ¬ (x < 0 ↔ y < 0) := by
  rw [lt_msb, lt_msb, lt_msb, Int64.toBitVec_xor, BitVec.msb_xor]
  cases x.toBitVec.msb <;> cases y.toBitVec.msb <;> simp
theorem or_xor {x m : BitVec 64} (h : x &&& m = 0#64) : x ||| m = x ^^^ m := by
  apply BitVec.eq_of_getLsbD_eq
  intro i hi
  have e : (x &&& m).getLsbD i = false := by rw [h]; exact BitVec.getLsbD_zero
  rw [BitVec.getLsbD_and] at e
  rw [BitVec.getLsbD_or, BitVec.getLsbD_xor]
  revert e
  cases x.getLsbD i <;> cases m.getLsbD i <;> simp
theorem and_min {x : BitVec 64} (h : x.msb = false) : x &&& BitVec.intMin 64 = 0#64 := by
  apply BitVec.eq_of_getLsbD_eq
  intro i hi
  rw [BitVec.getLsbD_and, BitVec.getLsbD_intMin, BitVec.getLsbD_zero]
  by_cases e : i + 1 = 64
  · have : i = 63 := by omega
    subst this
    rw [BitVec.msb_eq_getLsbD_last] at h
    have h2 : x.getLsbD 63 = false := h
    rw [h2, Bool.false_and]
  · rw [decide_eq_false e, Bool.and_false]
theorem add_min_bv (x : BitVec 64) : x + BitVec.intMin 64 = x ^^^ BitVec.intMin 64 := by
  by_cases h : x.msb = false
  · rw [BitVec.add_eq_or_of_and_eq_zero _ _ (and_min h), or_xor (and_min h)]
  · have h1 : (x ^^^ BitVec.intMin 64).msb = false := by
      rw [BitVec.msb_xor, BitVec.msb_intMin]
      revert h
      cases x.msb <;> simp
    have h2 : (x ^^^ BitVec.intMin 64) + BitVec.intMin 64 = x := by
      rw [BitVec.add_eq_or_of_and_eq_zero _ _ (and_min h1), or_xor (and_min h1), BitVec.xor_assoc, BitVec.xor_self, BitVec.xor_zero]
    have h3 : BitVec.intMin 64 + BitVec.intMin 64 = 0#64 := by decide
    calc x + BitVec.intMin 64 = ((x ^^^ BitVec.intMin 64) + BitVec.intMin 64) + BitVec.intMin 64 := by rw [h2]
      _ = x ^^^ BitVec.intMin 64 := by rw [BitVec.add_assoc, h3, BitVec.add_zero]
theorem add_min (x : Int64) : x ^^^ (-9223372036854775808) = x + (-9223372036854775808) := by
  apply Int64.toBitVec_inj.mp
  rw [Int64.toBitVec_xor, Int64.toBitVec_add]
  exact (add_min_bv x.toBitVec).symm
theorem cu_0 {x y : Int64} (h : 0 ≤ G_J13_compareUnsigned_74951 x y) : G_X10_isBelow x y = 0 := by
  have h1 : ¬ x + (-9223372036854775808) < y + (-9223372036854775808) := fun q => by
    rw [g_J13_compareUnsigned_74951_0, g_J13_compare_74951_0 q] at h
    exact absurd h (by decide)
  exact if_neg (by rw [add_min, add_min]; exact h1)
theorem cu_1 {x y : Int64} (h : ¬ 0 ≤ G_J13_compareUnsigned_74951 x y) : G_X10_isBelow x y = 1 := by
  by_cases h1 : x + (-9223372036854775808) < y + (-9223372036854775808)
  · exact if_pos (by rw [add_min, add_min]; exact h1)
  · rw [g_J13_compareUnsigned_74951_0] at h
    by_cases h2 : x + (-9223372036854775808) = y + (-9223372036854775808)
    · rw [g_J13_compare_74951_1 h1 h2] at h; exact absurd (by decide) h
    · rw [g_J13_compare_74951_2 h1 h2] at h; exact absurd (by decide) h
/-! what the flags become -/
def zb (v : Int64) : Int32 := if v = 0 then 1 else 0
def sb (v : Int64) : Int32 := if v < 0 then 1 else 0
def ovs (a b v : Int64) : Int32 := if ((a ^^^ v) &&& (b ^^^ v)) < 0 then 1 else 0
def ovd (a b v : Int64) : Int32 := if ((a ^^^ b) &&& (a ^^^ v)) < 0 then 1 else 0
theorem nb_eq {q : AU} {w : RS} {y : Int64} : G_X6_noteBits q w y = ((r0 w, 1, zb (aw q y), sb (aw q y), 0, 0, rA w), aw q y) := by
  by_cases h1 : G_X6_atWidth q w y = 0
  · have e1 : zb (aw q y) = 1 := if_pos h1
    by_cases h2 : G_X6_atWidth q w y < 0
    · have e2 : sb (aw q y) = 1 := if_pos h2
      rw [g_X6_noteBits_0 h1 h2, e1, e2]; rfl
    · have e2 : sb (aw q y) = 0 := if_neg h2
      rw [g_X6_noteBits_1 h1 h2, e1, e2]; rfl
  · have e1 : zb (aw q y) = 0 := if_neg h1
    by_cases h2 : G_X6_atWidth q w y < 0
    · have e2 : sb (aw q y) = 1 := if_pos h2
      rw [g_X6_noteBits_2 h1 h2, e1, e2]; rfl
    · have e2 : sb (aw q y) = 0 := if_neg h2
      rw [g_X6_noteBits_3 h1 h2, e1, e2]; rfl
theorem fl_eq {q : AU} {w : RS} {y : Int64} {c d : Int32} : G_X10_flags q w y c d = (r0 w, 0, zb y, sb y, c, d, rA w) := by
  by_cases h1 : y = 0
  · have e1 : zb y = 1 := if_pos h1
    by_cases h2 : y < 0
    · have e2 : sb y = 1 := if_pos h2
      rw [g_X10_flags_0 h1 h2, e1, e2]
    · have e2 : sb y = 0 := if_neg h2
      rw [g_X10_flags_1 h1 h2, e1, e2]
  · have e1 : zb y = 0 := if_neg h1
    by_cases h2 : y < 0
    · have e2 : sb y = 1 := if_pos h2
      rw [g_X10_flags_2 h1 h2, e1, e2]
    · have e2 : sb y = 0 := if_neg h2
      rw [g_X10_flags_3 h1 h2, e1, e2]
theorem sum_c {q : AU} {w : RS} {a b : Int64} : G_X6_sum q w a b = ((r0 w, 1, zb (aw q (a + b)), sb (aw q (a + b)), G_X10_isBelow (aw q (a + b)) (a), ovs a b (aw q (a + b)), rA w), (aw q (a + b))) := by
  have en : (G_X6_noteBits q w (a + b)).2 = (aw q (a + b)) := by rw [nb_eq]
  by_cases h1 : 0 ≤ G_J13_compareUnsigned_74951 (aw q (a + b)) (a)
  · by_cases h2 : ((a ^^^ (aw q (a + b))) &&& (b ^^^ (aw q (a + b)))) < 0
    · have e2 : ovs a b (aw q (a + b)) = 1 := if_pos h2
      rw [g_X6_sum_0 (by rw [en]; exact h1) (by rw [en]; exact h2), nb_eq, cu_0 h1, e2]
    · have e2 : ovs a b (aw q (a + b)) = 0 := if_neg h2
      rw [g_X6_sum_1 (by rw [en]; exact h1) (by rw [en]; exact h2), nb_eq, cu_0 h1, e2]
  · by_cases h2 : ((a ^^^ (aw q (a + b))) &&& (b ^^^ (aw q (a + b)))) < 0
    · have e2 : ovs a b (aw q (a + b)) = 1 := if_pos h2
      rw [g_X6_sum_2 (by rw [en]; exact h1) (by rw [en]; exact h2), nb_eq, cu_1 h1, e2]
    · have e2 : ovs a b (aw q (a + b)) = 0 := if_neg h2
      rw [g_X6_sum_3 (by rw [en]; exact h1) (by rw [en]; exact h2), nb_eq, cu_1 h1, e2]
theorem sum_r {q : AU} {w : RS} {a b : Int64} : G_X10_sum q w a b = ((r0 w, 0, zb (aw q (a + b)), sb (aw q (a + b)), G_X10_isBelow (aw q (a + b)) (a), ovs a b (aw q (a + b)), rA w), (aw q (a + b))) := by
  by_cases h2 : ((a ^^^ (aw q (a + b))) &&& (b ^^^ (aw q (a + b)))) < 0
  · have e2 : ovs a b (aw q (a + b)) = 1 := if_pos h2
    rw [g_X10_sum_0 h2, fl_eq, e2]; rfl
  · have e2 : ovs a b (aw q (a + b)) = 0 := if_neg h2
    rw [g_X10_sum_1 h2, fl_eq, e2]; rfl
theorem difference_c {q : AU} {w : RS} {a b : Int64} : G_X6_difference q w a b = ((r0 w, 1, zb (aw q (a - b)), sb (aw q (a - b)), G_X10_isBelow (a) (b), ovd a b (aw q (a - b)), rA w), (aw q (a - b))) := by
  have en : (G_X6_noteBits q w (a - b)).2 = (aw q (a - b)) := by rw [nb_eq]
  by_cases h1 : 0 ≤ G_J13_compareUnsigned_74951 (a) (b)
  · by_cases h2 : ((a ^^^ b) &&& (a ^^^ (aw q (a - b)))) < 0
    · have e2 : ovd a b (aw q (a - b)) = 1 := if_pos h2
      rw [g_X6_difference_0 (by exact h1) (by rw [en]; exact h2), nb_eq, cu_0 h1, e2]
    · have e2 : ovd a b (aw q (a - b)) = 0 := if_neg h2
      rw [g_X6_difference_1 (by exact h1) (by rw [en]; exact h2), nb_eq, cu_0 h1, e2]
  · by_cases h2 : ((a ^^^ b) &&& (a ^^^ (aw q (a - b)))) < 0
    · have e2 : ovd a b (aw q (a - b)) = 1 := if_pos h2
      rw [g_X6_difference_2 (by exact h1) (by rw [en]; exact h2), nb_eq, cu_1 h1, e2]
    · have e2 : ovd a b (aw q (a - b)) = 0 := if_neg h2
      rw [g_X6_difference_3 (by exact h1) (by rw [en]; exact h2), nb_eq, cu_1 h1, e2]
theorem difference_r {q : AU} {w : RS} {a b : Int64} : G_X10_difference q w a b = ((r0 w, 0, zb (aw q (a - b)), sb (aw q (a - b)), G_X10_isBelow (a) (b), ovd a b (aw q (a - b)), rA w), (aw q (a - b))) := by
  by_cases h2 : ((a ^^^ b) &&& (a ^^^ (aw q (a - b)))) < 0
  · have e2 : ovd a b (aw q (a - b)) = 1 := if_pos h2
    rw [g_X10_difference_0 h2, fl_eq, e2]; rfl
  · have e2 : ovd a b (aw q (a - b)) = 0 := if_neg h2
    rw [g_X10_difference_1 h2, fl_eq, e2]; rfl
theorem bits_r {q : AU} {w : RS} {y : Int64} : G_X10_bits q w y = ((r0 w, 0, zb y, sb y, 0, 0, rA w), y) := by
  rw [g_X10_bits_0, fl_eq]
/-- both RUNs are in step -/
def Rw (w p : RS) : Prop := r0 w = r0 p ∧ ((r1 w = 0 ∧ r1 p = 1) ∨ (r1 w = 1 ∧ r1 p = 0 ∧ r2 w = r2 p ∧ r3 w = r3 p ∧ r4 w = r4 p ∧ r5 w = r5 p)) ∧ ∀ i, i < 24 → rA w i = rA p i
theorem il_nz {x : Int32} (h : Rg 0 23 x) : ¬ G_X9_isLocation x = 0 := by
  have h1 : ¬ x < 0 := fun q => by
    have a := Int32.lt_iff_toInt_lt.mp q
    rw [show (0 : Int32).toInt = 0 from rfl] at a
    have := h.1
    omega
  have h2 : ¬ 24 ≤ x := fun q => by
    have a := Int32.le_iff_toInt_le.mp q
    rw [show (24 : Int32).toInt = 24 from rfl] at a
    have := h.2
    omega
  rw [g_X9_isLocation_2 h1 h2]
  decide
theorem wr {q : AU} {w p : RS} {y z : Int64} (hg : Rg 0 23 (u2 q)) (h7 : ¬ u0 q = 7) (h8 : ¬ u0 q = 8) (h : Rw w p) (e : y = z ∨ aw q y = z) : Rw (G_X6_write q w y) (G_X10_run_p277 q p z) := by
  obtain ⟨a1, a2, a3⟩ := h
  by_cases h64 : u1 q = 64
  · have ev : y = z := e.elim id (fun q => by rw [aw_64 h64] at q; exact q)
    subst ev
    rw [g_X6_write_1 (il_nz hg) h64, g_X10_run_p277_2 h7 h8 h64]
    refine ⟨a1, a2, fun i hi => ?_⟩
    show vp_updL (rA w) (u2 q).toNatClampNeg y i = vp_updL (rA p) (u2 q).toNatClampNeg y i
    unfold vp_updL
    split
    · rfl
    · exact a3 i hi
  · have ev : y &&& 4294967295 = z &&& 4294967295 := e.elim (fun q => by rw [q]) (fun q => by rw [← q, aw_mk])
    rw [g_X6_write_2 (il_nz hg) h64, g_X10_run_p277_3 h7 h8 h64]
    refine ⟨a1, a2, fun i hi => ?_⟩
    show vp_updL (rA w) (u2 q).toNatClampNeg (y &&& 4294967295) i = vp_updL (rA p) (u2 q).toNatClampNeg (z &&& 4294967295) i
    unfold vp_updL
    split
    · exact ev
    · exact a3 i hi
theorem rw_fl {w p : RS} {z s c v : Int32} (h : Rw w p) : Rw (r0 w, 1, z, s, c, v, rA w) (r0 p, 0, z, s, c, v, rA p) := ⟨h.1, Or.inr ⟨rfl, rfl, rfl, rfl, rfl, rfl⟩, h.2.2⟩
theorem rw_un {w p : RS} {a1 a2 a3 a4 b1 b2 b3 b4 : Int32} (h : Rw w p) : Rw (r0 w, 0, a1, a2, a3, a4, rA w) (r0 p, 1, b1, b2, b3, b4, rA p) := ⟨h.1, Or.inl ⟨rfl, rfl⟩, h.2.2⟩
theorem ov_inc {a v : Int64} : ovs a 1 v = if a < 0 then 0 else if v < 0 then 1 else 0 := by
  unfold ovs
  have n1 : ¬ (1 : Int64) < 0 := by decide
  by_cases ha : a < 0
  · rw [if_pos ha, if_neg]
    intro q
    rw [and_lt, xor_lt, xor_lt] at q
    exact q.2 ⟨fun y => absurd y n1, fun y => absurd (⟨fun _ => y, fun _ => ha⟩ : a < 0 ↔ v < 0) q.1⟩
  · rw [if_neg ha]
    by_cases hv : v < 0
    · rw [if_pos hv, if_pos]
      rw [and_lt, xor_lt, xor_lt]
      exact ⟨fun y => ha (y.mpr hv), fun y => n1 (y.mpr hv)⟩
    · rw [if_neg hv, if_neg]
      intro q
      rw [and_lt, xor_lt, xor_lt] at q
      exact q.1 ⟨fun y => absurd y ha, fun y => absurd y hv⟩
theorem ov_dec {a v : Int64} : ovd a 1 v = if a < 0 then if v < 0 then 0 else 1 else 0 := by
  unfold ovd
  have n1 : ¬ (1 : Int64) < 0 := by decide
  by_cases ha : a < 0
  · rw [if_pos ha]
    by_cases hv : v < 0
    · rw [if_pos hv, if_neg]
      intro q
      rw [and_lt, xor_lt, xor_lt] at q
      exact q.2 ⟨fun _ => hv, fun _ => ha⟩
    · rw [if_neg hv, if_pos]
      rw [and_lt, xor_lt, xor_lt]
      exact ⟨fun y => n1 (y.mp ha), fun y => hv (y.mp ha)⟩
  · rw [if_neg ha, if_neg]
    intro q
    rw [and_lt, xor_lt, xor_lt] at q
    exact q.1 ⟨fun y => absurd y ha, fun y => absurd y n1⟩
theorem sim_inc {q : AU} {w p : RS} {a : Int64} (h : Rw w p) : Rw (G_X6_nextTo q w a 1).1 (G_X10_count q p a 1).1 ∧ ((G_X6_nextTo q w a 1).2 = (G_X10_count q p a 1).2 ∨ aw q (G_X6_nextTo q w a 1).2 = (G_X10_count q p a 1).2) := by
  have ec : ∃ ov, G_X10_count q p a 1 = ((r0 p, r1 p, zb (aw q (a + 1)), sb (aw q (a + 1)), r4 p, ov, rA p), (aw q (a + 1))) ∧ ov = if a < 0 then 0 else if (aw q (a + 1)) < 0 then 1 else 0 := by
    by_cases ha : a < 0
    · exact ⟨0, by rw [g_X10_count_0 (by decide) ha, fl_eq]; rfl, by rw [if_pos ha]⟩
    · by_cases hv : (aw q (a + 1)) < 0
      · exact ⟨1, by rw [g_X10_count_1 (by decide) ha hv, fl_eq]; rfl, by rw [if_neg ha, if_pos hv]⟩
      · exact ⟨0, by rw [g_X10_count_2 (by decide) ha hv, fl_eq]; rfl, by rw [if_neg ha, if_neg hv]⟩
  obtain ⟨ov, ec, eo⟩ := ec
  rw [ec]
  obtain ⟨h0, hf, hA⟩ := h
  rcases hf with ⟨k1, k2⟩ | ⟨k1, k2, k3, k4, k5, k6⟩
  · rw [g_X6_nextTo_1 k1 (by decide)]
    refine ⟨⟨h0, Or.inl ⟨k1, k2⟩, hA⟩, Or.inr ?_⟩
    rfl
  · have k1' : ¬ r1 w = 0 := by rw [k1]; decide
    rw [g_X6_nextTo_3 k1' (by decide), sum_c]
    refine ⟨⟨h0, Or.inr ⟨rfl, k2, rfl, rfl, k5, ?_⟩, hA⟩, Or.inl rfl⟩
    show ovs a 1 (aw q (a + 1)) = ov
    rw [ov_inc, eo]
theorem sim_dec {q : AU} {w p : RS} {a : Int64} (h : Rw w p) : Rw (G_X6_nextTo q w a 0).1 (G_X10_count q p a (-1)).1 ∧ ((G_X6_nextTo q w a 0).2 = (G_X10_count q p a (-1)).2 ∨ aw q (G_X6_nextTo q w a 0).2 = (G_X10_count q p a (-1)).2) := by
  have ec : ∃ ov, G_X10_count q p a (-1) = ((r0 p, r1 p, zb (aw q (a + (-1))), sb (aw q (a + (-1))), r4 p, ov, rA p), (aw q (a + (-1)))) ∧ ov = if a < 0 then if (aw q (a + (-1))) < 0 then 0 else 1 else 0 := by
    by_cases ha : a < 0
    · by_cases hv : (aw q (a + (-1))) < 0
      · exact ⟨0, by rw [g_X10_count_3 (by decide) ha hv, fl_eq]; rfl, by rw [if_pos ha, if_pos hv]⟩
      · exact ⟨1, by rw [g_X10_count_4 (by decide) ha hv, fl_eq]; rfl, by rw [if_pos ha, if_neg hv]⟩
    · exact ⟨0, by rw [g_X10_count_5 (by decide) ha, fl_eq]; rfl, by rw [if_neg ha]⟩
  obtain ⟨ov, ec, eo⟩ := ec
  rw [ec]
  obtain ⟨h0, hf, hA⟩ := h
  have es : a - 1 = a + (-1) := Int64.sub_eq_add_neg a 1
  rcases hf with ⟨k1, k2⟩ | ⟨k1, k2, k3, k4, k5, k6⟩
  · rw [g_X6_nextTo_0 k1 rfl]
    refine ⟨⟨h0, Or.inl ⟨k1, k2⟩, hA⟩, Or.inr ?_⟩
    show aw q (a - 1) = _; rw [es]
  · have k1' : ¬ r1 w = 0 := by rw [k1]; decide
    rw [g_X6_nextTo_2 k1' rfl, difference_c]
    refine ⟨⟨h0, Or.inr ⟨rfl, k2, by show zb (aw q (a - 1)) = _; rw [es], by show sb (aw q (a - 1)) = _; rw [es], k5, ?_⟩, hA⟩, Or.inl (by show aw q (a - 1) = _; rw [es])⟩
    show ovd a 1 (aw q (a - 1)) = ov
    rw [ov_dec, eo, es]
theorem sh_sim {q : AU} {w p : RS} {a : Int64} (hg : Rg 0 23 (u2 q)) (h7 : ¬ u0 q = 7) (h8 : ¬ u0 q = 8) (h : Rw w p) : Rw (G_X6_write q (r0 w, 0, r2 w, r3 w, r4 w, r5 w, rA w) (G_X6_shifted q (r0 w, 0, r2 w, r3 w, r4 w, r5 w, rA w) a)) (G_X10_run_p277 q (G_X10_shifted q p a).1 (G_X10_shifted q p a).2) := by
  by_cases k14 : u0 q = 14
  · by_cases k64 : u1 q = 64
    · rw [g_X6_shifted_0 k14, g_X10_shifted_0 k64 k14]; exact wr hg h7 h8 (rw_un h) (Or.inl rfl)
    · rw [g_X6_shifted_0 k14, g_X10_shifted_3 k64 k14]; exact wr hg h7 h8 (rw_un h) (Or.inl rfl)
  · by_cases k15 : u0 q = 15
    · by_cases k64 : u1 q = 64
      · rw [g_X6_shifted_1 k14 k15 k64, g_X10_shifted_1 k64 k14 k15]; exact wr hg h7 h8 (rw_un h) (Or.inl rfl)
      · rw [g_X6_shifted_2 k14 k15 k64, g_X10_shifted_4 k64 k14 k15]; exact wr hg h7 h8 (rw_un h) (Or.inl rfl)
    · by_cases k64 : u1 q = 64
      · rw [g_X6_shifted_3 k14 k15, g_X10_shifted_2 k64 k14 k15]; exact wr hg h7 h8 (rw_un h) (Or.inl rfl)
      · rw [g_X6_shifted_3 k14 k15, g_X10_shifted_5 k64 k14 k15]; exact wr hg h7 h8 (rw_un h) (Or.inl rfl)
theorem wr2 {q : AU} {X : RS × Int64} {Y : RS × Int64} {W P : RS} {y z : Int64} (hX : X = (W, y)) (hY : Y = (P, z)) (hg : Rg 0 23 (u2 q)) (h7 : ¬ u0 q = 7) (h8 : ¬ u0 q = 8) (h : Rw W P) (e : y = z ∨ aw q y = z) : Rw (G_X6_write q X.1 X.2) (G_X10_run_p277 q Y.1 Y.2) := by
  subst hX hY; exact wr hg h7 h8 h e
set_option maxHeartbeats 8000000 in
theorem sim_p62 {q : AU} {w p : RS} {a b c : Int64} (hr : Rg 0 18 (u0 q)) (n2 : ¬ u0 q = 2) (n3 : ¬ u0 q = 3) (hg : Rg 0 23 (u2 q)) (h : Rw w p) (ha : aw q a = a) (hb : aw q b = b) (hc : b = c ∨ Rg 14 16 (u0 q)) : Rw (G_X6_compute_p62 q w (u0 q) a b) (G_X10_run_p45 q p a c) := by
  have hbc : ¬ Rg 14 16 (u0 q) → b = c := fun q => hc.elim id (fun y => absurd y q)
  by_cases k : u0 q = 0
  · obtain rfl := hbc (by rw [k]; exact fun y => absurd y.1 (by decide))
    rw [g_X6_compute_p62_0  k, g_X10_run_p45_0  k]
    exact wr2 sum_c sum_r hg (by rw [k]; decide) (by rw [k]; decide) (rw_fl h) (Or.inl rfl)
  by_cases k : u0 q = 1
  · obtain rfl := hbc (by rw [k]; exact fun y => absurd y.1 (by decide))
    rw [g_X6_compute_p62_1 (by rw [k]; decide) k, g_X10_run_p45_1 (by rw [k]; decide) k]
    have e := nb_eq (q := q) (w := w) (y := a ||| b)
    rw [aw_or ha hb] at e
    exact wr2 e bits_r hg (by rw [k]; decide) (by rw [k]; decide) (rw_fl h) (Or.inl rfl)
  by_cases k : u0 q = 4
  · obtain rfl := hbc (by rw [k]; exact fun y => absurd y.1 (by decide))
    rw [g_X6_compute_p62_4 (by rw [k]; decide) (by rw [k]; decide) (by rw [k]; decide) (by rw [k]; decide) k, g_X10_run_p45_4 (by rw [k]; decide) (by rw [k]; decide) (by rw [k]; decide) (by rw [k]; decide) k]
    have e := nb_eq (q := q) (w := w) (y := a &&& b)
    rw [aw_and ha hb] at e
    exact wr2 e bits_r hg (by rw [k]; decide) (by rw [k]; decide) (rw_fl h) (Or.inl rfl)
  by_cases k : u0 q = 5
  · obtain rfl := hbc (by rw [k]; exact fun y => absurd y.1 (by decide))
    rw [g_X6_compute_p62_5 (by rw [k]; decide) (by rw [k]; decide) (by rw [k]; decide) (by rw [k]; decide) (by rw [k]; decide) k, g_X10_run_p45_5 (by rw [k]; decide) (by rw [k]; decide) (by rw [k]; decide) (by rw [k]; decide) (by rw [k]; decide) k]
    exact wr2 difference_c difference_r hg (by rw [k]; decide) (by rw [k]; decide) (rw_fl h) (Or.inl rfl)
  by_cases k : u0 q = 6
  · obtain rfl := hbc (by rw [k]; exact fun y => absurd y.1 (by decide))
    rw [g_X6_compute_p62_6 (by rw [k]; decide) (by rw [k]; decide) (by rw [k]; decide) (by rw [k]; decide) (by rw [k]; decide) (by rw [k]; decide) k, g_X10_run_p45_6 (by rw [k]; decide) (by rw [k]; decide) (by rw [k]; decide) (by rw [k]; decide) (by rw [k]; decide) (by rw [k]; decide) k]
    have e := nb_eq (q := q) (w := w) (y := a ^^^ b)
    rw [aw_xor ha hb] at e
    exact wr2 e bits_r hg (by rw [k]; decide) (by rw [k]; decide) (rw_fl h) (Or.inl rfl)
  by_cases k : u0 q = 7
  · obtain rfl := hbc (by rw [k]; exact fun y => absurd y.1 (by decide))
    rw [g_X6_compute_p62_7 (by rw [k]; decide) (by rw [k]; decide) (by rw [k]; decide) (by rw [k]; decide) (by rw [k]; decide) (by rw [k]; decide) (by rw [k]; decide) k, g_X10_run_p45_7 (by rw [k]; decide) (by rw [k]; decide) (by rw [k]; decide) (by rw [k]; decide) (by rw [k]; decide) (by rw [k]; decide) (by rw [k]; decide) k]
    rw [g_X10_run_p277_0 k, difference_c, difference_r]
    exact rw_fl h
  by_cases k : u0 q = 8
  · obtain rfl := hbc (by rw [k]; exact fun y => absurd y.1 (by decide))
    rw [g_X6_compute_p62_8 (by rw [k]; decide) (by rw [k]; decide) (by rw [k]; decide) (by rw [k]; decide) (by rw [k]; decide) (by rw [k]; decide) (by rw [k]; decide) (by rw [k]; decide) k, g_X10_run_p45_8 (by rw [k]; decide) (by rw [k]; decide) (by rw [k]; decide) (by rw [k]; decide) (by rw [k]; decide) (by rw [k]; decide) (by rw [k]; decide) (by rw [k]; decide) k]
    have e := nb_eq (q := q) (w := w) (y := a &&& b)
    rw [aw_and ha hb] at e
    rw [g_X10_run_p277_1 (by rw [k]; decide) k, e, bits_r]
    exact rw_fl h
  by_cases k : u0 q = 9
  · obtain rfl := hbc (by rw [k]; exact fun y => absurd y.1 (by decide))
    rw [g_X6_compute_p62_9 (by rw [k]; decide) (by rw [k]; decide) (by rw [k]; decide) (by rw [k]; decide) (by rw [k]; decide) (by rw [k]; decide) (by rw [k]; decide) (by rw [k]; decide) (by rw [k]; decide) k, g_X10_run_p45_9 (by rw [k]; decide) (by rw [k]; decide) (by rw [k]; decide) (by rw [k]; decide) (by rw [k]; decide) (by rw [k]; decide) (by rw [k]; decide) (by rw [k]; decide) (by rw [k]; decide) k]
    exact wr hg (by rw [k]; decide) (by rw [k]; decide) h (Or.inl rfl)
  by_cases k : u0 q = 10
  · obtain rfl := hbc (by rw [k]; exact fun y => absurd y.1 (by decide))
    rw [g_X6_compute_p62_10 (by rw [k]; decide) (by rw [k]; decide) (by rw [k]; decide) (by rw [k]; decide) (by rw [k]; decide) (by rw [k]; decide) (by rw [k]; decide) (by rw [k]; decide) (by rw [k]; decide) (by rw [k]; decide) k, g_X10_run_p45_10 (by rw [k]; decide) (by rw [k]; decide) (by rw [k]; decide) (by rw [k]; decide) (by rw [k]; decide) (by rw [k]; decide) (by rw [k]; decide) (by rw [k]; decide) (by rw [k]; decide) (by rw [k]; decide) k]
    exact wr2 difference_c difference_r hg (by rw [k]; decide) (by rw [k]; decide) (rw_fl h) (Or.inl rfl)
  by_cases k : u0 q = 11
  · obtain rfl := hbc (by rw [k]; exact fun y => absurd y.1 (by decide))
    rw [g_X6_compute_p62_11 (by rw [k]; decide) (by rw [k]; decide) (by rw [k]; decide) (by rw [k]; decide) (by rw [k]; decide) (by rw [k]; decide) (by rw [k]; decide) (by rw [k]; decide) (by rw [k]; decide) (by rw [k]; decide) (by rw [k]; decide) k, g_X10_run_p45_11 (by rw [k]; decide) (by rw [k]; decide) (by rw [k]; decide) (by rw [k]; decide) (by rw [k]; decide) (by rw [k]; decide) (by rw [k]; decide) (by rw [k]; decide) (by rw [k]; decide) (by rw [k]; decide) (by rw [k]; decide) k]
    obtain ⟨s1, s2⟩ := sim_inc (q := q) (a := a) h
    exact wr hg (by rw [k]; decide) (by rw [k]; decide) s1 s2
  by_cases k : u0 q = 12
  · obtain rfl := hbc (by rw [k]; exact fun y => absurd y.1 (by decide))
    rw [g_X6_compute_p62_12 (by rw [k]; decide) (by rw [k]; decide) (by rw [k]; decide) (by rw [k]; decide) (by rw [k]; decide) (by rw [k]; decide) (by rw [k]; decide) (by rw [k]; decide) (by rw [k]; decide) (by rw [k]; decide) (by rw [k]; decide) (by rw [k]; decide) k, g_X10_run_p45_12 (by rw [k]; decide) (by rw [k]; decide) (by rw [k]; decide) (by rw [k]; decide) (by rw [k]; decide) (by rw [k]; decide) (by rw [k]; decide) (by rw [k]; decide) (by rw [k]; decide) (by rw [k]; decide) (by rw [k]; decide) (by rw [k]; decide) k]
    obtain ⟨s1, s2⟩ := sim_dec (q := q) (a := a) h
    exact wr hg (by rw [k]; decide) (by rw [k]; decide) s1 s2
  by_cases k : u0 q = 13
  · obtain rfl := hbc (by rw [k]; exact fun y => absurd y.1 (by decide))
    rw [g_X6_compute_p62_13 (by rw [k]; decide) (by rw [k]; decide) (by rw [k]; decide) (by rw [k]; decide) (by rw [k]; decide) (by rw [k]; decide) (by rw [k]; decide) (by rw [k]; decide) (by rw [k]; decide) (by rw [k]; decide) (by rw [k]; decide) (by rw [k]; decide) (by rw [k]; decide) k, g_X10_run_p45_13 (by rw [k]; decide) (by rw [k]; decide) (by rw [k]; decide) (by rw [k]; decide) (by rw [k]; decide) (by rw [k]; decide) (by rw [k]; decide) (by rw [k]; decide) (by rw [k]; decide) (by rw [k]; decide) (by rw [k]; decide) (by rw [k]; decide) (by rw [k]; decide) k]
    exact wr hg (by rw [k]; decide) (by rw [k]; decide) h (Or.inl rfl)
  by_cases k : u0 q = 14
  · rw [g_X6_compute_p62_15 (by rw [k]; decide) (by rw [k]; decide) (by rw [k]; decide) (by rw [k]; decide) (by rw [k]; decide) (by rw [k]; decide) (by rw [k]; decide) (by rw [k]; decide) (by rw [k]; decide) (by rw [k]; decide) (by rw [k]; decide) (by rw [k]; decide) (by rw [k]; decide) (by rw [k]; decide) k (by rw [k]; decide), g_X10_run_p45_14 (by rw [k]; decide) (by rw [k]; decide) (by rw [k]; decide) (by rw [k]; decide) (by rw [k]; decide) (by rw [k]; decide) (by rw [k]; decide) (by rw [k]; decide) (by rw [k]; decide) (by rw [k]; decide) (by rw [k]; decide) (by rw [k]; decide) (by rw [k]; decide) (by rw [k]; decide) k]
    exact sh_sim hg (by rw [k]; decide) (by rw [k]; decide) h
  by_cases k : u0 q = 15
  · rw [g_X6_compute_p62_17 (by rw [k]; decide) (by rw [k]; decide) (by rw [k]; decide) (by rw [k]; decide) (by rw [k]; decide) (by rw [k]; decide) (by rw [k]; decide) (by rw [k]; decide) (by rw [k]; decide) (by rw [k]; decide) (by rw [k]; decide) (by rw [k]; decide) (by rw [k]; decide) (by rw [k]; decide) (by rw [k]; decide) k (by rw [k]; decide), g_X10_run_p45_15 (by rw [k]; decide) (by rw [k]; decide) (by rw [k]; decide) (by rw [k]; decide) (by rw [k]; decide) (by rw [k]; decide) (by rw [k]; decide) (by rw [k]; decide) (by rw [k]; decide) (by rw [k]; decide) (by rw [k]; decide) (by rw [k]; decide) (by rw [k]; decide) (by rw [k]; decide) (by rw [k]; decide) k]
    exact sh_sim hg (by rw [k]; decide) (by rw [k]; decide) h
  by_cases k : u0 q = 16
  · rw [g_X6_compute_p62_19 (by rw [k]; decide) (by rw [k]; decide) (by rw [k]; decide) (by rw [k]; decide) (by rw [k]; decide) (by rw [k]; decide) (by rw [k]; decide) (by rw [k]; decide) (by rw [k]; decide) (by rw [k]; decide) (by rw [k]; decide) (by rw [k]; decide) (by rw [k]; decide) (by rw [k]; decide) (by rw [k]; decide) (by rw [k]; decide) k (by rw [k]; decide), g_X10_run_p45_16 (by rw [k]; decide) (by rw [k]; decide) (by rw [k]; decide) (by rw [k]; decide) (by rw [k]; decide) (by rw [k]; decide) (by rw [k]; decide) (by rw [k]; decide) (by rw [k]; decide) (by rw [k]; decide) (by rw [k]; decide) (by rw [k]; decide) (by rw [k]; decide) (by rw [k]; decide) (by rw [k]; decide) (by rw [k]; decide) k]
    exact sh_sim hg (by rw [k]; decide) (by rw [k]; decide) h
  by_cases k : u0 q = 17
  · obtain rfl := hbc (by rw [k]; exact fun y => absurd y.2 (by decide))
    rw [g_X6_compute_p62_20 (by rw [k]; decide) (by rw [k]; decide) (by rw [k]; decide) (by rw [k]; decide) (by rw [k]; decide) (by rw [k]; decide) (by rw [k]; decide) (by rw [k]; decide) (by rw [k]; decide) (by rw [k]; decide) (by rw [k]; decide) (by rw [k]; decide) (by rw [k]; decide) (by rw [k]; decide) (by rw [k]; decide) (by rw [k]; decide) (by rw [k]; decide) k, g_X10_run_p45_17 (by rw [k]; decide) (by rw [k]; decide) (by rw [k]; decide) (by rw [k]; decide) (by rw [k]; decide) (by rw [k]; decide) (by rw [k]; decide) (by rw [k]; decide) (by rw [k]; decide) (by rw [k]; decide) (by rw [k]; decide) (by rw [k]; decide) (by rw [k]; decide) (by rw [k]; decide) (by rw [k]; decide) (by rw [k]; decide) (by rw [k]; decide) k]
    exact wr hg (by rw [k]; decide) (by rw [k]; decide) (rw_un h) (Or.inl rfl)
  by_cases k : u0 q = 18
  · obtain rfl := hbc (by rw [k]; exact fun y => absurd y.2 (by decide))
    rw [g_X6_compute_p62_21 (by rw [k]; decide) (by rw [k]; decide) (by rw [k]; decide) (by rw [k]; decide) (by rw [k]; decide) (by rw [k]; decide) (by rw [k]; decide) (by rw [k]; decide) (by rw [k]; decide) (by rw [k]; decide) (by rw [k]; decide) (by rw [k]; decide) (by rw [k]; decide) (by rw [k]; decide) (by rw [k]; decide) (by rw [k]; decide) (by rw [k]; decide) (by rw [k]; decide) k, g_X10_run_p45_18 (by rw [k]; decide) (by rw [k]; decide) (by rw [k]; decide) (by rw [k]; decide) (by rw [k]; decide) (by rw [k]; decide) (by rw [k]; decide) (by rw [k]; decide) (by rw [k]; decide) (by rw [k]; decide) (by rw [k]; decide) (by rw [k]; decide) (by rw [k]; decide) (by rw [k]; decide) (by rw [k]; decide) (by rw [k]; decide) (by rw [k]; decide) (by rw [k]; decide) k]
    exact wr hg (by rw [k]; decide) (by rw [k]; decide) h (Or.inl rfl)
  exfalso
  obtain ⟨h1, h2⟩ := hr
  have c0 : (u0 q).toInt ≠ 0 := fun e => (by assumption : ¬ u0 q = 0) (Int32.toInt_inj.mp e)
  have c1 : (u0 q).toInt ≠ 1 := fun e => (by assumption : ¬ u0 q = 1) (Int32.toInt_inj.mp e)
  have c2 : (u0 q).toInt ≠ 2 := fun e => n2 (Int32.toInt_inj.mp e)
  have c3 : (u0 q).toInt ≠ 3 := fun e => n3 (Int32.toInt_inj.mp e)
  have c4 : (u0 q).toInt ≠ 4 := fun e => (by assumption : ¬ u0 q = 4) (Int32.toInt_inj.mp e)
  have c5 : (u0 q).toInt ≠ 5 := fun e => (by assumption : ¬ u0 q = 5) (Int32.toInt_inj.mp e)
  have c6 : (u0 q).toInt ≠ 6 := fun e => (by assumption : ¬ u0 q = 6) (Int32.toInt_inj.mp e)
  have c7 : (u0 q).toInt ≠ 7 := fun e => (by assumption : ¬ u0 q = 7) (Int32.toInt_inj.mp e)
  have c8 : (u0 q).toInt ≠ 8 := fun e => (by assumption : ¬ u0 q = 8) (Int32.toInt_inj.mp e)
  have c9 : (u0 q).toInt ≠ 9 := fun e => (by assumption : ¬ u0 q = 9) (Int32.toInt_inj.mp e)
  have c10 : (u0 q).toInt ≠ 10 := fun e => (by assumption : ¬ u0 q = 10) (Int32.toInt_inj.mp e)
  have c11 : (u0 q).toInt ≠ 11 := fun e => (by assumption : ¬ u0 q = 11) (Int32.toInt_inj.mp e)
  have c12 : (u0 q).toInt ≠ 12 := fun e => (by assumption : ¬ u0 q = 12) (Int32.toInt_inj.mp e)
  have c13 : (u0 q).toInt ≠ 13 := fun e => (by assumption : ¬ u0 q = 13) (Int32.toInt_inj.mp e)
  have c14 : (u0 q).toInt ≠ 14 := fun e => (by assumption : ¬ u0 q = 14) (Int32.toInt_inj.mp e)
  have c15 : (u0 q).toInt ≠ 15 := fun e => (by assumption : ¬ u0 q = 15) (Int32.toInt_inj.mp e)
  have c16 : (u0 q).toInt ≠ 16 := fun e => (by assumption : ¬ u0 q = 16) (Int32.toInt_inj.mp e)
  have c17 : (u0 q).toInt ≠ 17 := fun e => (by assumption : ¬ u0 q = 17) (Int32.toInt_inj.mp e)
  have c18 : (u0 q).toInt ≠ 18 := fun e => (by assumption : ¬ u0 q = 18) (Int32.toInt_inj.mp e)
  omega
