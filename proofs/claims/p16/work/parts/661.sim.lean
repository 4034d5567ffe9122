set_option maxHeartbeats 4000000 in
theorem so_eq {q : AU} {w p : RS} {x : Int32} (hx : Rg 0 15 x) (e2 : r2 w = r2 p) (e3 : r3 w = r3 p) (e4 : r4 w = r4 p) (e5 : r5 w = r5 p) : G_X6_isSo q w x = G_X10_holds q p x := by
  by_cases k0 : x = 0
  · subst k0
    by_cases a0 : r5 p = 1
    · skip
      rw [g_X6_isSo_0 (x1 := 0) (by decide) (by decide) (by rw [e5]; exact a0), g_X10_holds_0 (x1 := 0) (by decide) (by decide) a0]
    · skip
      rw [g_X6_isSo_1 (x1 := 0) (by decide) (by decide) (by rw [e5]; exact a0), g_X10_holds_1 (x1 := 0) (by decide) (by decide) a0]
  by_cases k1 : x = 1
  · subst k1
    by_cases a0 : r5 p = 0
    · skip
      rw [g_X6_isSo_2 (x1 := 1) (by decide) (by decide) (by rw [e5]; exact a0), g_X10_holds_2 (x1 := 1) (by decide) (by decide) a0]
    · skip
      rw [g_X6_isSo_3 (x1 := 1) (by decide) (by decide) (by rw [e5]; exact a0), g_X10_holds_3 (x1 := 1) (by decide) (by decide) a0]
  by_cases k2 : x = 2
  · subst k2
    by_cases a0 : r4 p = 1
    · skip
      rw [g_X6_isSo_10 (x1 := 2) (by decide) (by decide) (by decide) (by decide) (by rw [e4]; exact a0), g_X10_holds_4 (x1 := 2) (by decide) (by decide) (by decide) a0]
    · skip
      rw [g_X6_isSo_11 (x1 := 2) (by decide) (by decide) (by decide) (by decide) (by rw [e4]; exact a0), g_X10_holds_5 (x1 := 2) (by decide) (by decide) (by decide) a0]
  by_cases k3 : x = 3
  · subst k3
    by_cases a0 : r4 p = 0
    · skip
      rw [g_X6_isSo_12 (x1 := 3) (by decide) (by decide) (by decide) (by decide) (by rw [e4]; exact a0), g_X10_holds_6 (x1 := 3) (by decide) (by decide) (by decide) a0]
    · skip
      rw [g_X6_isSo_13 (x1 := 3) (by decide) (by decide) (by decide) (by decide) (by rw [e4]; exact a0), g_X10_holds_7 (x1 := 3) (by decide) (by decide) (by decide) a0]
  by_cases k4 : x = 4
  · subst k4
    by_cases a0 : r2 p = 1
    · skip
      rw [g_X6_isSo_20 (x1 := 4) (by decide) (by decide) (by decide) (by decide) (by decide) (by decide) (by rw [e2]; exact a0), g_X10_holds_8 (x1 := 4) (by decide) (by decide) (by decide) (by decide) a0]
    · skip
      rw [g_X6_isSo_21 (x1 := 4) (by decide) (by decide) (by decide) (by decide) (by decide) (by decide) (by rw [e2]; exact a0), g_X10_holds_9 (x1 := 4) (by decide) (by decide) (by decide) (by decide) a0]
  by_cases k5 : x = 5
  · subst k5
    by_cases a0 : r2 p = 0
    · skip
      rw [g_X6_isSo_22 (x1 := 5) (by decide) (by decide) (by decide) (by decide) (by decide) (by decide) (by rw [e2]; exact a0), g_X10_holds_10 (x1 := 5) (by decide) (by decide) (by decide) (by decide) a0]
    · skip
      rw [g_X6_isSo_23 (x1 := 5) (by decide) (by decide) (by decide) (by decide) (by decide) (by decide) (by rw [e2]; exact a0), g_X10_holds_11 (x1 := 5) (by decide) (by decide) (by decide) (by decide) a0]
  by_cases k6 : x = 6
  · subst k6
    by_cases a0 : r4 p = 0
    · skip
      by_cases a1 : r2 p = 0
      · skip
        rw [g_X6_isSo_30 (x1 := 6) (by decide) (by decide) (by decide) (by decide) (by decide) (by decide) (by decide) (by rw [e4]; exact a0) (by rw [e2]; exact a1) (by decide), g_X10_holds_12 (x1 := 6) (by decide) (by decide) (by decide) (by decide) a0 a1 (by decide)]
      · skip
        rw [g_X6_isSo_32 (x1 := 6) (by decide) (by decide) (by decide) (by decide) (by decide) (by decide) (by decide) (by rw [e4]; exact a0) (by rw [e2]; exact a1) (by decide), g_X10_holds_14 (x1 := 6) (by decide) (by decide) (by decide) (by decide) a0 a1 (by decide)]
    · skip
      by_cases a1 : r2 p = 0
      · skip
        rw [g_X6_isSo_34 (x1 := 6) (by decide) (by decide) (by decide) (by decide) (by decide) (by decide) (by decide) (by rw [e4]; exact a0) (by decide), g_X10_holds_16 (x1 := 6) (by decide) (by decide) (by decide) (by decide) a0 (by decide)]
      · skip
        rw [g_X6_isSo_34 (x1 := 6) (by decide) (by decide) (by decide) (by decide) (by decide) (by decide) (by decide) (by rw [e4]; exact a0) (by decide), g_X10_holds_16 (x1 := 6) (by decide) (by decide) (by decide) (by decide) a0 (by decide)]
  by_cases k7 : x = 7
  · subst k7
    by_cases a0 : r4 p = 0
    · skip
      by_cases a1 : r2 p = 0
      · skip
        rw [g_X6_isSo_31 (x1 := 7) (by decide) (by decide) (by decide) (by decide) (by decide) (by decide) (by decide) (by rw [e4]; exact a0) (by rw [e2]; exact a1) (by decide), g_X10_holds_13 (x1 := 7) (by decide) (by decide) (by decide) (by decide) a0 a1 (by decide)]
      · skip
        rw [g_X6_isSo_33 (x1 := 7) (by decide) (by decide) (by decide) (by decide) (by decide) (by decide) (by decide) (by rw [e4]; exact a0) (by rw [e2]; exact a1) (by decide), g_X10_holds_15 (x1 := 7) (by decide) (by decide) (by decide) (by decide) a0 a1 (by decide)]
    · skip
      by_cases a1 : r2 p = 0
      · skip
        rw [g_X6_isSo_35 (x1 := 7) (by decide) (by decide) (by decide) (by decide) (by decide) (by decide) (by decide) (by rw [e4]; exact a0) (by decide), g_X10_holds_17 (x1 := 7) (by decide) (by decide) (by decide) (by decide) a0 (by decide)]
      · skip
        rw [g_X6_isSo_35 (x1 := 7) (by decide) (by decide) (by decide) (by decide) (by decide) (by decide) (by decide) (by rw [e4]; exact a0) (by decide), g_X10_holds_17 (x1 := 7) (by decide) (by decide) (by decide) (by decide) a0 (by decide)]
  by_cases k8 : x = 8
  · subst k8
    by_cases a0 : r3 p = 1
    · skip
      rw [g_X6_isSo_42 (x1 := 8) (by decide) (by decide) (by decide) (by decide) (by decide) (by decide) (by decide) (by decide) (by decide) (by decide) (by rw [e3]; exact a0), g_X10_holds_18 (x1 := 8) (by decide) (by decide) (by decide) (by decide) (by decide) (by decide) a0]
    · skip
      rw [g_X6_isSo_43 (x1 := 8) (by decide) (by decide) (by decide) (by decide) (by decide) (by decide) (by decide) (by decide) (by decide) (by decide) (by rw [e3]; exact a0), g_X10_holds_19 (x1 := 8) (by decide) (by decide) (by decide) (by decide) (by decide) (by decide) a0]
  by_cases k9 : x = 9
  · subst k9
    by_cases a0 : r3 p = 0
    · skip
      rw [g_X6_isSo_44 (x1 := 9) (by decide) (by decide) (by decide) (by decide) (by decide) (by decide) (by decide) (by decide) (by decide) (by decide) (by rw [e3]; exact a0), g_X10_holds_20 (x1 := 9) (by decide) (by decide) (by decide) (by decide) (by decide) (by decide) a0]
    · skip
      rw [g_X6_isSo_45 (x1 := 9) (by decide) (by decide) (by decide) (by decide) (by decide) (by decide) (by decide) (by decide) (by decide) (by decide) (by rw [e3]; exact a0), g_X10_holds_21 (x1 := 9) (by decide) (by decide) (by decide) (by decide) (by decide) (by decide) a0]
  by_cases k10 : x = 10
  · subst k10
    by_cases a0 : r2 p = 0
    · skip
      by_cases a1 : r3 p = r5 p
      · skip
        rw [g_X6_isSo_52 (x1 := 10) (by decide) (by decide) (by decide) (by decide) (by decide) (by decide) (by decide) (by decide) (by decide) (by decide) (by decide) (by rw [e2]; exact a0) (by rw [e3, e5]; exact a1) (by decide), g_X10_holds_22 (x1 := 10) (by decide) (by decide) (by decide) (by decide) (by decide) (by decide) a0 a1 (by decide)]
      · skip
        rw [g_X6_isSo_54 (x1 := 10) (by decide) (by decide) (by decide) (by decide) (by decide) (by decide) (by decide) (by decide) (by decide) (by decide) (by decide) (by rw [e2]; exact a0) (by rw [e3, e5]; exact a1) (by decide), g_X10_holds_24 (x1 := 10) (by decide) (by decide) (by decide) (by decide) (by decide) (by decide) a0 a1 (by decide)]
    · skip
      by_cases a1 : r3 p = r5 p
      · skip
        rw [g_X6_isSo_56 (x1 := 10) (by decide) (by decide) (by decide) (by decide) (by decide) (by decide) (by decide) (by decide) (by decide) (by decide) (by decide) (by rw [e2]; exact a0) (by decide), g_X10_holds_26 (x1 := 10) (by decide) (by decide) (by decide) (by decide) (by decide) (by decide) a0 (by decide)]
      · skip
        rw [g_X6_isSo_56 (x1 := 10) (by decide) (by decide) (by decide) (by decide) (by decide) (by decide) (by decide) (by decide) (by decide) (by decide) (by decide) (by rw [e2]; exact a0) (by decide), g_X10_holds_26 (x1 := 10) (by decide) (by decide) (by decide) (by decide) (by decide) (by decide) a0 (by decide)]
  by_cases k11 : x = 11
  · subst k11
    by_cases a0 : r2 p = 0
    · skip
      by_cases a1 : r3 p = r5 p
      · skip
        rw [g_X6_isSo_53 (x1 := 11) (by decide) (by decide) (by decide) (by decide) (by decide) (by decide) (by decide) (by decide) (by decide) (by decide) (by decide) (by rw [e2]; exact a0) (by rw [e3, e5]; exact a1) (by decide), g_X10_holds_23 (x1 := 11) (by decide) (by decide) (by decide) (by decide) (by decide) (by decide) a0 a1 (by decide)]
      · skip
        rw [g_X6_isSo_55 (x1 := 11) (by decide) (by decide) (by decide) (by decide) (by decide) (by decide) (by decide) (by decide) (by decide) (by decide) (by decide) (by rw [e2]; exact a0) (by rw [e3, e5]; exact a1) (by decide), g_X10_holds_25 (x1 := 11) (by decide) (by decide) (by decide) (by decide) (by decide) (by decide) a0 a1 (by decide)]
    · skip
      by_cases a1 : r3 p = r5 p
      · skip
        rw [g_X6_isSo_57 (x1 := 11) (by decide) (by decide) (by decide) (by decide) (by decide) (by decide) (by decide) (by decide) (by decide) (by decide) (by decide) (by rw [e2]; exact a0) (by decide), g_X10_holds_27 (x1 := 11) (by decide) (by decide) (by decide) (by decide) (by decide) (by decide) a0 (by decide)]
      · skip
        rw [g_X6_isSo_57 (x1 := 11) (by decide) (by decide) (by decide) (by decide) (by decide) (by decide) (by decide) (by decide) (by decide) (by decide) (by decide) (by rw [e2]; exact a0) (by decide), g_X10_holds_27 (x1 := 11) (by decide) (by decide) (by decide) (by decide) (by decide) (by decide) a0 (by decide)]
  by_cases k12 : x = 12
  · subst k12
    by_cases a0 : r3 p = r5 p
    · skip
      rw [g_X6_isSo_64 (x1 := 12) (by decide) (by decide) (by decide) (by decide) (by decide) (by decide) (by decide) (by decide) (by decide) (by decide) (by decide) (by decide) (by decide) (by rw [e3, e5]; exact a0) (by decide), g_X10_holds_28 (x1 := 12) (by decide) (by decide) (by decide) (by decide) (by decide) (by decide) (by decide) a0 (by decide)]
    · skip
      rw [g_X6_isSo_66 (x1 := 12) (by decide) (by decide) (by decide) (by decide) (by decide) (by decide) (by decide) (by decide) (by decide) (by decide) (by decide) (by decide) (by decide) (by rw [e3, e5]; exact a0) (by decide), g_X10_holds_30 (x1 := 12) (by decide) (by decide) (by decide) (by decide) (by decide) (by decide) (by decide) a0 (by decide)]
  by_cases k13 : x = 13
  · subst k13
    by_cases a0 : r3 p = r5 p
    · skip
      rw [g_X6_isSo_65 (x1 := 13) (by decide) (by decide) (by decide) (by decide) (by decide) (by decide) (by decide) (by decide) (by decide) (by decide) (by decide) (by decide) (by decide) (by rw [e3, e5]; exact a0) (by decide), g_X10_holds_29 (x1 := 13) (by decide) (by decide) (by decide) (by decide) (by decide) (by decide) (by decide) a0 (by decide)]
    · skip
      rw [g_X6_isSo_67 (x1 := 13) (by decide) (by decide) (by decide) (by decide) (by decide) (by decide) (by decide) (by decide) (by decide) (by decide) (by decide) (by decide) (by decide) (by rw [e3, e5]; exact a0) (by decide), g_X10_holds_31 (x1 := 13) (by decide) (by decide) (by decide) (by decide) (by decide) (by decide) (by decide) a0 (by decide)]
  by_cases k14 : x = 14
  · subst k14
    by_cases a0 : r2 p = 0
    · skip
      by_cases a1 : r3 p = r5 p
      · skip
        rw [g_X6_isSo_68 (x1 := 14) (by decide) (by decide) (by decide) (by decide) (by decide) (by decide) (by decide) (by decide) (by decide) (by decide) (by decide) (by decide) (by decide) (by rw [e2]; exact a0) (by rw [e3, e5]; exact a1) (by decide), g_X10_holds_32 (x1 := 14) (by decide) (by decide) (by decide) (by decide) (by decide) (by decide) (by decide) a0 a1 (by decide)]
      · skip
        rw [g_X6_isSo_70 (x1 := 14) (by decide) (by decide) (by decide) (by decide) (by decide) (by decide) (by decide) (by decide) (by decide) (by decide) (by decide) (by decide) (by decide) (by rw [e2]; exact a0) (by rw [e3, e5]; exact a1) (by decide), g_X10_holds_34 (x1 := 14) (by decide) (by decide) (by decide) (by decide) (by decide) (by decide) (by decide) a0 a1 (by decide)]
    · skip
      by_cases a1 : r3 p = r5 p
      · skip
        rw [g_X6_isSo_72 (x1 := 14) (by decide) (by decide) (by decide) (by decide) (by decide) (by decide) (by decide) (by decide) (by decide) (by decide) (by decide) (by decide) (by decide) (by rw [e2]; exact a0) (by decide), g_X10_holds_36 (x1 := 14) (by decide) (by decide) (by decide) (by decide) (by decide) (by decide) (by decide) a0 (by decide)]
      · skip
        rw [g_X6_isSo_72 (x1 := 14) (by decide) (by decide) (by decide) (by decide) (by decide) (by decide) (by decide) (by decide) (by decide) (by decide) (by decide) (by decide) (by decide) (by rw [e2]; exact a0) (by decide), g_X10_holds_36 (x1 := 14) (by decide) (by decide) (by decide) (by decide) (by decide) (by decide) (by decide) a0 (by decide)]
  by_cases k15 : x = 15
  · subst k15
    by_cases a0 : r2 p = 0
    · skip
      by_cases a1 : r3 p = r5 p
      · skip
        rw [g_X6_isSo_69 (x1 := 15) (by decide) (by decide) (by decide) (by decide) (by decide) (by decide) (by decide) (by decide) (by decide) (by decide) (by decide) (by decide) (by decide) (by rw [e2]; exact a0) (by rw [e3, e5]; exact a1) (by decide), g_X10_holds_33 (x1 := 15) (by decide) (by decide) (by decide) (by decide) (by decide) (by decide) (by decide) a0 a1 (by decide)]
      · skip
        rw [g_X6_isSo_71 (x1 := 15) (by decide) (by decide) (by decide) (by decide) (by decide) (by decide) (by decide) (by decide) (by decide) (by decide) (by decide) (by decide) (by decide) (by rw [e2]; exact a0) (by rw [e3, e5]; exact a1) (by decide), g_X10_holds_35 (x1 := 15) (by decide) (by decide) (by decide) (by decide) (by decide) (by decide) (by decide) a0 a1 (by decide)]
    · skip
      by_cases a1 : r3 p = r5 p
      · skip
        rw [g_X6_isSo_73 (x1 := 15) (by decide) (by decide) (by decide) (by decide) (by decide) (by decide) (by decide) (by decide) (by decide) (by decide) (by decide) (by decide) (by decide) (by rw [e2]; exact a0) (by decide), g_X10_holds_37 (x1 := 15) (by decide) (by decide) (by decide) (by decide) (by decide) (by decide) (by decide) a0 (by decide)]
      · skip
        rw [g_X6_isSo_73 (x1 := 15) (by decide) (by decide) (by decide) (by decide) (by decide) (by decide) (by decide) (by decide) (by decide) (by decide) (by decide) (by decide) (by decide) (by rw [e2]; exact a0) (by decide), g_X10_holds_37 (x1 := 15) (by decide) (by decide) (by decide) (by decide) (by decide) (by decide) (by decide) a0 (by decide)]
  exfalso
  obtain ⟨h1, h2⟩ := hx
  have c0 : x.toInt ≠ 0 := fun e => k0 (Int32.toInt_inj.mp e)
  have c1 : x.toInt ≠ 1 := fun e => k1 (Int32.toInt_inj.mp e)
  have c2 : x.toInt ≠ 2 := fun e => k2 (Int32.toInt_inj.mp e)
  have c3 : x.toInt ≠ 3 := fun e => k3 (Int32.toInt_inj.mp e)
  have c4 : x.toInt ≠ 4 := fun e => k4 (Int32.toInt_inj.mp e)
  have c5 : x.toInt ≠ 5 := fun e => k5 (Int32.toInt_inj.mp e)
  have c6 : x.toInt ≠ 6 := fun e => k6 (Int32.toInt_inj.mp e)
  have c7 : x.toInt ≠ 7 := fun e => k7 (Int32.toInt_inj.mp e)
  have c8 : x.toInt ≠ 8 := fun e => k8 (Int32.toInt_inj.mp e)
  have c9 : x.toInt ≠ 9 := fun e => k9 (Int32.toInt_inj.mp e)
  have c10 : x.toInt ≠ 10 := fun e => k10 (Int32.toInt_inj.mp e)
  have c11 : x.toInt ≠ 11 := fun e => k11 (Int32.toInt_inj.mp e)
  have c12 : x.toInt ≠ 12 := fun e => k12 (Int32.toInt_inj.mp e)
  have c13 : x.toInt ≠ 13 := fun e => k13 (Int32.toInt_inj.mp e)
  have c14 : x.toInt ≠ 14 := fun e => k14 (Int32.toInt_inj.mp e)
  have c15 : x.toInt ≠ 15 := fun e => k15 (Int32.toInt_inj.mp e)
  omega
theorem ix_lt {x : Int32} (h : Rg 0 23 x) : x.toNatClampNeg < 24 := by
  obtain ⟨h1, h2⟩ := h
  show x.toInt.toNat < 24
  omega
theorem hd_eq {n : Int32} {y : Int64} (hn : Rg 0 200 n) : G_holds n y = G_X10_isIn y 0 (n - 1 : Int32).toInt64 := by
  obtain ⟨n1, n2⟩ := hn
  have e : (n - 1 : Int32).toInt = n.toInt - 1 := by rw [Int32.toInt_sub, show (1 : Int32).toInt = 1 from rfl, bmod_in (by omega) (by omega)]
  unfold G_holds G_X10_isIn
  by_cases h1 : y < 0
  · rw [if_pos h1, if_pos h1]
  · rw [if_neg h1, if_neg h1]
    by_cases h2 : (n - 1 : Int32).toInt64 < y
    · have h3 : ¬ y < n.toInt64 := by
        rw [Int64.lt_iff_toInt_lt, Int32.toInt_toInt64] at h2 ⊢
        omega
      rw [if_neg h3, if_pos h2]
    · have h3 : y < n.toInt64 := by
        rw [Int64.lt_iff_toInt_lt, Int32.toInt_toInt64] at h2 ⊢
        omega
      rw [if_pos h3, if_neg h2]
theorem rw_mv {w p : RS} {a : Int32} (h : Rw w p) : Rw (a, r1 w, r2 w, r3 w, r4 w, r5 w, rA w) (a, r1 p, r2 p, r3 p, r4 p, r5 p, rA p) := ⟨rfl, h.2.1, h.2.2⟩
/-- where the reference's RUN goes -/
def mvr (n : Int32) (p : RS) (y : Int64) : RS := if G_X10_isIn y 0 (n - 1 : Int32).toInt64 = 0 then (-2, r1 p, r2 p, r3 p, r4 p, r5 p, rA p) else (y.toInt32, r1 p, r2 p, r3 p, r4 p, r5 p, rA p)
theorem mvr_0 {n : Int32} {p : RS} {y : Int64} (h : G_X10_isIn y 0 (n - 1 : Int32).toInt64 = 0) : mvr n p y = (-2, r1 p, r2 p, r3 p, r4 p, r5 p, rA p) := if_pos h
theorem mvr_1 {n : Int32} {p : RS} {y : Int64} (h : ¬ G_X10_isIn y 0 (n - 1 : Int32).toInt64 = 0) : mvr n p y = (y.toInt32, r1 p, r2 p, r3 p, r4 p, r5 p, rA p) := if_neg h
theorem mv_sim {n : Int32} {q : AU} {w p : RS} {y : Int64} (hn : Rg 0 200 n) (h : Rw w p) : Rw (G_X6_moveTo n q w y) (mvr n p y) := by
  by_cases k : G_X10_isIn y 0 (n - 1 : Int32).toInt64 = 0
  · rw [g_X6_moveTo_0 (by rw [hd_eq hn]; exact k), mvr_0 k]; exact rw_mv h
  · rw [g_X6_moveTo_1 (by rw [hd_eq hn]; exact k), mvr_1 k]; exact rw_mv h
def Rv (n : Int32) (p : RS) : Prop := r0 p = -2 ∨ (Rg 0 199 (r0 p) ∧ r0 p < n)
theorem mv_rv {n : Int32} {p : RS} {y : Int64} (hn : Rg 0 200 n) : Rv n (mvr n p y) := by
  by_cases k : G_X10_isIn y 0 (n - 1 : Int32).toInt64 = 0
  · rw [mvr_0 k]; exact Or.inl rfl
  · rw [mvr_1 k]
    refine Or.inr ?_
    have h := isn_rl k hn
    have hh := hd_eq (y := y) hn
    have k2 : ¬ G_holds n y = 0 := by rw [hh]; exact k
    have k3 : y < n.toInt64 := by
      unfold G_holds at k2
      by_cases h1 : y < 0
      · exact absurd (if_pos h1) k2
      · by_cases h2 : y < n.toInt64
        · exact h2
        · exact absurd ((if_neg h1).trans (if_neg h2)) k2
    rw [Int64.lt_iff_toInt_lt, Int32.toInt_toInt64] at k3
    obtain ⟨a1, a2⟩ := h
    have e : (y.toInt32).toInt = y.toInt := by rw [Int64.toInt_toInt32, bmod_in (by omega) (by omega)]
    refine ⟨⟨?_, ?_⟩, ?_⟩
    · show 0 ≤ (y.toInt32).toInt
      rw [e]; exact a1
    · show (y.toInt32).toInt ≤ 199
      rw [e]; exact a2
    · show y.toInt32 < n
      rw [Int32.lt_iff_toInt_lt, e]; exact k3
theorem cm_sim {q : AU} {w p : RS} {j i : Int64} (hr : Rg 0 18 (u0 q)) (n2 : ¬ u0 q = 2) (n3 : ¬ u0 q = 3) (hg : Rg 0 23 (u2 q)) (ho : Rg (-1) 23 (u3 q)) (h : Rw w p) (hj : j = i ∨ Rg 14 16 (u0 q)) : Rw (G_X6_compute q j w) (G_X10_run q i p) := by
  have ea : G_X6_read q w (u2 q) = rA p (u2 q).toNatClampNeg := by
    rw [g_X6_read_1 (il_nz hg)]
    exact h.2.2 _ (ix_lt hg)
  by_cases k : u3 q = -1
  · have k2 : u3 q < 0 := by rw [k]; decide
    rw [g_X6_compute_0 k, g_X10_run_0 k2, aw_c, aw_c, aw_r, aw_r, ea]
    exact sim_p62 hr n2 n3 hg h aw_aw aw_aw (hj.elim (fun e => Or.inl (by rw [e])) Or.inr)
  · have k2 : Rg 0 23 (u3 q) := ⟨by
      have a := ho.1
      have b : (u3 q).toInt ≠ -1 := fun e => k (Int32.toInt_inj.mp e)
      omega, ho.2⟩
    have k3 : ¬ u3 q < 0 := fun y => by
      have a := Int32.lt_iff_toInt_lt.mp y
      rw [show (0 : Int32).toInt = 0 from rfl] at a
      have b := k2.1
      omega
    have eb : G_X6_read q w (u3 q) = rA p (u3 q).toNatClampNeg := by
      rw [g_X6_read_1 (il_nz k2)]
      exact h.2.2 _ (ix_lt k2)
    rw [g_X6_compute_1 k, g_X10_run_1 k3, aw_c, aw_c, aw_r, aw_r, ea, eb]
    exact sim_p62 hr n2 n3 hg h aw_aw aw_aw (Or.inl rfl)
theorem sim_p20 {n : Int32} {q : AU} {w p : RS} {j i : Int64} (hn : Rg 0 200 n) (hr : Rg 0 22 (u0 q)) (n2 : ¬ u0 q = 2) (n3 : ¬ u0 q = 3) (hz : Z19 (u0 q) (u2 q) (u3 q) (u4 q)) (h : Rw w p) (hv : Rv n p) (hj : j = i ∨ Rg 14 16 (u0 q)) : (G_X6_doNext_p20 n q j w).2 = (G_X10_oneMore_p24 n q i p).2 ∧ Rw (G_X6_doNext_p20 n q j w).1 (G_X10_oneMore_p24 n q i p).1 ∧ Rv n (G_X10_oneMore_p24 n q i p).1 := by
  have m1 : ¬ u0 q = -1 := fun e => by
    have a := hr.1
    rw [e] at a
    exact absurd a (by decide)
  have hJ : ¬ Rg 14 16 (u0 q) → j = i := fun y => hj.elim id (fun z => absurd z y)
  have h0 : r0 w = r0 p := h.1
  by_cases k22 : u0 q = 22
  · rw [g_X6_doNext_p20_6 m1 (by rw [k22]; decide) (by rw [k22]; decide) (by rw [k22]; decide) k22, g_X10_oneMore_p24_0 k22]
    exact ⟨rfl, h, hv⟩
  by_cases k19 : u0 q = 19
  · obtain rfl := hJ (by rw [k19]; exact fun y => absurd y.2 (by decide))
    rcases h.2.1 with ⟨f1, f2⟩ | ⟨f1, f2, f3, f4, f5, f6⟩
    · rw [g_X6_doNext_p20_1 m1 k19 f1, g_X10_oneMore_p24_8 k22 k19 (by rw [f2]; decide)]
      exact ⟨rfl, h, hv⟩
    · have g1 : ¬ r1 w = 0 := by rw [f1]; decide
      have g3 : 19 ≤ u0 q := by rw [k19]; decide
      have g4 : ¬ u0 q = 20 := by rw [k19]; decide
      have es := so_eq (q := q) (hz.2.2 k19) f3 f4 f5 f6
      by_cases s : G_X10_holds q p (u4 q) = 0
      · have ec : G_X6_doNext_p20 n q j w = (G_X6_moveTo n q w (r0 p + u5 q : Int32).toInt64, 0) := by rw [g_X6_doNext_p20_2 m1 k19 g1 (by rw [es]; exact s), h0]
        have er : G_X10_oneMore_p24 n q j p = (mvr n p (r0 p + u5 q : Int32).toInt64, 0) := by
          by_cases y : G_X10_isIn (r0 p + u5 q : Int32).toInt64 0 (n - 1 : Int32).toInt64 = 0
          · rw [g_X10_oneMore_p24_3 k22 k19 f2 g3 g4 s y, mvr_0 y]
          · rw [g_X10_oneMore_p24_4 k22 k19 f2 g3 g4 s y, mvr_1 y]
        rw [ec, er]
        exact ⟨rfl, mv_sim (q := q) hn h, mv_rv hn⟩
      · have ec : G_X6_doNext_p20 n q j w = (G_X6_moveTo n q w j, 0) := by rw [g_X6_doNext_p20_3 m1 k19 g1 (by rw [es]; exact s)]
        have er : G_X10_oneMore_p24 n q j p = (mvr n p j, 0) := by
          by_cases y : G_X10_isIn j 0 (n - 1 : Int32).toInt64 = 0
          · rw [g_X10_oneMore_p24_5 k22 k19 f2 g3 g4 s y, mvr_0 y]
          · rw [g_X10_oneMore_p24_6 k22 k19 f2 g3 g4 s y, mvr_1 y]
        rw [ec, er]
        exact ⟨rfl, mv_sim (q := q) hn h, mv_rv hn⟩
  by_cases k20 : u0 q = 20
  · obtain rfl := hJ (by rw [k20]; exact fun y => absurd y.2 (by decide))
    have g3 : 19 ≤ u0 q := by rw [k20]; decide
    have ec : G_X6_doNext_p20 n q j w = (G_X6_moveTo n q w j, 0) := by rw [g_X6_doNext_p20_4 m1 k19 k20]
    have er : G_X10_oneMore_p24 n q j p = (mvr n p j, 0) := by
      by_cases y : G_X10_isIn j 0 (n - 1 : Int32).toInt64 = 0
      · rw [g_X10_oneMore_p24_9 k22 k19 g3 k20 y, mvr_0 y]
      · rw [g_X10_oneMore_p24_10 k22 k19 g3 k20 y, mvr_1 y]
    rw [ec, er]
    exact ⟨rfl, mv_sim (q := q) hn h, mv_rv hn⟩
  by_cases k21 : u0 q = 21
  · have g3 : 19 ≤ u0 q := by rw [k21]; decide
    have ec : G_X6_doNext_p20 n q j w = (G_X6_moveTo n q w (r0 p + u5 q : Int32).toInt64, 0) := by rw [g_X6_doNext_p20_5 m1 k19 k20 k21, h0]
    have er : G_X10_oneMore_p24 n q i p = (mvr n p (r0 p + u5 q : Int32).toInt64, 0) := by
      by_cases y : G_X10_isIn (r0 p + u5 q : Int32).toInt64 0 (n - 1 : Int32).toInt64 = 0
      · rw [g_X10_oneMore_p24_11 k22 k19 g3 k20 y, mvr_0 y]
      · rw [g_X10_oneMore_p24_12 k22 k19 g3 k20 y, mvr_1 y]
    rw [ec, er]
    exact ⟨rfl, mv_sim (q := q) hn h, mv_rv hn⟩
  · have c : ∀ k : Int, k ∈ [(19 : Int), 20, 21, 22] → (u0 q).toInt ≠ k := by
      intro k hk e
      simp only [List.mem_cons, List.not_mem_nil, or_false] at hk
      rcases hk with rfl | rfl | rfl | rfl
      · exact k19 (Int32.toInt_inj.mp e)
      · exact k20 (Int32.toInt_inj.mp e)
      · exact k21 (Int32.toInt_inj.mp e)
      · exact k22 (Int32.toInt_inj.mp e)
    have c19 := c 19 (by simp)
    have c20 := c 20 (by simp)
    have c21 := c 21 (by simp)
    have c22 := c 22 (by simp)
    have hr2 : Rg 0 18 (u0 q) := ⟨hr.1, by have := hr.2; omega⟩
    have g3 : ¬ 19 ≤ u0 q := fun y => by
      have a := Int32.le_iff_toInt_le.mp y
      rw [show (19 : Int32).toInt = 19 from rfl] at a
      have := hr2.2
      omega
    obtain ⟨hg, ho⟩ := hz.2.1 g3
    have hs := cm_sim hr2 n2 n3 hg ho h hj
    have ec : G_X6_doNext_p20 n q j w = (G_X6_moveTo n q (G_X6_compute q j w) (r0 p + u5 q : Int32).toInt64, 0) := by rw [g_X6_doNext_p20_7 m1 k19 k20 k21 k22, h0]
    have er : G_X10_oneMore_p24 n q i p = (mvr n (G_X10_run q i p) (r0 p + u5 q : Int32).toInt64, 0) := by
      by_cases y : G_X10_isIn (r0 p + u5 q : Int32).toInt64 0 (n - 1 : Int32).toInt64 = 0
      · rw [g_X10_oneMore_p24_13 k22 k19 g3 y, mvr_0 y]
      · rw [g_X10_oneMore_p24_14 k22 k19 g3 y, mvr_1 y]
    rw [ec, er]
    exact ⟨rfl, mv_sim (q := q) hn hs, mv_rv hn⟩
/-- one step of both -/
theorem sim_dn {bs : Nat → Int32} {n : Int32} {w p v u : RS} {o x : Int32} (hn : Rg 0 200 n) (hB : ∀ i, Rg 0 255 (bs i)) (h : Rw w p) (hv : Rv n p) (hc : DNc bs n w v o) (hr : DNr bs n p u x) : o = x ∧ Rw v u ∧ Rv n u := by
  have h0 : r0 w = r0 p := h.1
  rcases hv with e | ⟨e1, e2⟩
  · have a1 : r0 w < 0 := by rw [h0, e]; decide
    rcases hc with ⟨-, c1, c2⟩ | ⟨c0, -⟩
    · rcases hr with ⟨-, d1, d2⟩ | ⟨d0, -⟩
      · subst c1 c2 d1 d2
        exact ⟨rfl, h, Or.inl e⟩
      · exact absurd e d0
    · exact absurd a1 c0
  · have a1 : ¬ r0 w < 0 := fun y => by
      rw [h0] at y
      have a := Int32.lt_iff_toInt_lt.mp y
      rw [show (0 : Int32).toInt = 0 from rfl] at a
      have := e1.1
      omega
    have a2 : ¬ r0 p = -2 := fun y => by
      have := e1.1
      rw [y] at this
      exact absurd this (by decide)
    rcases hc with ⟨c0, -⟩ | ⟨-, d, hc⟩
    · exact absurd c0 a1
    rcases hr with ⟨d0, -⟩ | ⟨-, d2, hr⟩
    · exact absurd d0 a2
    have F := dec hn hB (d := d) (r := d2) e1 e2
    rw [h0] at hc
    generalize F_X3_readFrom bs n d (r0 p) = z at hc F
    generalize F_X10_read bs n d2 (r0 p) = y at hr F
    rcases F with ⟨f1, f2⟩ | ⟨f1, f2, f6, f7, f8, f9, f10, f11, fJ, fr, fz, fn2, fn3⟩
    · rcases hr with ⟨-, d3, d4⟩ | ⟨d3, -⟩
      · have ec := g_X6_doNext_p20_0 (n := n) (q := qc z) (j := eJ z) (w := w) f1
        rw [ec] at hc
        subst d3 d4
        exact ⟨congrArg Prod.snd hc, by rw [show v = w from congrArg Prod.fst hc]; exact h, Or.inr ⟨e1, e2⟩⟩
      · exact absurd f2 d3
    · rcases hr with ⟨d3, -⟩ | ⟨-, hr⟩
      · exact absurd (f2.symm.trans d3) (by decide)
      · have eq : qr y.1 = qc z := by
          unfold qr qc
          rw [f6, f7, f8, f9, f10, f11]
        rw [eq] at hr
        have S := sim_p20 (q := qc z) (j := eJ z) (i := eJ y.1) hn fr fn2 fn3 fz h (Or.inr ⟨e1, e2⟩) fJ
        rw [← hc, ← hr] at S
        exact S
/-- so many steps of both -/
theorem sim_it {bs : Nat → Int32} {n : Int32} (hn : Rg 0 200 n) (hB : ∀ i, Rg 0 255 (bs i)) (m : Nat) : ∀ {w p v u : RS} {o x : Int32}, Rw w p → Rv n p → It (DNc bs n) m w v o → It (DNr bs n) m p u x → o = x ∧ Rw v u ∧ Rv n u := by
  induction m with
  | zero =>
    intro w p v u o x h hv hc hr
    have hc2 : v = w ∧ o = 0 := hc
    have hr2 : u = p ∧ x = 0 := hr
    rw [hc2.1, hc2.2, hr2.1, hr2.2]
    exact ⟨rfl, h, hv⟩
  | succ m ih =>
    intro w p v u o x h hv hc hr
    obtain ⟨w1, o1, hc, c⟩ := hc
    obtain ⟨p1, x1, hr, d⟩ := hr
    obtain ⟨e, h', hv'⟩ := sim_dn hn hB h hv hc hr
    rcases c with ⟨c0, c⟩ | ⟨c0, c1, c2⟩
    · rcases d with ⟨-, d⟩ | ⟨d0, -⟩
      · exact ih h' hv' c d
      · exact absurd (e.symm.trans c0) d0
    · rcases d with ⟨d0, -⟩ | ⟨-, d1, d2⟩
      · exact absurd (e.trans d0) c0
      · rw [c1, c2, d1, d2]
        exact ⟨e, h', hv'⟩
