/-- times -/
theorem fac_v {t : Tr} (h : Vs t) : K_isFactor t = 0 ↔ t.1 < (-1073741824 : Int64) ∨ (1073741824 : Int64) < t.2.1 := by
  unfold K_isFactor
  have n0 : ¬ t.2.2 < 0 := by rw [i_lt, iz0]; have := h.2.2.2.1; omega
  rw [if_neg n0]
  by_cases c1 : t.1 < (-1073741824 : Int64)
  · simp [c1]
  · by_cases c2 : (1073741824 : Int64) < t.2.1
    · simp [c1, c2]
    · simp [c1, c2]
theorem m4_min {p q r t : Int64} : Z_J9_min_f86c9 (Z_J9_min_f86c9 p q) (Z_J9_min_f86c9 r t) = (if t < (if r < (if p < q then p else q) then r else (if p < q then p else q)) then t else (if r < (if p < q then p else q) then r else (if p < q then p else q))) := by
  rw [zmin_eq (a := p), zmin_eq (a := r), zmin_eq]
  generalize (if p < q then p else q) = x
  by_cases c1 : r < t
  · by_cases c2 : r < x
    · have c3 : ¬ x < r := by rw [i_lt] at c2 ⊢; omega
      have c4 : ¬ t < r := by rw [i_lt] at c1 ⊢; omega
      simp only [c1, c2, c3, c4, ↓reduceIte]
    · by_cases c3 : x < r
      · have c4 : ¬ t < x := by rw [i_lt] at c1 c3 ⊢; omega
        simp only [c1, c2, c3, c4, ↓reduceIte]
      · have e : x = r := by rw [i_eq]; rw [i_lt] at c2 c3; omega
        subst e
        have c4 : ¬ t < x := by rw [i_lt] at c1 ⊢; omega
        simp only [c1, c2, c4, ↓reduceIte]
  · simp only [c1, ↓reduceIte]
    by_cases c2 : r < x
    · simp only [c2, ↓reduceIte]
      by_cases c3 : x < t
      · exact absurd c3 (by rw [i_lt] at c1 c2 ⊢; omega)
      · simp only [c3, ↓reduceIte]
        by_cases c4 : t < r
        · simp only [c4, ↓reduceIte]
        · simp only [c4, ↓reduceIte]; rw [i_eq]; rw [i_lt] at c1 c4; omega
    · simp only [c2, ↓reduceIte]
      by_cases c3 : x < t
      · have c4 : ¬ t < x := by rw [i_lt] at c3 ⊢; omega
        simp only [c3, c4, ↓reduceIte]
      · by_cases c4 : t < x
        · simp only [c3, c4, ↓reduceIte]
        · simp only [c3, c4, ↓reduceIte]; rw [i_eq]; rw [i_lt] at c3 c4; omega
theorem m4_max {p q r t : Int64} : Z_J9_max_f86c9 (Z_J9_max_f86c9 p q) (Z_J9_max_f86c9 r t) = (if (if (if q < p then p else q) < r then r else (if q < p then p else q)) < t then t else (if (if q < p then p else q) < r then r else (if q < p then p else q))) := by
  rw [zmax_eq (a := p), zmax_eq (a := r), zmax_eq]
  generalize (if q < p then p else q) = x
  by_cases c1 : t < r
  · by_cases c2 : x < r
    · have c3 : ¬ r < x := by rw [i_lt] at c2 ⊢; omega
      have c4 : ¬ r < t := by rw [i_lt] at c1 ⊢; omega
      simp only [c1, c2, c3, c4, ↓reduceIte]
    · by_cases c3 : r < x
      · have c4 : ¬ x < t := by rw [i_lt] at c1 c3 ⊢; omega
        simp only [c1, c2, c3, c4, ↓reduceIte]
      · have e : x = r := by rw [i_eq]; rw [i_lt] at c2 c3; omega
        subst e
        have c4 : ¬ x < t := by rw [i_lt] at c1 ⊢; omega
        simp only [c1, c2, c4, ↓reduceIte]
  · simp only [c1, ↓reduceIte]
    by_cases c2 : x < r
    · simp only [c2, ↓reduceIte]
      by_cases c3 : t < x
      · exact absurd c3 (by rw [i_lt] at c1 c2 ⊢; omega)
      · simp only [c3, ↓reduceIte]
        by_cases c4 : r < t
        · simp only [c4, ↓reduceIte]
        · simp only [c4, ↓reduceIte]; rw [i_eq]; rw [i_lt] at c1 c4; omega
    · simp only [c2, ↓reduceIte]
      by_cases c3 : t < x
      · have c4 : ¬ x < t := by rw [i_lt] at c3 ⊢; omega
        simp only [c3, c4, ↓reduceIte]
      · by_cases c4 : x < t
        · simp only [c3, c4, ↓reduceIte]
        · simp only [c3, c4, ↓reduceIte]; rw [i_eq]; rw [i_lt] at c3 c4; omega
theorem if_dv {g : Int} {a b x : Int64} {p : Prop} [Decidable p] (ha : g ∣ a.toInt - x.toInt) (hb : g ∣ b.toInt - x.toInt) : g ∣ (if p then a else b).toInt - x.toInt := by
  by_cases h : p
  · rw [if_pos h]; exact ha
  · rw [if_neg h]; exact hb
theorem if_le1 {a b : Int64} : (if a < b then a else b).toInt ≤ a.toInt ∧ (if a < b then a else b).toInt ≤ b.toInt := by
  by_cases h : a < b
  · rw [if_pos h]; rw [i_lt] at h; omega
  · rw [if_neg h]; rw [i_lt] at h; omega
theorem if_ge1 {a b : Int64} : a.toInt ≤ (if b < a then a else b).toInt ∧ b.toInt ≤ (if b < a then a else b).toInt := by
  by_cases h : b < a
  · rw [if_pos h]; rw [i_lt] at h; omega
  · rw [if_neg h]; rw [i_lt] at h; omega
theorem if_ge2 {a b : Int64} : a.toInt ≤ (if a < b then b else a).toInt ∧ b.toInt ≤ (if a < b then b else a).toInt := by
  by_cases h : a < b
  · rw [if_pos h]; rw [i_lt] at h; omega
  · rw [if_neg h]; rw [i_lt] at h; omega
theorem mul_bd {x y B C : Int} (hx : -B ≤ x ∧ x ≤ B) (hy : -C ≤ y ∧ y ≤ C) : -(B * C) ≤ x * y ∧ x * y ≤ B * C := by
  have h1 : x.natAbs ≤ B.natAbs := by omega
  have h2 : y.natAbs ≤ C.natAbs := by omega
  have h3 : (x * y).natAbs ≤ (B * C).natAbs := by rw [Int.natAbs_mul, Int.natAbs_mul]; exact Nat.mul_le_mul h1 h2
  have h4 : 0 ≤ B * C := Int.mul_nonneg (by omega) (by omega)
  omega
theorem times_ok {c c2 c3 : Ce} {t0 : Tr} (h2 : Gc c2) (h3 : Gc c3) : Gc (J_times c c2 c3) ∧ ab (J_times c c2 c3) = K_multiply t0 (ab c2) (ab c3) := by
  have hN2 : ¬ c2.1 = 0 := by rcases h2 with h | ⟨h, -⟩ <;> rw [h] <;> decide
  have hN3 : ¬ c3.1 = 0 := by rcases h3 with h | ⟨h, -⟩ <;> rw [h] <;> decide
  -- a number that is 0
  have num : ∀ {x : Ce}, Gc x → (J_isNumber x 0 = 0 ↔ ¬ (¬ K_isSingle (ab x) = 0 ∧ (ab x).1 = 0)) := by
    intro x hx
    rcases hx with hx | ⟨hx, vx⟩
    · rw [ab_2 hx]
      have : J_isNumber x 0 = 0 := by unfold J_isNumber J_isOne; rw [hx]; rfl
      simp [this, K_isSingle]
    · rw [ab_1 hx, isnum hx]
      constructor
      · intro h ⟨q1, q2⟩; exact h ⟨Classical.byContradiction fun z => q1 ((sgl vx).mpr z), q2⟩
      · intro h ⟨q1, q2⟩; exact h ⟨fun z => (sgl vx).mp z q1, q2⟩
  have b0 : K_become t0 0 0 0 = (0, 0, 0) := rfl
  unfold J_times K_multiply
  rw [if_neg hN2, if_neg hN3]
  have zero : Gc (J_one c 0) ∧ ab (J_one c 0) = K_become t0 0 0 0 := one_ok
  by_cases a2 : J_isNumber c2 0 = 0
  · rw [if_pos a2]
    have a2' := (num h2).mp a2
    by_cases a3 : J_isNumber c3 0 = 0
    · rw [if_pos a3]
      have a3' := (num h3).mp a3
      have red : (if K_isSingle (ab c2) = 0 then if K_isSingle (ab c3) = 0 then K_multiply_p40 t0 (ab c2) (ab c3) else if (ab c3).1 = 0 then K_become t0 0 0 0 else K_multiply_p40 t0 (ab c2) (ab c3) else if (ab c2).1 = 0 then K_become t0 0 0 0 else if K_isSingle (ab c3) = 0 then K_multiply_p40 t0 (ab c2) (ab c3) else if (ab c3).1 = 0 then K_become t0 0 0 0 else K_multiply_p40 t0 (ab c2) (ab c3)) = K_multiply_p40 t0 (ab c2) (ab c3) := by
        by_cases s2 : K_isSingle (ab c2) = 0
        · by_cases s3 : K_isSingle (ab c3) = 0
          · simp only [s2, s3, ↓reduceIte]
          · have z3 : ¬ (ab c3).1 = 0 := fun z => a3' ⟨s3, z⟩
            simp only [s2, s3, z3, ↓reduceIte]
        · have z2 : ¬ (ab c2).1 = 0 := fun z => a2' ⟨s2, z⟩
          by_cases s3 : K_isSingle (ab c3) = 0
          · simp only [s2, s3, z2, ↓reduceIte]
          · have z3 : ¬ (ab c3).1 = 0 := fun z => a3' ⟨s3, z⟩
            simp only [s2, s3, z2, z3, ↓reduceIte]
      refine (fun (x : Gc _ ∧ ab _ = K_multiply_p40 t0 (ab c2) (ab c3)) => ⟨x.1, x.2.trans red.symm⟩) ?_
      unfold K_multiply_p40
      have fA : K_isFactor tANY = 0 := rfl
      rcases h2 with h2 | ⟨h2, v2⟩
      · rw [if_pos h2, ab_2 h2, if_pos fA]; exact ⟨Or.inl rfl, rfl⟩
      · rw [h2, if_neg n12, ab_1 h2]
        rcases h3 with h3 | ⟨h3, v3⟩
        · rw [if_pos h3, ab_2 h3]
          by_cases f2 : K_isFactor c2.2 = 0
          · rw [if_pos f2]; exact ⟨Or.inl rfl, rfl⟩
          · rw [if_neg f2, if_pos fA]; exact ⟨Or.inl rfl, rfl⟩
        · rw [h3, if_neg n12, ab_1 h3]
          by_cases f1 : c2.2.1 < (-1073741824 : Int64)
          · rw [if_pos f1, if_pos ((fac_v v2).mpr (Or.inl f1))]; exact ⟨Or.inl rfl, rfl⟩
          · by_cases f2 : (1073741824 : Int64) < c2.2.2.1
            · rw [if_neg f1, if_pos f2, if_pos ((fac_v v2).mpr (Or.inr f2))]; exact ⟨Or.inl rfl, rfl⟩
            · have k2 : ¬ K_isFactor c2.2 = 0 := fun z => ((fac_v v2).mp z).elim f1 f2
              rw [if_neg f1, if_neg f2, if_neg k2]
              by_cases f3 : c3.2.1 < (-1073741824 : Int64)
              · rw [if_pos f3, if_pos ((fac_v v3).mpr (Or.inl f3))]; exact ⟨Or.inl rfl, rfl⟩
              · by_cases f4 : (1073741824 : Int64) < c3.2.2.1
                · rw [if_neg f3, if_pos f4, if_pos ((fac_v v3).mpr (Or.inr f4))]; exact ⟨Or.inl rfl, rfl⟩
                · have k3 : ¬ K_isFactor c3.2 = 0 := fun z => ((fac_v v3).mp z).elim f3 f4
                  rw [if_neg f3, if_neg f4, if_neg k3]
                  unfold K_multiply_p59
                  rw [m4_min, m4_max]
                  have eJ9 : J_times_p128 c c2 c3 = J_make c 1 (if c2.2.2.1 * c3.2.2.1 < (if c2.2.2.1 * c3.2.1 < (if c2.2.1 * c3.2.1 < c2.2.1 * c3.2.2.1 then c2.2.1 * c3.2.1 else c2.2.1 * c3.2.2.1) then c2.2.2.1 * c3.2.1 else (if c2.2.1 * c3.2.1 < c2.2.1 * c3.2.2.1 then c2.2.1 * c3.2.1 else c2.2.1 * c3.2.2.1)) then c2.2.2.1 * c3.2.2.1 else (if c2.2.2.1 * c3.2.1 < (if c2.2.1 * c3.2.1 < c2.2.1 * c3.2.2.1 then c2.2.1 * c3.2.1 else c2.2.1 * c3.2.2.1) then c2.2.2.1 * c3.2.1 else (if c2.2.1 * c3.2.1 < c2.2.1 * c3.2.2.1 then c2.2.1 * c3.2.1 else c2.2.1 * c3.2.2.1))) (if (if (if c2.2.1 * c3.2.2.1 < c2.2.1 * c3.2.1 then c2.2.1 * c3.2.1 else c2.2.1 * c3.2.2.1) < c2.2.2.1 * c3.2.1 then c2.2.2.1 * c3.2.1 else (if c2.2.1 * c3.2.2.1 < c2.2.1 * c3.2.1 then c2.2.1 * c3.2.1 else c2.2.1 * c3.2.2.1)) < c2.2.2.1 * c3.2.2.1 then c2.2.2.1 * c3.2.2.1 else (if (if c2.2.1 * c3.2.2.1 < c2.2.1 * c3.2.1 then c2.2.1 * c3.2.1 else c2.2.1 * c3.2.2.1) < c2.2.2.1 * c3.2.1 then c2.2.2.1 * c3.2.1 else (if c2.2.1 * c3.2.2.1 < c2.2.1 * c3.2.1 then c2.2.1 * c3.2.1 else c2.2.1 * c3.2.2.1))) (gJ (gJ (c2.2.2.2 * c3.2.1) (c3.2.2.2 * c2.2.1)) (c2.2.2.2 * c3.2.2.2)) := by
                    unfold J_times_p128 J_times_p205 J_times_p222 J_times_p239 J_times_p256 J_times_p273 J_times_p290
                    generalize c2.2.1 * c3.2.1 = p
                    generalize c2.2.1 * c3.2.2.1 = q
                    generalize c2.2.2.1 * c3.2.1 = r
                    generalize c2.2.2.1 * c3.2.2.1 = t
                    repeat' split
                    all_goals rfl
                  rw [eJ9]
                  rw [i_lt] at f1 f2 f3 f4
                  have iA : (-1073741824 : Int64).toInt = -1073741824 := rfl
                  have iB : (1073741824 : Int64).toInt = 1073741824 := rfl
                  rw [iA] at f1 f3
                  rw [iB] at f2 f4
                  obtain ⟨s, l2, u2, d2⟩ := c2
                  obtain ⟨s', l3, u3, d3⟩ := c3
                  obtain ⟨p1, p2, p3, p4, p5, p6⟩ := v2
                  obtain ⟨q1, q2, q3, q4, q5, q6⟩ := v3
                  simp only at p1 p2 p3 p4 p5 p6 q1 q2 q3 q4 q5 q6 f1 f2 f3 f4 ⊢
                  have sb : ∀ {l u d : Int64}, l.toInt ≤ u.toInt → ¬ l.toInt < -1073741824 → ¬ 1073741824 < u.toInt → 0 ≤ d.toInt → d.toInt ∣ u.toInt - l.toInt → (d.toInt = 0 ↔ l = u) → d.toInt ≤ 2147483648 := by
                    intro l u d k1 k2 k3 k4 k5 k6
                    by_cases z : u.toInt - l.toInt = 0
                    · have := k6.mpr (i_eq.mpr (by omega)); omega
                    · have := Int.le_of_dvd (by omega) k5; omega
                  have s2 := sb p2 f1 f2 p4 p5 p6
                  have s3 := sb q2 f3 f4 q4 q5 q6
                  have M1 := mul_bd (x := l2.toInt) (y := l3.toInt) (B := 1073741824) (C := 1073741824) (by omega) (by omega)
                  have M2 := mul_bd (x := l2.toInt) (y := u3.toInt) (B := 1073741824) (C := 1073741824) (by omega) (by omega)
                  have M3 := mul_bd (x := u2.toInt) (y := l3.toInt) (B := 1073741824) (C := 1073741824) (by omega) (by omega)
                  have M4 := mul_bd (x := u2.toInt) (y := u3.toInt) (B := 1073741824) (C := 1073741824) (by omega) (by omega)
                  have M5 := mul_bd (x := d2.toInt) (y := l3.toInt) (B := 2147483648) (C := 1073741824) (by omega) (by omega)
                  have M6 := mul_bd (x := d3.toInt) (y := l2.toInt) (B := 2147483648) (C := 1073741824) (by omega) (by omega)
                  have M7 := mul_bd (x := d2.toInt) (y := d3.toInt) (B := 2147483648) (C := 2147483648) (by omega) (by omega)
                  have E1 : (l2 * l3).toInt = l2.toInt * l3.toInt := i_mul (by omega) (by omega)
                  have E2 : (l2 * u3).toInt = l2.toInt * u3.toInt := i_mul (by omega) (by omega)
                  have E3 : (u2 * l3).toInt = u2.toInt * l3.toInt := i_mul (by omega) (by omega)
                  have E4 : (u2 * u3).toInt = u2.toInt * u3.toInt := i_mul (by omega) (by omega)
                  have E5 : (d2 * l3).toInt = d2.toInt * l3.toInt := i_mul (by omega) (by omega)
                  have E6 : (d3 * l2).toInt = d3.toInt * l2.toInt := i_mul (by omega) (by omega)
                  have E7 : (d2 * d3).toInt = d2.toInt * d3.toInt := i_mul (by omega) (by omega)
                  obtain ⟨g1, g2, g3, g4⟩ := gj_p (a := d2 * l3) (b := d3 * l2) (by omega) (by omega)
                  obtain ⟨k1, k2, k3, k4⟩ := gj_p (a := gJ (d2 * l3) (d3 * l2)) (b := d2 * d3) (by omega) (by omega)
                  rw [z7g (a := d2 * l3) (b := d3 * l2) (by omega) (by omega), z7g (a := gJ (d2 * l3) (d3 * l2)) (b := d2 * d3) (by omega) (by omega)]
                  have kA := Int.dvd_trans k2 g2
                  have kB := Int.dvd_trans k2 g3
                  rw [E5] at kA
                  rw [E6] at kB
                  rw [E7] at k3
                  generalize gJ (gJ (d2 * l3) (d3 * l2)) (d2 * d3) = g at k1 k3 kA kB ⊢
                  obtain ⟨j, hj⟩ := p5
                  obtain ⟨k, hk⟩ := q5
                  have U2 : u2.toInt = l2.toInt + d2.toInt * j := by omega
                  have U3 : u3.toInt = l3.toInt + d3.toInt * k := by omega
                  have w1 : g.toInt ∣ (l2 * u3).toInt - (l2 * l3).toInt := by
                    rw [E2, E1, U3, show l2.toInt * (l3.toInt + d3.toInt * k) - l2.toInt * l3.toInt = d3.toInt * l2.toInt * k by rw [Int.mul_add, Int.mul_comm d3.toInt l2.toInt, Int.mul_assoc]; omega]
                    exact Int.dvd_trans kB (Int.dvd_mul_right _ _)
                  have w2 : g.toInt ∣ (u2 * l3).toInt - (l2 * l3).toInt := by
                    rw [E3, E1, U2, show (l2.toInt + d2.toInt * j) * l3.toInt - l2.toInt * l3.toInt = d2.toInt * l3.toInt * j by rw [Int.add_mul, Int.mul_assoc, Int.mul_assoc, Int.mul_comm j l3.toInt]; omega]
                    exact Int.dvd_trans kA (Int.dvd_mul_right _ _)
                  have w3' : g.toInt ∣ (u2 * u3).toInt - (l2 * l3).toInt := by
                    have t1 : g.toInt ∣ d3.toInt * l2.toInt * k := Int.dvd_trans kB (Int.dvd_mul_right _ _)
                    have t2 : g.toInt ∣ d2.toInt * l3.toInt * j := Int.dvd_trans kA (Int.dvd_mul_right _ _)
                    have t3 : g.toInt ∣ d2.toInt * d3.toInt * (j * k) := Int.dvd_trans k3 (Int.dvd_mul_right _ _)
                    have t4 := Int.dvd_add (Int.dvd_add t1 t2) t3
                    rw [E4, E1, U2, U3]
                    have id : (l2.toInt + d2.toInt * j) * (l3.toInt + d3.toInt * k) - l2.toInt * l3.toInt = d3.toInt * l2.toInt * k + d2.toInt * l3.toInt * j + d2.toInt * d3.toInt * (j * k) := by
                      have x1 : (l2.toInt + d2.toInt * j) * (l3.toInt + d3.toInt * k) = l2.toInt * l3.toInt + l2.toInt * (d3.toInt * k) + (d2.toInt * j * l3.toInt + d2.toInt * j * (d3.toInt * k)) := by rw [Int.add_mul, Int.mul_add, Int.mul_add]
                      have x2 : l2.toInt * (d3.toInt * k) = d3.toInt * l2.toInt * k := by rw [← Int.mul_assoc, Int.mul_comm l2.toInt d3.toInt]
                      have x3 : d2.toInt * j * l3.toInt = d2.toInt * l3.toInt * j := by rw [Int.mul_assoc, Int.mul_comm j l3.toInt, ← Int.mul_assoc]
                      have x4 : d2.toInt * j * (d3.toInt * k) = d2.toInt * d3.toInt * (j * k) := by rw [Int.mul_assoc, Int.mul_assoc, Int.mul_left_comm j d3.toInt k]
                      rw [x1, x2, x3, x4]; omega
                    rw [id]; exact t4
                  have w0 : g.toInt ∣ (l2 * l3).toInt - (l2 * l3).toInt := by rw [Int.sub_self]; exact Int.dvd_zero _
                  generalize l2 * l3 = p at w0 w1 w2 w3' ⊢
                  generalize l2 * u3 = q at w1 ⊢
                  generalize u2 * l3 = r at w2 ⊢
                  generalize u2 * u3 = t at w3' ⊢
                  have dL := if_dv (p := t < (if r < (if p < q then p else q) then r else (if p < q then p else q))) w3' (if_dv (p := r < (if p < q then p else q)) w2 (if_dv (p := p < q) w0 w1))
                  have dU := if_dv (p := (if (if q < p then p else q) < r then r else (if q < p then p else q)) < t) w3' (if_dv (p := (if q < p then p else q) < r) w2 (if_dv (p := q < p) w0 w1))
                  have lL := (if_le1 (a := t) (b := (if r < (if p < q then p else q) then r else (if p < q then p else q)))).1
                  have lU := (if_ge2 (a := (if (if q < p then p else q) < r then r else (if q < p then p else q))) (b := t)).2
                  generalize (if t < (if r < (if p < q then p else q) then r else (if p < q then p else q)) then t else (if r < (if p < q then p else q) then r else (if p < q then p else q))) = L at dL lL ⊢
                  generalize (if (if (if q < p then p else q) < r then r else (if q < p then p else q)) < t then t else (if (if q < p then p else q) < r then r else (if q < p then p else q))) = U at dU lU ⊢
                  refine mk_ok (by omega) k1 ?_ (fun e => ?_)
                  · have := Int.dvd_sub dU dL
                    rwa [show U.toInt - p.toInt - (L.toInt - p.toInt) = U.toInt - L.toInt by omega] at this
                  · rw [e] at dL dU
                    have := Int.zero_dvd.mp dL
                    have := Int.zero_dvd.mp dU
                    omega
    · rw [if_neg a3]
      have a3' : ¬ K_isSingle (ab c3) = 0 ∧ (ab c3).1 = 0 := Classical.byContradiction fun z => a3 ((num h3).mpr z)
      have s3 := a3'.1
      have z3 := a3'.2
      refine ⟨zero.1, zero.2.trans ?_⟩
      by_cases s2 : K_isSingle (ab c2) = 0
      · simp only [s2, s3, z3, ↓reduceIte]
      · have z2 : ¬ (ab c2).1 = 0 := fun z => a2' ⟨s2, z⟩
        simp only [s2, s3, z2, z3, ↓reduceIte]
  · rw [if_neg a2]
    have a2' : ¬ K_isSingle (ab c2) = 0 ∧ (ab c2).1 = 0 := Classical.byContradiction fun z => a2 ((num h2).mpr z)
    rw [if_neg a2'.1, if_pos a2'.2]
    exact zero
