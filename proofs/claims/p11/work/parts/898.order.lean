theorem cut_id {t : Tr} (h : Vt t) : K_cut t (-9223372036854775808) 9223372036854775807 = t := by
  rcases h with rfl | h
  · rfl
  · have hv := h
    obtain ⟨p1, p2, p3, p4, p5, p6⟩ := h
    unfold K_cut
    have iMin : (-9223372036854775808 : Int64).toInt = -9223372036854775808 := rfl
    have iMax : (9223372036854775807 : Int64).toInt = 9223372036854775807 := rfl
    have n0 : ¬ t.2.2 < 0 := by rw [i_lt, iz0]; omega
    have c1 : ¬ t.2.1 < (-9223372036854775808) := by rw [i_lt, iMin]; omega
    have c2 : ¬ (9223372036854775807 : Int64) < t.1 := by rw [i_lt, iMax]; omega
    have c3 : ¬ t.1 < (-9223372036854775808) := by rw [i_lt, iMin]; omega
    have c4 : ¬ (9223372036854775807 : Int64) < t.2.1 := by rw [i_lt, iMax]; omega
    have c5 : ¬ t.2.1 < t.1 := by rw [i_lt]; omega
    rw [if_neg n0, if_neg c1, if_neg c2, if_neg c3, if_neg c4, if_neg c5]
    exact bec_vs hv
theorem cut_sgl {t : Tr} {y1 y3 : Int64} (h : Vs t) (e : t.1 = t.2.1) (h1 : y1.toInt ≤ t.1.toInt) (h3 : t.1.toInt ≤ y3.toInt) : K_cut t y1 y3 = t := by
  have hv := h
  obtain ⟨p1, p2, p3, p4, p5, p6⟩ := h
  unfold K_cut
  have ei := i_eq.mp e
  have n0 : ¬ t.2.2 < 0 := by rw [i_lt, iz0]; omega
  have c1 : ¬ t.2.1 < y1 := by rw [i_lt]; omega
  have c2 : ¬ y3 < t.1 := by rw [i_lt]; omega
  have c3 : ¬ t.1 < y1 := by rw [i_lt]; omega
  have c4 : ¬ y3 < t.2.1 := by rw [i_lt]; omega
  have c5 : ¬ t.2.1 < t.1 := by rw [i_lt]; omega
  rw [if_neg n0, if_neg c1, if_neg c2, if_neg c3, if_neg c4, if_neg c5]
  exact bec_vs hv
theorem one_v {X : Ce} (hX : Gc X) (h : ¬ J_isOne X = 0) : X.1 = 1 ∧ X.2.1 = X.2.2.1 ∧ Vs X.2 ∧ ab X = (X.2.1, X.2.1, 0) := by
  rcases hX with q | ⟨q, v⟩
  · exfalso; apply h; unfold J_isOne; rw [q]; rfl
  · have e : X.2.1 = X.2.2.1 := Classical.byContradiction fun z => h (by unfold J_isOne; rw [if_pos q, if_neg z])
    have d : X.2.2.2 = 0 := i_eq.mpr ((v.2.2.2.2.2.mpr e).trans iz0.symm)
    refine ⟨q, e, v, ?_⟩
    rw [ab_1 q]
    exact Prod.ext rfl (Prod.ext e.symm d)
theorem gc_no {c : Ce} (h : Gc c) : ¬ ab c = tNO := by
  rcases h with h | ⟨h, v⟩
  · rw [ab_2 h]; decide
  · rw [ab_1 h]
    intro e
    have := v.2.2.2.1
    rw [e] at this
    exact absurd this (by decide)
/-- equal -/
theorem eq_ok {X Y c d : Ce} (hX : Gc X) (hY : Gc Y) : EQ2 (if J_isOne Y = 0 ∧ J_isOne X = 0 then (if Y.1 = 1 then (if X.1 = 2 then Y else J_cut c X 1 Y.2.1 1 Y.2.2.1) else X) else (if J_isOne Y = 0 then X else J_only c X Y.2.1)) (if J_isOne Y = 0 ∧ J_isOne X = 0 then (if X.1 = 1 then (if Y.1 = 2 then X else J_cut d Y 1 X.2.1 1 X.2.2.1) else Y) else (if J_isOne X = 0 then Y else J_only d Y X.2.1)) (K_eqP (ab X) (ab Y)) := by
  unfold K_eqP
  have hX0 := hX
  have hY0 := hY
  rcases hX with qX | ⟨qX, vX⟩
  · have oX : J_isOne X = 0 := by unfold J_isOne; rw [qX]; rfl
    have nX : ¬ X.1 = 1 := by rw [qX]; exact n21
    have kA : ¬ K_isAny (ab X) = 0 := by rw [ab_2 qX, any_1]; exact n10
    rw [if_neg kA]
    by_cases oY : J_isOne Y = 0
    · rw [if_pos (show J_isOne Y = 0 ∧ J_isOne X = 0 from ⟨oY, oX⟩), if_pos (show J_isOne Y = 0 ∧ J_isOne X = 0 from ⟨oY, oX⟩), if_neg nX]
      by_cases qY : Y.1 = 1
      · rw [if_pos qY, if_pos qX]; exact eq2_gn (gn_of hY0) (gn_of hY0) rfl rfl
      · rw [if_neg qY]
        have q2 : Y.1 = 2 := by rcases hY with z | ⟨z, -⟩; exact z; exact absurd z qY
        exact eq2_gn (gn_of hX0) (gn_of hY0) (by rw [ab_2 qX, ab_2 q2]) rfl
    · rw [if_neg (show ¬ (J_isOne Y = 0 ∧ J_isOne X = 0) from fun z => oY z.1), if_neg (show ¬ (J_isOne Y = 0 ∧ J_isOne X = 0) from fun z => oY z.1), if_neg oY, if_pos oX]
      obtain ⟨q1, e1, v1, a1⟩ := one_v hY0 oY
      obtain ⟨o1, o2⟩ := only_ok (c := c) (v := Y.2.1) hX0 v1.1 (by have := v1.2.2.1; have := v1.2.1; exact Int.le_trans v1.2.1 v1.2.2.1)
      rw [if_pos qX] at o2
      exact eq2_gn o1 (gn_of hY0) (by rw [o2, a1]) rfl
  · have kA : K_isAny (ab X) = 0 := by rw [ab_1 qX]; exact any_0 vX
    have nX2 : ¬ X.1 = 2 := by rw [qX]; exact n12
    rw [if_pos kA]
    rcases hY with qY | ⟨qY, vY⟩
    · have oY : J_isOne Y = 0 := by unfold J_isOne; rw [qY]; rfl
      have nY : ¬ Y.1 = 1 := by rw [qY]; exact n21
      have kB : ¬ K_isAny (ab Y) = 0 := by rw [ab_2 qY, any_1]; exact n10
      rw [if_neg kB]
      by_cases oX : J_isOne X = 0
      · rw [if_pos (show J_isOne Y = 0 ∧ J_isOne X = 0 from ⟨oY, oX⟩), if_pos (show J_isOne Y = 0 ∧ J_isOne X = 0 from ⟨oY, oX⟩), if_neg nY, if_pos qX, if_pos qY]
        exact eq2_gn (gn_of hX0) (gn_of hX0) rfl rfl
      · rw [if_neg (show ¬ (J_isOne Y = 0 ∧ J_isOne X = 0) from fun z => oX z.2), if_neg (show ¬ (J_isOne Y = 0 ∧ J_isOne X = 0) from fun z => oX z.2), if_pos oY, if_neg oX]
        obtain ⟨q1, e1, v1, a1⟩ := one_v hX0 oX
        obtain ⟨o1, o2⟩ := only_ok (c := d) (v := X.2.1) hY0 v1.1 (Int.le_trans v1.2.1 v1.2.2.1)
        rw [if_pos qY] at o2
        exact eq2_gn (gn_of hX0) o1 rfl (by rw [o2, a1])
    · have kB : K_isAny (ab Y) = 0 := by rw [ab_1 qY]; exact any_0 vY
      have nY2 : ¬ Y.1 = 2 := by rw [qY]; exact n12
      rw [if_pos kB]
      by_cases oY : J_isOne Y = 0
      · by_cases oX : J_isOne X = 0
        · rw [if_pos (show J_isOne Y = 0 ∧ J_isOne X = 0 from ⟨oY, oX⟩), if_pos (show J_isOne Y = 0 ∧ J_isOne X = 0 from ⟨oY, oX⟩), if_pos qY, if_pos qX, if_neg nX2, if_neg nY2]
          obtain ⟨x1, x2⟩ := cut_ok (c := c) (x3 := 1) (x6 := 1) (y1 := Y.2.1) (y3 := Y.2.2.1) (y4 := Y.2.1) (y7 := Y.2.2.1) hX0 (Or.inr ⟨rfl, rfl⟩) (Or.inr ⟨rfl, rfl⟩)
          obtain ⟨y1, y2⟩ := cut_ok (c := d) (x3 := 1) (x6 := 1) (y1 := X.2.1) (y3 := X.2.2.1) (y4 := X.2.1) (y7 := X.2.2.1) hY0 (Or.inr ⟨rfl, rfl⟩) (Or.inr ⟨rfl, rfl⟩)
          exact eq2_gn x1 y1 (by rw [x2, ab_1 qY]) (by rw [y2, ab_1 qX])
        · rw [if_neg (show ¬ (J_isOne Y = 0 ∧ J_isOne X = 0) from fun z => oX z.2), if_neg (show ¬ (J_isOne Y = 0 ∧ J_isOne X = 0) from fun z => oX z.2), if_pos oY, if_neg oX]
          obtain ⟨q1, e1, v1, a1⟩ := one_v hX0 oX
          obtain ⟨o1, o2⟩ := only_ok (c := d) (v := X.2.1) hY0 v1.1 (Int.le_trans v1.2.1 v1.2.2.1)
          rw [if_neg nY2] at o2
          have eb : ab (J_only d Y X.2.1) = K_cut (ab Y) (ab X).1 (ab X).2.1 := by rw [o2, a1]
          rcases o1 with z | z
          · exact Or.inl ⟨Or.inr z, Or.inr (by rw [← eb, ab_0 z])⟩
          · refine Or.inr ⟨hX0, z, ?_, eb⟩
            have hb := gc_no z
            rw [o2, ab_1 qY, cut_one vY] at hb
            have cond : Y.2.1.toInt ≤ X.2.1.toInt ∧ X.2.1.toInt ≤ Y.2.2.1.toInt ∧ Y.2.2.2.toInt ∣ X.2.1.toInt - Y.2.1.toInt := Classical.byContradiction fun w => hb (by rw [if_neg w])
            rw [ab_1 qX, ab_1 qY]
            exact (cut_sgl vX e1 cond.1 cond.2.1).symm
      · rw [if_neg (show ¬ (J_isOne Y = 0 ∧ J_isOne X = 0) from fun z => oY z.1), if_neg (show ¬ (J_isOne Y = 0 ∧ J_isOne X = 0) from fun z => oY z.1), if_neg oY]
        obtain ⟨q1, e1, v1, a1⟩ := one_v hY0 oY
        obtain ⟨o1, o2⟩ := only_ok (c := c) (v := Y.2.1) hX0 v1.1 (Int.le_trans v1.2.1 v1.2.2.1)
        rw [if_neg nX2] at o2
        have ea : ab (J_only c X Y.2.1) = K_cut (ab X) (ab Y).1 (ab Y).2.1 := by rw [o2, a1]
        by_cases oX : J_isOne X = 0
        · rw [if_pos oX]
          rcases o1 with z | z
          · exact Or.inl ⟨Or.inl z, Or.inl (by rw [← ea, ab_0 z])⟩
          · refine Or.inr ⟨z, hY0, ea, ?_⟩
            have hb := gc_no z
            rw [o2, ab_1 qX, cut_one vX] at hb
            have cond : X.2.1.toInt ≤ Y.2.1.toInt ∧ Y.2.1.toInt ≤ X.2.2.1.toInt ∧ X.2.2.2.toInt ∣ Y.2.1.toInt - X.2.1.toInt := Classical.byContradiction fun w => hb (by rw [if_neg w])
            rw [ab_1 qX, ab_1 qY]
            exact (cut_sgl vY e1 cond.1 cond.2.1).symm
        · rw [if_neg oX]
          obtain ⟨q2, e2, v2, a2⟩ := one_v hX0 oX
          obtain ⟨o3, o4⟩ := only_ok (c := d) (v := X.2.1) hY0 v2.1 (Int.le_trans v2.2.1 v2.2.2.1)
          rw [if_neg nY2] at o4
          exact eq2_gn o1 o3 ea (by rw [o4, a2])
/-- below -/
theorem ord_ok {L H c d : Ce} {g : Int32} {y7 : Int64} (hL : Gc L) (hH : Gc H) (hg : y7 = g.toInt64) : EQ2 (if H.1 = 1 then J_cut c L 0 0 1 (H.2.2.1 - y7) else L) (if L.1 = 1 then J_cut d H 1 (L.2.1 + y7) 0 0 else H) (K_ord (ab L) (ab H) g) := by
  subst hg
  unfold K_ord
  have f1 : Gn (if H.1 = 1 then J_cut c L 0 0 1 (H.2.2.1 - g.toInt64) else L) ∧ ab (if H.1 = 1 then J_cut c L 0 0 1 (H.2.2.1 - g.toInt64) else L) = (if K_isAny (ab H) = 0 then K_cut (ab L) (-9223372036854775808) ((ab H).2.1 - g.toInt64) else K_cut (ab L) (-9223372036854775808) 9223372036854775807) := by
    rcases hH with q | ⟨q, v⟩
    · have n : ¬ H.1 = 1 := by rw [q]; exact n21
      have k : ¬ K_isAny (ab H) = 0 := by rw [ab_2 q, any_1]; exact n10
      rw [if_neg n, if_neg k, cut_id (vt_ab hL)]
      exact ⟨gn_of hL, rfl⟩
    · have k : K_isAny (ab H) = 0 := by rw [ab_1 q]; exact any_0 v
      rw [if_pos q, if_pos k, ab_1 q]
      exact cut_ok hL (Or.inl ⟨rfl, rfl⟩) (Or.inr ⟨rfl, rfl⟩)
  have f2 : Gn (if L.1 = 1 then J_cut d H 1 (L.2.1 + g.toInt64) 0 0 else H) ∧ ab (if L.1 = 1 then J_cut d H 1 (L.2.1 + g.toInt64) 0 0 else H) = (if K_isAny (ab L) = 0 then K_cut (ab H) ((ab L).1 + g.toInt64) 9223372036854775807 else K_cut (ab H) (-9223372036854775808) 9223372036854775807) := by
    rcases hL with q | ⟨q, v⟩
    · have n : ¬ L.1 = 1 := by rw [q]; exact n21
      have k : ¬ K_isAny (ab L) = 0 := by rw [ab_2 q, any_1]; exact n10
      rw [if_neg n, if_neg k, cut_id (vt_ab hH)]
      exact ⟨gn_of hH, rfl⟩
    · have k : K_isAny (ab L) = 0 := by rw [ab_1 q]; exact any_0 v
      rw [if_pos q, if_pos k, ab_1 q]
      exact cut_ok hH (Or.inr ⟨rfl, rfl⟩) (Or.inl ⟨rfl, rfl⟩)
  exact eq2_gn f1.1 f2.1 f1.2 f2.2
/-- lower, where the higher one is natural -/
theorem oru_ok {L H c d : Ce} {g : Int32} {y7 : Int64} (hL : Gc L) (hH : Gc H) (hg : y7 = g.toInt64) (hn : ¬ K_isNatural (ab H) = 0) : EQ2 (if L.1 = 1 then J_cut c L 1 0 1 (H.2.2.1 - y7) else if H.2.2.1 - y7 < 0 then (0, c.2) else J_make c 1 0 (H.2.2.1 - y7) 1) (if L.1 = 1 then (if L.2.1 < 0 then H else J_cut d H 1 (L.2.1 + y7) 0 0) else H) (K_oru (ab L) (ab H) g) := by
  subst hg
  have qH : H.1 = 1 := by
    rcases hH with q | ⟨q, -⟩
    · exfalso; apply hn; rw [ab_2 q]; rfl
    · exact q
  unfold K_oru
  rw [if_neg hn, ab_1 qH]
  rcases hL with q | ⟨q, v⟩
  · have n : ¬ L.1 = 1 := by rw [q]; exact n21
    have k : ¬ K_isAny (ab L) = 0 := by rw [ab_2 q, any_1]; exact n10
    have kn : K_isNatural (ab L) = 0 := by rw [ab_2 q]; rfl
    rw [if_neg n, if_neg n, if_neg k, if_pos kn]
    have e2 : ab H = K_cut H.2 (-9223372036854775808) 9223372036854775807 := by
      have := cut_id (vt_ab hH)
      rw [ab_1 qH] at this ⊢
      exact this.symm
    by_cases z : H.2.2.1 - g.toInt64 < 0
    · rw [if_pos z, if_pos z]
      exact eq2_gn (Or.inl rfl) (gn_of hH) rfl e2
    · rw [if_neg z, if_neg z]
      have z' := z
      rw [i_lt, iz0] at z'
      obtain ⟨m1, m2⟩ := mk_ok (c := c) (t0 := tANY) (l := 0) (u := H.2.2.1 - g.toInt64) (d := 1) (by rw [iz0]; omega) (by rw [iz1]; omega) (dv1 _) (fun w => by rw [iz1] at w; omega)
      exact eq2_gn (gn_of m1) (gn_of hH) m2 e2
  · have k : K_isAny (ab L) = 0 := by rw [ab_1 q]; exact any_0 v
    have hL : Gc L := Or.inr ⟨q, v⟩
    rw [if_pos q, if_pos q, if_pos k]
    obtain ⟨x1, x2⟩ := cut_ok (c := c) (x3 := 1) (x6 := 1) (y1 := 0) (y3 := H.2.2.1 - g.toInt64) (y4 := 0) (y7 := H.2.2.1 - g.toInt64) hL (Or.inr ⟨rfl, rfl⟩) (Or.inr ⟨rfl, rfl⟩)
    by_cases z : L.2.1 < 0
    · have kn : K_isNatural (ab L) = 0 := by rw [ab_1 q]; exact (nat_v v).mpr z
      rw [if_pos z, if_pos kn]
      refine eq2_gn x1 (gn_of hH) x2 ?_
      have := cut_id (vt_ab hH)
      rw [ab_1 qH] at this ⊢
      exact this.symm
    · have kn : ¬ K_isNatural (ab L) = 0 := by rw [ab_1 q]; exact fun w => z ((nat_v v).mp w)
      rw [if_neg z, if_neg kn]
      obtain ⟨y1, y2⟩ := cut_ok (c := d) (x3 := 1) (x6 := 0) (y1 := L.2.1 + g.toInt64) (y3 := 9223372036854775807) (y4 := L.2.1 + g.toInt64) (y7 := 0) hH (Or.inr ⟨rfl, rfl⟩) (Or.inl ⟨rfl, rfl⟩)
      refine eq2_gn x1 y1 x2 ?_
      rw [y2, ab_1 qH, ab_1 q]
