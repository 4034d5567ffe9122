/-- all four places of the set k -/
def m_w4 (A : Nat → Nat) (k : Nat) (s : Int32) (l u d : Int64) (S : Hp) : Hp := st_j (st_j (st_j (st_i S (A 3) k s) (A 4) k l) (A 5) k u) (A 6) k d
def m_copy (A : Nat → Nat) (k f : Nat) (S : Hp) : Hp :=
  st_j (st_j (st_j (st_i S (A 3) k (hp_i S (A 3) f)) (A 4) k (hp_j (st_i S (A 3) k (hp_i S (A 3) f)) (A 4) f)) (A 5) k (hp_j (st_j (st_i S (A 3) k (hp_i S (A 3) f)) (A 4) k (hp_j (st_i S (A 3) k (hp_i S (A 3) f)) (A 4) f)) (A 5) f)) (A 6) k (hp_j (st_j (st_j (st_i S (A 3) k (hp_i S (A 3) f)) (A 4) k (hp_j (st_i S (A 3) k (hp_i S (A 3) f)) (A 4) f)) (A 5) k (hp_j (st_j (st_i S (A 3) k (hp_i S (A 3) f)) (A 4) k (hp_j (st_i S (A 3) k (hp_i S (A 3) f)) (A 4) f)) (A 5) f)) (A 6) f)
/-- a set is laid: ALL where a bound is too large -/
def m_make (A : Nat → Nat) (k : Nat) (s : Int32) (l u d : Int64) (S : Hp) : Hp :=
  m_w4 A k (if s = 1 then if l < -2305843009213693952 then 2 else if 2305843009213693952 < u then 2 else if u < -2305843009213693952 then 2 else if 2305843009213693952 < l then 2 else s else s) l u (if l = u then 0 else d) S
set_option maxHeartbeats 4000000 in
theorem cm_thrown {xi : SX} {S : Hp} {kc nc : Nat} {P : Po} {m : Nat} {A : Nat → Nat} (hM : MW S m A) (hP : P (.inl (some (.int (hp_I S 640 m)))) S kc nc) : TT xi M_X10_thrown 0 [(0, .ref m)] [] S kc nc P := by
  refine tt_aload_n (j := 0) dX10_thrown_0 rfl ?_
  refine tt_getI (id := 640) dX10_thrown_1 fl_10_55 rfl rfl hM.1 ?_
  refine tt_ireturn dX10_thrown_4 .int rfl rfl ?_
  exact hP
set_option maxHeartbeats 4000000 in
theorem cm_isIn {xi : SX} {S : Hp} {kc nc : Nat} {P : Po} {v l u : Int64}  (hP : P (.inl (some (.int (bI (¬ v < l ∧ ¬ u < v))))) S kc nc) : TT xi M_X10_isIn 0 [(0, .long v), (2, .long l), (4, .long u)] [] S kc nc P := by
  refine tt_lload_n (j := 0) dX10_isIn_0 rfl ?_
  refine tt_lload_n (j := 1) dX10_isIn_1 rfl ?_
  refine tt_lcmp dX10_isIn_2 ?_
  refine tt_if_lt (tgt := 17) dX10_isIn_3 (by decide) (fun q1 => ?_) (fun q1 => ?_)
  · replace q1 : (v < l) = True := by simpa [lg_cmp_lt, lg_cmp_gt, lg_cmp_le, lg_cmp_ge, lg_cmp_eq, bI_eq0, ← Int64.not_lt, ← Int32.not_lt] using q1
    refine tt_iconst (v := 0) dX10_isIn_17 (by decide) ?_
    refine tt_ireturn dX10_isIn_18 .boolean rfl rfl ?_
    simp only [bI, not_true_eq_false, not_false_eq_true, and_true, true_and, and_false, false_and, and_self, q1, ↓reduceIte] at hP; exact hP
  · replace q1 : (v < l) = False := by simpa [lg_cmp_lt, lg_cmp_gt, lg_cmp_le, lg_cmp_ge, lg_cmp_eq, bI_eq0, ← Int64.not_lt, ← Int32.not_lt] using q1
    refine tt_lload_n (j := 0) dX10_isIn_6 rfl ?_
    refine tt_lload (j := 2) dX10_isIn_7 rfl ?_
    refine tt_lcmp dX10_isIn_9 ?_
    refine tt_if_gt (tgt := 17) dX10_isIn_10 (by decide) (fun q2 => ?_) (fun q2 => ?_)
    · replace q2 : (u < v) = True := by simpa [lg_cmp_lt, lg_cmp_gt, lg_cmp_le, lg_cmp_ge, lg_cmp_eq, bI_eq0, ← Int64.not_lt, ← Int32.not_lt] using q2
      refine tt_iconst (v := 0) dX10_isIn_17 (by decide) ?_
      refine tt_ireturn dX10_isIn_18 .boolean rfl rfl ?_
      simp only [bI, not_true_eq_false, not_false_eq_true, and_true, true_and, and_false, false_and, and_self, q1, q2, ↓reduceIte] at hP; exact hP
    · replace q2 : (u < v) = False := by simpa [lg_cmp_lt, lg_cmp_gt, lg_cmp_le, lg_cmp_ge, lg_cmp_eq, bI_eq0, ← Int64.not_lt, ← Int32.not_lt] using q2
      refine tt_iconst (v := 1) dX10_isIn_13 (by decide) ?_
      refine tt_goto (tgt := 18) dX10_isIn_14 (by decide) ?_
      refine tt_ireturn dX10_isIn_18 .boolean rfl rfl ?_
      simp only [bI, not_true_eq_false, not_false_eq_true, and_true, true_and, and_false, false_and, and_self, q1, q2, ↓reduceIte] at hP; exact hP
set_option maxHeartbeats 4000000 in
theorem cm_isSimple {xi : SX} {S : Hp} {kc nc : Nat} {P : Po} {x : Int32}  (hP : P (.inl (some (.int (bI (¬ x = 2 ∧ ¬ x = 3))))) S kc nc) : TT xi M_X10_isSimple 0 [(0, .int x)] [] S kc nc P := by
  refine tt_iload_n (j := 0) dX10_isSimple_0 rfl ?_
  refine tt_iconst (v := 2) dX10_isSimple_1 (by decide) ?_
  refine tt_icmp_eq (tgt := 14) dX10_isSimple_2 (by decide) (fun q1 => ?_) (fun q1 => ?_)
  · replace q1 : (x = 2) = True := by simpa [lg_cmp_lt, lg_cmp_gt, lg_cmp_le, lg_cmp_ge, lg_cmp_eq, bI_eq0, ← Int64.not_lt, ← Int32.not_lt] using q1
    refine tt_iconst (v := 0) dX10_isSimple_14 (by decide) ?_
    refine tt_ireturn dX10_isSimple_15 .boolean rfl rfl ?_
    simp only [bI, not_true_eq_false, not_false_eq_true, and_true, true_and, and_false, false_and, and_self, q1, ↓reduceIte] at hP; exact hP
  · replace q1 : (x = 2) = False := by simpa [lg_cmp_lt, lg_cmp_gt, lg_cmp_le, lg_cmp_ge, lg_cmp_eq, bI_eq0, ← Int64.not_lt, ← Int32.not_lt] using q1
    refine tt_iload_n (j := 0) dX10_isSimple_5 rfl ?_
    refine tt_iconst (v := 3) dX10_isSimple_6 (by decide) ?_
    refine tt_icmp_eq (tgt := 14) dX10_isSimple_7 (by decide) (fun q2 => ?_) (fun q2 => ?_)
    · replace q2 : (x = 3) = True := by simpa [lg_cmp_lt, lg_cmp_gt, lg_cmp_le, lg_cmp_ge, lg_cmp_eq, bI_eq0, ← Int64.not_lt, ← Int32.not_lt] using q2
      refine tt_iconst (v := 0) dX10_isSimple_14 (by decide) ?_
      refine tt_ireturn dX10_isSimple_15 .boolean rfl rfl ?_
      simp only [bI, not_true_eq_false, not_false_eq_true, and_true, true_and, and_false, false_and, and_self, q1, q2, ↓reduceIte] at hP; exact hP
    · replace q2 : (x = 3) = False := by simpa [lg_cmp_lt, lg_cmp_gt, lg_cmp_le, lg_cmp_ge, lg_cmp_eq, bI_eq0, ← Int64.not_lt, ← Int32.not_lt] using q2
      refine tt_iconst (v := 1) dX10_isSimple_10 (by decide) ?_
      refine tt_goto (tgt := 15) dX10_isSimple_11 (by decide) ?_
      refine tt_ireturn dX10_isSimple_15 .boolean rfl rfl ?_
      simp only [bI, not_true_eq_false, not_false_eq_true, and_true, true_and, and_false, false_and, and_self, q1, q2, ↓reduceIte] at hP; exact hP
set_option maxHeartbeats 4000000 in
theorem cm_isPlace {xi : SX} {S : Hp} {kc nc : Nat} {P : Po} {x : Int32}  (hP : P (.inl (some (.int (bI (¬ x < 0 ∧ x < 24))))) S kc nc) : TT xi M_X10_isPlace 0 [(0, .int x)] [] S kc nc P := by
  refine tt_iload_n (j := 0) dX10_isPlace_0 rfl ?_
  refine tt_if_lt (tgt := 14) dX10_isPlace_1 (by decide) (fun q1 => ?_) (fun q1 => ?_)
  · replace q1 : (x < 0) = True := by simpa [lg_cmp_lt, lg_cmp_gt, lg_cmp_le, lg_cmp_ge, lg_cmp_eq, bI_eq0, ← Int64.not_lt, ← Int32.not_lt] using q1
    refine tt_iconst (v := 0) dX10_isPlace_14 (by decide) ?_
    refine tt_ireturn dX10_isPlace_15 .boolean rfl rfl ?_
    simp only [bI, not_true_eq_false, not_false_eq_true, and_true, true_and, and_false, false_and, and_self, q1, ↓reduceIte] at hP; exact hP
  · replace q1 : (x < 0) = False := by simpa [lg_cmp_lt, lg_cmp_gt, lg_cmp_le, lg_cmp_ge, lg_cmp_eq, bI_eq0, ← Int64.not_lt, ← Int32.not_lt] using q1
    refine tt_iload_n (j := 0) dX10_isPlace_4 rfl ?_
    refine tt_bipush (v := 24) dX10_isPlace_5 (by decide) ?_
    refine tt_icmp_ge (tgt := 14) dX10_isPlace_7 (by decide) (fun q2 => ?_) (fun q2 => ?_)
    · replace q2 : (x < 24) = False := by simpa [lg_cmp_lt, lg_cmp_gt, lg_cmp_le, lg_cmp_ge, lg_cmp_eq, bI_eq0, ← Int64.not_lt, ← Int32.not_lt] using q2
      refine tt_iconst (v := 0) dX10_isPlace_14 (by decide) ?_
      refine tt_ireturn dX10_isPlace_15 .boolean rfl rfl ?_
      simp only [bI, not_true_eq_false, not_false_eq_true, and_true, true_and, and_false, false_and, and_self, q1, q2, ↓reduceIte] at hP; exact hP
    · replace q2 : (x < 24) = True := by simpa [lg_cmp_lt, lg_cmp_gt, lg_cmp_le, lg_cmp_ge, lg_cmp_eq, bI_eq0, ← Int64.not_lt, ← Int32.not_lt] using q2
      refine tt_iconst (v := 1) dX10_isPlace_10 (by decide) ?_
      refine tt_goto (tgt := 15) dX10_isPlace_11 (by decide) ?_
      refine tt_ireturn dX10_isPlace_15 .boolean rfl rfl ?_
      simp only [bI, not_true_eq_false, not_false_eq_true, and_true, true_and, and_false, false_and, and_self, q1, q2, ↓reduceIte] at hP; exact hP
set_option maxHeartbeats 4000000 in
theorem cm_refused {xi : SX} {S : Hp} {kc nc : Nat} {P : Po} {m : Nat} {A : Nat → Nat} {x : Int32} (hM : MW S m A) (hP : P (.inl (some (.int (bI (0 < x))))) (sp_I S 640 m x) kc nc) : TT xi M_X10_refused 0 [(0, .ref m), (1, .int x)] [] S kc nc P := by
  refine tt_aload_n (j := 0) dX10_refused_0 rfl ?_
  refine tt_iload_n (j := 1) dX10_refused_1 rfl ?_
  refine tt_putI (id := 640) (x := x) dX10_refused_2 fl_10_55 rfl rfl hM.1 rfl rfl (by decide) ?_
  have hM : MW (sp_I S 640 m x) m A := mw_I hM
  refine tt_iload_n (j := 1) dX10_refused_5 rfl ?_
  refine tt_if_le (tgt := 13) dX10_refused_6 (by decide) (fun q1 => ?_) (fun q1 => ?_)
  · replace q1 : (0 < x) = False := by simpa [lg_cmp_lt, lg_cmp_gt, lg_cmp_le, lg_cmp_ge, lg_cmp_eq, bI_eq0, ← Int64.not_lt, ← Int32.not_lt] using q1
    refine tt_iconst (v := 0) dX10_refused_13 (by decide) ?_
    refine tt_ireturn dX10_refused_14 .boolean rfl rfl ?_
    simp only [bI, not_true_eq_false, not_false_eq_true, and_true, true_and, and_false, false_and, and_self, q1, ↓reduceIte] at hP; exact hP
  · replace q1 : (0 < x) = True := by simpa [lg_cmp_lt, lg_cmp_gt, lg_cmp_le, lg_cmp_ge, lg_cmp_eq, bI_eq0, ← Int64.not_lt, ← Int32.not_lt] using q1
    refine tt_iconst (v := 1) dX10_refused_9 (by decide) ?_
    refine tt_goto (tgt := 14) dX10_refused_10 (by decide) ?_
    refine tt_ireturn dX10_refused_14 .boolean rfl rfl ?_
    simp only [bI, not_true_eq_false, not_false_eq_true, and_true, true_and, and_false, false_and, and_self, q1, ↓reduceIte] at hP; exact hP
set_option maxHeartbeats 4000000 in
theorem cm_take {xi : SX} {S : Hp} {kc nc : Nat} {P : Po} {m : Nat} {A : Nat → Nat} {x y z : Int32} (hM : MW S m A) (hP : P (.inl none) (sp_I (sp_I (sp_I S 655 m x) 657 m y) 658 m z) kc nc) : TT xi M_X10_take 0 [(0, .ref m), (1, .int x), (2, .int y), (3, .int z)] [] S kc nc P := by
  refine tt_aload_n (j := 0) dX10_take_0 rfl ?_
  refine tt_iload_n (j := 1) dX10_take_1 rfl ?_
  refine tt_putI (id := 655) (x := x) dX10_take_2 fl_10_107 rfl rfl hM.1 rfl rfl (by decide) ?_
  have hM : MW (sp_I S 655 m x) m A := mw_I hM
  refine tt_aload_n (j := 0) dX10_take_5 rfl ?_
  refine tt_iload_n (j := 2) dX10_take_6 rfl ?_
  refine tt_putI (id := 657) (x := y) dX10_take_7 fl_10_110 rfl rfl hM.1 rfl rfl (by decide) ?_
  have hM : MW (sp_I (sp_I S 655 m x) 657 m y) m A := mw_I hM
  refine tt_aload_n (j := 0) dX10_take_10 rfl ?_
  refine tt_iload_n (j := 3) dX10_take_11 rfl ?_
  refine tt_putI (id := 658) (x := z) dX10_take_12 fl_10_113 rfl rfl hM.1 rfl rfl (by decide) ?_
  have hM : MW (sp_I (sp_I (sp_I S 655 m x) 657 m y) 658 m z) m A := mw_I hM
  refine tt_vreturn dX10_take_15 rfl ?_
  exact hP
set_option maxHeartbeats 4000000 in
theorem cm_copy {xi : SX} {S : Hp} {kc nc : Nat} {P : Po} {m k f : Nat} {A : Nat → Nat} (hM : MW S m A) (hk : k < 4940) (hf : f < 4940) (hP : P (.inl none) (m_copy A k f S) kc nc) : TT xi M_X10_copy 0 [(0, .ref m), (1, .int (nI k)), (2, .int (nI f))] [] S kc nc P := by
  refine tt_aload_n (j := 0) dX10_copy_0 rfl ?_
  refine tt_getA (id := 643) dX10_copy_1 fl_10_13 rfl rfl hM.1 (mr_3 hM) ?_
  refine tt_iload_n (j := 1) dX10_copy_4 rfl ?_
  refine tt_aload_n (j := 0) dX10_copy_5 rfl ?_
  refine tt_getA (id := 643) dX10_copy_6 fl_10_13 rfl rfl hM.1 (mr_3 hM) ?_
  refine tt_iload_n (j := 2) dX10_copy_9 rfl ?_
  refine tt_iaL (k := f) dX10_copy_10 (mo_3 hM) (mn_3 hM) hf (by decide) ?_
  refine tt_iaS (k := k) (x := (hp_i S (A 3) f)) dX10_copy_11 (mo_3 hM) (mn_3 hM) hk (by decide) ?_
  have hM : MW (st_i S (A 3) k (hp_i S (A 3) f)) m A := mw_si hM
  refine tt_aload_n (j := 0) dX10_copy_12 rfl ?_
  refine tt_getA (id := 644) dX10_copy_13 fl_10_16 rfl rfl hM.1 (mr_4 hM) ?_
  refine tt_iload_n (j := 1) dX10_copy_16 rfl ?_
  refine tt_aload_n (j := 0) dX10_copy_17 rfl ?_
  refine tt_getA (id := 644) dX10_copy_18 fl_10_16 rfl rfl hM.1 (mr_4 hM) ?_
  refine tt_iload_n (j := 2) dX10_copy_21 rfl ?_
  refine tt_laL (k := f) dX10_copy_22 (mo_4 hM) (mn_4 hM) hf (by decide) ?_
  refine tt_laS (k := k) (x := (hp_j (st_i S (A 3) k (hp_i S (A 3) f)) (A 4) f)) dX10_copy_23 (mo_4 hM) (mn_4 hM) hk (by decide) ?_
  have hM : MW (st_j (st_i S (A 3) k (hp_i S (A 3) f)) (A 4) k (hp_j (st_i S (A 3) k (hp_i S (A 3) f)) (A 4) f)) m A := mw_sj hM
  refine tt_aload_n (j := 0) dX10_copy_24 rfl ?_
  refine tt_getA (id := 645) dX10_copy_25 fl_10_20 rfl rfl hM.1 (mr_5 hM) ?_
  refine tt_iload_n (j := 1) dX10_copy_28 rfl ?_
  refine tt_aload_n (j := 0) dX10_copy_29 rfl ?_
  refine tt_getA (id := 645) dX10_copy_30 fl_10_20 rfl rfl hM.1 (mr_5 hM) ?_
  refine tt_iload_n (j := 2) dX10_copy_33 rfl ?_
  refine tt_laL (k := f) dX10_copy_34 (mo_5 hM) (mn_5 hM) hf (by decide) ?_
  refine tt_laS (k := k) (x := (hp_j (st_j (st_i S (A 3) k (hp_i S (A 3) f)) (A 4) k (hp_j (st_i S (A 3) k (hp_i S (A 3) f)) (A 4) f)) (A 5) f)) dX10_copy_35 (mo_5 hM) (mn_5 hM) hk (by decide) ?_
  have hM : MW (st_j (st_j (st_i S (A 3) k (hp_i S (A 3) f)) (A 4) k (hp_j (st_i S (A 3) k (hp_i S (A 3) f)) (A 4) f)) (A 5) k (hp_j (st_j (st_i S (A 3) k (hp_i S (A 3) f)) (A 4) k (hp_j (st_i S (A 3) k (hp_i S (A 3) f)) (A 4) f)) (A 5) f)) m A := mw_sj hM
  refine tt_aload_n (j := 0) dX10_copy_36 rfl ?_
  refine tt_getA (id := 646) dX10_copy_37 fl_10_23 rfl rfl hM.1 (mr_6 hM) ?_
  refine tt_iload_n (j := 1) dX10_copy_40 rfl ?_
  refine tt_aload_n (j := 0) dX10_copy_41 rfl ?_
  refine tt_getA (id := 646) dX10_copy_42 fl_10_23 rfl rfl hM.1 (mr_6 hM) ?_
  refine tt_iload_n (j := 2) dX10_copy_45 rfl ?_
  refine tt_laL (k := f) dX10_copy_46 (mo_6 hM) (mn_6 hM) hf (by decide) ?_
  refine tt_laS (k := k) (x := (hp_j (st_j (st_j (st_i S (A 3) k (hp_i S (A 3) f)) (A 4) k (hp_j (st_i S (A 3) k (hp_i S (A 3) f)) (A 4) f)) (A 5) k (hp_j (st_j (st_i S (A 3) k (hp_i S (A 3) f)) (A 4) k (hp_j (st_i S (A 3) k (hp_i S (A 3) f)) (A 4) f)) (A 5) f)) (A 6) f)) dX10_copy_47 (mo_6 hM) (mn_6 hM) hk (by decide) ?_
  have hM : MW (st_j (st_j (st_j (st_i S (A 3) k (hp_i S (A 3) f)) (A 4) k (hp_j (st_i S (A 3) k (hp_i S (A 3) f)) (A 4) f)) (A 5) k (hp_j (st_j (st_i S (A 3) k (hp_i S (A 3) f)) (A 4) k (hp_j (st_i S (A 3) k (hp_i S (A 3) f)) (A 4) f)) (A 5) f)) (A 6) k (hp_j (st_j (st_j (st_i S (A 3) k (hp_i S (A 3) f)) (A 4) k (hp_j (st_i S (A 3) k (hp_i S (A 3) f)) (A 4) f)) (A 5) k (hp_j (st_j (st_i S (A 3) k (hp_i S (A 3) f)) (A 4) k (hp_j (st_i S (A 3) k (hp_i S (A 3) f)) (A 4) f)) (A 5) f)) (A 6) f)) m A := mw_sj hM
  refine tt_vreturn dX10_copy_48 rfl ?_
  exact hP
set_option maxHeartbeats 4000000 in
theorem cm_make {xi : SX} {S : Hp} {kc nc : Nat} {P : Po} {m k : Nat} {A : Nat → Nat} {s : Int32} {l u d : Int64} (hM : MW S m A) (hk : k < 4940) (hP : P (.inl none) (m_make A k s l u d S) kc nc) : TT xi M_X10_make 0 [(0, .ref m), (1, .int (nI k)), (2, .int s), (3, .long l), (5, .long u), (7, .long d)] [] S kc nc P := by
  refine tt_iload_n (j := 2) dX10_make_0 rfl ?_
  refine tt_iconst (v := 1) dX10_make_1 (by decide) ?_
  refine tt_icmp_ne (tgt := 43) dX10_make_2 (by decide) (fun q1 => ?_) (fun q1 => ?_)
  · replace q1 : (s = 1) = False := by simpa [lg_cmp_lt, lg_cmp_gt, lg_cmp_le, lg_cmp_ge, lg_cmp_eq, bI_eq0, ← Int64.not_lt, ← Int32.not_lt] using q1
    refine tt_iconst (v := 0) dX10_make_43 (by decide) ?_
    refine tt_istore (ks := [0, 1, 2, 3, 4, 5, 6]) (L' := [(9, .int 0), (0, .ref m), (1, .int (nI k)), (2, .int s), (3, .long l), (5, .long u), (7, .long d)]) dX10_make_44 (by decide) rfl ?_
    refine tt_aload_n (j := 1) dX10_make_46 rfl ?_
    refine tt_getA (id := 643) dX10_make_47 fl_10_13 rfl rfl hM.1 (mr_3 hM) ?_
    refine tt_iload_n (j := 2) dX10_make_50 rfl ?_
    refine tt_iload (j := 0) dX10_make_51 rfl ?_
    refine tt_if_eq (tgt := 60) dX10_make_53 (by decide) (fun _ => ?_) (fun q => absurd q (by decide))
    refine tt_iload_n (j := 3) dX10_make_60 rfl ?_
    refine tt_iaS (k := k) (x := s) dX10_make_61 (mo_3 hM) (mn_3 hM) hk (by decide) ?_
    have hM : MW (st_i S (A 3) k s) m A := mw_si hM
    refine tt_aload_n (j := 1) dX10_make_62 rfl ?_
    refine tt_getA (id := 644) dX10_make_63 fl_10_16 rfl rfl hM.1 (mr_4 hM) ?_
    refine tt_iload_n (j := 2) dX10_make_66 rfl ?_
    refine tt_lload_n (j := 4) dX10_make_67 rfl ?_
    refine tt_laS (k := k) (x := l) dX10_make_68 (mo_4 hM) (mn_4 hM) hk (by decide) ?_
    have hM : MW (st_j (st_i S (A 3) k s) (A 4) k l) m A := mw_sj hM
    refine tt_aload_n (j := 1) dX10_make_69 rfl ?_
    refine tt_getA (id := 645) dX10_make_70 fl_10_20 rfl rfl hM.1 (mr_5 hM) ?_
    refine tt_iload_n (j := 2) dX10_make_73 rfl ?_
    refine tt_lload (j := 5) dX10_make_74 rfl ?_
    refine tt_laS (k := k) (x := u) dX10_make_76 (mo_5 hM) (mn_5 hM) hk (by decide) ?_
    have hM : MW (st_j (st_j (st_i S (A 3) k s) (A 4) k l) (A 5) k u) m A := mw_sj hM
    refine tt_aload_n (j := 1) dX10_make_77 rfl ?_
    refine tt_getA (id := 646) dX10_make_78 fl_10_23 rfl rfl hM.1 (mr_6 hM) ?_
    refine tt_iload_n (j := 2) dX10_make_81 rfl ?_
    refine tt_lload_n (j := 4) dX10_make_82 rfl ?_
    refine tt_lload (j := 5) dX10_make_83 rfl ?_
    refine tt_lcmp dX10_make_85 ?_
    suffices hm1 : ∀ z1 : Int64, z1 = (if l = u then 0 else d) → TT xi M_X10_make 95 [(9, .int 0), (0, .ref m), (1, .int (nI k)), (2, .int s), (3, .long l), (5, .long u), (7, .long d)] [.long z1, .int (nI k), .ref (A 6)] (st_j (st_j (st_i S (A 3) k s) (A 4) k l) (A 5) k u) kc nc P by
      refine tt_if_ne (tgt := 93) dX10_make_86 (by decide) (fun q3 => ?_) (fun q3 => ?_)
      · replace q3 : (l = u) = False := by simpa [lg_cmp_lt, lg_cmp_gt, lg_cmp_le, lg_cmp_ge, lg_cmp_eq, bI_eq0, ← Int64.not_lt, ← Int32.not_lt] using q3
        refine tt_lload (j := 6) dX10_make_93 rfl ?_
        exact hm1 _ (by simp only [q1, q3, ↓reduceIte])
      · replace q3 : (l = u) = True := by simpa [lg_cmp_lt, lg_cmp_gt, lg_cmp_le, lg_cmp_ge, lg_cmp_eq, bI_eq0, ← Int64.not_lt, ← Int32.not_lt] using q3
        refine tt_lconst (v := 0) dX10_make_89 (by decide) ?_
        refine tt_goto (tgt := 95) dX10_make_90 (by decide) ?_
        exact hm1 _ (by simp only [q1, q3, ↓reduceIte])
    intro z1 hz1
    refine tt_laS (k := k) (x := z1) dX10_make_95 (mo_6 hM) (mn_6 hM) hk (by decide) ?_
    have hM : MW (st_j (st_j (st_j (st_i S (A 3) k s) (A 4) k l) (A 5) k u) (A 6) k z1) m A := mw_sj hM
    refine tt_vreturn dX10_make_96 rfl ?_
    subst hz1
    simp only [m_make, m_w4, q1, ↓reduceIte] at hP; exact hP
  · replace q1 : (s = 1) = True := by simpa [lg_cmp_lt, lg_cmp_gt, lg_cmp_le, lg_cmp_ge, lg_cmp_eq, bI_eq0, ← Int64.not_lt, ← Int32.not_lt] using q1
    refine tt_lload_n (j := 3) dX10_make_5 rfl ?_
    refine tt_ldc2 (v := (-2305843009213693952)) dX10_make_6 kl_10_158 ?_
    refine tt_lcmp dX10_make_9 ?_
    refine tt_if_lt (tgt := 39) dX10_make_10 (by decide) (fun q4 => ?_) (fun q4 => ?_)
    · replace q4 : (l < (-2305843009213693952)) = True := by simpa [lg_cmp_lt, lg_cmp_gt, lg_cmp_le, lg_cmp_ge, lg_cmp_eq, bI_eq0, ← Int64.not_lt, ← Int32.not_lt] using q4
      refine tt_iconst (v := 1) dX10_make_39 (by decide) ?_
      refine tt_goto (tgt := 44) dX10_make_40 (by decide) ?_
      refine tt_istore (ks := [0, 1, 2, 3, 4, 5, 6]) (L' := [(9, .int 1), (0, .ref m), (1, .int (nI k)), (2, .int s), (3, .long l), (5, .long u), (7, .long d)]) dX10_make_44 (by decide) rfl ?_
      refine tt_aload_n (j := 1) dX10_make_46 rfl ?_
      refine tt_getA (id := 643) dX10_make_47 fl_10_13 rfl rfl hM.1 (mr_3 hM) ?_
      refine tt_iload_n (j := 2) dX10_make_50 rfl ?_
      refine tt_iload (j := 0) dX10_make_51 rfl ?_
      refine tt_if_eq (tgt := 60) dX10_make_53 (by decide) (fun q => absurd q (by decide)) (fun _ => ?_)
      refine tt_iconst (v := 2) dX10_make_56 (by decide) ?_
      refine tt_goto (tgt := 61) dX10_make_57 (by decide) ?_
      refine tt_iaS (k := k) (x := 2) dX10_make_61 (mo_3 hM) (mn_3 hM) hk (by decide) ?_
      have hM : MW (st_i S (A 3) k 2) m A := mw_si hM
      refine tt_aload_n (j := 1) dX10_make_62 rfl ?_
      refine tt_getA (id := 644) dX10_make_63 fl_10_16 rfl rfl hM.1 (mr_4 hM) ?_
      refine tt_iload_n (j := 2) dX10_make_66 rfl ?_
      refine tt_lload_n (j := 4) dX10_make_67 rfl ?_
      refine tt_laS (k := k) (x := l) dX10_make_68 (mo_4 hM) (mn_4 hM) hk (by decide) ?_
      have hM : MW (st_j (st_i S (A 3) k 2) (A 4) k l) m A := mw_sj hM
      refine tt_aload_n (j := 1) dX10_make_69 rfl ?_
      refine tt_getA (id := 645) dX10_make_70 fl_10_20 rfl rfl hM.1 (mr_5 hM) ?_
      refine tt_iload_n (j := 2) dX10_make_73 rfl ?_
      refine tt_lload (j := 5) dX10_make_74 rfl ?_
      refine tt_laS (k := k) (x := u) dX10_make_76 (mo_5 hM) (mn_5 hM) hk (by decide) ?_
      have hM : MW (st_j (st_j (st_i S (A 3) k 2) (A 4) k l) (A 5) k u) m A := mw_sj hM
      refine tt_aload_n (j := 1) dX10_make_77 rfl ?_
      refine tt_getA (id := 646) dX10_make_78 fl_10_23 rfl rfl hM.1 (mr_6 hM) ?_
      refine tt_iload_n (j := 2) dX10_make_81 rfl ?_
      refine tt_lload_n (j := 4) dX10_make_82 rfl ?_
      refine tt_lload (j := 5) dX10_make_83 rfl ?_
      refine tt_lcmp dX10_make_85 ?_
      suffices hm2 : ∀ z2 : Int64, z2 = (if l = u then 0 else d) → TT xi M_X10_make 95 [(9, .int 1), (0, .ref m), (1, .int (nI k)), (2, .int s), (3, .long l), (5, .long u), (7, .long d)] [.long z2, .int (nI k), .ref (A 6)] (st_j (st_j (st_i S (A 3) k 2) (A 4) k l) (A 5) k u) kc nc P by
        refine tt_if_ne (tgt := 93) dX10_make_86 (by decide) (fun q6 => ?_) (fun q6 => ?_)
        · replace q6 : (l = u) = False := by simpa [lg_cmp_lt, lg_cmp_gt, lg_cmp_le, lg_cmp_ge, lg_cmp_eq, bI_eq0, ← Int64.not_lt, ← Int32.not_lt] using q6
          refine tt_lload (j := 6) dX10_make_93 rfl ?_
          exact hm2 _ (by simp only [q1, q4, q6, ↓reduceIte])
        · replace q6 : (l = u) = True := by simpa [lg_cmp_lt, lg_cmp_gt, lg_cmp_le, lg_cmp_ge, lg_cmp_eq, bI_eq0, ← Int64.not_lt, ← Int32.not_lt] using q6
          refine tt_lconst (v := 0) dX10_make_89 (by decide) ?_
          refine tt_goto (tgt := 95) dX10_make_90 (by decide) ?_
          exact hm2 _ (by simp only [q1, q4, q6, ↓reduceIte])
      intro z2 hz2
      refine tt_laS (k := k) (x := z2) dX10_make_95 (mo_6 hM) (mn_6 hM) hk (by decide) ?_
      have hM : MW (st_j (st_j (st_j (st_i S (A 3) k 2) (A 4) k l) (A 5) k u) (A 6) k z2) m A := mw_sj hM
      refine tt_vreturn dX10_make_96 rfl ?_
      subst hz2
      simp only [m_make, m_w4, q1, q4, ↓reduceIte] at hP; exact hP
    · replace q4 : (l < (-2305843009213693952)) = False := by simpa [lg_cmp_lt, lg_cmp_gt, lg_cmp_le, lg_cmp_ge, lg_cmp_eq, bI_eq0, ← Int64.not_lt, ← Int32.not_lt] using q4
      refine tt_lload (j := 4) dX10_make_13 rfl ?_
      refine tt_ldc2 (v := 2305843009213693952) dX10_make_15 kl_10_160 ?_
      refine tt_lcmp dX10_make_18 ?_
      refine tt_if_gt (tgt := 39) dX10_make_19 (by decide) (fun q7 => ?_) (fun q7 => ?_)
      · replace q7 : (2305843009213693952 < u) = True := by simpa [lg_cmp_lt, lg_cmp_gt, lg_cmp_le, lg_cmp_ge, lg_cmp_eq, bI_eq0, ← Int64.not_lt, ← Int32.not_lt] using q7
        refine tt_iconst (v := 1) dX10_make_39 (by decide) ?_
        refine tt_goto (tgt := 44) dX10_make_40 (by decide) ?_
        refine tt_istore (ks := [0, 1, 2, 3, 4, 5, 6]) (L' := [(9, .int 1), (0, .ref m), (1, .int (nI k)), (2, .int s), (3, .long l), (5, .long u), (7, .long d)]) dX10_make_44 (by decide) rfl ?_
        refine tt_aload_n (j := 1) dX10_make_46 rfl ?_
        refine tt_getA (id := 643) dX10_make_47 fl_10_13 rfl rfl hM.1 (mr_3 hM) ?_
        refine tt_iload_n (j := 2) dX10_make_50 rfl ?_
        refine tt_iload (j := 0) dX10_make_51 rfl ?_
        refine tt_if_eq (tgt := 60) dX10_make_53 (by decide) (fun q => absurd q (by decide)) (fun _ => ?_)
        refine tt_iconst (v := 2) dX10_make_56 (by decide) ?_
        refine tt_goto (tgt := 61) dX10_make_57 (by decide) ?_
        refine tt_iaS (k := k) (x := 2) dX10_make_61 (mo_3 hM) (mn_3 hM) hk (by decide) ?_
        have hM : MW (st_i S (A 3) k 2) m A := mw_si hM
        refine tt_aload_n (j := 1) dX10_make_62 rfl ?_
        refine tt_getA (id := 644) dX10_make_63 fl_10_16 rfl rfl hM.1 (mr_4 hM) ?_
        refine tt_iload_n (j := 2) dX10_make_66 rfl ?_
        refine tt_lload_n (j := 4) dX10_make_67 rfl ?_
        refine tt_laS (k := k) (x := l) dX10_make_68 (mo_4 hM) (mn_4 hM) hk (by decide) ?_
        have hM : MW (st_j (st_i S (A 3) k 2) (A 4) k l) m A := mw_sj hM
        refine tt_aload_n (j := 1) dX10_make_69 rfl ?_
        refine tt_getA (id := 645) dX10_make_70 fl_10_20 rfl rfl hM.1 (mr_5 hM) ?_
        refine tt_iload_n (j := 2) dX10_make_73 rfl ?_
        refine tt_lload (j := 5) dX10_make_74 rfl ?_
        refine tt_laS (k := k) (x := u) dX10_make_76 (mo_5 hM) (mn_5 hM) hk (by decide) ?_
        have hM : MW (st_j (st_j (st_i S (A 3) k 2) (A 4) k l) (A 5) k u) m A := mw_sj hM
        refine tt_aload_n (j := 1) dX10_make_77 rfl ?_
        refine tt_getA (id := 646) dX10_make_78 fl_10_23 rfl rfl hM.1 (mr_6 hM) ?_
        refine tt_iload_n (j := 2) dX10_make_81 rfl ?_
        refine tt_lload_n (j := 4) dX10_make_82 rfl ?_
        refine tt_lload (j := 5) dX10_make_83 rfl ?_
        refine tt_lcmp dX10_make_85 ?_
        suffices hm3 : ∀ z3 : Int64, z3 = (if l = u then 0 else d) → TT xi M_X10_make 95 [(9, .int 1), (0, .ref m), (1, .int (nI k)), (2, .int s), (3, .long l), (5, .long u), (7, .long d)] [.long z3, .int (nI k), .ref (A 6)] (st_j (st_j (st_i S (A 3) k 2) (A 4) k l) (A 5) k u) kc nc P by
          refine tt_if_ne (tgt := 93) dX10_make_86 (by decide) (fun q9 => ?_) (fun q9 => ?_)
          · replace q9 : (l = u) = False := by simpa [lg_cmp_lt, lg_cmp_gt, lg_cmp_le, lg_cmp_ge, lg_cmp_eq, bI_eq0, ← Int64.not_lt, ← Int32.not_lt] using q9
            refine tt_lload (j := 6) dX10_make_93 rfl ?_
            exact hm3 _ (by simp only [q1, q4, q7, q9, ↓reduceIte])
          · replace q9 : (l = u) = True := by simpa [lg_cmp_lt, lg_cmp_gt, lg_cmp_le, lg_cmp_ge, lg_cmp_eq, bI_eq0, ← Int64.not_lt, ← Int32.not_lt] using q9
            refine tt_lconst (v := 0) dX10_make_89 (by decide) ?_
            refine tt_goto (tgt := 95) dX10_make_90 (by decide) ?_
            exact hm3 _ (by simp only [q1, q4, q7, q9, ↓reduceIte])
        intro z3 hz3
        refine tt_laS (k := k) (x := z3) dX10_make_95 (mo_6 hM) (mn_6 hM) hk (by decide) ?_
        have hM : MW (st_j (st_j (st_j (st_i S (A 3) k 2) (A 4) k l) (A 5) k u) (A 6) k z3) m A := mw_sj hM
        refine tt_vreturn dX10_make_96 rfl ?_
        subst hz3
        simp only [m_make, m_w4, q1, q4, q7, ↓reduceIte] at hP; exact hP
      · replace q7 : (2305843009213693952 < u) = False := by simpa [lg_cmp_lt, lg_cmp_gt, lg_cmp_le, lg_cmp_ge, lg_cmp_eq, bI_eq0, ← Int64.not_lt, ← Int32.not_lt] using q7
        refine tt_lload (j := 4) dX10_make_22 rfl ?_
        refine tt_ldc2 (v := (-2305843009213693952)) dX10_make_24 kl_10_158 ?_
        refine tt_lcmp dX10_make_27 ?_
        refine tt_if_lt (tgt := 39) dX10_make_28 (by decide) (fun q10 => ?_) (fun q10 => ?_)
        · replace q10 : (u < (-2305843009213693952)) = True := by simpa [lg_cmp_lt, lg_cmp_gt, lg_cmp_le, lg_cmp_ge, lg_cmp_eq, bI_eq0, ← Int64.not_lt, ← Int32.not_lt] using q10
          refine tt_iconst (v := 1) dX10_make_39 (by decide) ?_
          refine tt_goto (tgt := 44) dX10_make_40 (by decide) ?_
          refine tt_istore (ks := [0, 1, 2, 3, 4, 5, 6]) (L' := [(9, .int 1), (0, .ref m), (1, .int (nI k)), (2, .int s), (3, .long l), (5, .long u), (7, .long d)]) dX10_make_44 (by decide) rfl ?_
          refine tt_aload_n (j := 1) dX10_make_46 rfl ?_
          refine tt_getA (id := 643) dX10_make_47 fl_10_13 rfl rfl hM.1 (mr_3 hM) ?_
          refine tt_iload_n (j := 2) dX10_make_50 rfl ?_
          refine tt_iload (j := 0) dX10_make_51 rfl ?_
          refine tt_if_eq (tgt := 60) dX10_make_53 (by decide) (fun q => absurd q (by decide)) (fun _ => ?_)
          refine tt_iconst (v := 2) dX10_make_56 (by decide) ?_
          refine tt_goto (tgt := 61) dX10_make_57 (by decide) ?_
          refine tt_iaS (k := k) (x := 2) dX10_make_61 (mo_3 hM) (mn_3 hM) hk (by decide) ?_
          have hM : MW (st_i S (A 3) k 2) m A := mw_si hM
          refine tt_aload_n (j := 1) dX10_make_62 rfl ?_
          refine tt_getA (id := 644) dX10_make_63 fl_10_16 rfl rfl hM.1 (mr_4 hM) ?_
          refine tt_iload_n (j := 2) dX10_make_66 rfl ?_
          refine tt_lload_n (j := 4) dX10_make_67 rfl ?_
          refine tt_laS (k := k) (x := l) dX10_make_68 (mo_4 hM) (mn_4 hM) hk (by decide) ?_
          have hM : MW (st_j (st_i S (A 3) k 2) (A 4) k l) m A := mw_sj hM
          refine tt_aload_n (j := 1) dX10_make_69 rfl ?_
          refine tt_getA (id := 645) dX10_make_70 fl_10_20 rfl rfl hM.1 (mr_5 hM) ?_
          refine tt_iload_n (j := 2) dX10_make_73 rfl ?_
          refine tt_lload (j := 5) dX10_make_74 rfl ?_
          refine tt_laS (k := k) (x := u) dX10_make_76 (mo_5 hM) (mn_5 hM) hk (by decide) ?_
          have hM : MW (st_j (st_j (st_i S (A 3) k 2) (A 4) k l) (A 5) k u) m A := mw_sj hM
          refine tt_aload_n (j := 1) dX10_make_77 rfl ?_
          refine tt_getA (id := 646) dX10_make_78 fl_10_23 rfl rfl hM.1 (mr_6 hM) ?_
          refine tt_iload_n (j := 2) dX10_make_81 rfl ?_
          refine tt_lload_n (j := 4) dX10_make_82 rfl ?_
          refine tt_lload (j := 5) dX10_make_83 rfl ?_
          refine tt_lcmp dX10_make_85 ?_
          suffices hm4 : ∀ z4 : Int64, z4 = (if l = u then 0 else d) → TT xi M_X10_make 95 [(9, .int 1), (0, .ref m), (1, .int (nI k)), (2, .int s), (3, .long l), (5, .long u), (7, .long d)] [.long z4, .int (nI k), .ref (A 6)] (st_j (st_j (st_i S (A 3) k 2) (A 4) k l) (A 5) k u) kc nc P by
            refine tt_if_ne (tgt := 93) dX10_make_86 (by decide) (fun q12 => ?_) (fun q12 => ?_)
            · replace q12 : (l = u) = False := by simpa [lg_cmp_lt, lg_cmp_gt, lg_cmp_le, lg_cmp_ge, lg_cmp_eq, bI_eq0, ← Int64.not_lt, ← Int32.not_lt] using q12
              refine tt_lload (j := 6) dX10_make_93 rfl ?_
              exact hm4 _ (by simp only [q1, q4, q7, q10, q12, ↓reduceIte])
            · replace q12 : (l = u) = True := by simpa [lg_cmp_lt, lg_cmp_gt, lg_cmp_le, lg_cmp_ge, lg_cmp_eq, bI_eq0, ← Int64.not_lt, ← Int32.not_lt] using q12
              refine tt_lconst (v := 0) dX10_make_89 (by decide) ?_
              refine tt_goto (tgt := 95) dX10_make_90 (by decide) ?_
              exact hm4 _ (by simp only [q1, q4, q7, q10, q12, ↓reduceIte])
          intro z4 hz4
          refine tt_laS (k := k) (x := z4) dX10_make_95 (mo_6 hM) (mn_6 hM) hk (by decide) ?_
          have hM : MW (st_j (st_j (st_j (st_i S (A 3) k 2) (A 4) k l) (A 5) k u) (A 6) k z4) m A := mw_sj hM
          refine tt_vreturn dX10_make_96 rfl ?_
          subst hz4
          simp only [m_make, m_w4, q1, q4, q7, q10, ↓reduceIte] at hP; exact hP
        · replace q10 : (u < (-2305843009213693952)) = False := by simpa [lg_cmp_lt, lg_cmp_gt, lg_cmp_le, lg_cmp_ge, lg_cmp_eq, bI_eq0, ← Int64.not_lt, ← Int32.not_lt] using q10
          refine tt_lload_n (j := 3) dX10_make_31 rfl ?_
          refine tt_ldc2 (v := 2305843009213693952) dX10_make_32 kl_10_160 ?_
          refine tt_lcmp dX10_make_35 ?_
          refine tt_if_le (tgt := 43) dX10_make_36 (by decide) (fun q13 => ?_) (fun q13 => ?_)
          · replace q13 : (2305843009213693952 < l) = False := by simpa [lg_cmp_lt, lg_cmp_gt, lg_cmp_le, lg_cmp_ge, lg_cmp_eq, bI_eq0, ← Int64.not_lt, ← Int32.not_lt] using q13
            refine tt_iconst (v := 0) dX10_make_43 (by decide) ?_
            refine tt_istore (ks := [0, 1, 2, 3, 4, 5, 6]) (L' := [(9, .int 0), (0, .ref m), (1, .int (nI k)), (2, .int s), (3, .long l), (5, .long u), (7, .long d)]) dX10_make_44 (by decide) rfl ?_
            refine tt_aload_n (j := 1) dX10_make_46 rfl ?_
            refine tt_getA (id := 643) dX10_make_47 fl_10_13 rfl rfl hM.1 (mr_3 hM) ?_
            refine tt_iload_n (j := 2) dX10_make_50 rfl ?_
            refine tt_iload (j := 0) dX10_make_51 rfl ?_
            refine tt_if_eq (tgt := 60) dX10_make_53 (by decide) (fun _ => ?_) (fun q => absurd q (by decide))
            refine tt_iload_n (j := 3) dX10_make_60 rfl ?_
            refine tt_iaS (k := k) (x := s) dX10_make_61 (mo_3 hM) (mn_3 hM) hk (by decide) ?_
            have hM : MW (st_i S (A 3) k s) m A := mw_si hM
            refine tt_aload_n (j := 1) dX10_make_62 rfl ?_
            refine tt_getA (id := 644) dX10_make_63 fl_10_16 rfl rfl hM.1 (mr_4 hM) ?_
            refine tt_iload_n (j := 2) dX10_make_66 rfl ?_
            refine tt_lload_n (j := 4) dX10_make_67 rfl ?_
            refine tt_laS (k := k) (x := l) dX10_make_68 (mo_4 hM) (mn_4 hM) hk (by decide) ?_
            have hM : MW (st_j (st_i S (A 3) k s) (A 4) k l) m A := mw_sj hM
            refine tt_aload_n (j := 1) dX10_make_69 rfl ?_
            refine tt_getA (id := 645) dX10_make_70 fl_10_20 rfl rfl hM.1 (mr_5 hM) ?_
            refine tt_iload_n (j := 2) dX10_make_73 rfl ?_
            refine tt_lload (j := 5) dX10_make_74 rfl ?_
            refine tt_laS (k := k) (x := u) dX10_make_76 (mo_5 hM) (mn_5 hM) hk (by decide) ?_
            have hM : MW (st_j (st_j (st_i S (A 3) k s) (A 4) k l) (A 5) k u) m A := mw_sj hM
            refine tt_aload_n (j := 1) dX10_make_77 rfl ?_
            refine tt_getA (id := 646) dX10_make_78 fl_10_23 rfl rfl hM.1 (mr_6 hM) ?_
            refine tt_iload_n (j := 2) dX10_make_81 rfl ?_
            refine tt_lload_n (j := 4) dX10_make_82 rfl ?_
            refine tt_lload (j := 5) dX10_make_83 rfl ?_
            refine tt_lcmp dX10_make_85 ?_
            suffices hm5 : ∀ z5 : Int64, z5 = (if l = u then 0 else d) → TT xi M_X10_make 95 [(9, .int 0), (0, .ref m), (1, .int (nI k)), (2, .int s), (3, .long l), (5, .long u), (7, .long d)] [.long z5, .int (nI k), .ref (A 6)] (st_j (st_j (st_i S (A 3) k s) (A 4) k l) (A 5) k u) kc nc P by
              refine tt_if_ne (tgt := 93) dX10_make_86 (by decide) (fun q15 => ?_) (fun q15 => ?_)
              · replace q15 : (l = u) = False := by simpa [lg_cmp_lt, lg_cmp_gt, lg_cmp_le, lg_cmp_ge, lg_cmp_eq, bI_eq0, ← Int64.not_lt, ← Int32.not_lt] using q15
                refine tt_lload (j := 6) dX10_make_93 rfl ?_
                exact hm5 _ (by simp only [q1, q4, q7, q10, q13, q15, ↓reduceIte])
              · replace q15 : (l = u) = True := by simpa [lg_cmp_lt, lg_cmp_gt, lg_cmp_le, lg_cmp_ge, lg_cmp_eq, bI_eq0, ← Int64.not_lt, ← Int32.not_lt] using q15
                refine tt_lconst (v := 0) dX10_make_89 (by decide) ?_
                refine tt_goto (tgt := 95) dX10_make_90 (by decide) ?_
                exact hm5 _ (by simp only [q1, q4, q7, q10, q13, q15, ↓reduceIte])
            intro z5 hz5
            refine tt_laS (k := k) (x := z5) dX10_make_95 (mo_6 hM) (mn_6 hM) hk (by decide) ?_
            have hM : MW (st_j (st_j (st_j (st_i S (A 3) k s) (A 4) k l) (A 5) k u) (A 6) k z5) m A := mw_sj hM
            refine tt_vreturn dX10_make_96 rfl ?_
            subst hz5
            simp only [m_make, m_w4, q1, q4, q7, q10, q13, ↓reduceIte] at hP; exact hP
          · replace q13 : (2305843009213693952 < l) = True := by simpa [lg_cmp_lt, lg_cmp_gt, lg_cmp_le, lg_cmp_ge, lg_cmp_eq, bI_eq0, ← Int64.not_lt, ← Int32.not_lt] using q13
            refine tt_iconst (v := 1) dX10_make_39 (by decide) ?_
            refine tt_goto (tgt := 44) dX10_make_40 (by decide) ?_
            refine tt_istore (ks := [0, 1, 2, 3, 4, 5, 6]) (L' := [(9, .int 1), (0, .ref m), (1, .int (nI k)), (2, .int s), (3, .long l), (5, .long u), (7, .long d)]) dX10_make_44 (by decide) rfl ?_
            refine tt_aload_n (j := 1) dX10_make_46 rfl ?_
            refine tt_getA (id := 643) dX10_make_47 fl_10_13 rfl rfl hM.1 (mr_3 hM) ?_
            refine tt_iload_n (j := 2) dX10_make_50 rfl ?_
            refine tt_iload (j := 0) dX10_make_51 rfl ?_
            refine tt_if_eq (tgt := 60) dX10_make_53 (by decide) (fun q => absurd q (by decide)) (fun _ => ?_)
            refine tt_iconst (v := 2) dX10_make_56 (by decide) ?_
            refine tt_goto (tgt := 61) dX10_make_57 (by decide) ?_
            refine tt_iaS (k := k) (x := 2) dX10_make_61 (mo_3 hM) (mn_3 hM) hk (by decide) ?_
            have hM : MW (st_i S (A 3) k 2) m A := mw_si hM
            refine tt_aload_n (j := 1) dX10_make_62 rfl ?_
            refine tt_getA (id := 644) dX10_make_63 fl_10_16 rfl rfl hM.1 (mr_4 hM) ?_
            refine tt_iload_n (j := 2) dX10_make_66 rfl ?_
            refine tt_lload_n (j := 4) dX10_make_67 rfl ?_
            refine tt_laS (k := k) (x := l) dX10_make_68 (mo_4 hM) (mn_4 hM) hk (by decide) ?_
            have hM : MW (st_j (st_i S (A 3) k 2) (A 4) k l) m A := mw_sj hM
            refine tt_aload_n (j := 1) dX10_make_69 rfl ?_
            refine tt_getA (id := 645) dX10_make_70 fl_10_20 rfl rfl hM.1 (mr_5 hM) ?_
            refine tt_iload_n (j := 2) dX10_make_73 rfl ?_
            refine tt_lload (j := 5) dX10_make_74 rfl ?_
            refine tt_laS (k := k) (x := u) dX10_make_76 (mo_5 hM) (mn_5 hM) hk (by decide) ?_
            have hM : MW (st_j (st_j (st_i S (A 3) k 2) (A 4) k l) (A 5) k u) m A := mw_sj hM
            refine tt_aload_n (j := 1) dX10_make_77 rfl ?_
            refine tt_getA (id := 646) dX10_make_78 fl_10_23 rfl rfl hM.1 (mr_6 hM) ?_
            refine tt_iload_n (j := 2) dX10_make_81 rfl ?_
            refine tt_lload_n (j := 4) dX10_make_82 rfl ?_
            refine tt_lload (j := 5) dX10_make_83 rfl ?_
            refine tt_lcmp dX10_make_85 ?_
            suffices hm6 : ∀ z6 : Int64, z6 = (if l = u then 0 else d) → TT xi M_X10_make 95 [(9, .int 1), (0, .ref m), (1, .int (nI k)), (2, .int s), (3, .long l), (5, .long u), (7, .long d)] [.long z6, .int (nI k), .ref (A 6)] (st_j (st_j (st_i S (A 3) k 2) (A 4) k l) (A 5) k u) kc nc P by
              refine tt_if_ne (tgt := 93) dX10_make_86 (by decide) (fun q17 => ?_) (fun q17 => ?_)
              · replace q17 : (l = u) = False := by simpa [lg_cmp_lt, lg_cmp_gt, lg_cmp_le, lg_cmp_ge, lg_cmp_eq, bI_eq0, ← Int64.not_lt, ← Int32.not_lt] using q17
                refine tt_lload (j := 6) dX10_make_93 rfl ?_
                exact hm6 _ (by simp only [q1, q4, q7, q10, q13, q17, ↓reduceIte])
              · replace q17 : (l = u) = True := by simpa [lg_cmp_lt, lg_cmp_gt, lg_cmp_le, lg_cmp_ge, lg_cmp_eq, bI_eq0, ← Int64.not_lt, ← Int32.not_lt] using q17
                refine tt_lconst (v := 0) dX10_make_89 (by decide) ?_
                refine tt_goto (tgt := 95) dX10_make_90 (by decide) ?_
                exact hm6 _ (by simp only [q1, q4, q7, q10, q13, q17, ↓reduceIte])
            intro z6 hz6
            refine tt_laS (k := k) (x := z6) dX10_make_95 (mo_6 hM) (mn_6 hM) hk (by decide) ?_
            have hM : MW (st_j (st_j (st_j (st_i S (A 3) k 2) (A 4) k l) (A 5) k u) (A 6) k z6) m A := mw_sj hM
            refine tt_vreturn dX10_make_96 rfl ?_
            subst hz6
            simp only [m_make, m_w4, q1, q4, q7, q10, q13, ↓reduceIte] at hP; exact hP
set_option maxHeartbeats 4000000 in
theorem cm_isOne {xi : SX} {S : Hp} {kc nc : Nat} {P : Po} {m k : Nat} {A : Nat → Nat} (hM : MW S m A) (hk : k < 4940) (hP : P (.inl (some (.int (bI (hp_i S (A 3) k = 1 ∧ hp_j S (A 4) k = hp_j S (A 5) k))))) S kc nc) : TT xi M_X10_isOne 0 [(0, .ref m), (1, .int (nI k))] [] S kc nc P := by
  refine tt_aload_n (j := 0) dX10_isOne_0 rfl ?_
  refine tt_getA (id := 643) dX10_isOne_1 fl_10_13 rfl rfl hM.1 (mr_3 hM) ?_
  refine tt_iload_n (j := 1) dX10_isOne_4 rfl ?_
  refine tt_iaL (k := k) dX10_isOne_5 (mo_3 hM) (mn_3 hM) hk (by decide) ?_
  refine tt_iconst (v := 1) dX10_isOne_6 (by decide) ?_
  refine tt_icmp_ne (tgt := 30) dX10_isOne_7 (by decide) (fun q1 => ?_) (fun q1 => ?_)
  · replace q1 : ((hp_i S (A 3) k) = 1) = False := by simpa [lg_cmp_lt, lg_cmp_gt, lg_cmp_le, lg_cmp_ge, lg_cmp_eq, bI_eq0, ← Int64.not_lt, ← Int32.not_lt] using q1
    refine tt_iconst (v := 0) dX10_isOne_30 (by decide) ?_
    refine tt_ireturn dX10_isOne_31 .boolean rfl rfl ?_
    simp only [bI, not_true_eq_false, not_false_eq_true, and_true, true_and, and_false, false_and, and_self, q1, ↓reduceIte] at hP; exact hP
  · replace q1 : ((hp_i S (A 3) k) = 1) = True := by simpa [lg_cmp_lt, lg_cmp_gt, lg_cmp_le, lg_cmp_ge, lg_cmp_eq, bI_eq0, ← Int64.not_lt, ← Int32.not_lt] using q1
    refine tt_aload_n (j := 0) dX10_isOne_10 rfl ?_
    refine tt_getA (id := 644) dX10_isOne_11 fl_10_16 rfl rfl hM.1 (mr_4 hM) ?_
    refine tt_iload_n (j := 1) dX10_isOne_14 rfl ?_
    refine tt_laL (k := k) dX10_isOne_15 (mo_4 hM) (mn_4 hM) hk (by decide) ?_
    refine tt_aload_n (j := 0) dX10_isOne_16 rfl ?_
    refine tt_getA (id := 645) dX10_isOne_17 fl_10_20 rfl rfl hM.1 (mr_5 hM) ?_
    refine tt_iload_n (j := 1) dX10_isOne_20 rfl ?_
    refine tt_laL (k := k) dX10_isOne_21 (mo_5 hM) (mn_5 hM) hk (by decide) ?_
    refine tt_lcmp dX10_isOne_22 ?_
    refine tt_if_ne (tgt := 30) dX10_isOne_23 (by decide) (fun q2 => ?_) (fun q2 => ?_)
    · replace q2 : ((hp_j S (A 4) k) = (hp_j S (A 5) k)) = False := by simpa [lg_cmp_lt, lg_cmp_gt, lg_cmp_le, lg_cmp_ge, lg_cmp_eq, bI_eq0, ← Int64.not_lt, ← Int32.not_lt] using q2
      refine tt_iconst (v := 0) dX10_isOne_30 (by decide) ?_
      refine tt_ireturn dX10_isOne_31 .boolean rfl rfl ?_
      simp only [bI, not_true_eq_false, not_false_eq_true, and_true, true_and, and_false, false_and, and_self, q1, q2, ↓reduceIte] at hP; exact hP
    · replace q2 : ((hp_j S (A 4) k) = (hp_j S (A 5) k)) = True := by simpa [lg_cmp_lt, lg_cmp_gt, lg_cmp_le, lg_cmp_ge, lg_cmp_eq, bI_eq0, ← Int64.not_lt, ← Int32.not_lt] using q2
      refine tt_iconst (v := 1) dX10_isOne_26 (by decide) ?_
      refine tt_goto (tgt := 31) dX10_isOne_27 (by decide) ?_
      refine tt_ireturn dX10_isOne_31 .boolean rfl rfl ?_
      simp only [bI, not_true_eq_false, not_false_eq_true, and_true, true_and, and_false, false_and, and_self, q1, q2, ↓reduceIte] at hP; exact hP
