def qc (c : DD) : AU := (e7 c, e8 c, e9 c, e10 c, e11 c, e6 c)
def qr (r : DD) : AU := (e1 r, e2 r, e3 r, e4 r, e5 r, e6 r)
/-- one instruction of the class's RUN; of the reference's -/
def DNc (bs : Nat → Int32) (n : Int32) (w v : RS) (o : Int32) : Prop := (r0 w < 0 ∧ v = w ∧ o = 3) ∨ (¬ r0 w < 0 ∧ ∃ d, (v, o) = G_X6_doNext_p20 n (qc (F_X3_readFrom bs n d (r0 w))) (eJ (F_X3_readFrom bs n d (r0 w))) w)
def DNr (bs : Nat → Int32) (n : Int32) (w v : RS) (o : Int32) : Prop := (r0 w = -2 ∧ v = w ∧ o = 3) ∨ (¬ r0 w = -2 ∧ ∃ d, ((F_X10_read bs n d (r0 w)).2 = 0 ∧ v = w ∧ o = 2) ∨ (¬ (F_X10_read bs n d (r0 w)).2 = 0 ∧ (v, o) = G_X10_oneMore_p24 n (qr (F_X10_read bs n d (r0 w)).1) (eJ (F_X10_read bs n d (r0 w)).1) w))
theorem qc_af {S T : Hp} {E vs : List Nat} {o a : Nat} (h0 : Oa S E 6 0 o) (ha : Oa S E 33 24 a) (hB : Af E vs S T) (hk : ∀ k ∈ [388, 389, 390, 391, 392, 393], k ∉ vs := by decide) (hw : ∀ r ∈ owT, r.2 ∉ vs := by decide) : QC T o a = QC S o a := qC_mk (i_af h0 hB (hk _ (by decide))) (i_af h0 hB (hk _ (by decide))) (i_af h0 hB (hk _ (by decide))) (i_af h0 hB (hk _ (by decide))) (i_af h0 hB (hk _ (by decide))) (i_af h0 hB (hk _ (by decide))) (aj_no ha hB hw)
theorem qr_af {S T : Hp} {E vs : List Nat} {o a : Nat} (h0 : Oa S E 10 0 o) (ha : Oa S E 33 24 a) (hB : Af E vs S T) (hk : ∀ k ∈ [664, 667, 668, 669, 670, 671], k ∉ vs := by decide) (hw : ∀ r ∈ owT, r.2 ∉ vs := by decide) : QR T o a = QR S o a := qR_mk (i_af h0 hB (hk _ (by decide))) (i_af h0 hB (hk _ (by decide))) (i_af h0 hB (hk _ (by decide))) (i_af h0 hB (hk _ (by decide))) (i_af h0 hB (hk _ (by decide))) (i_af h0 hB (hk _ (by decide))) (aj_no ha hB hw)
/-- up to m instructions -/
def It (D : RS → RS → Int32 → Prop) : Nat → RS → RS → Int32 → Prop
  | 0, w, v, o => v = w ∧ o = 0
  | m + 1, w, v, o => ∃ w1 o1, D w w1 o1 ∧ ((o1 = 0 ∧ It D m w1 v o) ∨ (¬ o1 = 0 ∧ v = w1 ∧ o = o1))
/-- what is known at the loop's head: so many are left -/
def Ih (D : RS → RS → Int32 → Prop) (m k : Nat) (w0 w : RS) (o : Int32) : Prop := (o = 0 ∧ ∀ v x, It D (m - k) w v x → It D m w0 v x) ∨ (¬ o = 0 ∧ It D m w0 w o)
theorem ih_0 {D : RS → RS → Int32 → Prop} {m : Nat} {w : RS} : Ih D m 0 w w 0 := Or.inl ⟨rfl, fun _ _ h => h⟩
theorem ih_s {D : RS → RS → Int32 → Prop} {m k : Nat} {w0 w v : RS} {o x : Int32} (h : Ih D m k w0 w o) (ho : o = 0) (hk : k < m) (hd : D w v x) : Ih D m (k + 1) w0 v x := by
  rcases h with ⟨-, h⟩ | ⟨h, -⟩
  · have e : m - k = (m - (k + 1)) + 1 := by omega
    by_cases hx : x = 0
    · exact Or.inl ⟨hx, fun u y hu => h u y (by rw [e]; exact ⟨v, x, hd, Or.inl ⟨hx, hu⟩⟩)⟩
    · exact Or.inr ⟨hx, h v x (by rw [e]; exact ⟨v, x, hd, Or.inr ⟨hx, rfl, rfl⟩⟩)⟩
  · exact absurd ho h
theorem ih_e {D : RS → RS → Int32 → Prop} {m k : Nat} {w0 w : RS} {o : Int32} (h : Ih D m k w0 w o) (hk : m ≤ k ∨ ¬ o = 0) : It D m w0 w o := by
  rcases h with ⟨ho, h⟩ | ⟨-, h⟩
  · rcases hk with hk | hk
    · have e : m - k = 0 := by omega
      subst ho
      exact h w 0 (by rw [e]; exact ⟨rfl, rfl⟩)
    · exact absurd ho hk
  · exact h
theorem up_n {c : Int32} {lo hi : Int} (hc : Rg lo hi c) (h1 : 0 ≤ lo := by decide) (h2 : hi ≤ 2147483646 := by decide) : (c + 1).toInt.toNat = c.toInt.toNat + 1 := by
  obtain ⟨c1, c2⟩ := hc
  have e1 : (c + 1).toInt = c.toInt + 1 := by rw [Int32.toInt_add, show (1 : Int32).toInt = 1 from rfl, bmod_in (by omega) (by omega)]
  rw [e1]; omega
theorem lt_n {c m : Int32} (h : c < m) (hc : 0 ≤ c.toInt) : c.toInt.toNat < m.toInt.toNat := by
  have := Int32.lt_iff_toInt_lt.mp h
  omega
theorem le_n {c m : Int32} (h : m ≤ c) : m.toInt.toNat ≤ c.toInt.toNat := by
  have := Int32.le_iff_toInt_le.mp h
  omega
set_option maxHeartbeats 4000000 in
theorem cr_X6_doNext {xi : SX} {S : Hp} {E : List Nat} {kc nc : Nat} {P : Po} {o0 i1 hd : Nat} {bs : Nat → Int32} {n : Int32} (hG : GI S E) (hc : RC S E o0 i1 hd bs n) (hP : ∀ r T x y, PV E [193, 194, 195, 196, 197, 198, 199, 200, 201, 202, 203, 204, 388, 389, 390, 391, 392, 393, 9993] S kc nc (rI 0 4) (fun v T => ∃ o, v = some (.int o) ∧ DNc bs n (QC S o0 hd) (QC T o0 hd) o) [] r T x y → P r T x y) : TT xi M_X6_doNext 0 [(0, .ref o0)] [] S kc nc P := by
  obtain ⟨h0, hri, hoi, hrh, hoh, hb, cb, hrc, hoc, hcn⟩ := id hc
  have hA : Af E [193, 194, 195, 196, 197, 198, 199, 200, 201, 202, 203, 204, 388, 389, 390, 391, 392, 393, 9993] S S := af_rf
  refine tt_aload_n (j := 0) dX6_doNext_0 rfl ?_
  refine gt_gI (id := 388) (v := r0 (QC S o0 hd)) dX6_doNext_1 fl_6_18 rfl rfl h0 hA rfl ?_
  refine tt_if_ge (tgt := 9) dX6_doNext_4 rfl (fun q => ?_) (fun q => ?_)
  · refine tt_aload_n (j := 0) dX6_doNext_9 rfl ?_
    refine gt_gR (id := 385) dX6_doNext_10 fl_6_26 rfl rfl h0 hA hri ?_
    refine tt_aload_n (j := 0) dX6_doNext_13 rfl ?_
    refine gt_gI (id := 388) (v := r0 (QC S o0 hd)) dX6_doNext_14 fl_6_18 rfl rfl h0 hA rfl ?_
    refine gt_Vv (As := [.int (r0 (QC S o0 hd))]) dX6_doNext_17 ca_X6_48 ⟨by decide, by decide⟩ hoi hA rfl (Nat.le_of_ble_eq_true rfl) (Nat.le_of_ble_eq_true rfl) (by decide) (ce_X3_readFrom hG (oa_af hoi hA) hb (fun _ _ _ _ h => h)) rfl (fun _ h => nomatch h) (fun S1 hx hG1 hB1 hA1 => ?_)
    have q1 : AC S1 i1 = qc (F_X3_readFrom bs n (StC S i1) (r0 (QC S o0 hd))) := aC_mk (sC_200 hx) (sC_201 hx) (sC_202 hx) (sC_203 hx) (sC_204 hx) (sC_199 hx)
    have q2 : hp_J S1 205 i1 = eJ (F_X3_readFrom bs n (StC S i1) (r0 (QC S o0 hd))) := sC_205 hx
    have q3 : QC S1 o0 hd = QC S o0 hd := qc_af h0 hoh hB1
    refine cr_X6_doNext_p20 hG1 (rc_af hc hA1) (fun r T x y h => hP r T x y (pv_tr hA1 h (by decide) (fun v T e => ?_)))
    rw [q1, q2, q3] at e
    exact ⟨_, e.1, Or.inr ⟨Int32.not_lt.mpr q, _, Prod.ext e.2 rfl⟩⟩
  · refine tt_iconst (v := 3) dX6_doNext_7 rfl ?_
    exact tt_ireturn dX6_doNext_8 .int rfl rfl (hP _ _ _ _ ⟨hG, hA, Or.inl ⟨_, rfl, ⟨_, rfl, rg_w (⟨by decide, by decide⟩ : Rg 3 3 3)⟩, ⟨3, rfl, Or.inl ⟨nle_lt q, rfl, rfl⟩⟩, rfl, rfl⟩⟩)
set_option maxHeartbeats 4000000 in
theorem cr_X10_oneMore {xi : SX} {S : Hp} {E : List Nat} {kc nc : Nat} {P : Po} {o0 vl : Nat} {bs : Nat → Int32} {n : Int32} (hG : GI S E) (hc : RRx S E o0 vl bs n) (hne : ¬ r0 (QR S o0 vl) = -1) (hz : ∀ d, ¬ r0 (QR S o0 vl) = -2 → ¬ (F_X10_read bs n d (r0 (QR S o0 vl))).2 = 0 → ¬ 19 ≤ e1 (F_X10_read bs n d (r0 (QR S o0 vl))).1 → Rg 0 23 (e3 (F_X10_read bs n d (r0 (QR S o0 vl))).1) ∧ Rg (-1) 23 (e4 (F_X10_read bs n d (r0 (QR S o0 vl))).1)) (hP : ∀ r T x y, PV E [654, 655, 656, 657, 658, 659, 661, 662, 664, 667, 668, 669, 670, 671, 672, 673, 674, 675, 9990, 9998] S kc nc (rI 0 4) (fun v T => ∃ o, v = some (.int o) ∧ DNr bs n (QR S o0 vl) (QR T o0 vl) o) [] r T x y → P r T x y) : TT xi M_X10_oneMore 0 [(0, .ref o0)] [] S kc nc P := by
  obtain ⟨h0, hrv, hov, hb, hcn⟩ := id hc
  have hA : Af E [654, 655, 656, 657, 658, 659, 661, 662, 664, 667, 668, 669, 670, 671, 672, 673, 674, 675, 9990, 9998] S S := af_rf
  have hi := gi_I (k := 664) hG h0 (-2) 199
  refine tt_aload_n (j := 0) dX10_oneMore_0 rfl ?_
  refine gt_gI (id := 664) (v := r0 (QR S o0 vl)) dX10_oneMore_1 fl_10_45 rfl rfl h0 hA rfl ?_
  refine tt_bipush (v := (-2)) dX10_oneMore_4 rfl ?_
  refine tt_icmp_ne (tgt := 11) dX10_oneMore_6 rfl (fun q => ?_) (fun q => ?_)
  · have hi2 : Rg 0 199 (r0 (QR S o0 vl)) := by
      have a1 : (r0 (QR S o0 vl)).toInt ≠ -2 := fun e => q (Int32.toInt_inj.mp e)
      have a2 : (r0 (QR S o0 vl)).toInt ≠ -1 := fun e => hne (Int32.toInt_inj.mp e)
      have b1 : -2 ≤ (r0 (QR S o0 vl)).toInt := hi.1
      have b2 : (r0 (QR S o0 vl)).toInt ≤ 199 := hi.2
      exact ⟨by omega, b2⟩
    refine tt_aload_n (j := 0) dX10_oneMore_11 rfl ?_
    refine tt_aload_n (j := 0) dX10_oneMore_12 rfl ?_
    refine gt_gI (id := 664) (v := r0 (QR S o0 vl)) dX10_oneMore_13 fl_10_45 rfl rfl h0 hA rfl ?_
    refine gt_VI (As := [.int (r0 (QR S o0 vl))]) dX10_oneMore_16 ca_X10_155 ⟨by decide, by decide⟩ h0 hA rfl (Nat.le_of_ble_eq_true rfl) (Nat.le_of_ble_eq_true rfl) (by decide) (ce_X10_read hG (oa_af h0 hA) hi2 hb (fun _ _ _ _ h => h)) rfl (fun _ h => nomatch h) (fun S1 z1 hz1 hx hG1 hB1 hA1 => ?_)
    have ev := xiR_v hx
    have es := hx.2
    have q3 : QR S1 o0 vl = QR S o0 vl := qr_af h0 hov hB1
    refine tt_if_ne (tgt := 24) dX10_oneMore_19 rfl (fun y => ?_) (fun y => ?_)
    · have q1 : AR S1 o0 = qr (F_X10_read bs n (StR S o0) (r0 (QR S o0 vl))).1 := aR_mk (sR_655 es) (sR_656 es) (sR_657 es) (sR_658 es) (sR_659 es) (sR_661 es)
      have q2 : hp_J S1 660 o0 = eJ (F_X10_read bs n (StR S o0) (r0 (QR S o0 vl))).1 := sR_660 es
      have y2 : ¬ (F_X10_read bs n (StR S o0) (r0 (QR S o0 vl))).2 = 0 := fun e => y (ev.trans e)
      refine cr_X10_oneMore_p24 hG1 (rr_af hc hA1) (by rw [q1]; exact fun k => hz _ q y2 k) (fun r T x y9 h => hP r T x y9 (pv_tr hA1 h (by decide) (fun v T e => ?_)))
      rw [q1, q2, q3] at e
      exact ⟨_, e.1, Or.inr ⟨q, _, Or.inr ⟨y2, Prod.ext e.2 rfl⟩⟩⟩
    · refine tt_iconst (v := 2) dX10_oneMore_22 rfl ?_
      exact tt_ireturn dX10_oneMore_23 .int rfl rfl (hP _ _ _ _ ⟨hG1, hA1, Or.inl ⟨_, rfl, ⟨_, rfl, rg_w (⟨by decide, by decide⟩ : Rg 2 2 2)⟩, ⟨2, rfl, Or.inr ⟨q, _, Or.inl ⟨ev.symm.trans y, q3, rfl⟩⟩⟩, rfl, rfl⟩⟩)
  · refine tt_iconst (v := 3) dX10_oneMore_9 rfl ?_
    exact tt_ireturn dX10_oneMore_10 .int rfl rfl (hP _ _ _ _ ⟨hG, hA, Or.inl ⟨_, rfl, ⟨_, rfl, rg_w (⟨by decide, by decide⟩ : Rg 3 3 3)⟩, ⟨3, rfl, Or.inl ⟨q, rfl, rfl⟩⟩, rfl, rfl⟩⟩)
