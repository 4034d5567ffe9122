theorem mi_1 {x y : Int32} (q : x ≤ y) : ∀ z : Int32, some (Value.int x) = some (.int z) → (x.toInt ≤ y.toInt ∧ z.toInt = x.toInt) ∨ (y.toInt < x.toInt ∧ z.toInt = y.toInt) := fun z e => Or.inl ⟨Int32.le_iff_toInt_le.mp q, congrArg Int32.toInt (ei_v z e)⟩
theorem mi_2 {x y : Int32} (q : y < x) : ∀ z : Int32, some (Value.int y) = some (.int z) → (x.toInt ≤ y.toInt ∧ z.toInt = x.toInt) ∨ (y.toInt < x.toInt ∧ z.toInt = y.toInt) := fun z e => Or.inr ⟨Int32.lt_iff_toInt_lt.mp q, congrArg Int32.toInt (ei_v z e)⟩
theorem ap_0 {s n : Int32} : s.toInt = s.toInt + (0 : Int32).toInt ∧ ((0 : Int32).toInt ≤ n.toInt ∨ (0 : Int32) = 0) := ⟨by rw [show (0 : Int32).toInt = 0 from rfl]; omega, Or.inr rfl⟩
theorem ap_1 {s c u w n : Int32} {lo hi : Int} (h : u.toInt = s.toInt + c.toInt ∧ (c.toInt ≤ n.toInt ∨ c = 0)) (e : w = u + 1) (q : c < n) (hu : Rg lo hi u) (h1 : 0 ≤ lo := by decide) (h2 : hi ≤ 200 := by decide) : w.toInt = s.toInt + (c + 1).toInt ∧ ((c + 1).toInt ≤ n.toInt ∨ c + 1 = 0) := by
  obtain ⟨u1, u2⟩ := hu
  obtain ⟨c1, c2⟩ := rg_all c
  obtain ⟨n1, n2⟩ := rg_all n
  have q1 := Int32.lt_iff_toInt_lt.mp q
  have e1 : (c + 1).toInt = c.toInt + 1 := by rw [Int32.toInt_add, show (1 : Int32).toInt = 1 from rfl, bmod_in (by omega) (by omega)]
  have e2 : (u + 1).toInt = u.toInt + 1 := by rw [Int32.toInt_add, show (1 : Int32).toInt = 1 from rfl, bmod_in (by omega) (by omega)]
  rw [e, e1, e2]
  exact ⟨by omega, Or.inl (by omega)⟩
theorem ap_e1 {s c u n : Int32} {lo hi : Int} (h : u.toInt = s.toInt + c.toInt ∧ (c.toInt ≤ n.toInt ∨ c = 0)) (q : n ≤ c) (hc : Rg lo hi c) (h1 : 0 ≤ lo := by decide) : (0 ≤ n.toInt ∧ u.toInt = s.toInt + n.toInt) ∨ (n.toInt < 0 ∧ u.toInt = s.toInt) := by
  obtain ⟨c1, c2⟩ := hc
  have q1 := Int32.le_iff_toInt_le.mp q
  obtain ⟨h2, h3 | h3⟩ := h
  · omega
  · have e : c.toInt = 0 := by rw [h3]; rfl
    omega
theorem ap_e2 {s c u n : Int32} (h : u.toInt = s.toInt + c.toInt ∧ (c.toInt ≤ n.toInt ∨ c = 0)) (q : c < n) (q2 : 200 ≤ u) (hq : s.toInt + n.toInt ≤ 200) : (0 ≤ n.toInt ∧ u.toInt = s.toInt + n.toInt) ∨ (n.toInt < 0 ∧ u.toInt = s.toInt) := by
  have q1 := Int32.lt_iff_toInt_lt.mp q
  have q3 := Int32.le_iff_toInt_le.mp q2
  rw [show (200 : Int32).toInt = 200 from rfl] at q3
  omega
theorem fd_add {s n : Int32} (hs : Rg 0 200 s) (hn : Rg 0 16 n) : (s + n).toInt = s.toInt + n.toInt := by
  obtain ⟨s1, s2⟩ := hs
  obtain ⟨n1, n2⟩ := hn
  rw [Int32.toInt_add, bmod_in (by omega) (by omega)]
theorem fd_sub {n c : Int32} {k : Int} (hn : Rg 0 16 n) (e : c.toInt = k) (h1 : 0 ≤ k := by decide) (h2 : k ≤ 16 := by decide) : (n - c).toInt = n.toInt - k := by
  obtain ⟨n1, n2⟩ := hn
  rw [Int32.toInt_sub, e, bmod_in (by omega) (by omega)]
theorem fd_ok {s n : Int32} (hs : Rg 0 200 s) (hn : Rg 0 16 n) (h : s.toInt + n.toInt ≤ 200) : ¬ 200 < s + n := fun q => by
  have q1 := Int32.lt_iff_toInt_lt.mp q
  rw [fd_add hs hn, show (200 : Int32).toInt = 200 from rfl] at q1
  omega
theorem fd_no {s n : Int32} (hs : Rg 0 200 s) (hn : Rg 0 16 n) (h : 200 < s.toInt + n.toInt) : ¬ s + n ≤ 200 := fun q => by
  have q1 := Int32.le_iff_toInt_le.mp q
  rw [fd_add hs hn, show (200 : Int32).toInt = 200 from rfl] at q1
  omega
theorem fd_in {n : Int32} {lo hi : Int} (hn : Rg lo hi n) (q : n ≤ 16) (h1 : 0 ≤ lo := by decide) : Rg 0 16 n := by
  have q1 := Int32.le_iff_toInt_le.mp q
  rw [show (16 : Int32).toInt = 16 from rfl] at q1
  exact ⟨Int.le_trans h1 hn.1, q1⟩
theorem fd_gt {s n : Int32} (hs : Rg 0 200 s) (hn : Rg 0 16 n) (q : 200 < s + n) : 200 < s.toInt + n.toInt := by
  have q1 := Int32.lt_iff_toInt_lt.mp q
  rw [fd_add hs hn, show (200 : Int32).toInt = 200 from rfl] at q1
  exact q1
theorem fd_le {s n : Int32} (hs : Rg 0 200 s) (hn : Rg 0 16 n) (q : s + n ≤ 200) : s.toInt + n.toInt ≤ 200 := by
  have q1 := Int32.le_iff_toInt_le.mp q
  rw [fd_add hs hn, show (200 : Int32).toInt = 200 from rfl] at q1
  exact q1
theorem fd_e {n : Int32} {lo hi : Int} (hn : Rg lo hi n) (h1 : 0 ≤ lo := by decide) : (0 : Int32).toInt ≤ n.toInt := by
  rw [show (0 : Int32).toInt = 0 from rfl]
  exact Int.le_trans h1 hn.1
theorem fd_b {c n : Int32} (q : c < n) : (c + 1).toInt ≤ n.toInt := by
  obtain ⟨c1, c2⟩ := rg_all c
  obtain ⟨n1, n2⟩ := rg_all n
  have q1 := Int32.lt_iff_toInt_lt.mp q
  have e1 : (c + 1).toInt = c.toInt + 1 := by rw [Int32.toInt_add, show (1 : Int32).toInt = 1 from rfl, bmod_in (by omega) (by omega)]
  omega
theorem fd_m {s c n w : Int32} (e : w = s + c) (hc : c.toInt ≤ n.toInt) (q : n ≤ c) (hs : Rg 0 200 s) (hn : Rg 0 16 n) : w.toInt = s.toInt + n.toInt := by
  have q1 := Int32.le_iff_toInt_le.mp q
  obtain rfl : c = n := Int32.toInt_inj.mp (by omega)
  rw [e, fd_add hs hn]
theorem fd_nin {n : Int32} (h : ¬ (¬ n.toInt64 < 0 ∧ ¬ 16 < n.toInt64)) : ¬ Rg 0 16 n := fun q => h (by
  obtain ⟨q1, q2⟩ := q
  rw [Int64.lt_iff_toInt_lt, Int64.lt_iff_toInt_lt, Int32.toInt_toInt64, show (0 : Int64).toInt = 0 from rfl, show (16 : Int64).toInt = 16 from rfl]
  omega)
theorem fo_x {S T : Hp} {o b : Nat} {x n : Int32} (hr : hp_R S 576 o = some b) (e : hp_I T 65 b = x) (h : x.toInt = (hp_I S 65 b).toInt + n.toInt) : ∀ c, hp_R S 576 o = some c → (hp_I T 65 c).toInt = (hp_I S 65 c).toInt + n.toInt ∧ some (Value.int x) = some (.int (hp_I T 65 c)) := fun c hc => by
  obtain rfl : b = c := Option.some.inj (hr.symm.trans hc)
  exact ⟨by rw [e]; exact h, by rw [e]⟩
theorem er_x {S T : Hp} {o b : Nat} (hr : hp_R S 576 o = some b) (e : hp_I T 65 b = 0) : ∀ c, hp_R S 576 o = some c → some (Value.int (hp_I S 65 b)) = some (.int (hp_I S 65 c)) ∧ hp_I T 65 c = 0 := fun c hc => by
  obtain rfl : b = c := Option.some.inj (hr.symm.trans hc)
  exact ⟨rfl, e⟩
theorem out_x {y : Int64} {x w u : Int32} (ej : y = x.toInt64) (e : u = w) (h : some (Value.int x) = some (.int w)) : y = u.toInt64 := by rw [ej, e, ei_v _ h]
set_option maxHeartbeats 4000000 in
theorem cq_min {xi : SX} {S : Hp} {E : List Nat} {kc nc : Nat} {P : Po} {x0 : Int32} {x1 : Int32} (hG : GI S E)  (hP : ∀ r T x y, PV E [] S kc nc (rI (-2147483648) 2147483647) (fun v T => T = S ∧ (∀ z, v = some (.int z) → (x0.toInt ≤ x1.toInt ∧ z.toInt = x0.toInt) ∨ (x1.toInt < x0.toInt ∧ z.toInt = x1.toInt))) [] r T x y → P r T x y) : TT xi M_J9_min_7cf53 0 [(0, .int x0), (1, .int x1)] [] S kc nc P := by
  have hA : Af E [] S S := af_rf
  refine tt_iload_n (j := 0) dJ9_min_7cf53_0 rfl ?_
  refine tt_iload_n (j := 1) dJ9_min_7cf53_1 rfl ?_
  refine tt_icmp_gt (tgt := 9) dJ9_min_7cf53_2 rfl (fun q101 => ?_) (fun q101 => ?_)
  · skip
    have h102 : Rg (-2147483648) 2147483646 x1 := rg_lt_l (rg_all x1) (rg_all x0) q101
    have h103 : Rg (-2147483647) 2147483647 x0 := rg_lt_r (rg_all x1) (rg_all x0) q101
    refine tt_iload_n (j := 1) dJ9_min_7cf53_9 rfl ?_
    exact tt_ireturn dJ9_min_7cf53_10 .int rfl rfl (hP _ _ _ _ ⟨hG, hA, Or.inl ⟨_, rfl, ⟨_, rfl, rg_w h102⟩, ⟨rfl, (mi_2 q101)⟩, rfl, rfl⟩⟩)
  · skip
    refine tt_iload_n (j := 0) dJ9_min_7cf53_5 rfl ?_
    refine tt_goto (tgt := 10) dJ9_min_7cf53_6 rfl ?_
    exact tt_ireturn dJ9_min_7cf53_10 .int rfl rfl (hP _ _ _ _ ⟨hG, hA, Or.inl ⟨_, rfl, ⟨_, rfl, rg_w (rg_all x0)⟩, ⟨rfl, (mi_1 (nlt_le q101))⟩, rfl, rfl⟩⟩)
set_option maxHeartbeats 4000000 in
theorem cq_X1_append {xi : SX} {S : Hp} {E : List Nat} {kc nc : Nat} {P : Po} {o0 : Nat} {x1 : Int32} {x2 : Int32} (hG : GI S E) (h0 : Oa S E 1 0 o0) (hq : (hp_I S 65 o0).toInt + x1.toInt ≤ 200) (hP : ∀ r T x y, PV E [65, 9995] S kc nc rV (fun v T => ((0 ≤ x1.toInt ∧ (hp_I T 65 o0).toInt = (hp_I S 65 o0).toInt + x1.toInt) ∨ (x1.toInt < 0 ∧ (hp_I T 65 o0).toInt = (hp_I S 65 o0).toInt))) [] r T x y → P r T x y) : TT xi M_X1_append 0 [(0, .ref o0), (1, .int x1), (2, .int x2)] [] S kc nc P := by
  have hA : Af E [65, 9995] S S := af_rf
  refine tt_iconst (v := 0) dX1_append_0 rfl ?_
  refine tt_istore_n (ks := [0, 1, 2, 3]) (L' := [(3, .int 0), (0, .ref o0), (1, .int x1), (2, .int x2)]) dX1_append_1 (by decide) rfl ?_
  have B101 : ∀ (nn : Nat) (S102 : Hp) (x105 : Int32), (2147483648 - x105.toInt).toNat = nn → GI S102 E → Af E [65, 9995] S S102 → Rg 0 2147483647 x105 → ((hp_I S102 65 o0).toInt = (hp_I S 65 o0).toInt + (x105 : Int32).toInt ∧ ((x105 : Int32).toInt ≤ x1.toInt ∨ x105 = 0)) → TT xi M_X1_append 2 [(0, .ref o0), (1, .int x1), (2, .int x2), (3, .int x105)] [] S102 kc nc P := by
    intro nn
    induction nn using Nat.strongRecOn with
    | ind nn ihB101 =>
      intro S102 x105 hmB101 hG103 hA104 h106 hl107
      subst hmB101
      refine tt_iload_n (j := 3) dX1_append_2 rfl ?_
      refine tt_iload_n (j := 1) dX1_append_3 rfl ?_
      refine tt_icmp_ge (tgt := 55) dX1_append_4 rfl (fun q108 => ?_) (fun q108 => ?_)
      · skip
        exact tt_vreturn dX1_append_55 rfl (hP _ _ _ _ ⟨hG103, hA104, Or.inl ⟨_, rfl, rfl, (ap_e1 hl107 q108 h106), rfl, rfl⟩⟩)
      · skip
        have h109 : Rg 0 2147483646 x105 := rg_lt_l h106 (rg_all x1) (nle_lt q108)
        have h110 : Rg 1 2147483647 x1 := rg_lt_r h106 (rg_all x1) (nle_lt q108)
        refine tt_aload_n (j := 0) dX1_append_7 rfl ?_
        refine tt_getI (id := 65) dX1_append_8 fl_1_15 rfl rfl (ob_af h0 hA104) ?_
        refine tt_sipush (v := 200) dX1_append_11 rfl ?_
        refine tt_icmp_ge (tgt := 55) dX1_append_14 rfl (fun q111 => ?_) (fun q111 => ?_)
        · skip
          have h112 : Rg 200 200 (hp_I S102 65 o0) := rg_le_r (⟨by decide, by decide⟩ : Rg 200 200 200) (gi_I (k := 65) hG103 (oa_af h0 hA104) 0 200) q111
          exact tt_vreturn dX1_append_55 rfl (hP _ _ _ _ ⟨hG103, hA104, Or.inl ⟨_, rfl, rfl, (ap_e2 hl107 (nle_lt q108) q111 hq), rfl, rfl⟩⟩)
        · skip
          have h113 : Rg 0 199 (hp_I S102 65 o0) := rg_lt_l (gi_I (k := 65) hG103 (oa_af h0 hA104) 0 200) (⟨by decide, by decide⟩ : Rg 200 200 200) (nle_lt q111)
          refine tt_aload_n (j := 0) dX1_append_17 rfl ?_
          obtain ⟨b114, hr115, ho116⟩ := gi_R (k := 64) hG h0 32 200
          refine gt_gR (id := 64) dX1_append_18 fl_1_9 rfl rfl h0 hA104 hr115 ?_
          refine tt_aload_n (j := 0) dX1_append_21 rfl ?_
          refine tt_getI (id := 65) dX1_append_22 fl_1_15 rfl rfl (ob_af h0 hA104) ?_
          refine tt_iload_n (j := 2) dX1_append_25 rfl ?_
          refine tt_bipush (v := 24) dX1_append_26 rfl ?_
          refine tt_bipush (v := 8) dX1_append_28 rfl ?_
          refine tt_iload_n (j := 3) dX1_append_30 rfl ?_
          refine tt_imul dX1_append_31 ?_
          refine tt_isub dX1_append_32 ?_
          refine tt_iushr dX1_append_33 (gt_ti (fun x117 => ?_))
          refine tt_sipush (v := 255) dX1_append_34 rfl ?_
          refine tt_iand dX1_append_37 ?_
          refine gt_iS dX1_append_38 ho116 hA104 (Or.inr (by decide)) (rg_in h113) hG103 (by decide) (fun S118 hG119 hA120 e121 f122 er123 => ?_)
          refine tt_aload_n (j := 0) dX1_append_39 rfl ?_
          refine tt_dup dX1_append_40 rfl ?_
          refine gt_gI (id := 65) (v := (hp_I S102 65 o0)) dX1_append_41 fl_1_15 rfl rfl h0 hA120 ((congrFun (congrFun e121 65) o0).trans rfl) ?_
          refine tt_iconst (v := 1) dX1_append_44 rfl ?_
          refine tt_iadd dX1_append_45 ?_
          refine gt_pI (id := 65) (x := ((hp_I S102 65 o0) + 1)) dX1_append_46 fl_1_15 rfl rfl h0 hA120 rfl rfl rfl (gp_Ir hG119 (rg_add (lo := 1) (hi := 200) h113 (⟨by decide, by decide⟩ : Rg 1 1 1))) (by decide) (fun h => absurd h (by decide)) (fun h => absurd h (by decide)) (fun S124 hG125 hA126 e127 f128 er129 => ?_)
          refine tt_iinc (j := 3) (v := (x105 + 1)) (ks := [0, 1, 2, 3]) (L' := [(3, .int (x105 + 1)), (0, .ref o0), (1, .int x1), (2, .int x2)]) dX1_append_49 rfl rfl (by decide) rfl ?_
          refine tt_goto (tgt := 2) dX1_append_52 rfl ?_
          exact tt_loc (ks := [1, 2, 3, 0]) rfl (ihB101 _ (rg_up h109) S124 (x105 + 1) rfl hG125 hA126 (rg_w (rg_add (lo := 1) (hi := 2147483647) h109 (⟨by decide, by decide⟩ : Rg 1 1 1))) (ap_1 hl107 (by rw [e127]; exact up2_self) (nle_lt q108) h113))
  exact tt_loc (ks := [1, 2, 3, 0]) rfl (B101 _ S 0 rfl hG hA (rg_w (⟨by decide, by decide⟩ : Rg 0 0 0)) ap_0)
set_option maxHeartbeats 4000000 in
theorem cq_X10_feed {xi : SX} {S : Hp} {E : List Nat} {kc nc : Nat} {P : Po} {o0 : Nat} {x1 : Int32} {x2 : Int32} {x3 : Int32} {x4 : Int32} {x5 : Int32} (hG : GI S E) (h0 : Oa S E 10 0 o0) (hP : ∀ r T x y, PV E [640, 642, 653, 663, 664, 9988, 9995, 9997] S kc nc (rI (-2147483648) 2147483647) (fun v T => (((¬ hp_I S 663 o0 = 0 → ¬ hp_I S 664 o0 = -1) → ¬ hp_I T 663 o0 = 0 → ¬ hp_I T 664 o0 = -1) ∧ ((hp_I T 640 o0 = 1 ∧ ¬ Rg 0 16 x1 ∧ hp_I T 642 o0 = hp_I S 642 o0) ∨ (hp_I T 640 o0 = 2 ∧ Rg 0 16 x1 ∧ 200 < (hp_I S 642 o0).toInt + x1.toInt ∧ hp_I T 642 o0 = hp_I S 642 o0) ∨ (hp_I T 640 o0 = 0 ∧ Rg 0 16 x1 ∧ (hp_I S 642 o0).toInt + x1.toInt ≤ 200 ∧ (hp_I T 642 o0).toInt = (hp_I S 642 o0).toInt + x1.toInt)) ∧ (hp_I T 640 o0 = 0 → v = some (.int (hp_I T 642 o0))))) [] r T x y → P r T x y) : TT xi M_X10_feed 0 [(0, .ref o0), (1, .int x1), (2, .int x2), (3, .int x3), (4, .int x4), (5, .int x5)] [] S kc nc P := by
  have hA : Af E [640, 642, 653, 663, 664, 9988, 9995, 9997] S S := af_rf
  refine tt_aload_n (j := 0) dX10_feed_0 rfl ?_
  refine tt_iload_n (j := 1) dX10_feed_1 rfl ?_
  refine tt_i2l dX10_feed_2 ?_
  refine tt_lconst (v := 0) dX10_feed_3 rfl ?_
  refine tt_ldc2 (v := 16) dX10_feed_4 kl_10_65 ?_
  refine gt_SIp (As := [.long (x1 : Int32).toInt64, .long 0, .long 16]) dX10_feed_7 ca_X10_67 ⟨by decide, by decide⟩ hA (Nat.le_of_ble_eq_true rfl) (Nat.le_of_ble_eq_true rfl) (by decide) (cs_X10_isIn hG  (fun _ _ _ _ h => h)) rfl (fun _ h => nomatch h) (fun _ _ q => q.1) (fun x106 h107 hx105 => ?_)
  refine tt_if_ne (tgt := 17) dX10_feed_10 rfl (fun q108 => ?_) (fun q108 => ?_)
  · skip
    have h109 : Rg 1 1 x106 := rg_ne_lo h107 (⟨by decide, by decide⟩ : Rg 0 0 0) q108
    have h110 : Rl 0 16 (x1 : Int32).toInt64 := in_rl ((fun z e => (hx105.2 z e).1) _ rfl q108) (⟨by decide, by decide⟩ : Rl 0 0 0) (⟨by decide, by decide⟩ : Rl 16 16 16)
    have h111 : Rg 0 16 x1 := rg_of_l h110
    refine tt_aload_n (j := 0) dX10_feed_17 rfl ?_
    refine tt_getI (id := 642) dX10_feed_18 fl_10_71 rfl rfl (ob_af h0 hA) ?_
    refine tt_iload_n (j := 1) dX10_feed_21 rfl ?_
    refine tt_iadd dX10_feed_22 ?_
    refine tt_sipush (v := 200) dX10_feed_23 rfl ?_
    refine tt_icmp_le (tgt := 33) dX10_feed_26 rfl (fun q112 => ?_) (fun q112 => ?_)
    · skip
      have h113 : Rg 0 200 ((hp_I S 642 o0) + x1) := rg_le_l (rg_add (lo := 0) (hi := 216) (gi_I (k := 642) hG (oa_af h0 hA) 0 200) h111) (⟨by decide, by decide⟩ : Rg 200 200 200) q112
      refine tt_iconst (v := 0) dX10_feed_33 rfl ?_
      refine gt_VI (As := [.int 0]) dX10_feed_34 ca_X10_74 ⟨by decide, by decide⟩ h0 hA rfl (Nat.le_of_ble_eq_true rfl) (Nat.le_of_ble_eq_true rfl) (by decide) (cs_X10_refused hG (oa_af h0 hA) (fun _ _ _ _ h => h)) rfl (fun _ h => nomatch h) (fun S114 x119 h120 hx118 hG115 hB116 hA117 => ?_)
      obtain rfl := (hx118.1 _ rfl).trans (show bI (0 < (0 : Int32)) = 0 by decide)
      refine tt_if_eq (tgt := 42) dX10_feed_37 rfl (fun _ => ?_) (fun q => absurd q (by decide))
      refine tt_aload_n (j := 0) dX10_feed_42 rfl ?_
      refine gt_Vv (As := []) dX10_feed_43 ca_X10_78 ⟨by decide, by decide⟩ h0 hA117 rfl (Nat.le_of_ble_eq_true rfl) (Nat.le_of_ble_eq_true rfl) (by decide) (cs_X10_forget hG115 (oa_af h0 hA117) (fun _ _ _ _ h => h)) rfl (fun _ h => nomatch h) (fun S121 hx125 hG122 hB123 hA124 => ?_)
      refine tt_iconst (v := 0) dX10_feed_46 rfl ?_
      refine tt_istore (ks := [0, 1, 2, 3, 4, 5, 6]) (L' := [(6, .int 0), (0, .ref o0), (1, .int x1), (2, .int x2), (3, .int x3), (4, .int x4), (5, .int x5)]) dX10_feed_47 (by decide) rfl ?_
      have B126 : ∀ (nn : Nat) (S127 : Hp) (x130 : Int32), (2147483648 - x130.toInt).toNat = nn → GI S127 E → Af E [640, 642, 653, 663, 664, 9988, 9995, 9997] S S127 → Rg 0 24 x130 → hp_I S127 642 o0 = ((hp_I S 642 o0) + x130) → hp_I S127 663 o0 = 0 → (x130 : Int32).toInt ≤ x1.toInt → hp_I S127 640 o0 = 0 → TT xi M_X10_feed 49 [(0, .ref o0), (1, .int x1), (2, .int x2), (3, .int x3), (4, .int x4), (5, .int x5), (6, .int x130)] [] S127 kc nc P := by
        intro nn
        induction nn using Nat.strongRecOn with
        | ind nn ihB126 =>
          intro S127 x130 hmB126 hG128 hA129 h131 hl132 hl133 hl134 hl135
          subst hmB126
          refine tt_iload (j := 6) dX10_feed_49 rfl ?_
          refine tt_iload_n (j := 1) dX10_feed_51 rfl ?_
          refine tt_icmp_ge (tgt := 134) dX10_feed_52 rfl (fun q136 => ?_) (fun q136 => ?_)
          · skip
            refine tt_aload_n (j := 0) dX10_feed_134 rfl ?_
            refine gt_gI (id := 642) (v := ((hp_I S 642 o0) + x130)) dX10_feed_135 fl_10_71 rfl rfl h0 hA129 hl132 ?_
            exact tt_ireturn dX10_feed_138 .int rfl rfl (hP _ _ _ _ ⟨hG128, hA129, Or.inl ⟨_, rfl, ⟨_, rfl, rg_w (rg_all ((hp_I S 642 o0) + x130))⟩, ⟨(fun _ q => absurd hl133 q), Or.inr (Or.inr ⟨hl135, rg_w h111, fd_le (gi_I (k := 642) hG (oa_af h0 hA) 0 200) (rg_w h111) q112, fd_m hl132 hl134 q136 (gi_I (k := 642) hG (oa_af h0 hA) 0 200) (rg_w h111)⟩), fun _ => congrArg (fun q => some (Value.int q)) (Eq.symm hl132)⟩, rfl, rfl⟩⟩)
          · skip
            have h137 : Rg 0 199 ((hp_I S 642 o0) + x130) := feed_rg h131 (nle_lt q136) h111 h113 (gi_I (k := 642) hG (oa_af h0 hA) 0 200)
            have h138 : Rg 0 15 x130 := rg_lt_l h131 h111 (nle_lt q136)
            have h139 : Rg 1 16 x1 := rg_lt_r h131 h111 (nle_lt q136)
            refine tt_iload (j := 6) dX10_feed_55 rfl ?_
            refine tt_iconst (v := 4) dX10_feed_57 rfl ?_
            have B140 : ∀ (x141 : Int32), TT xi M_X10_feed 90 [(0, .ref o0), (1, .int x1), (2, .int x2), (3, .int x3), (4, .int x4), (5, .int x5), (6, .int x130)] [.int x141] S127 kc nc P := by
              intro x141 
              refine tt_istore (ks := [0, 1, 2, 3, 4, 5, 6, 7]) (L' := [(7, .int x141), (0, .ref o0), (1, .int x1), (2, .int x2), (3, .int x3), (4, .int x4), (5, .int x5), (6, .int x130)]) dX10_feed_90 (by decide) rfl ?_
              refine tt_aload_n (j := 1) dX10_feed_92 rfl ?_
              obtain ⟨b142, hr143, ho144⟩ := gi_R (k := 641) hG h0 32 200
              refine gt_gR (id := 641) dX10_feed_93 fl_10_7 rfl rfl h0 hA129 hr143 ?_
              refine tt_aload_n (j := 1) dX10_feed_96 rfl ?_
              refine gt_gI (id := 642) (v := ((hp_I S 642 o0) + x130)) dX10_feed_97 fl_10_71 rfl rfl h0 hA129 hl132 ?_
              refine tt_iload (j := 0) dX10_feed_100 rfl ?_
              refine tt_bipush (v := 24) dX10_feed_102 rfl ?_
              refine tt_bipush (v := 8) dX10_feed_104 rfl ?_
              refine tt_iload (j := 7) dX10_feed_106 rfl ?_
              refine tt_iconst (v := 4) dX10_feed_108 rfl ?_
              refine tt_irem dX10_feed_109 (by decide) (gt_ti (fun x145 => ?_))
              refine tt_imul dX10_feed_110 ?_
              refine tt_isub dX10_feed_111 ?_
              refine tt_ishr dX10_feed_112 ?_
              refine tt_sipush (v := 255) dX10_feed_113 rfl ?_
              refine tt_iand dX10_feed_116 ?_
              refine gt_iS dX10_feed_117 ho144 hA129 (Or.inr (by decide)) (rg_in h137) hG128 (by decide) (fun S146 hG147 hA148 e149 f150 er151 => ?_)
              refine tt_aload_n (j := 1) dX10_feed_118 rfl ?_
              refine tt_dup dX10_feed_119 rfl ?_
              refine gt_gI (id := 642) (v := ((hp_I S 642 o0) + x130)) dX10_feed_120 fl_10_71 rfl rfl h0 hA148 ((congrFun (congrFun e149 642) o0).trans hl132) ?_
              refine tt_iconst (v := 1) dX10_feed_123 rfl ?_
              refine tt_iadd dX10_feed_124 ?_
              refine gt_pI (id := 642) (x := (((hp_I S 642 o0) + x130) + 1)) dX10_feed_125 fl_10_71 rfl rfl h0 hA148 rfl rfl rfl (gp_Ir hG147 (rg_add (lo := 1) (hi := 200) h137 (⟨by decide, by decide⟩ : Rg 1 1 1))) (by decide) (fun h => absurd h (by decide)) (fun h => absurd h (by decide)) (fun S152 hG153 hA154 e155 f156 er157 => ?_)
              refine tt_iinc (j := 7) (v := (x130 + 1)) (ks := [0, 1, 2, 3, 4, 5, 6, 7]) (L' := [(6, .int (x130 + 1)), (7, .int x141), (0, .ref o0), (1, .int x1), (2, .int x2), (3, .int x3), (4, .int x4), (5, .int x5)]) dX10_feed_128 rfl rfl (by decide) rfl ?_
              refine tt_goto (tgt := 49) dX10_feed_131 rfl ?_
              exact tt_loc (ks := [2, 3, 4, 5, 6, 7, 0]) rfl (ihB126 _ (rg_up h138) S152 (x130 + 1) rfl hG153 hA154 (rg_w (rg_add (lo := 1) (hi := 16) h138 (⟨by decide, by decide⟩ : Rg 1 1 1))) (Eq.trans (by rw [e155]; exact up2_self) (Int32.add_assoc _ _ _)) ((congrFun (congrFun e155 663) o0).trans ((congrFun (up2_ne (k := 663)) o0).trans ((congrFun (congrFun e149 663) o0).trans hl133))) (fd_b (nle_lt q136)) ((congrFun (congrFun e155 640) o0).trans ((congrFun (up2_ne (k := 640)) o0).trans ((congrFun (congrFun e149 640) o0).trans hl135))))
            refine tt_icmp_ge (tgt := 65) dX10_feed_58 rfl (fun q158 => ?_) (fun q158 => ?_)
            · skip
              have h159 : Rg 4 15 x130 := rg_le_r (⟨by decide, by decide⟩ : Rg 4 4 4) h138 q158
              refine tt_iload (j := 6) dX10_feed_65 rfl ?_
              refine tt_bipush (v := 8) dX10_feed_67 rfl ?_
              refine tt_icmp_ge (tgt := 76) dX10_feed_69 rfl (fun q160 => ?_) (fun q160 => ?_)
              · skip
                have h161 : Rg 8 15 x130 := rg_le_r (⟨by decide, by decide⟩ : Rg 8 8 8) h159 q160
                refine tt_iload (j := 6) dX10_feed_76 rfl ?_
                refine tt_bipush (v := 12) dX10_feed_78 rfl ?_
                refine tt_icmp_ge (tgt := 88) dX10_feed_80 rfl (fun q162 => ?_) (fun q162 => ?_)
                · skip
                  have h163 : Rg 12 15 x130 := rg_le_r (⟨by decide, by decide⟩ : Rg 12 12 12) h161 q162
                  refine tt_iload (j := 5) dX10_feed_88 rfl ?_
                  exact B140 x5
                · skip
                  have h164 : Rg 8 11 x130 := rg_lt_l h161 (⟨by decide, by decide⟩ : Rg 12 12 12) (nle_lt q162)
                  refine tt_iload (j := 4) dX10_feed_83 rfl ?_
                  refine tt_goto (tgt := 90) dX10_feed_85 rfl ?_
                  exact B140 x4
              · skip
                have h165 : Rg 4 7 x130 := rg_lt_l h159 (⟨by decide, by decide⟩ : Rg 8 8 8) (nle_lt q160)
                refine tt_iload_n (j := 3) dX10_feed_72 rfl ?_
                refine tt_goto (tgt := 90) dX10_feed_73 rfl ?_
                exact B140 x3
            · skip
              have h166 : Rg 0 3 x130 := rg_lt_l h138 (⟨by decide, by decide⟩ : Rg 4 4 4) (nle_lt q158)
              refine tt_iload_n (j := 2) dX10_feed_61 rfl ?_
              refine tt_goto (tgt := 90) dX10_feed_62 rfl ?_
              exact B140 x2
      exact tt_loc (ks := [1, 2, 3, 4, 5, 6, 0]) rfl (B126 _ S121 0 rfl hG122 hA124 (rg_w (⟨by decide, by decide⟩ : Rg 0 0 0)) (Eq.trans ((i_af (k := 642) (oa_af h0 hA117) hB123).trans ((i_af (k := 642) (oa_af h0 hA) hB116).trans rfl)) (Int32.add_zero _).symm) hx125 (fd_e h111) ((i_af (k := 640) (oa_af h0 hA117) hB123).trans hx118.2))
    · skip
      have h167 : Rg 201 216 ((hp_I S 642 o0) + x1) := rg_lt_r (⟨by decide, by decide⟩ : Rg 200 200 200) (rg_add (lo := 0) (hi := 216) (gi_I (k := 642) hG (oa_af h0 hA) 0 200) h111) (nle_lt q112)
      refine tt_iconst (v := 2) dX10_feed_29 rfl ?_
      refine tt_goto (tgt := 34) dX10_feed_30 rfl ?_
      refine gt_VI (As := [.int 2]) dX10_feed_34 ca_X10_74 ⟨by decide, by decide⟩ h0 hA rfl (Nat.le_of_ble_eq_true rfl) (Nat.le_of_ble_eq_true rfl) (by decide) (cs_X10_refused hG (oa_af h0 hA) (fun _ _ _ _ h => h)) rfl (fun _ h => nomatch h) (fun S168 x173 h174 hx172 hG169 hB170 hA171 => ?_)
      obtain rfl := (hx172.1 _ rfl).trans (show bI (0 < (2 : Int32)) = 1 by decide)
      refine tt_if_eq (tgt := 42) dX10_feed_37 rfl (fun q => absurd q (by decide)) (fun _ => ?_)
      refine tt_iconst (v := 0) dX10_feed_40 rfl ?_
      exact tt_ireturn dX10_feed_41 .int rfl rfl (hP _ _ _ _ ⟨hG169, hA171, Or.inl ⟨_, rfl, ⟨_, rfl, rg_w (⟨by decide, by decide⟩ : Rg 0 0 0)⟩, ⟨(fun h q e => h (fun e2 => q (Eq.trans ((i_af (k := 663) (oa_af h0 hA) hB170).trans rfl) e2)) (Eq.trans (Eq.symm ((i_af (k := 664) (oa_af h0 hA) hB170).trans rfl)) e)), Or.inr (Or.inl ⟨hx172.2, rg_w h111, fd_gt (gi_I (k := 642) hG (oa_af h0 hA) 0 200) (rg_w h111) (nle_lt q112), ((i_af (k := 642) (oa_af h0 hA) hB170).trans rfl)⟩), fun q => absurd (Eq.trans (Eq.symm hx172.2) q) (by decide)⟩, rfl, rfl⟩⟩)
  · skip
    have h175 : Rg 0 0 x106 := rg_eq_l h107 (⟨by decide, by decide⟩ : Rg 0 0 0) q108
    refine tt_iconst (v := 1) dX10_feed_13 rfl ?_
    refine tt_goto (tgt := 34) dX10_feed_14 rfl ?_
    refine gt_VI (As := [.int 1]) dX10_feed_34 ca_X10_74 ⟨by decide, by decide⟩ h0 hA rfl (Nat.le_of_ble_eq_true rfl) (Nat.le_of_ble_eq_true rfl) (by decide) (cs_X10_refused hG (oa_af h0 hA) (fun _ _ _ _ h => h)) rfl (fun _ h => nomatch h) (fun S176 x181 h182 hx180 hG177 hB178 hA179 => ?_)
    obtain rfl := (hx180.1 _ rfl).trans (show bI (0 < (1 : Int32)) = 1 by decide)
    refine tt_if_eq (tgt := 42) dX10_feed_37 rfl (fun q => absurd q (by decide)) (fun _ => ?_)
    refine tt_iconst (v := 0) dX10_feed_40 rfl ?_
    exact tt_ireturn dX10_feed_41 .int rfl rfl (hP _ _ _ _ ⟨hG177, hA179, Or.inl ⟨_, rfl, ⟨_, rfl, rg_w (⟨by decide, by decide⟩ : Rg 0 0 0)⟩, ⟨(fun h q e => h (fun e2 => q (Eq.trans ((i_af (k := 663) (oa_af h0 hA) hB178).trans rfl) e2)) (Eq.trans (Eq.symm ((i_af (k := 664) (oa_af h0 hA) hB178).trans rfl)) e)), Or.inl ⟨hx180.2, fd_nin ((hx105.2 _ rfl).2 q108), ((i_af (k := 642) (oa_af h0 hA) hB178).trans rfl)⟩, fun q => absurd (Eq.trans (Eq.symm hx180.2) q) (by decide)⟩, rfl, rfl⟩⟩)
set_option maxHeartbeats 4000000 in
theorem co_X9_feed {xi : SX} {S : Hp} {E : List Nat} {kc nc : Nat} {P : Po} {o0 : Nat} {x1 : Int32} {x2 : Int32} {x3 : Int32} {x4 : Int32} {x5 : Int32} (hG : GI S E) (h0 : Oa S E 9 0 o0) (h1 : Rg 0 16 x1) (hs : ∀ c, hp_R S 576 o0 = some c → (hp_I S 65 c).toInt + x1.toInt ≤ 200) (hP : ∀ r T x y, PV E [65, 321, 322, 388, 9995] S kc nc (rI (-2147483648) 2147483647) (fun v T => (∀ c, hp_R S 576 o0 = some c → (hp_I T 65 c).toInt = (hp_I S 65 c).toInt + x1.toInt ∧ v = some (.int (hp_I T 65 c)))) [] r T x y → P r T x y) : TT xi M_X9_feed 0 [(0, .ref o0), (1, .int x1), (2, .int x2), (3, .int x3), (4, .int x4), (5, .int x5)] [] S kc nc P := by
  have hA : Af E [65, 321, 322, 388, 9995] S S := af_rf
  refine tt_iload_n (j := 1) dX9_feed_0 rfl ?_
  refine tt_if_lt (tgt := 10) dX9_feed_1 rfl (fun q101 => ?_) (fun q101 => ?_)
  · skip
    have h102 : Rg 0 (-1) x1 := rg_lt_l h1 (⟨by decide, by decide⟩ : Rg 0 0 0) q101
    have h103 : Rg 1 0 0 := rg_lt_r h1 (⟨by decide, by decide⟩ : Rg 0 0 0) q101
    exact rg_no h102
  · skip
    refine tt_iload_n (j := 1) dX9_feed_4 rfl ?_
    refine tt_bipush (v := 16) dX9_feed_5 rfl ?_
    refine tt_icmp_le (tgt := 20) dX9_feed_7 rfl (fun q104 => ?_) (fun q104 => ?_)
    · skip
      refine tt_aload_n (j := 0) dX9_feed_20 rfl ?_
      obtain ⟨b105, hr106, ho107⟩ := gi_R (k := 576) hG h0 1 0
      refine gt_gR (id := 576) dX9_feed_21 fl_9_10 rfl rfl h0 hA hr106 ?_
      refine tt_getI (id := 65) dX9_feed_24 fl_9_55 rfl rfl (ob_af ho107 hA) ?_
      refine tt_iload_n (j := 1) dX9_feed_27 rfl ?_
      refine tt_iadd dX9_feed_28 ?_
      refine tt_sipush (v := 200) dX9_feed_29 rfl ?_
      refine tt_icmp_le (tgt := 45) dX9_feed_32 rfl (fun q108 => ?_) (fun q108 => ?_)
      · skip
        have h109 : Rg 0 200 ((hp_I S 65 b105) + x1) := rg_le_l (rg_add (lo := 0) (hi := 216) (gi_I (k := 65) hG (oa_af ho107 hA) 0 200) h1) (⟨by decide, by decide⟩ : Rg 200 200 200) q108
        refine tt_aload_n (j := 0) dX9_feed_45 rfl ?_
        refine gt_gR (id := 576) dX9_feed_46 fl_9_10 rfl rfl h0 hA hr106 ?_
        refine tt_iload_n (j := 1) dX9_feed_49 rfl ?_
        refine tt_iconst (v := 4) dX9_feed_50 rfl ?_
        refine gt_SIp (As := [.int x1, .int 4]) dX9_feed_51 ca_X9_64 ⟨by decide, by decide⟩ hA (Nat.le_of_ble_eq_true rfl) (Nat.le_of_ble_eq_true rfl) (by decide) (cq_min hG  (fun _ _ _ _ h => h)) rfl (fun _ h => nomatch h) (fun _ _ q => q.1) (fun x115 h116 hx114 => ?_)
        have e4 : (4 : Int32).toInt = 4 := rfl
        have kx : 0 ≤ x1.toInt ∧ x1.toInt ≤ 16 := h1
        have m4 : (x1 - 4).toInt = x1.toInt - 4 := fd_sub h1 (c := 4) rfl
        have m8 : (x1 - 8).toInt = x1.toInt - 8 := fd_sub h1 (c := 8) rfl
        have m12 : (x1 - 12).toInt = x1.toInt - 12 := fd_sub h1 (c := 12) rfl
        have hs0 := hs _ hr106
        have mn117 : ((x1).toInt ≤ (4 : Int32).toInt ∧ x115.toInt = (x1).toInt) ∨ ((4 : Int32).toInt < (x1).toInt ∧ x115.toInt = (4 : Int32).toInt) := hx114.2 _ rfl
        refine tt_iload_n (j := 2) dX9_feed_54 rfl ?_
        refine gt_Vv (As := [.int x115, .int x2]) dX9_feed_55 ca_X9_70 ⟨by decide, by decide⟩ ho107 hA rfl (Nat.le_of_ble_eq_true rfl) (Nat.le_of_ble_eq_true rfl) (by decide) (cq_X1_append hG (oa_af ho107 hA) (by omega) (fun _ _ _ _ h => h)) rfl (fun _ h => nomatch h) (fun S118 hx122 hG119 hB120 hA121 => ?_)
        have ap123 : ((0 ≤ x115.toInt ∧ (hp_I S118 65 b105).toInt = (hp_I S 65 b105).toInt + x115.toInt) ∨ (x115.toInt < 0 ∧ (hp_I S118 65 b105).toInt = (hp_I S 65 b105).toInt)) := hx122
        refine tt_aload_n (j := 0) dX9_feed_58 rfl ?_
        refine gt_gR (id := 576) dX9_feed_59 fl_9_10 rfl rfl h0 hA121 hr106 ?_
        refine tt_iload_n (j := 1) dX9_feed_62 rfl ?_
        refine tt_iconst (v := 4) dX9_feed_63 rfl ?_
        refine tt_isub dX9_feed_64 ?_
        refine tt_iconst (v := 4) dX9_feed_65 rfl ?_
        refine gt_SIp (As := [.int (x1 - 4), .int 4]) dX9_feed_66 ca_X9_64 ⟨by decide, by decide⟩ hA121 (Nat.le_of_ble_eq_true rfl) (Nat.le_of_ble_eq_true rfl) (by decide) (cq_min hG119  (fun _ _ _ _ h => h)) rfl (fun _ h => nomatch h) (fun _ _ q => q.1) (fun x129 h130 hx128 => ?_)
        have mn131 : (((x1 - 4)).toInt ≤ (4 : Int32).toInt ∧ x129.toInt = ((x1 - 4)).toInt) ∨ ((4 : Int32).toInt < ((x1 - 4)).toInt ∧ x129.toInt = (4 : Int32).toInt) := hx128.2 _ rfl
        refine tt_iload_n (j := 3) dX9_feed_69 rfl ?_
        refine gt_Vv (As := [.int x129, .int x3]) dX9_feed_70 ca_X9_70 ⟨by decide, by decide⟩ ho107 hA121 rfl (Nat.le_of_ble_eq_true rfl) (Nat.le_of_ble_eq_true rfl) (by decide) (cq_X1_append hG119 (oa_af ho107 hA121) (by omega) (fun _ _ _ _ h => h)) rfl (fun _ h => nomatch h) (fun S132 hx136 hG133 hB134 hA135 => ?_)
        have ap137 : ((0 ≤ x129.toInt ∧ (hp_I S132 65 b105).toInt = (hp_I S118 65 b105).toInt + x129.toInt) ∨ (x129.toInt < 0 ∧ (hp_I S132 65 b105).toInt = (hp_I S118 65 b105).toInt)) := hx136
        refine tt_aload_n (j := 0) dX9_feed_73 rfl ?_
        refine gt_gR (id := 576) dX9_feed_74 fl_9_10 rfl rfl h0 hA135 hr106 ?_
        refine tt_iload_n (j := 1) dX9_feed_77 rfl ?_
        refine tt_bipush (v := 8) dX9_feed_78 rfl ?_
        refine tt_isub dX9_feed_80 ?_
        refine tt_iconst (v := 4) dX9_feed_81 rfl ?_
        refine gt_SIp (As := [.int (x1 - 8), .int 4]) dX9_feed_82 ca_X9_64 ⟨by decide, by decide⟩ hA135 (Nat.le_of_ble_eq_true rfl) (Nat.le_of_ble_eq_true rfl) (by decide) (cq_min hG133  (fun _ _ _ _ h => h)) rfl (fun _ h => nomatch h) (fun _ _ q => q.1) (fun x143 h144 hx142 => ?_)
        have mn145 : (((x1 - 8)).toInt ≤ (4 : Int32).toInt ∧ x143.toInt = ((x1 - 8)).toInt) ∨ ((4 : Int32).toInt < ((x1 - 8)).toInt ∧ x143.toInt = (4 : Int32).toInt) := hx142.2 _ rfl
        refine tt_iload (j := 4) dX9_feed_85 rfl ?_
        refine gt_Vv (As := [.int x143, .int x4]) dX9_feed_87 ca_X9_70 ⟨by decide, by decide⟩ ho107 hA135 rfl (Nat.le_of_ble_eq_true rfl) (Nat.le_of_ble_eq_true rfl) (by decide) (cq_X1_append hG133 (oa_af ho107 hA135) (by omega) (fun _ _ _ _ h => h)) rfl (fun _ h => nomatch h) (fun S146 hx150 hG147 hB148 hA149 => ?_)
        have ap151 : ((0 ≤ x143.toInt ∧ (hp_I S146 65 b105).toInt = (hp_I S132 65 b105).toInt + x143.toInt) ∨ (x143.toInt < 0 ∧ (hp_I S146 65 b105).toInt = (hp_I S132 65 b105).toInt)) := hx150
        refine tt_aload_n (j := 0) dX9_feed_90 rfl ?_
        refine gt_gR (id := 576) dX9_feed_91 fl_9_10 rfl rfl h0 hA149 hr106 ?_
        refine tt_iload_n (j := 1) dX9_feed_94 rfl ?_
        refine tt_bipush (v := 12) dX9_feed_95 rfl ?_
        refine tt_isub dX9_feed_97 ?_
        refine tt_iconst (v := 4) dX9_feed_98 rfl ?_
        refine gt_SIp (As := [.int (x1 - 12), .int 4]) dX9_feed_99 ca_X9_64 ⟨by decide, by decide⟩ hA149 (Nat.le_of_ble_eq_true rfl) (Nat.le_of_ble_eq_true rfl) (by decide) (cq_min hG147  (fun _ _ _ _ h => h)) rfl (fun _ h => nomatch h) (fun _ _ q => q.1) (fun x157 h158 hx156 => ?_)
        have mn159 : (((x1 - 12)).toInt ≤ (4 : Int32).toInt ∧ x157.toInt = ((x1 - 12)).toInt) ∨ ((4 : Int32).toInt < ((x1 - 12)).toInt ∧ x157.toInt = (4 : Int32).toInt) := hx156.2 _ rfl
        refine tt_iload (j := 5) dX9_feed_102 rfl ?_
        refine gt_Vv (As := [.int x157, .int x5]) dX9_feed_104 ca_X9_70 ⟨by decide, by decide⟩ ho107 hA149 rfl (Nat.le_of_ble_eq_true rfl) (Nat.le_of_ble_eq_true rfl) (by decide) (cq_X1_append hG147 (oa_af ho107 hA149) (by omega) (fun _ _ _ _ h => h)) rfl (fun _ h => nomatch h) (fun S160 hx164 hG161 hB162 hA163 => ?_)
        have ap165 : ((0 ≤ x157.toInt ∧ (hp_I S160 65 b105).toInt = (hp_I S146 65 b105).toInt + x157.toInt) ∨ (x157.toInt < 0 ∧ (hp_I S160 65 b105).toInt = (hp_I S146 65 b105).toInt)) := hx164
        refine tt_aload_n (j := 0) dX9_feed_107 rfl ?_
        refine gt_Vv (As := []) dX9_feed_108 ca_X9_74 ⟨by decide, by decide⟩ h0 hA163 rfl (Nat.le_of_ble_eq_true rfl) (Nat.le_of_ble_eq_true rfl) (by decide) (cs_X9_forgetFindings hG161 (oa_af h0 hA163) (fun _ _ _ _ h => h)) rfl (fun _ h => nomatch h) (fun S166 hx170 hG167 hB168 hA169 => ?_)
        refine tt_aload_n (j := 0) dX9_feed_111 rfl ?_
        refine gt_gR (id := 576) dX9_feed_112 fl_9_10 rfl rfl h0 hA169 hr106 ?_
        refine gt_gI (id := 65) (v := (hp_I S160 65 b105)) dX9_feed_115 fl_9_55 rfl rfl ho107 hA169 ((i_af (k := 65) (oa_af ho107 hA163) hB168).trans rfl) ?_
        exact tt_ireturn dX9_feed_118 .int rfl rfl (hP _ _ _ _ ⟨hG167, hA169, Or.inl ⟨_, rfl, ⟨_, rfl, rg_w (gi_I (k := 65) hG161 (oa_af ho107 hA163) 0 200)⟩, (fo_x hr106 ((i_af (k := 65) (oa_af ho107 hA163) hB168).trans rfl) (by omega)), rfl, rfl⟩⟩)
      · skip
        exact absurd (nle_lt q108) (fd_ok (gi_I (k := 65) hG (oa_af ho107 hA) 0 200) h1 (hs _ hr106))
    · skip
      have h171 : Rg 16 15 16 := rg_lt_l (⟨by decide, by decide⟩ : Rg 16 16 16) h1 (nle_lt q104)
      have h172 : Rg 17 16 x1 := rg_lt_r (⟨by decide, by decide⟩ : Rg 16 16 16) h1 (nle_lt q104)
      exact rg_no h171
set_option maxHeartbeats 4000000 in
theorem cwo_L_feed {xi : SX} {S : Hp} {E : List Nat} {P : Po} {o0 : Nat} {x1 : Int32} {x2 : Int32} {x3 : Int32} {x4 : Int32} {x5 : Int32} {o6 : Nat} (hG : GI S E) (h0 : Oa S E 9 0 o0) (h1 : Rg 0 16 x1) (h6 : Oa S E 33 1 o6) (hs : ∀ c, hp_R S 576 o0 = some c → (hp_I S 65 c).toInt + x1.toInt ≤ 200) (hP : ∀ r T x y, PX E [65, 321, 322, 388, 9995, 9996] S (fun z T => z = 0 ∧ ∀ c, hp_R S 576 o0 = some c → (hp_I T 65 c).toInt = (hp_I S 65 c).toInt + x1.toInt ∧ hp_j T o6 (0 : Int32).toNatClampNeg = (hp_I T 65 c).toInt64) r T x y → P r T x y) : TT xi M_L_feed 0 [(0, .ref o0), (1, .int x1), (2, .int x2), (3, .int x3), (4, .int x4), (5, .int x5), (6, .ref o6)] [] S 1 6 P := by
  have hA : Af E [65, 321, 322, 388, 9995, 9996] S S := af_rf
  refine tt_aload (j := 6) dL_feed_0 rfl ?_
  refine tt_iconst (v := 0) dL_feed_2 rfl ?_
  refine tt_aload_n (j := 0) dL_feed_3 rfl ?_
  refine tt_iload_n (j := 1) dL_feed_4 rfl ?_
  refine tt_iload_n (j := 2) dL_feed_5 rfl ?_
  refine tt_iload_n (j := 3) dL_feed_6 rfl ?_
  refine tt_iload (j := 4) dL_feed_7 rfl ?_
  refine tt_iload (j := 5) dL_feed_9 rfl ?_
  refine gt_VC0 (As := [.int x1, .int x2, .int x3, .int x4, .int x5]) dL_feed_11 ca_L_7 ⟨by decide, by decide⟩ h0 hA rfl (Nat.le_of_ble_eq_true rfl) (Nat.le_of_ble_eq_true rfl) (by decide) (co_X9_feed hG (oa_af h0 hA) (rg_w h1) hs (fun _ _ _ _ h => h)) (fun S101 v106 hv107 hx105 hG102 hB103 hA104 => ?_)
  obtain ⟨x108, rfl, h109⟩ := hv107
  show TT xi M_L_feed 14 [(0, .ref o0), (1, .int x1), (2, .int x2), (3, .int x3), (4, .int x4), (5, .int x5), (6, .ref o6)] [.int x108, .int 0, .ref o6] S101 1 6 P
  refine tt_i2l dL_feed_14 ?_
  refine gt_lS1 dL_feed_15 h6 hA104 (rg_in (⟨by decide, by decide⟩ : Rg 0 0 0)) hG102 (Or.inr (by decide)) (by decide) (fun S110 hG111 hA112 e113 f114 er115 ej116 => ?_)
  refine tt_goto (tgt := 27) dL_feed_16 rfl ?_
  refine tt_iconst (v := 0) dL_feed_27 rfl ?_
  exact tt_ireturn dL_feed_28 .int rfl rfl (hP _ _ _ _ ⟨hG111, hA112, _, rfl, ⟨rfl, fun c hc => ⟨(congrArg Int32.toInt (congrFun (congrFun e113 65) c)).trans (hx105 c hc).1, out_x ej116 (congrFun (congrFun e113 65) c) (hx105 c hc).2⟩⟩⟩)
set_option maxHeartbeats 4000000 in
theorem ck_X9_feed {xi : SX} {S : Hp} {E : List Nat} {kc nc : Nat} {P : Po} {o0 : Nat} {x1 : Int32} {x2 : Int32} {x3 : Int32} {x4 : Int32} {x5 : Int32} (hG : GI S E) (h0 : Oa S E 9 0 o0) (h1 : Rg 0 16 x1) (hs : ∀ c, hp_R S 576 o0 = some c → 200 < (hp_I S 65 c).toInt + x1.toInt) (hkc : 1 ≤ kc) (hnc : 6 ≤ nc) (hP : ∀ r T x y, PV E [] S kc nc (fun _ => False) ex0 ["java/lang/IllegalStateException"] r T x y → P r T x y) : TT xi M_X9_feed 0 [(0, .ref o0), (1, .int x1), (2, .int x2), (3, .int x3), (4, .int x4), (5, .int x5)] [] S kc nc P := by
  have hA : Af E [] S S := af_rf
  refine tt_iload_n (j := 1) dX9_feed_0 rfl ?_
  refine tt_if_lt (tgt := 10) dX9_feed_1 rfl (fun q101 => ?_) (fun q101 => ?_)
  · skip
    have h102 : Rg 0 (-1) x1 := rg_lt_l h1 (⟨by decide, by decide⟩ : Rg 0 0 0) q101
    have h103 : Rg 1 0 0 := rg_lt_r h1 (⟨by decide, by decide⟩ : Rg 0 0 0) q101
    exact rg_no h102
  · skip
    refine tt_iload_n (j := 1) dX9_feed_4 rfl ?_
    refine tt_bipush (v := 16) dX9_feed_5 rfl ?_
    refine tt_icmp_le (tgt := 20) dX9_feed_7 rfl (fun q104 => ?_) (fun q104 => ?_)
    · skip
      refine tt_aload_n (j := 0) dX9_feed_20 rfl ?_
      obtain ⟨b105, hr106, ho107⟩ := gi_R (k := 576) hG h0 1 0
      refine gt_gR (id := 576) dX9_feed_21 fl_9_10 rfl rfl h0 hA hr106 ?_
      refine tt_getI (id := 65) dX9_feed_24 fl_9_55 rfl rfl (ob_af ho107 hA) ?_
      refine tt_iload_n (j := 1) dX9_feed_27 rfl ?_
      refine tt_iadd dX9_feed_28 ?_
      refine tt_sipush (v := 200) dX9_feed_29 rfl ?_
      refine tt_icmp_le (tgt := 45) dX9_feed_32 rfl (fun q108 => ?_) (fun q108 => ?_)
      · skip
        exact absurd q108 (fd_no (gi_I (k := 65) hG (oa_af ho107 hA) 0 200) h1 (hs _ hr106))
      · skip
        have h109 : Rg 201 216 ((hp_I S 65 b105) + x1) := rg_lt_r (⟨by decide, by decide⟩ : Rg 200 200 200) (rg_add (lo := 0) (hi := 216) (gi_I (k := 65) hG (oa_af ho107 hA) 0 200) h1) (nle_lt q108)
        exact tt_throw th_X9_feed_35 (hP _ _ _ _ ⟨hG, hA, Or.inr ⟨_, List.mem_cons_self, rfl⟩⟩) hkc hnc (by decide)
    · skip
      have h110 : Rg 16 15 16 := rg_lt_l (⟨by decide, by decide⟩ : Rg 16 16 16) h1 (nle_lt q104)
      have h111 : Rg 17 16 x1 := rg_lt_r (⟨by decide, by decide⟩ : Rg 16 16 16) h1 (nle_lt q104)
      exact rg_no h110
set_option maxHeartbeats 4000000 in
theorem cwk_L_feed {xi : SX} {S : Hp} {E : List Nat} {P : Po} {o0 : Nat} {x1 : Int32} {x2 : Int32} {x3 : Int32} {x4 : Int32} {x5 : Int32} {o6 : Nat} (hG : GI S E) (h0 : Oa S E 9 0 o0) (h1 : Rg 0 16 x1) (h6 : Oa S E 33 1 o6) (hs : ∀ c, hp_R S 576 o0 = some c → 200 < (hp_I S 65 c).toInt + x1.toInt) (hP : ∀ r T x y, PW E [9996] S (fun z => z = 2) r T x y → P r T x y) : TT xi M_L_feed 0 [(0, .ref o0), (1, .int x1), (2, .int x2), (3, .int x3), (4, .int x4), (5, .int x5), (6, .ref o6)] [] S 1 6 P := by
  have hA : Af E [9996] S S := af_rf
  refine tt_aload (j := 6) dL_feed_0 rfl ?_
  refine tt_iconst (v := 0) dL_feed_2 rfl ?_
  refine tt_aload_n (j := 0) dL_feed_3 rfl ?_
  refine tt_iload_n (j := 1) dL_feed_4 rfl ?_
  refine tt_iload_n (j := 2) dL_feed_5 rfl ?_
  refine tt_iload_n (j := 3) dL_feed_6 rfl ?_
  refine tt_iload (j := 4) dL_feed_7 rfl ?_
  refine tt_iload (j := 5) dL_feed_9 rfl ?_
  refine gt_VC1 (As := [.int x1, .int x2, .int x3, .int x4, .int x5]) dL_feed_11 ca_L_7 ⟨by decide, by decide⟩ h0 hA rfl (Nat.le_of_ble_eq_true rfl) (Nat.le_of_ble_eq_true rfl) (by decide) ch_L_feed_1 (ck_X9_feed hG (oa_af h0 hA) (rg_w h1) hs (by decide) (by decide) (fun _ _ _ _ h => h)) (fun S108 q109 hG110 hB111 hA112 => ?_) (fun _ _ h => h.elim)
  · skip
    refine tt_astore (ks := [0, 1, 2, 3, 4, 5, 6, 7]) (L' := [(7, .ref q109), (0, .ref o0), (1, .int x1), (2, .int x2), (3, .int x3), (4, .int x4), (5, .int x5), (6, .ref o6)]) dL_feed_23 (by decide) rfl ?_
    refine tt_iconst (v := 2) dL_feed_25 rfl ?_
    exact tt_ireturn dL_feed_26 .int rfl rfl (hP _ _ _ _ ⟨hG110, hA112, _, rfl, rfl⟩)
set_option maxHeartbeats 4000000 in
theorem cn_X9_feed {xi : SX} {S : Hp} {E : List Nat} {kc nc : Nat} {P : Po} {o0 : Nat} {x1 : Int32} {x2 : Int32} {x3 : Int32} {x4 : Int32} {x5 : Int32} (hG : GI S E) (h0 : Oa S E 9 0 o0) (hq : ¬ Rg 0 16 x1) (hkc : 1 ≤ kc) (hnc : 6 ≤ nc) (hP : ∀ r T x y, PV E [] S kc nc (fun _ => False) ex0 ["java/lang/IllegalArgumentException"] r T x y → P r T x y) : TT xi M_X9_feed 0 [(0, .ref o0), (1, .int x1), (2, .int x2), (3, .int x3), (4, .int x4), (5, .int x5)] [] S kc nc P := by
  have hA : Af E [] S S := af_rf
  refine tt_iload_n (j := 1) dX9_feed_0 rfl ?_
  have B101 : TT xi M_X9_feed 10 [(0, .ref o0), (1, .int x1), (2, .int x2), (3, .int x3), (4, .int x4), (5, .int x5)] [] S kc nc P := by
    exact tt_throw th_X9_feed_10 (hP _ _ _ _ ⟨hG, hA, Or.inr ⟨_, List.mem_cons_self, rfl⟩⟩) hkc hnc (by decide)
  refine tt_if_lt (tgt := 10) dX9_feed_1 rfl (fun q102 => ?_) (fun q102 => ?_)
  · skip
    have h103 : Rg (-2147483648) (-1) x1 := rg_lt_l (rg_all x1) (⟨by decide, by decide⟩ : Rg 0 0 0) q102
    exact B101 
  · skip
    have h104 : Rg 0 2147483647 x1 := rg_le_r (⟨by decide, by decide⟩ : Rg 0 0 0) (rg_all x1) (nlt_le q102)
    refine tt_iload_n (j := 1) dX9_feed_4 rfl ?_
    refine tt_bipush (v := 16) dX9_feed_5 rfl ?_
    refine tt_icmp_le (tgt := 20) dX9_feed_7 rfl (fun q105 => ?_) (fun q105 => ?_)
    · skip
      exact absurd (fd_in h104 q105) hq
    · skip
      have h106 : Rg 17 2147483647 x1 := rg_lt_r (⟨by decide, by decide⟩ : Rg 16 16 16) h104 (nle_lt q105)
      exact B101 
set_option maxHeartbeats 4000000 in
theorem cwn_L_feed {xi : SX} {S : Hp} {E : List Nat} {P : Po} {o0 : Nat} {x1 : Int32} {x2 : Int32} {x3 : Int32} {x4 : Int32} {x5 : Int32} {o6 : Nat} (hG : GI S E) (h0 : Oa S E 9 0 o0) (h6 : Oa S E 33 1 o6) (hq : ¬ Rg 0 16 x1) (hP : ∀ r T x y, PW E [9996] S (fun z => z = 1) r T x y → P r T x y) : TT xi M_L_feed 0 [(0, .ref o0), (1, .int x1), (2, .int x2), (3, .int x3), (4, .int x4), (5, .int x5), (6, .ref o6)] [] S 1 6 P := by
  have hA : Af E [9996] S S := af_rf
  refine tt_aload (j := 6) dL_feed_0 rfl ?_
  refine tt_iconst (v := 0) dL_feed_2 rfl ?_
  refine tt_aload_n (j := 0) dL_feed_3 rfl ?_
  refine tt_iload_n (j := 1) dL_feed_4 rfl ?_
  refine tt_iload_n (j := 2) dL_feed_5 rfl ?_
  refine tt_iload_n (j := 3) dL_feed_6 rfl ?_
  refine tt_iload (j := 4) dL_feed_7 rfl ?_
  refine tt_iload (j := 5) dL_feed_9 rfl ?_
  refine gt_VC1 (As := [.int x1, .int x2, .int x3, .int x4, .int x5]) dL_feed_11 ca_L_7 ⟨by decide, by decide⟩ h0 hA rfl (Nat.le_of_ble_eq_true rfl) (Nat.le_of_ble_eq_true rfl) (by decide) ch_L_feed_0 (cn_X9_feed hG (oa_af h0 hA) hq (by decide) (by decide) (fun _ _ _ _ h => h)) (fun S108 q109 hG110 hB111 hA112 => ?_) (fun _ _ h => h.elim)
  · skip
    refine tt_astore (ks := [0, 1, 2, 3, 4, 5, 6, 7]) (L' := [(7, .ref q109), (0, .ref o0), (1, .int x1), (2, .int x2), (3, .int x3), (4, .int x4), (5, .int x5), (6, .ref o6)]) dL_feed_19 (by decide) rfl ?_
    refine tt_iconst (v := 1) dL_feed_21 rfl ?_
    exact tt_ireturn dL_feed_22 .int rfl rfl (hP _ _ _ _ ⟨hG110, hA112, _, rfl, rfl⟩)
set_option maxHeartbeats 4000000 in
theorem cq_X9_erase {xi : SX} {S : Hp} {E : List Nat} {kc nc : Nat} {P : Po} {o0 : Nat} (hG : GI S E) (h0 : Oa S E 9 0 o0) (hP : ∀ r T x y, PV E [65, 321, 322, 388] S kc nc (rI (-2147483648) 2147483647) (fun v T => (∀ c, hp_R S 576 o0 = some c → v = some (.int (hp_I S 65 c)) ∧ hp_I T 65 c = 0)) [] r T x y → P r T x y) : TT xi M_X9_erase 0 [(0, .ref o0)] [] S kc nc P := by
  have hA : Af E [65, 321, 322, 388] S S := af_rf
  refine tt_aload_n (j := 0) dX9_erase_0 rfl ?_
  obtain ⟨b101, hr102, ho103⟩ := gi_R (k := 576) hG h0 1 0
  refine gt_gR (id := 576) dX9_erase_1 fl_9_10 rfl rfl h0 hA hr102 ?_
  refine tt_getI (id := 65) dX9_erase_4 fl_9_55 rfl rfl (ob_af ho103 hA) ?_
  refine tt_istore_n (ks := [0, 1]) (L' := [(1, .int (hp_I S 65 b101)), (0, .ref o0)]) dX9_erase_7 (by decide) rfl ?_
  refine tt_aload_n (j := 1) dX9_erase_8 rfl ?_
  refine gt_gR (id := 576) dX9_erase_9 fl_9_10 rfl rfl h0 hA hr102 ?_
  refine tt_iconst (v := 0) dX9_erase_12 rfl ?_
  refine gt_pI (id := 65) (x := 0) dX9_erase_13 fl_9_55 rfl rfl ho103 hA rfl rfl rfl (gp_Ir hG (⟨by decide, by decide⟩ : Rg 0 0 0)) (by decide) (fun h => absurd h (by decide)) (fun h => absurd h (by decide)) (fun S104 hG105 hA106 e107 f108 er109 => ?_)
  refine tt_aload_n (j := 1) dX9_erase_16 rfl ?_
  refine gt_Vv (As := []) dX9_erase_17 ca_X9_74 ⟨by decide, by decide⟩ h0 hA106 rfl (Nat.le_of_ble_eq_true rfl) (Nat.le_of_ble_eq_true rfl) (by decide) (cs_X9_forgetFindings hG105 (oa_af h0 hA106) (fun _ _ _ _ h => h)) rfl (fun _ h => nomatch h) (fun S110 hx114 hG111 hB112 hA113 => ?_)
  refine tt_iload_n (j := 0) dX9_erase_20 rfl ?_
  exact tt_ireturn dX9_erase_21 .int rfl rfl (hP _ _ _ _ ⟨hG111, hA113, Or.inl ⟨_, rfl, ⟨_, rfl, rg_w (gi_I (k := 65) hG (oa_af ho103 hA) 0 200)⟩, (er_x hr102 ((i_af (k := 65) (oa_af ho103 hA106) hB112).trans (by rw [e107]; exact up2_self))), rfl, rfl⟩⟩)
set_option maxHeartbeats 4000000 in
theorem cq_X10_erase {xi : SX} {S : Hp} {E : List Nat} {kc nc : Nat} {P : Po} {o0 : Nat} (hG : GI S E) (h0 : Oa S E 10 0 o0) (hP : ∀ r T x y, PV E [640, 642, 653, 663, 664, 9988, 9997] S kc nc (rI (-2147483648) 2147483647) (fun v T => (((¬ hp_I S 663 o0 = 0 → ¬ hp_I S 664 o0 = -1) → ¬ hp_I T 663 o0 = 0 → ¬ hp_I T 664 o0 = -1) ∧ v = some (.int (hp_I S 642 o0)) ∧ hp_I T 642 o0 = 0)) [] r T x y → P r T x y) : TT xi M_X10_erase 0 [(0, .ref o0)] [] S kc nc P := by
  have hA : Af E [640, 642, 653, 663, 664, 9988, 9997] S S := af_rf
  refine tt_aload_n (j := 0) dX10_erase_0 rfl ?_
  refine tt_iconst (v := 0) dX10_erase_1 rfl ?_
  refine gt_pI (id := 640) (x := 0) dX10_erase_2 fl_10_55 rfl rfl h0 hA rfl rfl rfl (gp_I hG) (by decide) (fun h => absurd h (by decide)) (fun h => absurd h (by decide)) (fun S101 hG102 hA103 e104 f105 er106 => ?_)
  refine tt_aload_n (j := 0) dX10_erase_5 rfl ?_
  refine gt_Vv (As := []) dX10_erase_6 ca_X10_78 ⟨by decide, by decide⟩ h0 hA103 rfl (Nat.le_of_ble_eq_true rfl) (Nat.le_of_ble_eq_true rfl) (by decide) (cs_X10_forget hG102 (oa_af h0 hA103) (fun _ _ _ _ h => h)) rfl (fun _ h => nomatch h) (fun S107 hx111 hG108 hB109 hA110 => ?_)
  refine tt_aload_n (j := 0) dX10_erase_9 rfl ?_
  refine gt_gI (id := 642) (v := (hp_I S 642 o0)) dX10_erase_10 fl_10_71 rfl rfl h0 hA110 ((i_af (k := 642) (oa_af h0 hA103) hB109).trans ((congrFun (congrFun e104 642) o0).trans ((congrFun (up2_ne (k := 642)) o0).trans rfl))) ?_
  refine tt_istore_n (ks := [0, 1]) (L' := [(1, .int (hp_I S 642 o0)), (0, .ref o0)]) dX10_erase_13 (by decide) rfl ?_
  refine tt_aload_n (j := 1) dX10_erase_14 rfl ?_
  refine tt_iconst (v := 0) dX10_erase_15 rfl ?_
  refine gt_pI (id := 642) (x := 0) dX10_erase_16 fl_10_71 rfl rfl h0 hA110 rfl rfl rfl (gp_Ir hG108 (⟨by decide, by decide⟩ : Rg 0 0 0)) (by decide) (fun h => absurd h (by decide)) (fun h => absurd h (by decide)) (fun S112 hG113 hA114 e115 f116 er117 => ?_)
  refine tt_iload_n (j := 0) dX10_erase_19 rfl ?_
  exact tt_ireturn dX10_erase_20 .int rfl rfl (hP _ _ _ _ ⟨hG113, hA114, Or.inl ⟨_, rfl, ⟨_, rfl, rg_w (gi_I (k := 642) hG (oa_af h0 hA) 0 200)⟩, ⟨(fun _ q => absurd ((congrFun (congrFun e115 663) o0).trans ((congrFun (up2_ne (k := 663)) o0).trans hx111)) q), rfl, (by rw [e115]; exact up2_self)⟩, rfl, rfl⟩⟩)
