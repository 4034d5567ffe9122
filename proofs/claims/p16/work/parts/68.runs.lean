theorem rv_in {n : Int32} {y : Int64} {a b c d e : Int32} {f : Nat → Int64} (hn : Rg 0 200 n) (h : ¬ G_X10_isIn y 0 (n - 1 : Int32).toInt64 = 0) : Rv n (y.toInt32, a, b, c, d, e, f) := by
  have k := mv_rv (p := (y.toInt32, a, b, c, d, e, f)) (y := y) hn
  rw [mvr_1 h] at k
  exact k
theorem om_rv {n : Int32} {q : AU} {i : Int64} {p : RS} (hn : Rg 0 200 n) (hv : Rv n p) : Rv n (G_X10_oneMore_p24 n q i p).1 := by
  by_cases k22 : u0 q = 22
  · rw [g_X10_oneMore_p24_0 k22]; exact hv
  by_cases k19 : u0 q = 19
  · by_cases f2 : r1 p = 0
    · have g3 : 19 ≤ u0 q := by rw [k19]; decide
      have g4 : ¬ u0 q = 20 := by rw [k19]; decide
      by_cases s : G_X10_holds q p (u4 q) = 0
      · skip
        by_cases y : G_X10_isIn (r0 p + u5 q : Int32).toInt64 0 (n - 1 : Int32).toInt64 = 0
        · rw [g_X10_oneMore_p24_3 k22 k19 f2 g3 g4 s y]; exact Or.inl rfl
        · rw [g_X10_oneMore_p24_4 k22 k19 f2 g3 g4 s y]; exact rv_in hn y
      · skip
        by_cases y : G_X10_isIn i 0 (n - 1 : Int32).toInt64 = 0
        · rw [g_X10_oneMore_p24_5 k22 k19 f2 g3 g4 s y]; exact Or.inl rfl
        · rw [g_X10_oneMore_p24_6 k22 k19 f2 g3 g4 s y]; exact rv_in hn y
    · rw [g_X10_oneMore_p24_8 k22 k19 f2]; exact hv
  by_cases g3 : 19 ≤ u0 q
  · by_cases k20 : u0 q = 20
    · skip
      by_cases y : G_X10_isIn i 0 (n - 1 : Int32).toInt64 = 0
      · rw [g_X10_oneMore_p24_9 k22 k19 g3 k20 y]; exact Or.inl rfl
      · rw [g_X10_oneMore_p24_10 k22 k19 g3 k20 y]; exact rv_in hn y
    · skip
      by_cases y : G_X10_isIn (r0 p + u5 q : Int32).toInt64 0 (n - 1 : Int32).toInt64 = 0
      · rw [g_X10_oneMore_p24_11 k22 k19 g3 k20 y]; exact Or.inl rfl
      · rw [g_X10_oneMore_p24_12 k22 k19 g3 k20 y]; exact rv_in hn y
  · skip
    by_cases y : G_X10_isIn (r0 p + u5 q : Int32).toInt64 0 (n - 1 : Int32).toInt64 = 0
    · rw [g_X10_oneMore_p24_13 k22 k19 g3 y]; exact Or.inl rfl
    · rw [g_X10_oneMore_p24_14 k22 k19 g3 y]; exact rv_in hn y
theorem dn_rv {bs : Nat → Int32} {n : Int32} {p u : RS} {x : Int32} (hn : Rg 0 200 n) (hv : Rv n p) (hr : DNr bs n p u x) : Rv n u := by
  rcases hr with ⟨-, rfl, -⟩ | ⟨-, d, ⟨-, rfl, -⟩ | ⟨-, e⟩⟩
  · exact hv
  · exact hv
  · rw [show u = _ from congrArg Prod.fst e]
    exact om_rv hn hv
theorem hz_rv {bs : Nat → Int32} {n : Int32} {p : RS} (hn : Rg 0 200 n) (hB : ∀ i, Rg 0 255 (bs i)) (hv : Rv n p) : ∀ d, ¬ r0 p = -2 → ¬ (F_X10_read bs n d (r0 p)).2 = 0 → ¬ 19 ≤ e1 (F_X10_read bs n d (r0 p)).1 → Rg 0 23 (e3 (F_X10_read bs n d (r0 p)).1) ∧ Rg (-1) 23 (e4 (F_X10_read bs n d (r0 p)).1) := by
  intro d h1 h2 h3
  rcases hv with e | ⟨a, b⟩
  · exact absurd e h1
  · have F := dec hn hB (d := d) (r := d) a b
    generalize F_X3_readFrom bs n d (r0 p) = z at F
    generalize F_X10_read bs n d (r0 p) = y at h2 h3 F ⊢
    rcases F with ⟨f1, f2⟩ | ⟨f1, f2, f6, f7, f8, f9, f10, f11, fJ, fr, fz, fn2, fn3⟩
    · exact absurd f2 h2
    · have k := fz.2.1 (by rw [f7]; exact h3)
      rw [f9, f10] at k
      exact k
theorem in_1k {x : Int32} (h : Rg 1 1000 x) : ¬ (x : Int32).toInt64 < 1 ∧ ¬ 1000 < (x : Int32).toInt64 := by
  obtain ⟨h1, h2⟩ := h
  refine ⟨fun e => ?_, fun e => ?_⟩
  · rw [Int64.lt_iff_toInt_lt, Int32.toInt_toInt64, show (1 : Int64).toInt = 1 from rfl] at e; omega
  · rw [Int64.lt_iff_toInt_lt, Int32.toInt_toInt64, show (1000 : Int64).toInt = 1000 from rfl] at e; omega
theorem le_0 {x : Int32} (h : Rg 0 4 x) (q : x ≤ 0) : x = 0 := by
  have a := Int32.le_iff_toInt_le.mp q
  rw [show (0 : Int32).toInt = 0 from rfl] at a
  have := h.1
  exact Int32.toInt_inj.mp (by rw [show (0 : Int32).toInt = 0 from rfl]; omega)
theorem gt_0 {x : Int32} (q : ¬ x ≤ 0) : ¬ x = 0 := fun e => q (by rw [e]; decide)
set_option maxHeartbeats 2000000 in
theorem crgo_X10_go {xi : SX} {S : Hp} {E : List Nat} {kc nc : Nat} {P : Po} {o0 : Nat} {x1 : Int32} {vl : Nat} {bs : Nat → Int32} {n : Int32} (hG : GI S E) (hc : RRx S E o0 vl bs n) (hn : Rg 0 200 n) (hB : ∀ i, Rg 0 255 (bs i)) (h1 : Rg 1 1000 x1) (hne : ¬ hp_I S 663 o0 = 0) (hm1 : ¬ hp_I S 664 o0 = -1) (hv : Rv n (QR S o0 vl)) (hP : ∀ r T x y, PV E [640, 654, 655, 656, 657, 658, 659, 661, 662, 664, 667, 668, 669, 670, 671, 672, 673, 674, 675, 9990, 9998] S kc nc (rI (-2147483648) 2147483647) (fun v T => hp_I T 640 o0 = 0 ∧ ∃ o, v = some (.int o) ∧ It (DNr bs n) x1.toInt.toNat (QR S o0 vl) (QR T o0 vl) o) [] r T x y → P r T x y) : TT xi M_X10_go 0 [(0, .ref o0), (1, .int x1)] [] S kc nc P := by
  have hA : Af E [640, 654, 655, 656, 657, 658, 659, 661, 662, 664, 667, 668, 669, 670, 671, 672, 673, 674, 675, 9990, 9998] S S := af_rf
  refine tt_aload_n (j := 0) dX10_go_0 rfl ?_
  refine tt_iload_n (j := 1) dX10_go_1 rfl ?_
  refine tt_i2l dX10_go_2 ?_
  refine tt_lconst (v := 1) dX10_go_3 rfl ?_
  refine tt_ldc2 (v := 1000) dX10_go_4 kl_10_366 ?_
  refine gt_SIp (As := [.long (x1 : Int32).toInt64, .long 1, .long 1000]) dX10_go_7 ca_X10_67 ⟨by decide, by decide⟩ hA (Nat.le_of_ble_eq_true rfl) (Nat.le_of_ble_eq_true rfl) (by decide) (cs_X10_isIn hG  (fun _ _ _ _ h => h)) rfl (fun _ h => nomatch h) (fun _ _ q => q.1) (fun x106 h107 hx105 => ?_)
  obtain ⟨h0, hrv, hov, hb, hcn⟩ := id hc
  refine tt_if_ne (tgt := 17) dX10_go_10 rfl (fun q108 => ?_) (fun q108 => absurd (in_1k h1) ((hx105.2 _ rfl).2 q108))
  refine tt_aload_n (j := 0) dX10_go_17 rfl ?_
  refine tt_getI (id := 663) dX10_go_18 fl_10_62 rfl rfl (ob_af h0 hA) ?_
  refine tt_if_ne (tgt := 28) dX10_go_21 rfl (fun q112 => ?_) (fun q112 => absurd q112 hne)
  refine tt_iconst (v := 0) dX10_go_28 rfl ?_
  refine gt_VI (As := [.int 0]) dX10_go_29 ca_X10_74 ⟨by decide, by decide⟩ h0 hA rfl (Nat.le_of_ble_eq_true rfl) (Nat.le_of_ble_eq_true rfl) (by decide) (cs_X10_refused hG (oa_af h0 hA) (fun _ _ _ _ h => h)) rfl (fun _ h => nomatch h) (fun S114 x119 h120 hx118 hG115 hB116 hA117 => ?_)
  obtain rfl := (hx118.1 _ rfl).trans (show bI (0 < (0 : Int32)) = 0 by decide)
  refine tt_if_eq (tgt := 37) dX10_go_32 rfl (fun _ => ?_) (fun q => absurd q (by decide))
  refine tt_iconst (v := 0) dX10_go_37 rfl ?_
  refine tt_istore_n (ks := [0, 1, 2]) (L' := [(2, .int 0), (0, .ref o0), (1, .int x1)]) dX10_go_38 (by decide) rfl ?_
  have e9 : QR S114 o0 vl = QR S o0 vl := qr_af h0 hov hB116
  have B121 : ∀ (nn : Nat) (S122 : Hp) (x125 : Int32), (2147483648 - x125.toInt).toNat = nn → GI S122 E → Af E [640, 654, 655, 656, 657, 658, 659, 661, 662, 664, 667, 668, 669, 670, 671, 672, 673, 674, 675, 9990, 9998] S S122 → Rg 0 1000 x125 → hp_I S122 640 o0 = 0 → Rv n (QR S122 o0 vl) → Ih (DNr bs n) x1.toInt.toNat x125.toInt.toNat (QR S o0 vl) (QR S122 o0 vl) 0 → TT xi M_X10_go 39 [(0, .ref o0), (1, .int x1), (2, .int x125)] [] S122 kc nc P := by
    intro nn
    induction nn using Nat.strongRecOn with
    | ind nn ihB121 =>
      intro S122 x125 hmB121 hG123 hA124 h126 h640 hv9 hih
      subst hmB121
      refine tt_iload_n (j := 2) dX10_go_39 rfl ?_
      refine tt_iload_n (j := 1) dX10_go_40 rfl ?_
      refine tt_icmp_ge (tgt := 61) dX10_go_41 rfl (fun q127 => ?_) (fun q127 => ?_)
      · refine tt_iconst (v := 0) dX10_go_61 rfl ?_
        exact tt_ireturn dX10_go_62 .int rfl rfl (hP _ _ _ _ ⟨hG123, hA124, Or.inl ⟨_, rfl, ⟨_, rfl, rg_w (⟨by decide, by decide⟩ : Rg 0 0 0)⟩, ⟨h640, 0, rfl, ih_e hih (Or.inl (le_n q127))⟩, rfl, rfl⟩⟩)
      · have h129 : Rg 0 999 x125 := rg_lt_l h126 h1 (nle_lt q127)
        refine tt_aload_n (j := 0) dX10_go_44 rfl ?_
        refine gt_VI (As := []) dX10_go_45 ca_X10_368 ⟨by decide, by decide⟩ h0 hA124 rfl (Nat.le_of_ble_eq_true rfl) (Nat.le_of_ble_eq_true rfl) (by decide) (cr_X10_oneMore hG123 (rr_af hc hA124) (he_af h0 hA124 hm1) (hz_rv hn hB hv9) (fun _ _ _ _ h => h)) rfl (fun _ h => nomatch h) (fun S130 x135 h136 hx134 hG131 hB132 hA133 => ?_)
        obtain ⟨o9, eo9, hd9⟩ := hx134
        obtain rfl := ei_w eo9
        have h640' : hp_I S130 640 o0 = 0 := (i_af (k := 640) (oa_af h0 hA124) hB132).trans h640
        have hi' := ih_s hih rfl (lt_n (nle_lt q127) h129.1) hd9
        rw [← up_n h129] at hi'
        refine tt_istore_n (ks := [0, 1, 2, 3]) (L' := [(3, .int x135), (0, .ref o0), (1, .int x1), (2, .int x125)]) dX10_go_48 (by decide) rfl ?_
        refine tt_iload_n (j := 0) dX10_go_49 rfl ?_
        refine tt_if_le (tgt := 55) dX10_go_50 rfl (fun q137 => ?_) (fun q137 => ?_)
        · have e0 := le_0 h136 q137
          rw [e0] at hi'
          refine tt_iinc (j := 3) (v := (x125 + 1)) (ks := [0, 1, 2, 3]) (L' := [(2, .int (x125 + 1)), (3, .int x135), (0, .ref o0), (1, .int x1)]) dX10_go_55 rfl rfl (by decide) rfl ?_
          refine tt_goto (tgt := 39) dX10_go_58 rfl ?_
          exact tt_loc (ks := [2, 3, 0]) rfl (ihB121 _ (rg_up h129) S130 (x125 + 1) rfl hG131 hA133 (rg_w (rg_add (lo := 1) (hi := 1000) h129 (⟨by decide, by decide⟩ : Rg 1 1 1))) h640' (dn_rv hn hv9 hd9) hi')
        · refine tt_iload_n (j := 0) dX10_go_53 rfl ?_
          exact tt_ireturn dX10_go_54 .int rfl rfl (hP _ _ _ _ ⟨hG131, hA133, Or.inl ⟨_, rfl, ⟨_, rfl, rg_w (rg_all x135)⟩, ⟨h640', _, rfl, ih_e hi' (Or.inr (gt_0 q137))⟩, rfl, rfl⟩⟩)
  exact tt_loc (ks := [1, 2, 0]) rfl (B121 _ S114 0 rfl hG115 hA117 (rg_w (⟨by decide, by decide⟩ : Rg 0 0 0)) hx118.2 (by rw [e9]; exact hv) (by rw [e9]; exact ih_0))
set_option maxHeartbeats 2000000 in
theorem crgk_X10_go {xi : SX} {S : Hp} {E : List Nat} {kc nc : Nat} {P : Po} {o0 : Nat} {x1 : Int32} (hG : GI S E) (h0 : Oa S E 10 0 o0) (h1 : Rg 1 1000 x1) (hw : hp_I S 663 o0 = 0) (hP : ∀ r T x y, PV E [640] S kc nc (rI (-2147483648) 2147483647) (fun v T => hp_I T 640 o0 = 2) [] r T x y → P r T x y) : TT xi M_X10_go 0 [(0, .ref o0), (1, .int x1)] [] S kc nc P := by
  have hA : Af E [640] S S := af_rf
  refine tt_aload_n (j := 0) dX10_go_0 rfl ?_
  refine tt_iload_n (j := 1) dX10_go_1 rfl ?_
  refine tt_i2l dX10_go_2 ?_
  refine tt_lconst (v := 1) dX10_go_3 rfl ?_
  refine tt_ldc2 (v := 1000) dX10_go_4 kl_10_366 ?_
  refine gt_SIp (As := [.long (x1 : Int32).toInt64, .long 1, .long 1000]) dX10_go_7 ca_X10_67 ⟨by decide, by decide⟩ hA (Nat.le_of_ble_eq_true rfl) (Nat.le_of_ble_eq_true rfl) (by decide) (cs_X10_isIn hG  (fun _ _ _ _ h => h)) rfl (fun _ h => nomatch h) (fun _ _ q => q.1) (fun x106 h107 hx105 => ?_)
  refine tt_if_ne (tgt := 17) dX10_go_10 rfl (fun q108 => ?_) (fun q108 => absurd (in_1k h1) ((hx105.2 _ rfl).2 q108))
  refine tt_aload_n (j := 0) dX10_go_17 rfl ?_
  refine tt_getI (id := 663) dX10_go_18 fl_10_62 rfl rfl (ob_af h0 hA) ?_
  refine tt_if_ne (tgt := 28) dX10_go_21 rfl (fun q112 => absurd hw q112) (fun q112 => ?_)
  refine tt_iconst (v := 2) dX10_go_24 rfl ?_
  refine tt_goto (tgt := 29) dX10_go_25 rfl ?_
  refine gt_VI (As := [.int 2]) dX10_go_29 ca_X10_74 ⟨by decide, by decide⟩ h0 hA rfl (Nat.le_of_ble_eq_true rfl) (Nat.le_of_ble_eq_true rfl) (by decide) (cs_X10_refused hG (oa_af h0 hA) (fun _ _ _ _ h => h)) rfl (fun _ h => nomatch h) (fun S141 x146 h147 hx145 hG142 hB143 hA144 => ?_)
  obtain rfl := (hx145.1 _ rfl).trans (show bI (0 < (2 : Int32)) = 1 by decide)
  refine tt_if_eq (tgt := 37) dX10_go_32 rfl (fun q => absurd q (by decide)) (fun _ => ?_)
  refine tt_iconst (v := 0) dX10_go_35 rfl ?_
  exact tt_ireturn dX10_go_36 .int rfl rfl (hP _ _ _ _ ⟨hG142, hA144, Or.inl ⟨_, rfl, ⟨_, rfl, rg_w (⟨by decide, by decide⟩ : Rg 0 0 0)⟩, hx145.2, rfl, rfl⟩⟩)
set_option maxHeartbeats 2000000 in
theorem crgn_X10_go {xi : SX} {S : Hp} {E : List Nat} {kc nc : Nat} {P : Po} {o0 : Nat} {x1 : Int32} (hG : GI S E) (h0 : Oa S E 10 0 o0) (hw : ¬ Rg 1 1000 x1) (hP : ∀ r T x y, PV E [640] S kc nc (rI (-2147483648) 2147483647) (fun v T => hp_I T 640 o0 = 1) [] r T x y → P r T x y) : TT xi M_X10_go 0 [(0, .ref o0), (1, .int x1)] [] S kc nc P := by
  have hA : Af E [640] S S := af_rf
  refine tt_aload_n (j := 0) dX10_go_0 rfl ?_
  refine tt_iload_n (j := 1) dX10_go_1 rfl ?_
  refine tt_i2l dX10_go_2 ?_
  refine tt_lconst (v := 1) dX10_go_3 rfl ?_
  refine tt_ldc2 (v := 1000) dX10_go_4 kl_10_366 ?_
  refine gt_SIp (As := [.long (x1 : Int32).toInt64, .long 1, .long 1000]) dX10_go_7 ca_X10_67 ⟨by decide, by decide⟩ hA (Nat.le_of_ble_eq_true rfl) (Nat.le_of_ble_eq_true rfl) (by decide) (cs_X10_isIn hG  (fun _ _ _ _ h => h)) rfl (fun _ h => nomatch h) (fun _ _ q => q.1) (fun x106 h107 hx105 => ?_)
  refine tt_if_ne (tgt := 17) dX10_go_10 rfl (fun q108 => absurd (rg_of_l (in_rl ((hx105.2 _ rfl).1 q108) (⟨by decide, by decide⟩ : Rl 1 1 1) (⟨by decide, by decide⟩ : Rl 1000 1000 1000))) hw) (fun q108 => ?_)
  refine tt_iconst (v := 1) dX10_go_13 rfl ?_
  refine tt_goto (tgt := 29) dX10_go_14 rfl ?_
  refine gt_VI (As := [.int 1]) dX10_go_29 ca_X10_74 ⟨by decide, by decide⟩ h0 hA rfl (Nat.le_of_ble_eq_true rfl) (Nat.le_of_ble_eq_true rfl) (by decide) (cs_X10_refused hG (oa_af h0 hA) (fun _ _ _ _ h => h)) rfl (fun _ h => nomatch h) (fun S141 x146 h147 hx145 hG142 hB143 hA144 => ?_)
  obtain rfl := (hx145.1 _ rfl).trans (show bI (0 < (1 : Int32)) = 1 by decide)
  refine tt_if_eq (tgt := 37) dX10_go_32 rfl (fun q => absurd q (by decide)) (fun _ => ?_)
  refine tt_iconst (v := 0) dX10_go_35 rfl ?_
  exact tt_ireturn dX10_go_36 .int rfl rfl (hP _ _ _ _ ⟨hG142, hA144, Or.inl ⟨_, rfl, ⟨_, rfl, rg_w (⟨by decide, by decide⟩ : Rg 0 0 0)⟩, hx145.2, rfl, rfl⟩⟩)
section CPX
variable {xi : SX} {M : MD} {pc : Nat} {L : List (Nat × Value)} {rest : List Value} {S S0 : Hp} {k0 n0 a : Nat} {P : Po} {E ws : List Nat}
theorem cpy_24 {S : Hp} {a b : Nat} : ∀ i, i < 24 → hp_j (sp_j S b (va_cpy (hp_j S a) (hp_j S b) (0 : Int32).toNatClampNeg (0 : Int32).toNatClampNeg (24 : Int32).toNatClampNeg)) b i = hp_j S a i := by
  intro i hi
  rw [show (0 : Int32).toNatClampNeg = 0 from rfl, show (24 : Int32).toNatClampNeg = 24 from rfl, hq_j_j, va_up_self]
  unfold va_cpy
  rw [if_pos ⟨Nat.zero_le _, by omega⟩, Nat.zero_add, Nat.sub_zero]
theorem gt_cpx {i b : Nat} (h : decode (md_c M) pc = .ok (.invokestatic i, 3)) (hw : Cond.methodLink (md_y M).cls i arraycopyName ∈ wT ∧ Cond.native arraycopyName ∈ wT ∧ Cond.static arraycopyName ∈ wT ∧ Cond.initialized "java/lang/System" ∈ wT) (ha : Oa S0 E 33 24 a) (hb : Oa S0 E 33 24 b) (hA : Af E ws S0 S) (h24 : Ow ws S0 b) (hr : 1 ≤ md_f M ∧ (rest.map fun v => v.category).sum + (nativeFrameWords "java/lang/System" "arraycopy" 5 + 11) ≤ md_l M) (hG : GI S E) (kk : ∀ S' : Hp, GI S' E → Af E ws S0 S' → hp_I S' = hp_I S → hp_J S' = hp_J S → hp_r S' = hp_r S → (∀ i, i < 24 → hp_j S' b i = hp_j S a i) → TT xi M (pc + 3) L rest S' k0 n0 P) : TT xi M pc L (.int 24 :: .int 0 :: .ref b :: .int 0 :: .ref a :: rest) S k0 n0 P :=
  tt_copyl h hw (ob_af ha hA) (ob_af hb hA) (by decide) (by decide) (by decide) (by rw [n_af ha hA]; decide) (by rw [n_af hb hA]; decide) hr (kk _ (gp_j hG) (af_tr hA (af_j (Or.inl (by rw [n_af hb hA]; decide)) (Or.inr (ow_af h24 hA))) (fun _ h => h)) (hq_I_j ..) (hq_J_j ..) (hq_r_j ..) cpy_24)
end CPX
/-- where a RUN begins -/
def w0 (n : Int32) : Int32 := if n = 0 then -2 else 0
def Rb (n : Int32) (f : Nat → Int64) (w : RS) : Prop := r0 w = w0 n ∧ r1 w = 0 ∧ ∀ i, i < 24 → rA w i = f i
theorem hd_0 {n : Int32} (hn : Rg 0 200 n) : G_holds n 0 = if n = 0 then 0 else 1 := by
  unfold G_holds
  rw [if_neg (by decide : ¬ (0 : Int64) < 0)]
  by_cases h : n = 0
  · subst h; decide
  · have k : (0 : Int64) < n.toInt64 := by
      rw [Int64.lt_iff_toInt_lt, Int32.toInt_toInt64, show (0 : Int64).toInt = 0 from rfl]
      have a : n.toInt ≠ 0 := fun e => h (Int32.toInt_inj.mp e)
      have := hn.1
      omega
    rw [if_pos k, if_neg h]
theorem mv_0 {n : Int32} {q : AU} {w : RS} {f : Nat → Int64} (hn : Rg 0 200 n) (h1 : r1 w = 0) (h2 : ∀ i, i < 24 → rA w i = f i) : Rb n f (G_X6_moveTo n q w 0) := by
  by_cases h : n = 0
  · rw [g_X6_moveTo_0 (by rw [hd_0 hn, if_pos h])]
    exact ⟨(if_pos h).symm, h1, h2⟩
  · rw [g_X6_moveTo_1 (by rw [hd_0 hn, if_neg h]; decide)]
    exact ⟨(if_neg h).symm, h1, h2⟩
set_option maxHeartbeats 2000000 in
theorem cr_X6_begin {xi : SX} {S : Hp} {E : List Nat} {kc nc : Nat} {P : Po} {o0 i1 hd pr : Nat} {bs : Nat → Int32} {n : Int32} (hG : GI S E) (hc : RC S E o0 i1 hd bs n) (hn : Rg 0 200 n) (hpr : hp_R S 386 o0 = some pr) (op : Oa S E 33 24 pr) (hP : ∀ r T x y, PV E [388, 389, 9993] S kc nc rV (fun v T => Rb n (hp_j S pr) (QC T o0 hd)) [] r T x y → P r T x y) : TT xi M_X6_begin 0 [(0, .ref o0)] [] S kc nc P := by
  have hA : Af E [388, 389, 9993] S S := af_rf
  obtain ⟨h0, hri, hoi, hrh, hoh, hb, cb, hrc, hoc, hcn⟩ := id hc
  refine tt_aload_n (j := 0) dX6_begin_0 rfl ?_
  refine gt_gR (id := 386) dX6_begin_1 fl_6_9 rfl rfl h0 hA hpr ?_
  refine tt_iconst (v := 0) dX6_begin_4 rfl ?_
  refine tt_aload_n (j := 0) dX6_begin_5 rfl ?_
  refine gt_gR (id := 387) dX6_begin_6 fl_6_15 rfl rfl h0 hA hrh ?_
  refine tt_iconst (v := 0) dX6_begin_9 rfl ?_
  refine tt_bipush (v := 24) dX6_begin_10 rfl ?_
  refine gt_cpx dX6_begin_12 ca_X6_34 op hoh hA (ow_mk 9993 (k := 387) h0 hrh) ⟨by decide, by decide⟩ hG (fun S107 hG108 hA109 e110 f111 er112 ec => ?_)
  refine tt_aload_n (j := 0) dX6_begin_15 rfl ?_
  refine tt_iconst (v := 0) dX6_begin_16 rfl ?_
  refine gt_pIj (id := 389) (x := 0) dX6_begin_17 fl_6_40 rfl rfl h0 hA109 rfl rfl rfl (gp_Ir hG108 (⟨by decide, by decide⟩ : Rg 0 0 0)) (by decide) (fun h => absurd h (by decide)) (fun h => absurd h (by decide)) (fun S113 hG114 hA115 e116 f117 er118 ej => ?_)
  refine tt_aload_n (j := 0) dX6_begin_20 rfl ?_
  refine tt_lconst (v := 0) dX6_begin_21 rfl ?_
  refine gt_Vv (As := [.long 0]) dX6_begin_22 ca_X6_44 ⟨by decide, by decide⟩ h0 hA115 rfl (Nat.le_of_ble_eq_true rfl) (Nat.le_of_ble_eq_true rfl) (by decide) (cr_X6_moveTo hG114 (rc_af hc hA115) (fun _ _ _ _ h => h)) rfl (fun _ h => nomatch h) (fun S119 hx123 hG120 hB121 hA122 => ?_)
  exact tt_vreturn dX6_begin_25 rfl (hP _ _ _ _ ⟨hG120, hA122, Or.inl ⟨_, rfl, rfl, (by show Rb n (hp_j S pr) (QC S119 o0 hd); rw [hx123]; exact mv_0 hn (show hp_I S113 389 o0 = 0 by rw [e116]; exact up2_self) (fun i hi => (congrFun (congrFun ej hd) i).trans (ec i hi))), rfl, rfl⟩⟩)
theorem cr_X9_start {xi : SX} {S : Hp} {E : List Nat} {kc nc : Nat} {P : Po} {o0 r1 i1 hd pr : Nat} {bs : Nat → Int32} {n : Int32} (hG : GI S E) (h0 : Oa S E 9 0 o0) (hr : hp_R S 580 o0 = some r1) (hc : RC S E r1 i1 hd bs n) (hn : Rg 0 200 n) (hpr : hp_R S 386 r1 = some pr) (op : Oa S E 33 24 pr) (hP : ∀ r T x y, PV E [388, 389, 9993] S kc nc rV (fun v T => Rb n (hp_j S pr) (QC T r1 hd)) [] r T x y → P r T x y) : TT xi M_X9_start 0 [(0, .ref o0)] [] S kc nc P := by
  have hA : Af E [388, 389, 9993] S S := af_rf
  refine tt_aload_n (j := 0) dX9_start_0 rfl ?_
  refine gt_gR (id := 580) dX9_start_1 fl_9_44 rfl rfl h0 hA hr ?_
  refine gt_Vv (As := []) dX9_start_4 ca_X9_139 ⟨by decide, by decide⟩ hc.1 hA rfl (Nat.le_of_ble_eq_true rfl) (Nat.le_of_ble_eq_true rfl) (by decide) (cr_X6_begin hG hc hn hpr op (fun _ _ _ _ h => h)) rfl (fun _ h => nomatch h) (fun S104 hx108 hG105 hB106 hA107 => ?_)
  exact tt_vreturn dX9_start_7 rfl (hP _ _ _ _ ⟨hG105, hA107, Or.inl ⟨_, rfl, rfl, hx108, rfl, rfl⟩⟩)
theorem cp_s {f g : Nat → Int64} {x : Int32} (hx : Rg 0 23 x) (h : ∀ i, i < x.toInt.toNat → f i = g i) : ∀ i, i < (x + 1).toInt.toNat → vp_updL f x.toNatClampNeg (g x.toNatClampNeg) i = g i := by
  intro i hi
  rw [up_n hx] at hi
  unfold vp_updL
  by_cases e : i = x.toNatClampNeg
  · rw [if_pos e, e]
  · rw [if_neg e]
    exact h i (by have e2 : x.toNatClampNeg = x.toInt.toNat := rfl; omega)
set_option maxHeartbeats 2000000 in
theorem st_loop {xi : SX} {S : Hp} {E : List Nat} {kc nc : Nat} {P : Po} {o0 vl sv : Nat} (hG : GI S E) (h0 : Oa S E 10 0 o0) (hrv : hp_R S 666 o0 = some vl) (hov : Oa S E 33 24 vl) (hrs : hp_R S 665 o0 = some sv) (hos : Oa S E 33 24 sv) (hvs : sv ≠ vl) (hP : ∀ r T x y, PV E [640, 663, 664, 667, 9990] S kc nc rV (fun v T => hp_I T 664 o0 = w0 (hp_I S 642 o0) ∧ hp_I T 667 o0 = 1 ∧ hp_I T 663 o0 = 1 ∧ ∀ i, i < 24 → hp_j T vl i = hp_j S sv i) [] r T x y → P r T x y) : ∀ (nn : Nat) (S128 : Hp) (x131 : Int32), (2147483648 - x131.toInt).toNat = nn → GI S128 E → Af E [640, 663, 664, 667, 9990] S S128 → Rg 0 24 x131 → hp_I S128 664 o0 = w0 (hp_I S 642 o0) → hp_I S128 667 o0 = 1 → hp_I S128 663 o0 = 1 → hp_j S128 sv = hp_j S sv → (∀ i, i < x131.toInt.toNat → hp_j S128 vl i = hp_j S sv i) → TT xi M_X10_start 34 [(0, .ref o0), (1, .int x131)] [] S128 kc nc P := by
  intro nn
  induction nn using Nat.strongRecOn with
  | ind nn ihB127 =>
    intro S128 x131 hmB127 hG129 hA130 h132 k1 k2 k3 k4 k5
    subst hmB127
    refine tt_iload_n (j := 1) dX10_start_34 rfl ?_
    refine tt_bipush (v := 24) dX10_start_35 rfl ?_
    refine tt_icmp_ge (tgt := 58) dX10_start_37 rfl (fun q134 => ?_) (fun q134 => ?_)
    · have h135 := le_n q134
      exact tt_vreturn dX10_start_58 rfl (hP _ _ _ _ ⟨hG129, hA130, Or.inl ⟨_, rfl, rfl, ⟨k1, k2, k3, fun i hi => k5 i (Nat.lt_of_lt_of_le hi h135)⟩, rfl, rfl⟩⟩)
    · have h136 : Rg 0 23 x131 := rg_lt_l h132 (⟨by decide, by decide⟩ : Rg 24 24 24) (nle_lt q134)
      refine tt_aload_n (j := 0) dX10_start_40 rfl ?_
      refine gt_gR (id := 666) dX10_start_41 fl_10_52 rfl rfl h0 hA130 hrv ?_
      refine tt_iload_n (j := 1) dX10_start_44 rfl ?_
      refine tt_aload_n (j := 0) dX10_start_45 rfl ?_
      refine gt_gR (id := 665) dX10_start_46 fl_10_49 rfl rfl h0 hA130 hrs ?_
      refine tt_iload_n (j := 1) dX10_start_49 rfl ?_
      refine gt_lLt dX10_start_50 hos hA130 (rg_in h136) ?_
      refine gt_lSx dX10_start_51 hov hA130 (rg_in h136) hG129 (Or.inl (by decide)) (Or.inr (ow_mk 9990 (k := 666) h0 hrv)) (fun S143 hG144 hA145 e146 f147 er148 ej => ?_)
      refine tt_iinc (j := 1) (v := (x131 + 1)) (ks := [0, 1]) (L' := [(1, .int (x131 + 1)), (0, .ref o0)]) dX10_start_52 rfl rfl (by decide) rfl ?_
      refine tt_goto (tgt := 34) dX10_start_55 rfl ?_
      refine tt_loc (ks := [1, 0]) rfl (ihB127 _ (rg_up h136) S143 (x131 + 1) rfl hG144 hA145 (rg_w (rg_add (lo := 1) (hi := 24) h136 (⟨by decide, by decide⟩ : Rg 1 1 1))) ((congrFun (congrFun e146 664) o0).trans k1) ((congrFun (congrFun e146 667) o0).trans k2) ((congrFun (congrFun e146 663) o0).trans k3) ?_ ?_)
      · rw [ej, va_up_ne _ _ hvs]; exact k4
      · rw [ej, va_up_self, k4]; exact cp_s h136 k5
set_option maxHeartbeats 2000000 in
theorem cr_X10_start {xi : SX} {S : Hp} {E : List Nat} {kc nc : Nat} {P : Po} {o0 vl sv : Nat} (hG : GI S E) (h0 : Oa S E 10 0 o0) (hrv : hp_R S 666 o0 = some vl) (hov : Oa S E 33 24 vl) (hrs : hp_R S 665 o0 = some sv) (hos : Oa S E 33 24 sv) (hvs : sv ≠ vl) (hP : ∀ r T x y, PV E [640, 663, 664, 667, 9990] S kc nc rV (fun v T => hp_I T 664 o0 = w0 (hp_I S 642 o0) ∧ hp_I T 667 o0 = 1 ∧ hp_I T 663 o0 = 1 ∧ ∀ i, i < 24 → hp_j T vl i = hp_j S sv i) [] r T x y → P r T x y) : TT xi M_X10_start 0 [(0, .ref o0)] [] S kc nc P := by
  have hA : Af E [640, 663, 664, 667, 9990] S S := af_rf
  refine tt_aload_n (j := 0) dX10_start_0 rfl ?_
  refine tt_iconst (v := 0) dX10_start_1 rfl ?_
  refine gt_pIj (id := 640) (x := 0) dX10_start_2 fl_10_55 rfl rfl h0 hA rfl rfl rfl (gp_I hG) (by decide) (fun h => absurd h (by decide)) (fun h => absurd h (by decide)) (fun S101 hG102 hA103 e104 f105 er106 j1 => ?_)
  refine tt_aload_n (j := 0) dX10_start_5 rfl ?_
  refine tt_iconst (v := 1) dX10_start_6 rfl ?_
  refine gt_pIj (id := 663) (x := 1) dX10_start_7 fl_10_62 rfl rfl h0 hA103 rfl rfl rfl (gp_Ir hG102 (⟨by decide, by decide⟩ : Rg 1 1 1)) (by decide) (fun h => absurd h (by decide)) (fun h => absurd h (by decide)) (fun S107 hG108 hA109 e110 f111 er112 j2 => ?_)
  refine tt_aload_n (j := 0) dX10_start_10 rfl ?_
  refine tt_aload_n (j := 0) dX10_start_11 rfl ?_
  refine gt_gI (id := 642) (v := (hp_I S 642 o0)) dX10_start_12 fl_10_71 rfl rfl h0 hA109 (i_af (k := 642) h0 hA109) ?_
  have T : ∀ z : Int32, z = w0 (hp_I S 642 o0) → Rg (-2) 0 z → ¬ z = -1 → TT xi M_X10_start 24 [(0, .ref o0)] [.int z, .ref o0] S107 kc nc P := by
    intro z hz hzr hz1
    refine gt_pIj (id := 664) (x := z) dX10_start_24 fl_10_45 rfl rfl h0 hA109 rfl rfl rfl (gp_Ir hG108 hzr) (by decide) (fun h => absurd h (by decide)) (fun _ _ _ => hz1) (fun S115 hG116 hA117 e118 f119 er120 j3 => ?_)
    refine tt_aload_n (j := 0) dX10_start_27 rfl ?_
    refine tt_iconst (v := 1) dX10_start_28 rfl ?_
    refine gt_pIj (id := 667) (x := 1) dX10_start_29 fl_10_316 rfl rfl h0 hA117 rfl rfl rfl (gp_Ir hG116 (⟨by decide, by decide⟩ : Rg 1 1 1)) (by decide) (fun h => absurd h (by decide)) (fun h => absurd h (by decide)) (fun S121 hG122 hA123 e124 f125 er126 j4 => ?_)
    refine tt_iconst (v := 0) dX10_start_32 rfl ?_
    refine tt_istore_n (ks := [0, 1]) (L' := [(1, .int 0), (0, .ref o0)]) dX10_start_33 (by decide) rfl ?_
    have a1 : hp_I S121 664 o0 = w0 (hp_I S 642 o0) := (congrFun (congrFun e124 664) o0).trans ((congrFun (up2_ne (k := 664)) o0).trans ((show hp_I S115 664 o0 = z by rw [e118]; exact up2_self).trans hz))
    have a2 : hp_I S121 667 o0 = 1 := by rw [e124]; exact up2_self
    have a3 : hp_I S121 663 o0 = 1 := (congrFun (congrFun e124 663) o0).trans ((congrFun (up2_ne (k := 663)) o0).trans ((congrFun (congrFun e118 663) o0).trans ((congrFun (up2_ne (k := 663)) o0).trans (by rw [e110]; exact up2_self))))
    have a4 : hp_j S121 sv = hp_j S sv := by rw [j4, j3, j2, j1]
    exact tt_loc (ks := [1, 0]) rfl (st_loop hG h0 hrv hov hrs hos hvs hP _ S121 0 rfl hG122 hA123 (rg_w (⟨by decide, by decide⟩ : Rg 0 0 0)) a1 a2 a3 a4 (fun i hi => absurd hi (Nat.not_lt_zero i)))
  refine tt_if_ne (tgt := 23) dX10_start_15 rfl (fun q113 => ?_) (fun q113 => ?_)
  · refine tt_iconst (v := 0) dX10_start_23 rfl ?_
    exact T 0 (if_neg q113).symm ⟨by decide, by decide⟩ (by decide)
  · refine tt_bipush (v := (-2)) dX10_start_18 rfl ?_
    refine tt_goto (tgt := 24) dX10_start_20 rfl ?_
    exact T (-2) (if_pos q113).symm ⟨by decide, by decide⟩ (by decide)
theorem cr_X6_prepare {xi : SX} {S : Hp} {E : List Nat} {kc nc : Nat} {P : Po} {o0 : Nat} {x1 : Int32} {y2 : Int64} {pr : Nat} (hG : GI S E) (h0 : Oa S E 6 0 o0) (h1 : Rg 0 23 x1) (hpr : hp_R S 386 o0 = some pr) (hP : ∀ r T x y, PV E [9992] S kc nc rV (fun v T => hp_j T pr = vp_updL (hp_j S pr) x1.toNatClampNeg y2) [] r T x y → P r T x y) : TT xi M_X6_prepare 0 [(0, .ref o0), (1, .int x1), (2, .long y2)] [] S kc nc P := by
  have hA : Af E [9992] S S := af_rf
  refine tt_iload_n (j := 1) dX6_prepare_0 rfl ?_
  refine gt_SNIp (As := [.int x1]) dX6_prepare_1 ca_X6_30 ⟨by decide, by decide⟩ hA (Nat.le_of_ble_eq_true rfl) (Nat.le_of_ble_eq_true rfl) (by decide) (cs_X9_isLocation hG  (fun _ _ _ _ h => h)) (fun _ _ q => q.1) (fun x106 h107 hx105 => ?_)
  refine tt_if_eq (tgt := 14) dX6_prepare_4 rfl (fun q112 => absurd (rg_w h1) (((hx105.2) _ rfl).2 q112)) (fun q112 => ?_)
  refine tt_aload_n (j := 0) dX6_prepare_7 rfl ?_
  obtain ⟨b116, hr117, ho118⟩ := gi_R (k := 386) hG h0 33 24
  obtain rfl : pr = b116 := Option.some.inj (hpr.symm.trans hr117)
  refine gt_gR (id := 386) dX6_prepare_8 fl_6_9 rfl rfl h0 hA hr117 ?_
  refine tt_iload_n (j := 1) dX6_prepare_11 rfl ?_
  refine tt_lload_n (j := 2) dX6_prepare_12 rfl ?_
  refine gt_lSx dX6_prepare_13 ho118 hA (rg_in h1) hG (Or.inl (by decide)) (Or.inr (ow_mk 9992 (k := 386) h0 hr117)) (fun S119 hG120 hA121 e122 f123 er124 ej => ?_)
  exact tt_vreturn dX6_prepare_14 rfl (hP _ _ _ _ ⟨hG120, hA121, Or.inl ⟨_, rfl, rfl, (by show hp_j S119 pr = _; rw [ej, va_up_self]), rfl, rfl⟩⟩)
theorem cro_X9_put {xi : SX} {S : Hp} {E : List Nat} {kc nc : Nat} {P : Po} {o0 : Nat} {x1 : Int32} {y2 : Int64} {r1 pr : Nat} (hG : GI S E) (h0 : Oa S E 9 0 o0) (h1 : Rg 0 23 x1) (hr : hp_R S 580 o0 = some r1) (hpr : hp_R S 386 r1 = some pr) (hP : ∀ r T x y, PV E [9992] S kc nc rV (fun v T => hp_j T pr = vp_updL (hp_j S pr) x1.toNatClampNeg y2) [] r T x y → P r T x y) : TT xi M_X9_put 0 [(0, .ref o0), (1, .int x1), (2, .long y2)] [] S kc nc P := by
  have hA : Af E [9992] S S := af_rf
  refine tt_iload_n (j := 1) dX9_put_0 rfl ?_
  refine gt_Svp (As := [.int x1]) dX9_put_1 ca_X9_77 ⟨by decide, by decide⟩ hA (Nat.le_of_ble_eq_true rfl) (Nat.le_of_ble_eq_true rfl) (by decide) (co_X9_requireLocation_put hG (rg_w h1) (fun _ _ _ _ h => h)) rfl (fun _ h => nomatch h) (fun _ _ q => q) (fun hx105 => ?_)
  refine tt_aload_n (j := 0) dX9_put_4 rfl ?_
  obtain ⟨b106, hr107, ho108⟩ := gi_R (k := 580) hG h0 6 0
  obtain rfl : r1 = b106 := Option.some.inj (hr.symm.trans hr107)
  refine gt_gR (id := 580) dX9_put_5 fl_9_44 rfl rfl h0 hA hr107 ?_
  refine tt_iload_n (j := 1) dX9_put_8 rfl ?_
  refine tt_lload_n (j := 2) dX9_put_9 rfl ?_
  refine gt_Vv (As := [.int x1, .long y2]) dX9_put_10 ca_X9_142 ⟨by decide, by decide⟩ ho108 hA rfl (Nat.le_of_ble_eq_true rfl) (Nat.le_of_ble_eq_true rfl) (by decide) (cr_X6_prepare hG (oa_af ho108 hA) h1 hpr (fun _ _ _ _ h => h)) rfl (fun _ h => nomatch h) (fun S109 hx113 hG110 hB111 hA112 => ?_)
  exact tt_vreturn dX9_put_13 rfl (hP _ _ _ _ ⟨hG110, hA112, Or.inl ⟨_, rfl, rfl, hx113, rfl, rfl⟩⟩)
theorem crwo_L_put {xi : SX} {S : Hp} {E : List Nat} {P : Po} {o0 : Nat} {x1 : Int32} {y2 : Int64} {r1 pr : Nat} (hG : GI S E) (h0 : Oa S E 9 0 o0) (h1 : Rg 0 23 x1) (hr : hp_R S 580 o0 = some r1) (hpr : hp_R S 386 r1 = some pr) (hP : ∀ r T x y, PX E [9992] S (fun z T => z = 0 ∧ hp_j T pr = vp_updL (hp_j S pr) x1.toNatClampNeg y2) r T x y → P r T x y) : TT xi M_L_put 0 [(0, .ref o0), (1, .int x1), (2, .long y2)] [] S 1 6 P := by
  have hA : Af E [9992] S S := af_rf
  refine tt_aload_n (j := 0) dL_put_0 rfl ?_
  refine tt_iload_n (j := 1) dL_put_1 rfl ?_
  refine tt_lload_n (j := 2) dL_put_2 rfl ?_
  refine gt_VC0 (As := [.int x1, .long y2]) dL_put_3 ca_L_41 ⟨by decide, by decide⟩ h0 hA rfl (Nat.le_of_ble_eq_true rfl) (Nat.le_of_ble_eq_true rfl) (by decide) (cro_X9_put hG (oa_af h0 hA) (rg_w h1) hr hpr (fun _ _ _ _ h => h)) (fun S101 v106 hv107 hx105 hG102 hB103 hA104 => ?_)
  obtain rfl : v106 = none := hv107
  show TT xi M_L_put 6 [(0, .ref o0), (1, .int x1), (2, .long y2)] [] S101 1 6 P
  refine tt_goto (tgt := 13) dL_put_6 rfl ?_
  refine tt_iconst (v := 0) dL_put_13 rfl ?_
  exact tt_ireturn dL_put_14 .int rfl rfl (hP _ _ _ _ ⟨hG102, hA104, _, rfl, rfl, hx105⟩)
theorem crn_X9_put {xi : SX} {S : Hp} {E : List Nat} {kc nc : Nat} {P : Po} {o0 : Nat} {x1 : Int32} {y2 : Int64} (hG : GI S E) (h0 : Oa S E 9 0 o0) (hq : ¬ Rg 0 23 x1) (hkc : 1 ≤ kc) (hnc : 6 ≤ nc) (hP : ∀ r T x y, PV E [] S kc nc (fun _ => False) ex0 ["java/lang/IllegalArgumentException"] r T x y → P r T x y) : TT xi M_X9_put 0 [(0, .ref o0), (1, .int x1), (2, .long y2)] [] S kc nc P := by
  have hA : Af E [] S S := af_rf
  refine tt_iload_n (j := 1) dX9_put_0 rfl ?_
  exact gt_S (As := [.int x1]) dX9_put_1 ca_X9_77 ⟨by decide, by decide⟩ hA (Nat.le_of_ble_eq_true rfl) (Nat.le_of_ble_eq_true rfl) (by decide) (cn_X9_requireLocation_put hG hq hkc hnc (fun _ _ _ _ h => h)) rfl (fun X hX T g1 g2 => hP _ _ _ _ ⟨g1, g2, Or.inr ⟨X, hX, rfl⟩⟩) (fun _ _ h => h.elim)
theorem crwn_L_put {xi : SX} {S : Hp} {E : List Nat} {P : Po} {o0 : Nat} {x1 : Int32} {y2 : Int64} (hG : GI S E) (h0 : Oa S E 9 0 o0) (hq : ¬ Rg 0 23 x1) (hP : ∀ r T x y, PW E [] S (fun z => z = 1) r T x y → P r T x y) : TT xi M_L_put 0 [(0, .ref o0), (1, .int x1), (2, .long y2)] [] S 1 6 P := by
  have hA : Af E [] S S := af_rf
  refine tt_aload_n (j := 0) dL_put_0 rfl ?_
  refine tt_iload_n (j := 1) dL_put_1 rfl ?_
  refine tt_lload_n (j := 2) dL_put_2 rfl ?_
  refine gt_VC1 (As := [.int x1, .long y2]) dL_put_3 ca_L_41 ⟨by decide, by decide⟩ h0 hA rfl (Nat.le_of_ble_eq_true rfl) (Nat.le_of_ble_eq_true rfl) (by decide) ch_L_put_0 (crn_X9_put hG (oa_af h0 hA) hq (by decide) (by decide) (fun _ _ _ _ h => h)) (fun S108 q109 hG110 hB111 hA112 => ?_) (fun _ _ h => h.elim)
  · skip
    refine tt_astore (ks := [0, 1, 2, 3]) (L' := [(4, .ref q109), (0, .ref o0), (1, .int x1), (2, .long y2)]) dL_put_9 (by decide) rfl ?_
    refine tt_iconst (v := 1) dL_put_11 rfl ?_
    exact tt_ireturn dL_put_12 .int rfl rfl (hP _ _ _ _ ⟨hG110, hA112, _, rfl, rfl⟩)
theorem cro_X10_put {xi : SX} {S : Hp} {E : List Nat} {kc nc : Nat} {P : Po} {o0 : Nat} {x1 : Int32} {y2 : Int64} {sv : Nat} (hG : GI S E) (h0 : Oa S E 10 0 o0) (h1 : Rg 0 23 x1) (hrs : hp_R S 665 o0 = some sv) (hna : NA S sv 665) (hP : ∀ r T x y, PV E [640, 9991] S kc nc rV (fun v T => (hp_I T 640 o0 = 0) ∧ hp_j T sv = vp_updL (hp_j S sv) x1.toNatClampNeg y2) [] r T x y → P r T x y) : TT xi M_X10_put 0 [(0, .ref o0), (1, .int x1), (2, .long y2)] [] S kc nc P := by
  have hA : Af E [640, 9991] S S := af_rf
  refine tt_aload_n (j := 0) dX10_put_0 rfl ?_
  refine tt_iload_n (j := 1) dX10_put_1 rfl ?_
  refine gt_SIp (As := [.int x1]) dX10_put_2 ca_X10_310 ⟨by decide, by decide⟩ hA (Nat.le_of_ble_eq_true rfl) (Nat.le_of_ble_eq_true rfl) (by decide) (cs_X10_isPlace hG  (fun _ _ _ _ h => h)) rfl (fun _ h => nomatch h) (fun _ _ q => q.1) (fun x106 h107 hx105 => ?_)
  refine tt_if_eq (tgt := 12) dX10_put_5 rfl (fun q108 => ?_) (fun q108 => ?_)
  · skip
    have h109 : Rg 0 0 x106 := rg_eq_l h107 (⟨by decide, by decide⟩ : Rg 0 0 0) q108
    exact absurd (rg_w h1) (((hx105.2) _ rfl).2 q108)
  · skip
    have h110 : Rg 1 1 x106 := rg_ne_lo h107 (⟨by decide, by decide⟩ : Rg 0 0 0) q108
    have h111 : Rg 0 23 x1 := (((hx105.2) _ rfl).1 q108)
    refine tt_iconst (v := 0) dX10_put_8 rfl ?_
    refine tt_goto (tgt := 13) dX10_put_9 rfl ?_
    refine gt_VI (As := [.int 0]) dX10_put_13 ca_X10_74 ⟨by decide, by decide⟩ h0 hA rfl (Nat.le_of_ble_eq_true rfl) (Nat.le_of_ble_eq_true rfl) (by decide) (cs_X10_refused hG (oa_af h0 hA) (fun _ _ _ _ h => h)) rfl (fun _ h => nomatch h) (fun S112 x117 h118 hx116 hG113 hB114 hA115 => ?_)
    obtain rfl := (hx116.1 _ rfl).trans (show bI (0 < (0 : Int32)) = 0 by decide)
    refine tt_if_eq (tgt := 20) dX10_put_16 rfl (fun _ => ?_) (fun q => absurd q (by decide))
    refine tt_aload_n (j := 0) dX10_put_20 rfl ?_
    obtain ⟨b119, hr120, ho121⟩ := gi_R (k := 665) hG h0 33 24
    obtain rfl : sv = b119 := Option.some.inj (hrs.symm.trans hr120)
    have e9 := j24_af hna ho121 hB114
    refine gt_gR (id := 665) dX10_put_21 fl_10_49 rfl rfl h0 hA115 hr120 ?_
    refine tt_iload_n (j := 1) dX10_put_24 rfl ?_
    refine tt_lload_n (j := 2) dX10_put_25 rfl ?_
    refine gt_lSx dX10_put_26 ho121 hA115 (rg_in h111) hG113 (Or.inl (by decide)) (Or.inr (ow_mk 9991 (k := 665) h0 hr120)) (fun S122 hG123 hA124 e125 f126 er127 ej => ?_)
    exact tt_vreturn dX10_put_27 rfl (hP _ _ _ _ ⟨hG123, hA124, Or.inl ⟨_, rfl, rfl, ⟨(congrFun (congrFun e125 640) o0).trans hx116.2, by rw [ej, va_up_self, e9]⟩, rfl, rfl⟩⟩)
theorem crn_X10_put {xi : SX} {S : Hp} {E : List Nat} {kc nc : Nat} {P : Po} {o0 : Nat} {x1 : Int32} {y2 : Int64} (hG : GI S E) (h0 : Oa S E 10 0 o0) (hq : ¬ Rg 0 23 x1) (hP : ∀ r T x y, PV E [640] S kc nc rV (fun v T => (hp_I T 640 o0 = 1)) [] r T x y → P r T x y) : TT xi M_X10_put 0 [(0, .ref o0), (1, .int x1), (2, .long y2)] [] S kc nc P := by
  have hA : Af E [640] S S := af_rf
  refine tt_aload_n (j := 0) dX10_put_0 rfl ?_
  refine tt_iload_n (j := 1) dX10_put_1 rfl ?_
  refine gt_SIp (As := [.int x1]) dX10_put_2 ca_X10_310 ⟨by decide, by decide⟩ hA (Nat.le_of_ble_eq_true rfl) (Nat.le_of_ble_eq_true rfl) (by decide) (cs_X10_isPlace hG  (fun _ _ _ _ h => h)) rfl (fun _ h => nomatch h) (fun _ _ q => q.1) (fun x106 h107 hx105 => ?_)
  refine tt_if_eq (tgt := 12) dX10_put_5 rfl (fun q108 => ?_) (fun q108 => ?_)
  · skip
    have h109 : Rg 0 0 x106 := rg_eq_l h107 (⟨by decide, by decide⟩ : Rg 0 0 0) q108
    refine tt_iconst (v := 1) dX10_put_12 rfl ?_
    refine gt_VI (As := [.int 1]) dX10_put_13 ca_X10_74 ⟨by decide, by decide⟩ h0 hA rfl (Nat.le_of_ble_eq_true rfl) (Nat.le_of_ble_eq_true rfl) (by decide) (cs_X10_refused hG (oa_af h0 hA) (fun _ _ _ _ h => h)) rfl (fun _ h => nomatch h) (fun S110 x115 h116 hx114 hG111 hB112 hA113 => ?_)
    obtain rfl := (hx114.1 _ rfl).trans (show bI (0 < (1 : Int32)) = 1 by decide)
    refine tt_if_eq (tgt := 20) dX10_put_16 rfl (fun q => absurd q (by decide)) (fun _ => ?_)
    exact tt_vreturn dX10_put_19 rfl (hP _ _ _ _ ⟨hG111, hA113, Or.inl ⟨_, rfl, rfl, hx114.2, rfl, rfl⟩⟩)
  · skip
    have h117 : Rg 1 1 x106 := rg_ne_lo h107 (⟨by decide, by decide⟩ : Rg 0 0 0) q108
    have h118 : Rg 0 23 x1 := (((hx105.2) _ rfl).1 q108)
    exact absurd h118 hq
