/-! the bytes: what feed writes, on both sides -/
def wb (f : Nat → Int32) (n : Nat) (g : Nat → Int32) (m : Nat) : Nat → Int32 := fun j => if n ≤ j ∧ j < n + m then g (j - n) else f j
def gc (x : Int32) (k : Nat) : Int32 := (x.toUInt32 >>> (((24 - (8 * Int32.ofNat k)) : Int32).toUInt32 &&& Int32.toUInt32 31)).toInt32 &&& 255
def GC (a b c d : Int32) (k : Nat) : Int32 := if k < 4 then gc a k else if k < 8 then gc b (k - 4) else if k < 12 then gc c (k - 8) else gc d (k - 12)
def cel (a b c d k : Int32) : Int32 := if k < 4 then a else if k < 8 then b else if k < 12 then c else d
def GR (a b c d : Int32) (k : Nat) : Int32 := (cel a b c d (Int32.ofNat k) >>> ((24 - (8 * (Int32.ofNat k - Int32.ofNat k / 4 * 4))) &&& 31)) &&& 255
theorem of_tn {c : Int32} (h : 0 ≤ c.toInt) : Int32.ofNat c.toInt.toNat = c := by
  rw [← Int32.ofInt_eq_ofNat, Int.toNat_of_nonneg h, Int32.ofInt_toInt]
theorem gc_c {x c v : Int32} (h : 0 ≤ c.toInt) (e : (x.toUInt32 >>> (((24 - (8 * c)) : Int32).toUInt32 &&& Int32.toUInt32 31)).toInt32 &&& 255 = v) : v = gc x c.toInt.toNat := by
  unfold gc; rw [of_tn h]; exact e.symm
theorem gr_c {a b x d c y w : Int32} (h : 0 ≤ c.toInt) (e : y = cel a b x d c) (e2 : w = c - c / 4 * 4) : (y >>> ((24 - (8 * w)) &&& 31)) &&& 255 = GR a b x d c.toInt.toNat := by
  unfold GR; rw [of_tn h, e, e2]
theorem wb_0 {f : Nat → Int32} {n : Nat} {g : Nat → Int32} : wb f n g 0 = f := by
  funext j; unfold wb; exact if_neg (by omega)
theorem bw_0 {H : Nat → Nat → Int32} {a n : Nat} {g : Nat → Int32} {Q : Nat → Prop} : H a = wb (H a) n g (0 : Int32).toInt.toNat ∧ ∀ q, Q q → q ≠ a → H q = H q := ⟨wb_0.symm, fun _ _ _ => rfl⟩
theorem bw_s {H0 H1 H2 H3 : Nat → Nat → Int32} {a : Nat} {g : Nat → Int32} {u s c v : Int32} {Q : Nat → Prop} {lo hi : Int} (hb : H1 a = wb (H0 a) s.toInt.toNat g c.toInt.toNat ∧ ∀ q, Q q → q ≠ a → H1 q = H0 q) (hv : v = g c.toInt.toNat) (e2 : H2 = va_up H1 a (upd (H1 a) u.toNatClampNeg v)) (e3 : H3 = H2) (hu : u.toInt = s.toInt + c.toInt) (hs : 0 ≤ s.toInt) (hc : Rg lo hi c) (h1 : 0 ≤ lo := by decide) (h2 : hi ≤ 2147483646 := by decide) : H3 a = wb (H0 a) s.toInt.toNat g (c + 1).toInt.toNat ∧ ∀ q, Q q → q ≠ a → H3 q = H0 q := by
  subst e3 e2 hv
  obtain ⟨c1, c2⟩ := hc
  have e1 : (c + 1).toInt = c.toInt + 1 := by rw [Int32.toInt_add, show (1 : Int32).toInt = 1 from rfl, bmod_in (by omega) (by omega)]
  refine ⟨?_, fun q hq hn => ?_⟩
  · rw [va_up_self, hb.1, e1]
    funext j
    unfold upd wb
    have eu : u.toNatClampNeg = u.toInt.toNat := rfl
    by_cases ej : j = u.toNatClampNeg
    · rw [if_pos ej, if_pos (by omega)]
      exact congrArg g (by omega)
    · rw [if_neg ej]
      by_cases e0 : s.toInt.toNat ≤ j ∧ j < s.toInt.toNat + c.toInt.toNat
      · rw [if_pos e0, if_pos (by omega)]
      · rw [if_neg e0, if_neg (by omega)]
  · rw [va_up_ne _ _ hn]; exact hb.2 q hq hn
theorem bw_e1 {f f0 : Nat → Int32} {g : Nat → Int32} {s : Nat} {c n : Int32} {R : Prop} {lo hi : Int} (hb : f = wb f0 s g c.toInt.toNat ∧ R) (hl : c.toInt ≤ n.toInt ∨ c = 0) (q : n ≤ c) (hc : Rg lo hi c) (h1 : 0 ≤ lo := by decide) : f = wb f0 s g n.toInt.toNat ∧ R := by
  have q1 := Int32.le_iff_toInt_le.mp q
  have e : c.toInt.toNat = n.toInt.toNat := by
    rcases hl with h | h
    · omega
    · have e : c.toInt = 0 := by rw [h]; rfl
      omega
  rw [← e]; exact hb
theorem bw_e2 {s c u n : Int32} {A : Prop} (h : u.toInt = s.toInt + c.toInt) (q : c < n) (q2 : 200 ≤ u) (hq : s.toInt + n.toInt ≤ 200) : A := by
  have q1 := Int32.lt_iff_toInt_lt.mp q
  have q3 := Int32.le_iff_toInt_le.mp q2
  rw [show (200 : Int32).toInt = 200 from rfl] at q3
  omega
theorem bw_4 {a b c d : Int32} {f0 f1 f2 f3 f4 : Nat → Int32} {s0 s1 s2 s3 m1 m2 m3 m4 x : Nat} (h1 : f1 = wb f0 s0 (gc a) m1) (h2 : f2 = wb f1 s1 (gc b) m2) (h3 : f3 = wb f2 s2 (gc c) m3) (h4 : f4 = wb f3 s3 (gc d) m4) (k1 : m1 = min x 4) (k2 : m2 = min (x - 4) 4) (k3 : m3 = min (x - 8) 4) (k4 : m4 = min (x - 12) 4) (e1 : s1 = s0 + m1) (e2 : s2 = s1 + m2) (e3 : s3 = s2 + m3) (hx : x ≤ 16) : f4 = wb f0 s0 (GC a b c d) x := by
  subst h1 h2 h3 h4
  funext j
  unfold wb GC
  by_cases c0 : s0 ≤ j ∧ j < s0 + x
  · rw [if_pos c0]
    by_cases c1 : j - s0 < 4
    · rw [if_pos c1, if_neg (by omega), if_neg (by omega), if_neg (by omega), if_pos (by omega)]
    · rw [if_neg c1]
      by_cases c2 : j - s0 < 8
      · rw [if_pos c2, if_neg (by omega), if_neg (by omega), if_pos (by omega)]
        exact congrArg (gc b) (by omega)
      · rw [if_neg c2]
        by_cases c3 : j - s0 < 12
        · rw [if_pos c3, if_neg (by omega), if_pos (by omega)]
          exact congrArg (gc c) (by omega)
        · rw [if_neg c3, if_pos (by omega)]
          exact congrArg (gc d) (by omega)
  · rw [if_neg c0, if_neg (by omega), if_neg (by omega), if_neg (by omega), if_neg (by omega)]
theorem cel_1 {a b c d k : Int32} (h : k < 4) : a = cel a b c d k := (if_pos h).symm
theorem cel_2 {a b c d k : Int32} (h1 : ¬ k < 4) (h : k < 8) : b = cel a b c d k := ((if_neg h1).trans (if_pos h)).symm
theorem cel_3 {a b c d k : Int32} (h1 : ¬ k < 4) (h2 : ¬ k < 8) (h : k < 12) : c = cel a b c d k := ((if_neg h1).trans ((if_neg h2).trans (if_pos h))).symm
theorem cel_4 {a b c d k : Int32} (h1 : ¬ k < 4) (h2 : ¬ k < 8) (h : ¬ k < 12) : d = cel a b c d k := ((if_neg h1).trans ((if_neg h2).trans (if_neg h))).symm
/-- a byte of an int, taken by either shift -/
theorem sh_bv (x : BitVec 32) (s : Nat) (h : s ≤ 24) : (x >>> s) &&& 255#32 = (x.sshiftRight s) &&& 255#32 := by
  apply BitVec.eq_of_getLsbD_eq
  intro i hi
  rw [BitVec.getLsbD_and, BitVec.getLsbD_and, BitVec.getLsbD_ushiftRight, BitVec.getLsbD_sshiftRight]
  by_cases h8 : i < 8
  · rw [if_pos (by omega)]
    have h9 : decide (32 ≤ i) = false := by simp; omega
    rw [h9, Bool.not_false, Bool.true_and]
  · have e : (255#32).getLsbD i = false := by
      rw [BitVec.getLsbD_ofNat]
      have : Nat.testBit 255 i = false := Nat.testBit_lt_two_pow (Nat.lt_of_lt_of_le (by decide : 255 < 2 ^ 8) (Nat.pow_le_pow_right (by decide) (by omega)))
      rw [this, Bool.and_false]
    rw [e, Bool.and_false, Bool.and_false]
section BT
variable {xi : SX} {M : MD} {pc : Nat} {L : List (Nat × Value)} {rest : List Value} {S S0 : Hp} {k0 n0 a : Nat} {P : Po} {E ws : List Nat} {n : Nat}
theorem gt_iSb {i x : Int32} (h : decode (md_c M) pc = .ok (.iastore, 1)) (ho : Oa S0 E 32 n a) (hA : Af E ws S0 S) (h9 : ¬ n = 200 ∨ 9995 ∈ ws) (hx : vp_in i n) (hG : GI S E) (hn : n ≠ 202) (kk : ∀ S' : Hp, GI S' E → Af E ws S0 S' → hp_I S' = hp_I S → hp_J S' = hp_J S → hp_r S' = hp_r S → hp_i S' = va_up (hp_i S) a (upd (hp_i S a) i.toNatClampNeg x) → TT xi M (pc + 1) L rest S' k0 n0 P) (hah : AH ws n := by decide) : TT xi M pc L (.int x :: .int i :: .ref a :: rest) S k0 n0 P :=
  tt_iastore h (ob_af ho hA) (by rw [n_af ho hA]; exact hx) (kk _ (gp_i hG (oa_af ho hA) hn) (af_tr hA (af_i (h9.imp (fun h q => h ((n_af ho hA).symm.trans q)) id) (by rw [n_af ho hA]; exact hah)) (fun _ h => h)) (hq_I_i ..) (hq_J_i ..) (hq_r_i ..) (hq_i_i ..))
theorem gt_pIb {i cn j id : Nat} {ty : FieldType} {fin ns : Bool} {x : Int32} (h : decode (md_c M) pc = .ok (.putfield i, 3)) (hf : FL (md_y M).cls i cn j ty fin ns) (hk : fk cn j = 0) (hid : cn * 64 + j = id) (ho : Oa S0 E cn n a) (hA : Af E ws S0 S) (hn : narrow ty (.int x) = .int x) (hfit : fits ty (.int x) = true) (hi : fin = false) (hG : GI (sp_I S id a x) E) (hw : id ∈ ws) (h1 : id = 662 → 9998 ∉ ws → x = 0 → hp_I S 662 a = 0) (h2 : id = 664 → 9997 ∉ ws → ¬ hp_I S 664 a = -1 → ¬ x = -1)
    (kk : ∀ S' : Hp, GI S' E → Af E ws S0 S' → hp_I S' = up_2 (hp_I S) id a x → hp_J S' = hp_J S → hp_r S' = hp_r S → hp_i S' = hp_i S → TT xi M (pc + 3) L rest S' k0 n0 P) : TT xi M pc L (.int x :: .ref a :: rest) S k0 n0 P :=
  tt_putI h hf hk hid (ob_af ho hA) hn hfit (Or.inl hi) (kk _ hG (af_tr hA (af_I hw h1 h2) (fun _ h => h)) (hq_I_I ..) (hq_J_I ..) (hq_r_I ..) (hq_i_I ..))
theorem gt_lS2 {i : Int32} {x : Int64} (h : decode (md_c M) pc = .ok (.lastore, 1)) (ho : Oa S0 E 33 n a) (hA : Af E ws S0 S) (hx : vp_in i n) (hG : GI S E) (h9 : ¬ n = 1 ∨ 9996 ∈ ws) (h24 : ¬ n = 24) (kk : ∀ S' : Hp, GI S' E → Af E ws S0 S' → hp_I S' = hp_I S → hp_J S' = hp_J S → hp_r S' = hp_r S → hp_j S' a i.toNatClampNeg = x → hp_i S' = hp_i S → TT xi M (pc + 1) L rest S' k0 n0 P) (hah : AH ws n := by decide) : TT xi M pc L (.long x :: .int i :: .ref a :: rest) S k0 n0 P :=
  tt_lastore h (ob_af ho hA) (by rw [n_af ho hA]; exact hx) (kk _ (gp_j hG) (af_tr hA (af_j (h9.imp (fun h q => h ((n_af ho hA).symm.trans q)) id) (Or.inl (fun q => h24 ((n_af ho hA).symm.trans q))) (by rw [n_af ho hA]; exact hah)) (fun _ h => h)) (hq_I_j ..) (hq_J_j ..) (hq_r_j ..) (by rw [hq_j_j, va_up_self]; simp [vp_updL]) (hq_i_j ..))
end BT
/-- what feed leaves of the bytes: those of the array a are g's, the other arrays of bytes are as they were -/
abbrev Bw (S T : Hp) (E : List Nat) (a : Nat) (s : Int32) (g : Nat → Int32) (m : Int32) : Prop := hp_i T a = wb (hp_i S a) s.toInt.toNat g m.toInt.toNat ∧ ∀ q, Oa S E 32 200 q → q ≠ a → hp_i T q = hp_i S q
set_option maxHeartbeats 4000000 in
theorem cb_X1_append {xi : SX} {S : Hp} {E : List Nat} {kc nc : Nat} {P : Po} {o0 : Nat} {x1 : Int32} {x2 : Int32} (hG : GI S E) (h0 : Oa S E 1 0 o0) (hq : (hp_I S 65 o0).toInt + x1.toInt ≤ 200) {ab : Nat} (hab : hp_R S 64 o0 = some ab) (hoa : Oa S E 32 200 ab) (hP : ∀ r T x y, PV E [65, 9995] S kc nc rV (fun v T => ((0 ≤ x1.toInt ∧ (hp_I T 65 o0).toInt = (hp_I S 65 o0).toInt + x1.toInt) ∨ (x1.toInt < 0 ∧ (hp_I T 65 o0).toInt = (hp_I S 65 o0).toInt)) ∧ Bw S T E ab (hp_I S 65 o0) (gc x2) x1) [] r T x y → P r T x y) : TT xi M_X1_append 0 [(0, .ref o0), (1, .int x1), (2, .int x2)] [] S kc nc P := by
  have hA : Af E [65, 9995] S S := af_rf
  refine tt_iconst (v := 0) dX1_append_0 rfl ?_
  refine tt_istore_n (ks := [0, 1, 2, 3]) (L' := [(3, .int 0), (0, .ref o0), (1, .int x1), (2, .int x2)]) dX1_append_1 (by decide) rfl ?_
  have B101 : ∀ (nn : Nat) (S102 : Hp) (x105 : Int32), (2147483648 - x105.toInt).toNat = nn → GI S102 E → Af E [65, 9995] S S102 → Rg 0 2147483647 x105 → ((hp_I S102 65 o0).toInt = (hp_I S 65 o0).toInt + (x105 : Int32).toInt ∧ ((x105 : Int32).toInt ≤ x1.toInt ∨ x105 = 0)) → Bw S S102 E ab (hp_I S 65 o0) (gc x2) x105 → TT xi M_X1_append 2 [(0, .ref o0), (1, .int x1), (2, .int x2), (3, .int x105)] [] S102 kc nc P := by
    intro nn
    induction nn using Nat.strongRecOn with
    | ind nn ihB101 =>
      intro S102 x105 hmB101 hG103 hA104 h106 hl107 hbw
      subst hmB101
      refine tt_iload_n (j := 3) dX1_append_2 rfl ?_
      refine tt_iload_n (j := 1) dX1_append_3 rfl ?_
      refine tt_icmp_ge (tgt := 55) dX1_append_4 rfl (fun q108 => ?_) (fun q108 => ?_)
      · skip
        exact tt_vreturn dX1_append_55 rfl (hP _ _ _ _ ⟨hG103, hA104, Or.inl ⟨_, rfl, rfl, ⟨ap_e1 hl107 q108 h106, bw_e1 hbw hl107.2 q108 h106⟩, rfl, rfl⟩⟩)
      · skip
        have h109 : Rg 0 2147483646 x105 := rg_lt_l h106 (rg_all x1) (nle_lt q108)
        have h110 : Rg 1 2147483647 x1 := rg_lt_r h106 (rg_all x1) (nle_lt q108)
        refine tt_aload_n (j := 0) dX1_append_7 rfl ?_
        refine tt_getI (id := 65) dX1_append_8 fl_1_15 rfl rfl (ob_af h0 hA104) ?_
        refine tt_sipush (v := 200) dX1_append_11 rfl ?_
        refine tt_icmp_ge (tgt := 55) dX1_append_14 rfl (fun q111 => ?_) (fun q111 => ?_)
        · skip
          have h112 : Rg 200 200 (hp_I S102 65 o0) := rg_le_r (⟨by decide, by decide⟩ : Rg 200 200 200) (gi_I (k := 65) hG103 (oa_af h0 hA104) 0 200) q111
          exact tt_vreturn dX1_append_55 rfl (hP _ _ _ _ ⟨hG103, hA104, Or.inl ⟨_, rfl, rfl, (bw_e2 hl107.1 (nle_lt q108) q111 hq), rfl, rfl⟩⟩)
        · skip
          have h113 : Rg 0 199 (hp_I S102 65 o0) := rg_lt_l (gi_I (k := 65) hG103 (oa_af h0 hA104) 0 200) (⟨by decide, by decide⟩ : Rg 200 200 200) (nle_lt q111)
          refine tt_aload_n (j := 0) dX1_append_17 rfl ?_
          skip
          refine gt_gR (id := 64) dX1_append_18 fl_1_9 rfl rfl h0 hA104 hab ?_
          refine tt_aload_n (j := 0) dX1_append_21 rfl ?_
          refine tt_getI (id := 65) dX1_append_22 fl_1_15 rfl rfl (ob_af h0 hA104) ?_
          refine tt_iload_n (j := 2) dX1_append_25 rfl ?_
          refine tt_bipush (v := 24) dX1_append_26 rfl ?_
          refine tt_bipush (v := 8) dX1_append_28 rfl ?_
          refine tt_iload_n (j := 3) dX1_append_30 rfl ?_
          refine tt_imul dX1_append_31 ?_
          refine tt_isub dX1_append_32 ?_
          refine tt_iushr dX1_append_33 ?_
          refine tt_sipush (v := 255) dX1_append_34 rfl ?_
          refine tt_iand dX1_append_37 ?_
          refine gt_iSb dX1_append_38 hoa hA104 (Or.inr (by decide)) (rg_in h113) hG103 (by decide) (fun S118 hG119 hA120 e121 f122 er123 bi1 => ?_)
          refine tt_aload_n (j := 0) dX1_append_39 rfl ?_
          refine tt_dup dX1_append_40 rfl ?_
          refine gt_gI (id := 65) (v := (hp_I S102 65 o0)) dX1_append_41 fl_1_15 rfl rfl h0 hA120 ((congrFun (congrFun e121 65) o0).trans rfl) ?_
          refine tt_iconst (v := 1) dX1_append_44 rfl ?_
          refine tt_iadd dX1_append_45 ?_
          refine gt_pIb (id := 65) (x := ((hp_I S102 65 o0) + 1)) dX1_append_46 fl_1_15 rfl rfl h0 hA120 rfl rfl rfl (gp_Ir hG119 (rg_add (lo := 1) (hi := 200) h113 (⟨by decide, by decide⟩ : Rg 1 1 1))) (by decide) (fun h => absurd h (by decide)) (fun h => absurd h (by decide)) (fun S124 hG125 hA126 e127 f128 er129 bi2 => ?_)
          refine tt_iinc (j := 3) (v := (x105 + 1)) (ks := [0, 1, 2, 3]) (L' := [(3, .int (x105 + 1)), (0, .ref o0), (1, .int x1), (2, .int x2)]) dX1_append_49 rfl rfl (by decide) rfl ?_
          refine tt_goto (tgt := 2) dX1_append_52 rfl ?_
          exact tt_loc (ks := [1, 2, 3, 0]) rfl (ihB101 _ (rg_up h109) S124 (x105 + 1) rfl hG125 hA126 (rg_w (rg_add (lo := 1) (hi := 2147483647) h109 (⟨by decide, by decide⟩ : Rg 1 1 1))) (ap_1 hl107 (by rw [e127]; exact up2_self) (nle_lt q108) h113) (bw_s hbw (gc_c h109.1 rfl) bi1 bi2 hl107.1 (gi_I (k := 65) hG h0 0 200).1 h109))
  exact tt_loc (ks := [1, 2, 3, 0]) rfl (B101 _ S 0 rfl hG hA (rg_w (⟨by decide, by decide⟩ : Rg 0 0 0)) ap_0 bw_0)
set_option maxHeartbeats 4000000 in
theorem cb_X9_feed {xi : SX} {S : Hp} {E : List Nat} {kc nc : Nat} {P : Po} {o0 : Nat} {x1 : Int32} {x2 : Int32} {x3 : Int32} {x4 : Int32} {x5 : Int32} (hG : GI S E) (h0 : Oa S E 9 0 o0) (h1 : Rg 0 16 x1) (hs : ∀ c, hp_R S 576 o0 = some c → (hp_I S 65 c).toInt + x1.toInt ≤ 200) (hP : ∀ r T x y, PV E [65, 321, 322, 388, 9995] S kc nc (rI (-2147483648) 2147483647) (fun v T => (∀ c, hp_R S 576 o0 = some c → (hp_I T 65 c).toInt = (hp_I S 65 c).toInt + x1.toInt ∧ v = some (.int (hp_I T 65 c))) ∧ ∀ c ab, hp_R S 576 o0 = some c → hp_R S 64 c = some ab → Bw S T E ab (hp_I S 65 c) (GC x2 x3 x4 x5) x1) [] r T x y → P r T x y) : TT xi M_X9_feed 0 [(0, .ref o0), (1, .int x1), (2, .int x2), (3, .int x3), (4, .int x4), (5, .int x5)] [] S kc nc P := by
  have hA : Af E [65, 321, 322, 388, 9995] S S := af_rf
  refine tt_iload_n (j := 1) dX9_feed_0 rfl ?_
  refine tt_if_lt (tgt := 10) dX9_feed_1 rfl (fun q101 => ?_) (fun q101 => ?_)
  · skip
    have h102 : Rg 0 (-1) x1 := rg_lt_l h1 (⟨by decide, by decide⟩ : Rg 0 0 0) q101
    have h103 : Rg 1 0 0 := rg_lt_r h1 (⟨by decide, by decide⟩ : Rg 0 0 0) q101
    exact rg_no h102
  · skip
    refine tt_iload_n (j := 1) dX9_feed_4 rfl ?_
    refine tt_bipush (v := 16) dX9_feed_5 rfl ?_
    refine tt_icmp_le (tgt := 20) dX9_feed_7 rfl (fun q104 => ?_) (fun q104 => ?_)
    · skip
      refine tt_aload_n (j := 0) dX9_feed_20 rfl ?_
      obtain ⟨b105, hr106, ho107⟩ := gi_R (k := 576) hG h0 1 0
      refine gt_gR (id := 576) dX9_feed_21 fl_9_10 rfl rfl h0 hA hr106 ?_
      refine tt_getI (id := 65) dX9_feed_24 fl_9_55 rfl rfl (ob_af ho107 hA) ?_
      refine tt_iload_n (j := 1) dX9_feed_27 rfl ?_
      refine tt_iadd dX9_feed_28 ?_
      refine tt_sipush (v := 200) dX9_feed_29 rfl ?_
      refine tt_icmp_le (tgt := 45) dX9_feed_32 rfl (fun q108 => ?_) (fun q108 => ?_)
      · skip
        have h109 : Rg 0 200 ((hp_I S 65 b105) + x1) := rg_le_l (rg_add (lo := 0) (hi := 216) (gi_I (k := 65) hG (oa_af ho107 hA) 0 200) h1) (⟨by decide, by decide⟩ : Rg 200 200 200) q108
        refine tt_aload_n (j := 0) dX9_feed_45 rfl ?_
        refine gt_gR (id := 576) dX9_feed_46 fl_9_10 rfl rfl h0 hA hr106 ?_
        refine tt_iload_n (j := 1) dX9_feed_49 rfl ?_
        refine tt_iconst (v := 4) dX9_feed_50 rfl ?_
        refine gt_SIp (As := [.int x1, .int 4]) dX9_feed_51 ca_X9_64 ⟨by decide, by decide⟩ hA (Nat.le_of_ble_eq_true rfl) (Nat.le_of_ble_eq_true rfl) (by decide) (cq_min hG  (fun _ _ _ _ h => h)) rfl (fun _ h => nomatch h) (fun _ _ q => q.1) (fun x115 h116 hx114 => ?_)
        have e4 : (4 : Int32).toInt = 4 := rfl
        have kx : 0 ≤ x1.toInt ∧ x1.toInt ≤ 16 := h1
        have m4 : (x1 - 4).toInt = x1.toInt - 4 := fd_sub h1 (c := 4) rfl
        have m8 : (x1 - 8).toInt = x1.toInt - 8 := fd_sub h1 (c := 8) rfl
        have m12 : (x1 - 12).toInt = x1.toInt - 12 := fd_sub h1 (c := 12) rfl
        have hs0 := hs _ hr106
        obtain ⟨ab, hab, hoa⟩ := gi_R (k := 64) hG ho107 32 200
        have mn117 : ((x1).toInt ≤ (4 : Int32).toInt ∧ x115.toInt = (x1).toInt) ∨ ((4 : Int32).toInt < (x1).toInt ∧ x115.toInt = (4 : Int32).toInt) := hx114.2 _ rfl
        refine tt_iload_n (j := 2) dX9_feed_54 rfl ?_
        refine gt_Vv (As := [.int x115, .int x2]) dX9_feed_55 ca_X9_70 ⟨by decide, by decide⟩ ho107 hA rfl (Nat.le_of_ble_eq_true rfl) (Nat.le_of_ble_eq_true rfl) (by decide) (cb_X1_append hG (oa_af ho107 hA) (by omega) (r_af ho107 hA hab) (oa_af hoa hA) (fun _ _ _ _ h => h)) rfl (fun _ h => nomatch h) (fun S118 hx122 hG119 hB120 hA121 => ?_)
        have ap123 : ((0 ≤ x115.toInt ∧ (hp_I S118 65 b105).toInt = (hp_I S 65 b105).toInt + x115.toInt) ∨ (x115.toInt < 0 ∧ (hp_I S118 65 b105).toInt = (hp_I S 65 b105).toInt)) := hx122.1
        refine tt_aload_n (j := 0) dX9_feed_58 rfl ?_
        refine gt_gR (id := 576) dX9_feed_59 fl_9_10 rfl rfl h0 hA121 hr106 ?_
        refine tt_iload_n (j := 1) dX9_feed_62 rfl ?_
        refine tt_iconst (v := 4) dX9_feed_63 rfl ?_
        refine tt_isub dX9_feed_64 ?_
        refine tt_iconst (v := 4) dX9_feed_65 rfl ?_
        refine gt_SIp (As := [.int (x1 - 4), .int 4]) dX9_feed_66 ca_X9_64 ⟨by decide, by decide⟩ hA121 (Nat.le_of_ble_eq_true rfl) (Nat.le_of_ble_eq_true rfl) (by decide) (cq_min hG119  (fun _ _ _ _ h => h)) rfl (fun _ h => nomatch h) (fun _ _ q => q.1) (fun x129 h130 hx128 => ?_)
        have mn131 : (((x1 - 4)).toInt ≤ (4 : Int32).toInt ∧ x129.toInt = ((x1 - 4)).toInt) ∨ ((4 : Int32).toInt < ((x1 - 4)).toInt ∧ x129.toInt = (4 : Int32).toInt) := hx128.2 _ rfl
        refine tt_iload_n (j := 3) dX9_feed_69 rfl ?_
        refine gt_Vv (As := [.int x129, .int x3]) dX9_feed_70 ca_X9_70 ⟨by decide, by decide⟩ ho107 hA121 rfl (Nat.le_of_ble_eq_true rfl) (Nat.le_of_ble_eq_true rfl) (by decide) (cb_X1_append hG119 (oa_af ho107 hA121) (by omega) (r_af ho107 hA121 hab) (oa_af hoa hA121) (fun _ _ _ _ h => h)) rfl (fun _ h => nomatch h) (fun S132 hx136 hG133 hB134 hA135 => ?_)
        have ap137 : ((0 ≤ x129.toInt ∧ (hp_I S132 65 b105).toInt = (hp_I S118 65 b105).toInt + x129.toInt) ∨ (x129.toInt < 0 ∧ (hp_I S132 65 b105).toInt = (hp_I S118 65 b105).toInt)) := hx136.1
        refine tt_aload_n (j := 0) dX9_feed_73 rfl ?_
        refine gt_gR (id := 576) dX9_feed_74 fl_9_10 rfl rfl h0 hA135 hr106 ?_
        refine tt_iload_n (j := 1) dX9_feed_77 rfl ?_
        refine tt_bipush (v := 8) dX9_feed_78 rfl ?_
        refine tt_isub dX9_feed_80 ?_
        refine tt_iconst (v := 4) dX9_feed_81 rfl ?_
        refine gt_SIp (As := [.int (x1 - 8), .int 4]) dX9_feed_82 ca_X9_64 ⟨by decide, by decide⟩ hA135 (Nat.le_of_ble_eq_true rfl) (Nat.le_of_ble_eq_true rfl) (by decide) (cq_min hG133  (fun _ _ _ _ h => h)) rfl (fun _ h => nomatch h) (fun _ _ q => q.1) (fun x143 h144 hx142 => ?_)
        have mn145 : (((x1 - 8)).toInt ≤ (4 : Int32).toInt ∧ x143.toInt = ((x1 - 8)).toInt) ∨ ((4 : Int32).toInt < ((x1 - 8)).toInt ∧ x143.toInt = (4 : Int32).toInt) := hx142.2 _ rfl
        refine tt_iload (j := 4) dX9_feed_85 rfl ?_
        refine gt_Vv (As := [.int x143, .int x4]) dX9_feed_87 ca_X9_70 ⟨by decide, by decide⟩ ho107 hA135 rfl (Nat.le_of_ble_eq_true rfl) (Nat.le_of_ble_eq_true rfl) (by decide) (cb_X1_append hG133 (oa_af ho107 hA135) (by omega) (r_af ho107 hA135 hab) (oa_af hoa hA135) (fun _ _ _ _ h => h)) rfl (fun _ h => nomatch h) (fun S146 hx150 hG147 hB148 hA149 => ?_)
        have ap151 : ((0 ≤ x143.toInt ∧ (hp_I S146 65 b105).toInt = (hp_I S132 65 b105).toInt + x143.toInt) ∨ (x143.toInt < 0 ∧ (hp_I S146 65 b105).toInt = (hp_I S132 65 b105).toInt)) := hx150.1
        refine tt_aload_n (j := 0) dX9_feed_90 rfl ?_
        refine gt_gR (id := 576) dX9_feed_91 fl_9_10 rfl rfl h0 hA149 hr106 ?_
        refine tt_iload_n (j := 1) dX9_feed_94 rfl ?_
        refine tt_bipush (v := 12) dX9_feed_95 rfl ?_
        refine tt_isub dX9_feed_97 ?_
        refine tt_iconst (v := 4) dX9_feed_98 rfl ?_
        refine gt_SIp (As := [.int (x1 - 12), .int 4]) dX9_feed_99 ca_X9_64 ⟨by decide, by decide⟩ hA149 (Nat.le_of_ble_eq_true rfl) (Nat.le_of_ble_eq_true rfl) (by decide) (cq_min hG147  (fun _ _ _ _ h => h)) rfl (fun _ h => nomatch h) (fun _ _ q => q.1) (fun x157 h158 hx156 => ?_)
        have mn159 : (((x1 - 12)).toInt ≤ (4 : Int32).toInt ∧ x157.toInt = ((x1 - 12)).toInt) ∨ ((4 : Int32).toInt < ((x1 - 12)).toInt ∧ x157.toInt = (4 : Int32).toInt) := hx156.2 _ rfl
        refine tt_iload (j := 5) dX9_feed_102 rfl ?_
        refine gt_Vv (As := [.int x157, .int x5]) dX9_feed_104 ca_X9_70 ⟨by decide, by decide⟩ ho107 hA149 rfl (Nat.le_of_ble_eq_true rfl) (Nat.le_of_ble_eq_true rfl) (by decide) (cb_X1_append hG147 (oa_af ho107 hA149) (by omega) (r_af ho107 hA149 hab) (oa_af hoa hA149) (fun _ _ _ _ h => h)) rfl (fun _ h => nomatch h) (fun S160 hx164 hG161 hB162 hA163 => ?_)
        have ap165 : ((0 ≤ x157.toInt ∧ (hp_I S160 65 b105).toInt = (hp_I S146 65 b105).toInt + x157.toInt) ∨ (x157.toInt < 0 ∧ (hp_I S160 65 b105).toInt = (hp_I S146 65 b105).toInt)) := hx164.1
        refine tt_aload_n (j := 0) dX9_feed_107 rfl ?_
        refine gt_Vv (As := []) dX9_feed_108 ca_X9_74 ⟨by decide, by decide⟩ h0 hA163 rfl (Nat.le_of_ble_eq_true rfl) (Nat.le_of_ble_eq_true rfl) (by decide) (cs_X9_forgetFindings hG161 (oa_af h0 hA163) (fun _ _ _ _ h => h)) rfl (fun _ h => nomatch h) (fun S166 hx170 hG167 hB168 hA169 => ?_)
        refine tt_aload_n (j := 0) dX9_feed_111 rfl ?_
        refine gt_gR (id := 576) dX9_feed_112 fl_9_10 rfl rfl h0 hA169 hr106 ?_
        refine gt_gI (id := 65) (v := (hp_I S160 65 b105)) dX9_feed_115 fl_9_55 rfl rfl ho107 hA169 ((i_af (k := 65) (oa_af ho107 hA163) hB168).trans rfl) ?_
        have hz0 := (gi_I (k := 65) hG ho107 0 200).1
        have bb := b_af (oa_af hoa hA163) hB168
        have b4 : hp_i S160 ab = wb (hp_i S ab) (hp_I S 65 b105).toInt.toNat (GC x2 x3 x4 x5) x1.toInt.toNat := bw_4 hx122.2.1 hx136.2.1 hx150.2.1 hx164.2.1 (by omega) (by omega) (by omega) (by omega) (by omega) (by omega) (by omega) (by omega)
        have bo : ∀ q, Oa S E 32 200 q → q ≠ ab → hp_i S166 q = hp_i S q := fun q hq hn => (b_af (oa_af hq hA163) hB168).trans ((hx164.2.2 q (oa_af hq hA149) hn).trans ((hx150.2.2 q (oa_af hq hA135) hn).trans ((hx136.2.2 q (oa_af hq hA121) hn).trans (hx122.2.2 q hq hn))))
        exact tt_ireturn dX9_feed_118 .int rfl rfl (hP _ _ _ _ ⟨hG167, hA169, Or.inl ⟨_, rfl, ⟨_, rfl, rg_w (gi_I (k := 65) hG161 (oa_af ho107 hA163) 0 200)⟩, ⟨fo_x hr106 ((i_af (k := 65) (oa_af ho107 hA163) hB168).trans rfl) (by omega), fun c q hc hq => by obtain rfl : b105 = c := Option.some.inj (hr106.symm.trans hc); obtain rfl : ab = q := Option.some.inj (hab.symm.trans hq); exact ⟨bb.trans b4, bo⟩⟩, rfl, rfl⟩⟩)
      · skip
        exact absurd (nle_lt q108) (fd_ok (gi_I (k := 65) hG (oa_af ho107 hA) 0 200) h1 (hs _ hr106))
    · skip
      have h171 : Rg 16 15 16 := rg_lt_l (⟨by decide, by decide⟩ : Rg 16 16 16) h1 (nle_lt q104)
      have h172 : Rg 17 16 x1 := rg_lt_r (⟨by decide, by decide⟩ : Rg 16 16 16) h1 (nle_lt q104)
      exact rg_no h171
set_option maxHeartbeats 4000000 in
theorem cbw_L_feed {xi : SX} {S : Hp} {E : List Nat} {P : Po} {o0 : Nat} {x1 : Int32} {x2 : Int32} {x3 : Int32} {x4 : Int32} {x5 : Int32} {o6 : Nat} (hG : GI S E) (h0 : Oa S E 9 0 o0) (h1 : Rg 0 16 x1) (h6 : Oa S E 33 1 o6) (hs : ∀ c, hp_R S 576 o0 = some c → (hp_I S 65 c).toInt + x1.toInt ≤ 200) (hP : ∀ r T x y, PX E [65, 321, 322, 388, 9995, 9996] S (fun z T => z = 0 ∧ ∀ c, hp_R S 576 o0 = some c → (hp_I T 65 c).toInt = (hp_I S 65 c).toInt + x1.toInt ∧ hp_j T o6 (0 : Int32).toNatClampNeg = (hp_I T 65 c).toInt64 ∧ ∀ ab, hp_R S 64 c = some ab → Bw S T E ab (hp_I S 65 c) (GC x2 x3 x4 x5) x1) r T x y → P r T x y) : TT xi M_L_feed 0 [(0, .ref o0), (1, .int x1), (2, .int x2), (3, .int x3), (4, .int x4), (5, .int x5), (6, .ref o6)] [] S 1 6 P := by
  have hA : Af E [65, 321, 322, 388, 9995, 9996] S S := af_rf
  refine tt_aload (j := 6) dL_feed_0 rfl ?_
  refine tt_iconst (v := 0) dL_feed_2 rfl ?_
  refine tt_aload_n (j := 0) dL_feed_3 rfl ?_
  refine tt_iload_n (j := 1) dL_feed_4 rfl ?_
  refine tt_iload_n (j := 2) dL_feed_5 rfl ?_
  refine tt_iload_n (j := 3) dL_feed_6 rfl ?_
  refine tt_iload (j := 4) dL_feed_7 rfl ?_
  refine tt_iload (j := 5) dL_feed_9 rfl ?_
  refine gt_VC0 (As := [.int x1, .int x2, .int x3, .int x4, .int x5]) dL_feed_11 ca_L_7 ⟨by decide, by decide⟩ h0 hA rfl (Nat.le_of_ble_eq_true rfl) (Nat.le_of_ble_eq_true rfl) (by decide) (cb_X9_feed hG (oa_af h0 hA) (rg_w h1) hs (fun _ _ _ _ h => h)) (fun S101 v106 hv107 hx105 hG102 hB103 hA104 => ?_)
  obtain ⟨x108, rfl, h109⟩ := hv107
  show TT xi M_L_feed 14 [(0, .ref o0), (1, .int x1), (2, .int x2), (3, .int x3), (4, .int x4), (5, .int x5), (6, .ref o6)] [.int x108, .int 0, .ref o6] S101 1 6 P
  refine tt_i2l dL_feed_14 ?_
  refine gt_lS2 dL_feed_15 h6 hA104 (rg_in (⟨by decide, by decide⟩ : Rg 0 0 0)) hG102 (Or.inr (by decide)) (by decide) (fun S110 hG111 hA112 e113 f114 er115 ej116 ei116 => ?_)
  refine tt_goto (tgt := 27) dL_feed_16 rfl ?_
  refine tt_iconst (v := 0) dL_feed_27 rfl ?_
  exact tt_ireturn dL_feed_28 .int rfl rfl (hP _ _ _ _ ⟨hG111, hA112, _, rfl, ⟨rfl, fun c hc => ⟨(congrArg Int32.toInt (congrFun (congrFun e113 65) c)).trans (hx105.1 c hc).1, out_x ej116 (congrFun (congrFun e113 65) c) (hx105.1 c hc).2, fun ab hq => ⟨(congrFun ei116 ab).trans (hx105.2 c ab hc hq).1, fun q h1 h2 => (congrFun ei116 q).trans ((hx105.2 c ab hc hq).2 q h1 h2)⟩⟩⟩⟩)
theorem rb_u {s c : Int32} (hs : Rg 0 200 s) (hc : Rg 0 15 c) : (s + c).toInt = s.toInt + c.toInt := by
  obtain ⟨s1, s2⟩ := hs
  obtain ⟨c1, c2⟩ := hc
  rw [Int32.toInt_add, bmod_in (by omega) (by omega)]
set_option maxHeartbeats 4000000 in
theorem cb_X10_feed {xi : SX} {S : Hp} {E : List Nat} {kc nc : Nat} {P : Po} {o0 : Nat} {x1 : Int32} {x2 : Int32} {x3 : Int32} {x4 : Int32} {x5 : Int32} (hG : GI S E) (h0 : Oa S E 10 0 o0) {am : Nat} (ham : hp_R S 641 o0 = some am) (hom : Oa S E 32 200 am) (hP : ∀ r T x y, PV E [640, 642, 653, 663, 664, 9988, 9995, 9997] S kc nc (rI (-2147483648) 2147483647) (fun v T => (((¬ hp_I S 663 o0 = 0 → ¬ hp_I S 664 o0 = -1) → ¬ hp_I T 663 o0 = 0 → ¬ hp_I T 664 o0 = -1) ∧ ((hp_I T 640 o0 = 1 ∧ ¬ Rg 0 16 x1 ∧ hp_I T 642 o0 = hp_I S 642 o0) ∨ (hp_I T 640 o0 = 2 ∧ Rg 0 16 x1 ∧ 200 < (hp_I S 642 o0).toInt + x1.toInt ∧ hp_I T 642 o0 = hp_I S 642 o0) ∨ (hp_I T 640 o0 = 0 ∧ Rg 0 16 x1 ∧ (hp_I S 642 o0).toInt + x1.toInt ≤ 200 ∧ (hp_I T 642 o0).toInt = (hp_I S 642 o0).toInt + x1.toInt)) ∧ (hp_I T 640 o0 = 0 → v = some (.int (hp_I T 642 o0)))) ∧ (hp_I T 640 o0 = 0 → Bw S T E am (hp_I S 642 o0) (GR x2 x3 x4 x5) x1) ∧ (¬ hp_I T 640 o0 = 0 → ∀ q, Oa S E 32 200 q → hp_i T q = hp_i S q)) [] r T x y → P r T x y) : TT xi M_X10_feed 0 [(0, .ref o0), (1, .int x1), (2, .int x2), (3, .int x3), (4, .int x4), (5, .int x5)] [] S kc nc P := by
  have hA : Af E [640, 642, 653, 663, 664, 9988, 9995, 9997] S S := af_rf
  refine tt_aload_n (j := 0) dX10_feed_0 rfl ?_
  refine tt_iload_n (j := 1) dX10_feed_1 rfl ?_
  refine tt_i2l dX10_feed_2 ?_
  refine tt_lconst (v := 0) dX10_feed_3 rfl ?_
  refine tt_ldc2 (v := 16) dX10_feed_4 kl_10_65 ?_
  refine gt_SIp (As := [.long (x1 : Int32).toInt64, .long 0, .long 16]) dX10_feed_7 ca_X10_67 ⟨by decide, by decide⟩ hA (Nat.le_of_ble_eq_true rfl) (Nat.le_of_ble_eq_true rfl) (by decide) (cs_X10_isIn hG  (fun _ _ _ _ h => h)) rfl (fun _ h => nomatch h) (fun _ _ q => q.1) (fun x106 h107 hx105 => ?_)
  refine tt_if_ne (tgt := 17) dX10_feed_10 rfl (fun q108 => ?_) (fun q108 => ?_)
  · skip
    have h109 : Rg 1 1 x106 := rg_ne_lo h107 (⟨by decide, by decide⟩ : Rg 0 0 0) q108
    have h110 : Rl 0 16 (x1 : Int32).toInt64 := in_rl ((fun z e => (hx105.2 z e).1) _ rfl q108) (⟨by decide, by decide⟩ : Rl 0 0 0) (⟨by decide, by decide⟩ : Rl 16 16 16)
    have h111 : Rg 0 16 x1 := rg_of_l h110
    refine tt_aload_n (j := 0) dX10_feed_17 rfl ?_
    refine tt_getI (id := 642) dX10_feed_18 fl_10_71 rfl rfl (ob_af h0 hA) ?_
    refine tt_iload_n (j := 1) dX10_feed_21 rfl ?_
    refine tt_iadd dX10_feed_22 ?_
    refine tt_sipush (v := 200) dX10_feed_23 rfl ?_
    refine tt_icmp_le (tgt := 33) dX10_feed_26 rfl (fun q112 => ?_) (fun q112 => ?_)
    · skip
      have h113 : Rg 0 200 ((hp_I S 642 o0) + x1) := rg_le_l (rg_add (lo := 0) (hi := 216) (gi_I (k := 642) hG (oa_af h0 hA) 0 200) h111) (⟨by decide, by decide⟩ : Rg 200 200 200) q112
      refine tt_iconst (v := 0) dX10_feed_33 rfl ?_
      refine gt_VI (As := [.int 0]) dX10_feed_34 ca_X10_74 ⟨by decide, by decide⟩ h0 hA rfl (Nat.le_of_ble_eq_true rfl) (Nat.le_of_ble_eq_true rfl) (by decide) (cs_X10_refused hG (oa_af h0 hA) (fun _ _ _ _ h => h)) rfl (fun _ h => nomatch h) (fun S114 x119 h120 hx118 hG115 hB116 hA117 => ?_)
      obtain rfl := (hx118.1 _ rfl).trans (show bI (0 < (0 : Int32)) = 0 by decide)
      refine tt_if_eq (tgt := 42) dX10_feed_37 rfl (fun _ => ?_) (fun q => absurd q (by decide))
      refine tt_aload_n (j := 0) dX10_feed_42 rfl ?_
      refine gt_Vv (As := []) dX10_feed_43 ca_X10_78 ⟨by decide, by decide⟩ h0 hA117 rfl (Nat.le_of_ble_eq_true rfl) (Nat.le_of_ble_eq_true rfl) (by decide) (cs_X10_forget hG115 (oa_af h0 hA117) (fun _ _ _ _ h => h)) rfl (fun _ h => nomatch h) (fun S121 hx125 hG122 hB123 hA124 => ?_)
      refine tt_iconst (v := 0) dX10_feed_46 rfl ?_
      refine tt_istore (ks := [0, 1, 2, 3, 4, 5, 6]) (L' := [(6, .int 0), (0, .ref o0), (1, .int x1), (2, .int x2), (3, .int x3), (4, .int x4), (5, .int x5)]) dX10_feed_47 (by decide) rfl ?_
      have B126 : ∀ (nn : Nat) (S127 : Hp) (x130 : Int32), (2147483648 - x130.toInt).toNat = nn → GI S127 E → Af E [640, 642, 653, 663, 664, 9988, 9995, 9997] S S127 → Rg 0 24 x130 → hp_I S127 642 o0 = ((hp_I S 642 o0) + x130) → hp_I S127 663 o0 = 0 → (x130 : Int32).toInt ≤ x1.toInt → hp_I S127 640 o0 = 0 → Bw S S127 E am (hp_I S 642 o0) (GR x2 x3 x4 x5) x130 → TT xi M_X10_feed 49 [(0, .ref o0), (1, .int x1), (2, .int x2), (3, .int x3), (4, .int x4), (5, .int x5), (6, .int x130)] [] S127 kc nc P := by
        intro nn
        induction nn using Nat.strongRecOn with
        | ind nn ihB126 =>
          intro S127 x130 hmB126 hG128 hA129 h131 hl132 hl133 hl134 hl135 hbw
          subst hmB126
          refine tt_iload (j := 6) dX10_feed_49 rfl ?_
          refine tt_iload_n (j := 1) dX10_feed_51 rfl ?_
          refine tt_icmp_ge (tgt := 134) dX10_feed_52 rfl (fun q136 => ?_) (fun q136 => ?_)
          · skip
            refine tt_aload_n (j := 0) dX10_feed_134 rfl ?_
            refine gt_gI (id := 642) (v := ((hp_I S 642 o0) + x130)) dX10_feed_135 fl_10_71 rfl rfl h0 hA129 hl132 ?_
            exact tt_ireturn dX10_feed_138 .int rfl rfl (hP _ _ _ _ ⟨hG128, hA129, Or.inl ⟨_, rfl, ⟨_, rfl, rg_w (rg_all ((hp_I S 642 o0) + x130))⟩, ⟨⟨(fun _ q => absurd hl133 q), Or.inr (Or.inr ⟨hl135, rg_w h111, fd_le (gi_I (k := 642) hG (oa_af h0 hA) 0 200) (rg_w h111) q112, fd_m hl132 hl134 q136 (gi_I (k := 642) hG (oa_af h0 hA) 0 200) (rg_w h111)⟩), fun _ => congrArg (fun q => some (Value.int q)) (Eq.symm hl132)⟩, fun _ => bw_e1 hbw (Or.inl hl134) q136 h131, fun q => absurd hl135 q⟩, rfl, rfl⟩⟩)
          · skip
            have h137 : Rg 0 199 ((hp_I S 642 o0) + x130) := feed_rg h131 (nle_lt q136) h111 h113 (gi_I (k := 642) hG (oa_af h0 hA) 0 200)
            have h138 : Rg 0 15 x130 := rg_lt_l h131 h111 (nle_lt q136)
            have h139 : Rg 1 16 x1 := rg_lt_r h131 h111 (nle_lt q136)
            refine tt_iload (j := 6) dX10_feed_55 rfl ?_
            refine tt_iconst (v := 4) dX10_feed_57 rfl ?_
            have B140 : ∀ (x141 : Int32), x141 = cel x2 x3 x4 x5 x130 → TT xi M_X10_feed 90 [(0, .ref o0), (1, .int x1), (2, .int x2), (3, .int x3), (4, .int x4), (5, .int x5), (6, .int x130)] [.int x141] S127 kc nc P := by
              intro x141 hcel
              refine tt_istore (ks := [0, 1, 2, 3, 4, 5, 6, 7]) (L' := [(7, .int x141), (0, .ref o0), (1, .int x1), (2, .int x2), (3, .int x3), (4, .int x4), (5, .int x5), (6, .int x130)]) dX10_feed_90 (by decide) rfl ?_
              refine tt_aload_n (j := 1) dX10_feed_92 rfl ?_
              skip
              refine gt_gR (id := 641) dX10_feed_93 fl_10_7 rfl rfl h0 hA129 ham ?_
              refine tt_aload_n (j := 1) dX10_feed_96 rfl ?_
              refine gt_gI (id := 642) (v := ((hp_I S 642 o0) + x130)) dX10_feed_97 fl_10_71 rfl rfl h0 hA129 hl132 ?_
              refine tt_iload (j := 0) dX10_feed_100 rfl ?_
              refine tt_bipush (v := 24) dX10_feed_102 rfl ?_
              refine tt_bipush (v := 8) dX10_feed_104 rfl ?_
              refine tt_iload (j := 7) dX10_feed_106 rfl ?_
              refine tt_iconst (v := 4) dX10_feed_108 rfl ?_
              refine tt_irem dX10_feed_109 (by decide) ?_
              refine tt_imul dX10_feed_110 ?_
              refine tt_isub dX10_feed_111 ?_
              refine tt_ishr dX10_feed_112 ?_
              refine tt_sipush (v := 255) dX10_feed_113 rfl ?_
              refine tt_iand dX10_feed_116 ?_
              refine gt_iSb dX10_feed_117 hom hA129 (Or.inr (by decide)) (rg_in h137) hG128 (by decide) (fun S146 hG147 hA148 e149 f150 er151 bi1 => ?_)
              refine tt_aload_n (j := 1) dX10_feed_118 rfl ?_
              refine tt_dup dX10_feed_119 rfl ?_
              refine gt_gI (id := 642) (v := ((hp_I S 642 o0) + x130)) dX10_feed_120 fl_10_71 rfl rfl h0 hA148 ((congrFun (congrFun e149 642) o0).trans hl132) ?_
              refine tt_iconst (v := 1) dX10_feed_123 rfl ?_
              refine tt_iadd dX10_feed_124 ?_
              refine gt_pIb (id := 642) (x := (((hp_I S 642 o0) + x130) + 1)) dX10_feed_125 fl_10_71 rfl rfl h0 hA148 rfl rfl rfl (gp_Ir hG147 (rg_add (lo := 1) (hi := 200) h137 (⟨by decide, by decide⟩ : Rg 1 1 1))) (by decide) (fun h => absurd h (by decide)) (fun h => absurd h (by decide)) (fun S152 hG153 hA154 e155 f156 er157 bi2 => ?_)
              refine tt_iinc (j := 7) (v := (x130 + 1)) (ks := [0, 1, 2, 3, 4, 5, 6, 7]) (L' := [(6, .int (x130 + 1)), (7, .int x141), (0, .ref o0), (1, .int x1), (2, .int x2), (3, .int x3), (4, .int x4), (5, .int x5)]) dX10_feed_128 rfl rfl (by decide) rfl ?_
              refine tt_goto (tgt := 49) dX10_feed_131 rfl ?_
              exact tt_loc (ks := [2, 3, 4, 5, 6, 7, 0]) rfl (ihB126 _ (rg_up h138) S152 (x130 + 1) rfl hG153 hA154 (rg_w (rg_add (lo := 1) (hi := 16) h138 (⟨by decide, by decide⟩ : Rg 1 1 1))) (Eq.trans (by rw [e155]; exact up2_self) (Int32.add_assoc _ _ _)) ((congrFun (congrFun e155 663) o0).trans ((congrFun (up2_ne (k := 663)) o0).trans ((congrFun (congrFun e149 663) o0).trans hl133))) (fd_b (nle_lt q136)) ((congrFun (congrFun e155 640) o0).trans ((congrFun (up2_ne (k := 640)) o0).trans ((congrFun (congrFun e149 640) o0).trans hl135))) (bw_s hbw (gr_c h138.1 hcel rfl) bi1 bi2 (rb_u (gi_I (k := 642) hG (oa_af h0 hA) 0 200) h138) (gi_I (k := 642) hG h0 0 200).1 h138))
            refine tt_icmp_ge (tgt := 65) dX10_feed_58 rfl (fun q158 => ?_) (fun q158 => ?_)
            · skip
              have h159 : Rg 4 15 x130 := rg_le_r (⟨by decide, by decide⟩ : Rg 4 4 4) h138 q158
              refine tt_iload (j := 6) dX10_feed_65 rfl ?_
              refine tt_bipush (v := 8) dX10_feed_67 rfl ?_
              refine tt_icmp_ge (tgt := 76) dX10_feed_69 rfl (fun q160 => ?_) (fun q160 => ?_)
              · skip
                have h161 : Rg 8 15 x130 := rg_le_r (⟨by decide, by decide⟩ : Rg 8 8 8) h159 q160
                refine tt_iload (j := 6) dX10_feed_76 rfl ?_
                refine tt_bipush (v := 12) dX10_feed_78 rfl ?_
                refine tt_icmp_ge (tgt := 88) dX10_feed_80 rfl (fun q162 => ?_) (fun q162 => ?_)
                · skip
                  have h163 : Rg 12 15 x130 := rg_le_r (⟨by decide, by decide⟩ : Rg 12 12 12) h161 q162
                  refine tt_iload (j := 5) dX10_feed_88 rfl ?_
                  exact B140 x5 (cel_4 (Int32.not_lt.mpr q158) (Int32.not_lt.mpr q160) (Int32.not_lt.mpr q162))
                · skip
                  have h164 : Rg 8 11 x130 := rg_lt_l h161 (⟨by decide, by decide⟩ : Rg 12 12 12) (nle_lt q162)
                  refine tt_iload (j := 4) dX10_feed_83 rfl ?_
                  refine tt_goto (tgt := 90) dX10_feed_85 rfl ?_
                  exact B140 x4 (cel_3 (Int32.not_lt.mpr q158) (Int32.not_lt.mpr q160) (nle_lt q162))
              · skip
                have h165 : Rg 4 7 x130 := rg_lt_l h159 (⟨by decide, by decide⟩ : Rg 8 8 8) (nle_lt q160)
                refine tt_iload_n (j := 3) dX10_feed_72 rfl ?_
                refine tt_goto (tgt := 90) dX10_feed_73 rfl ?_
                exact B140 x3 (cel_2 (Int32.not_lt.mpr q158) (nle_lt q160))
            · skip
              have h166 : Rg 0 3 x130 := rg_lt_l h138 (⟨by decide, by decide⟩ : Rg 4 4 4) (nle_lt q158)
              refine tt_iload_n (j := 2) dX10_feed_61 rfl ?_
              refine tt_goto (tgt := 90) dX10_feed_62 rfl ?_
              exact B140 x2 (cel_1 (nle_lt q158))
      exact tt_loc (ks := [1, 2, 3, 4, 5, 6, 0]) rfl (B126 _ S121 0 rfl hG122 hA124 (rg_w (⟨by decide, by decide⟩ : Rg 0 0 0)) (Eq.trans ((i_af (k := 642) (oa_af h0 hA117) hB123).trans ((i_af (k := 642) (oa_af h0 hA) hB116).trans rfl)) (Int32.add_zero _).symm) hx125 (fd_e h111) ((i_af (k := 640) (oa_af h0 hA117) hB123).trans hx118.2) ⟨(b_af (oa_af hom hA117) hB123).trans ((b_af hom hB116).trans wb_0.symm), fun q hq _ => (b_af (oa_af hq hA117) hB123).trans (b_af hq hB116)⟩)
    · skip
      have h167 : Rg 201 216 ((hp_I S 642 o0) + x1) := rg_lt_r (⟨by decide, by decide⟩ : Rg 200 200 200) (rg_add (lo := 0) (hi := 216) (gi_I (k := 642) hG (oa_af h0 hA) 0 200) h111) (nle_lt q112)
      refine tt_iconst (v := 2) dX10_feed_29 rfl ?_
      refine tt_goto (tgt := 34) dX10_feed_30 rfl ?_
      refine gt_VI (As := [.int 2]) dX10_feed_34 ca_X10_74 ⟨by decide, by decide⟩ h0 hA rfl (Nat.le_of_ble_eq_true rfl) (Nat.le_of_ble_eq_true rfl) (by decide) (cs_X10_refused hG (oa_af h0 hA) (fun _ _ _ _ h => h)) rfl (fun _ h => nomatch h) (fun S168 x173 h174 hx172 hG169 hB170 hA171 => ?_)
      obtain rfl := (hx172.1 _ rfl).trans (show bI (0 < (2 : Int32)) = 1 by decide)
      refine tt_if_eq (tgt := 42) dX10_feed_37 rfl (fun q => absurd q (by decide)) (fun _ => ?_)
      refine tt_iconst (v := 0) dX10_feed_40 rfl ?_
      exact tt_ireturn dX10_feed_41 .int rfl rfl (hP _ _ _ _ ⟨hG169, hA171, Or.inl ⟨_, rfl, ⟨_, rfl, rg_w (⟨by decide, by decide⟩ : Rg 0 0 0)⟩, ⟨⟨(fun h q e => h (fun e2 => q (Eq.trans ((i_af (k := 663) (oa_af h0 hA) hB170).trans rfl) e2)) (Eq.trans (Eq.symm ((i_af (k := 664) (oa_af h0 hA) hB170).trans rfl)) e)), Or.inr (Or.inl ⟨hx172.2, rg_w h111, fd_gt (gi_I (k := 642) hG (oa_af h0 hA) 0 200) (rg_w h111) (nle_lt q112), ((i_af (k := 642) (oa_af h0 hA) hB170).trans rfl)⟩), fun q => absurd (Eq.trans (Eq.symm hx172.2) q) (by decide)⟩, fun q => absurd (Eq.trans (Eq.symm hx172.2) q) (by decide), fun _ q hq => b_af hq hB170⟩, rfl, rfl⟩⟩)
  · skip
    have h175 : Rg 0 0 x106 := rg_eq_l h107 (⟨by decide, by decide⟩ : Rg 0 0 0) q108
    refine tt_iconst (v := 1) dX10_feed_13 rfl ?_
    refine tt_goto (tgt := 34) dX10_feed_14 rfl ?_
    refine gt_VI (As := [.int 1]) dX10_feed_34 ca_X10_74 ⟨by decide, by decide⟩ h0 hA rfl (Nat.le_of_ble_eq_true rfl) (Nat.le_of_ble_eq_true rfl) (by decide) (cs_X10_refused hG (oa_af h0 hA) (fun _ _ _ _ h => h)) rfl (fun _ h => nomatch h) (fun S176 x181 h182 hx180 hG177 hB178 hA179 => ?_)
    obtain rfl := (hx180.1 _ rfl).trans (show bI (0 < (1 : Int32)) = 1 by decide)
    refine tt_if_eq (tgt := 42) dX10_feed_37 rfl (fun q => absurd q (by decide)) (fun _ => ?_)
    refine tt_iconst (v := 0) dX10_feed_40 rfl ?_
    exact tt_ireturn dX10_feed_41 .int rfl rfl (hP _ _ _ _ ⟨hG177, hA179, Or.inl ⟨_, rfl, ⟨_, rfl, rg_w (⟨by decide, by decide⟩ : Rg 0 0 0)⟩, ⟨⟨(fun h q e => h (fun e2 => q (Eq.trans ((i_af (k := 663) (oa_af h0 hA) hB178).trans rfl) e2)) (Eq.trans (Eq.symm ((i_af (k := 664) (oa_af h0 hA) hB178).trans rfl)) e)), Or.inl ⟨hx180.2, fd_nin ((hx105.2 _ rfl).2 q108), ((i_af (k := 642) (oa_af h0 hA) hB178).trans rfl)⟩, fun q => absurd (Eq.trans (Eq.symm hx180.2) q) (by decide)⟩, fun q => absurd (Eq.trans (Eq.symm hx180.2) q) (by decide), fun _ q hq => b_af hq hB178⟩, rfl, rfl⟩⟩)
theorem sh_8 (x : Int32) (s : Int32) (n : Nat) (e1 : s.toBitVec.toNat = n) (hn : n ≤ 24) : (x.toUInt32 >>> s.toUInt32).toInt32 &&& 255 = (x >>> s) &&& 255 := by
  apply Int32.toBitVec_inj.mp
  have a : ((x.toUInt32 >>> s.toUInt32).toInt32 &&& 255).toBitVec = (x.toBitVec >>> n) &&& 255#32 := by
    have h : (x.toUInt32 >>> s.toUInt32).toBitVec = x.toBitVec >>> n := by
      rw [UInt32.toBitVec_shiftRight]
      have e : (s.toUInt32.toBitVec % 32).toNat = n := by
        rw [BitVec.toNat_umod]
        show s.toBitVec.toNat % 32 = n
        omega
      show x.toBitVec >>> (s.toUInt32.toBitVec % 32) = _
      rw [BitVec.ushiftRight_eq', e]
    show (x.toUInt32 >>> s.toUInt32).toBitVec &&& 255#32 = _
    rw [h]
  have b : ((x >>> s) &&& 255).toBitVec = (x.toBitVec.sshiftRight n) &&& 255#32 := by
    have h : (x >>> s).toBitVec = x.toBitVec.sshiftRight n := by
      rw [Int32.toBitVec_shiftRight]
      have e : (s.toBitVec.smod 32).toNat = n := by
        have : s.toBitVec = BitVec.ofNat 32 n := BitVec.eq_of_toNat_eq (by rw [e1, BitVec.toNat_ofNat, Nat.mod_eq_of_lt (by omega)])
        rw [this]
        have hd : ∀ k : Fin 25, ((BitVec.ofNat 32 k.val).smod 32).toNat = k.val := by decide +kernel
        exact hd ⟨n, by omega⟩
      show x.toBitVec.sshiftRight' (s.toBitVec.smod 32) = _
      rw [BitVec.sshiftRight_eq', e]
    show (x >>> s).toBitVec &&& 255#32 = _
    rw [h]
  rw [a, b, sh_bv _ _ hn]
theorem gcr (a b c d : Int32) : ∀ k, k < 16 → GC a b c d k = GR a b c d k := by
  intro k hk
  have hg : ∀ x : Int32, ∀ i : Fin 4, gc x i.val = (x >>> ((24 - (8 * Int32.ofNat i.val)) &&& 31)) &&& 255 := by
    intro x i
    have hd : ∀ i : Fin 4, (((24 - (8 * Int32.ofNat i.val)) &&& 31) : Int32).toBitVec.toNat = 24 - 8 * i.val := by decide +kernel
    exact sh_8 x ((24 - (8 * Int32.ofNat i.val)) &&& 31) _ (hd i) (by omega)
  have hs : ∀ k : Fin 16, ((24 - (8 * (Int32.ofNat k.val - Int32.ofNat k.val / 4 * 4))) &&& 31 : Int32) = ((24 - (8 * Int32.ofNat (k.val % 4))) &&& 31 : Int32) := by decide +kernel
  have hl : ∀ k : Fin 16, (Int32.ofNat k.val < 4 ↔ k.val < 4) ∧ (Int32.ofNat k.val < 8 ↔ k.val < 8) ∧ (Int32.ofNat k.val < 12 ↔ k.val < 12) := by decide +kernel
  obtain ⟨l1, l2, l3⟩ := hl ⟨k, hk⟩
  have hs' := hs ⟨k, hk⟩
  dsimp only at l1 l2 l3 hs'
  unfold GC GR
  rw [hs']
  by_cases c1 : k < 4
  · rw [if_pos c1, ← cel_1 (l1.mpr c1), show k % 4 = k by omega]; exact hg a ⟨k, c1⟩
  · have n1 : ¬ Int32.ofNat k < 4 := fun q => c1 (l1.mp q)
    rw [if_neg c1]
    by_cases c2 : k < 8
    · rw [if_pos c2, ← cel_2 n1 (l2.mpr c2), show k % 4 = k - 4 by omega]; exact hg b ⟨k - 4, by omega⟩
    · have n2 : ¬ Int32.ofNat k < 8 := fun q => c2 (l2.mp q)
      rw [if_neg c2]
      by_cases c3 : k < 12
      · rw [if_pos c3, ← cel_3 n1 n2 (l3.mpr c3), show k % 4 = k - 8 by omega]; exact hg c ⟨k - 8, by omega⟩
      · have n3 : ¬ Int32.ofNat k < 12 := fun q => c3 (l3.mp q)
        rw [if_neg c3, ← cel_4 n1 n2 n3, show k % 4 = k - 12 by omega]; exact hg d ⟨k - 12, by omega⟩
theorem wb_eq {f g : Nat → Int32} {n m : Nat} {a b c d : Int32} (h : f = g) (hm : m ≤ 16) : wb f n (GC a b c d) m = wb g n (GR a b c d) m := by
  subst h
  funext j
  unfold wb
  by_cases e : n ≤ j ∧ j < n + m
  · rw [if_pos e, if_pos e]; exact gcr a b c d _ (by omega)
  · rw [if_neg e, if_neg e]
theorem wb_rg {f : Nat → Int32} {n m : Nat} {a b c d : Int32} (h : ∀ i, Rg 0 255 (f i)) : ∀ i, Rg 0 255 (wb f n (GR a b c d) m i) := by
  intro j
  unfold wb
  by_cases e : n ≤ j ∧ j < n + m
  · rw [if_pos e]; unfold GR; exact rg_and (⟨by decide, by decide⟩ : Rg 255 255 255)
  · rw [if_neg e]; exact h j
