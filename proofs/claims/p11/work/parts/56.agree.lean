def Z19 (k a b d : Int32) : Prop := (19 ≤ k → a = -1) ∧ (¬ 19 ≤ k → Rg 0 23 a ∧ Rg (-1) 23 b) ∧ (k = 19 → Rg 0 15 d)
abbrev OO (c r : DD) : Prop := (e7 r = 1 ∧ (e2 c = 0 ∨ e7 c = 2 ∨ e7 c = 3)) ∨ (e2 c = 1 ∧ e7 r = 0 ∧ e0 c = e0 r ∧ e7 c = e1 r ∧ e8 c = e2 r ∧ e9 c = e3 r ∧ e10 c = e4 r ∧ e11 c = e5 r ∧ Rg 0 22 (e7 c) ∧ ¬ e7 c = 2 ∧ ¬ e7 c = 3 ∧ Z19 (e7 c) (e9 c) (e10 c) (e11 c) ∧ (eJ c = eJ r ∨ Rg 14 16 (e7 c)))
abbrev WW (c r : DD) : Prop := e7 c = e1 r ∧ e8 c = e2 r ∧ e9 c = e3 r ∧ e10 c = e4 r ∧ e11 c = e5 r ∧ Rg 0 22 (e7 c) ∧ ¬ e7 c = 2 ∧ ¬ e7 c = 3 ∧ Z19 (e7 c) (e9 c) (e10 c) (e11 c)
abbrev QQ (c r : DD) (x : Int32) : Prop := e1 c = x ∧ ((e8 c = 64 ∧ e2 r = 64 ∧ ¬ (x &&& 8) = 0) ∨ (e8 c = 32 ∧ e2 r = 32 ∧ (x &&& 8) = 0)) ∧ (e7 c = 21 ∧ e9 c = -1 ∧ e10 c = -1 ∧ e11 c = 0 ∧ eJ c = 0) ∧ (e1 r = 21 ∧ e3 r = -1 ∧ e4 r = -1 ∧ e5 r = 0 ∧ eJ r = 0)
abbrev IN (c r : DD) (x : Int32) : Prop := (e2 c = 1 ∧ e7 r = 0 ∧ e0 c = e0 r ∧ Rg 0 200 (e0 c)) ∧ QQ c r x
theorem w8 {c r : DD} {x : Int32} (h : QQ c r x) : e8 c = e2 r := h.2.1.elim (fun q => q.1.trans q.2.1.symm) (fun q => q.1.trans q.2.1.symm)
theorem w10 {c r : DD} {x : Int32} (h : QQ c r x) : e10 c = -1 := h.2.2.1.2.2.1
theorem w9 {c r : DD} {x : Int32} (h : QQ c r x) : e9 c = -1 := h.2.2.1.2.1
theorem w11 {c r : DD} {x : Int32} (h : QQ c r x) : e11 c = e5 r := h.2.2.1.2.2.2.1.trans h.2.2.2.2.2.2.1.symm
theorem wJ {c r : DD} {x : Int32} (h : QQ c r x) : eJ c = eJ r := h.2.2.1.2.2.2.2.trans h.2.2.2.2.2.2.2.symm
theorem no19 {lo hi : Int} {k : Int32} {p : Prop} (h : Rg lo hi k) (h2 : hi < 19 := by decide) : 19 ≤ k → p := fun q => by
  have a := Int32.le_iff_toInt_le.mp q
  rw [show (19 : Int32).toInt = 19 from rfl] at a
  have b := h.2
  omega
theorem z19 {lo hi : Int} {k a b d : Int32} (h : Rg lo hi k) (ha : Rg 0 23 a) (hb : Rg (-1) 23 b) (h2 : hi < 19 := by decide) : Z19 k a b d := ⟨no19 h h2, fun _ => ⟨ha, hb⟩, fun q => by
  subst q
  have := h.2
  have e : (19 : Int32).toInt = 19 := rfl
  omega⟩
theorem z19j {k a b d : Int32} (hk : 19 ≤ k) (ha : a = -1) (hd : k = 19 → Rg 0 15 d) : Z19 k a b d := ⟨fun _ => ha, fun q => absurd hk q, hd⟩
theorem rg15 {b : Int32} (h0 : ¬ b < 0) (h15 : ¬ 15 < b) : Rg 0 15 b := by
  rw [Int32.lt_iff_toInt_lt, show (0 : Int32).toInt = 0 from rfl] at h0
  rw [Int32.lt_iff_toInt_lt, show (15 : Int32).toInt = 15 from rfl] at h15
  exact ⟨by omega, by omega⟩
theorem simp0 {k : Int32} (h : F_X10_isSimple k = 0) : k = 2 ∨ k = 3 := by
  by_cases h2 : k = 2
  · exact Or.inl h2
  · by_cases h3 : k = 3
    · exact Or.inr h3
    · rw [q_X10_isSimple_2 h2 h3] at h; exact absurd h (by decide)
theorem simp2 {k : Int32} (h : ¬ F_X10_isSimple k = 0) : ¬ k = 2 := fun q => h (q_X10_isSimple_0 q)
theorem simp3 {k : Int32} (h : ¬ F_X10_isSimple k = 0) : ¬ k = 3 := fun q => h (q_X10_isSimple_1 (simp2 h) q)
abbrev shp (v : Int32) : Prop := ((num1 v : Int64).toInt32 &&& (64 - 1)) = (v &&& 63) ∧ ((num1 v : Int64).toInt32 &&& (32 - 1)) = (v &&& 31)
set_option maxRecDepth 100000 in
theorem sh_ok {v : Int32} (h : Rg 0 255 v) : shp v := by256 (p := shp) (by decide +kernel) h
theorem gt3 {k : Int32} (h : Rg 0 7 k) (h0 : ¬ k = 0) (h1 : ¬ k = 1) (h2 : ¬ k = 2) (h3 : ¬ k = 3) : ¬ k ≤ 3 := fun q => by
  have a := Int32.le_iff_toInt_le.mp q
  rw [show (3 : Int32).toInt = 3 from rfl] at a
  have b := h.1
  have c0 : k.toInt ≠ 0 := fun e => h0 (Int32.toInt_inj.mp e)
  have c1 : k.toInt ≠ 1 := fun e => h1 (Int32.toInt_inj.mp e)
  have c2 : k.toInt ≠ 2 := fun e => h2 (Int32.toInt_inj.mp e)
  have c3 : k.toInt ≠ 3 := fun e => h3 (Int32.toInt_inj.mp e)
  omega
section AH
variable {bs : Nat → Int32} {n : Int32}
theorem pl_in (hn : Rg 0 200 n) (hB : ∀ i, Rg 0 255 (bs i)) {c r : DD} {x : Int32} (h : IN c r x) : PP (F_X3_readPlace bs n c) (F_X10_readPlaces bs n r x) ∧ QQ (F_X3_readPlace bs n c) (F_X10_readPlaces bs n r x) x := by
  obtain ⟨hg, q1, q8, ⟨q7, q9, q10, q11, qJ⟩, ⟨s1, s3, s4, s5, sJ⟩⟩ := h
  obtain ⟨a1, a6, a7, a8, a9, a10, a11, aJ⟩ := kp_rp (bs := bs) (n := n) c
  obtain ⟨b1, b2, b3, b4, b5, b6, bJ⟩ := kq_rp (bs := bs) (n := n) r x
  exact ⟨pl hn hB (Or.inr hg) q1 (q8.imp (fun q => ⟨q.1, q.2.2⟩) (fun q => ⟨q.1, q.2.2⟩)), a1.trans q1, q8.imp (fun q => ⟨a8.trans q.1, b2.trans q.2.1, q.2.2⟩) (fun q => ⟨a8.trans q.1, b2.trans q.2.1, q.2.2⟩), ⟨a7.trans q7, a9.trans q9, a10.trans q10, a11.trans q11, aJ.trans qJ⟩, ⟨b1.trans s1, b3.trans s3, b4.trans s4, b5.trans s5, bJ.trans sJ⟩⟩
theorem num_bad1 {c r : DD} (h1 : e7 r = 1) (h2 : e2 c = 0 ∨ e7 c = 2 ∨ e7 c = 3) : OO (e0 (F_X3_readNumber_1 bs n c).1, e1 (F_X3_readNumber_1 bs n c).1, e2 (F_X3_readNumber_1 bs n c).1, e3 (F_X3_readNumber_1 bs n c).1, e4 (F_X3_readNumber_1 bs n c).1, e5 (F_X3_readNumber_1 bs n c).1, e6 (F_X3_readNumber_1 bs n c).1, e7 (F_X3_readNumber_1 bs n c).1, e8 (F_X3_readNumber_1 bs n c).1, e9 (F_X3_readNumber_1 bs n c).1, e10 (F_X3_readNumber_1 bs n c).1, e11 (F_X3_readNumber_1 bs n c).1, (F_X3_readNumber_1 bs n c).2) (e0 (F_X10_number_1 bs n r).1, e1 (F_X10_number_1 bs n r).1, e2 (F_X10_number_1 bs n r).1, e3 (F_X10_number_1 bs n r).1, e4 (F_X10_number_1 bs n r).1, e5 (F_X10_number_1 bs n r).1, e6 (F_X10_number_1 bs n r).1, e7 (F_X10_number_1 bs n r).1, e8 (F_X10_number_1 bs n r).1, e9 (F_X10_number_1 bs n r).1, e10 (F_X10_number_1 bs n r).1, e11 (F_X10_number_1 bs n r).1, (F_X10_number_1 bs n r).2) := by
  obtain ⟨k1, k3, k4, k5, k6, k7, k8, k9, k10, k11, kJ⟩ := kc_rn1 (bs := bs) (n := n) c
  have za := rn1_1 (bs := bs) (n := n) h1
  have zb := rn1_0 (bs := bs) (n := n) (c := c)
  generalize F_X3_readNumber_1 bs n c = zC at *
  generalize F_X10_number_1 bs n r = zR at *
  exact Or.inl ⟨za, h2.imp zb (Or.imp k7.trans k7.trans)⟩
theorem num_oo1 (hn : Rg 0 200 n) (hB : ∀ i, Rg 0 255 (bs i)) {c r : DD} (h : GG c r) (hw : e2 c = 1 → WW c r) : OO (e0 (F_X3_readNumber_1 bs n c).1, e1 (F_X3_readNumber_1 bs n c).1, e2 (F_X3_readNumber_1 bs n c).1, e3 (F_X3_readNumber_1 bs n c).1, e4 (F_X3_readNumber_1 bs n c).1, e5 (F_X3_readNumber_1 bs n c).1, e6 (F_X3_readNumber_1 bs n c).1, e7 (F_X3_readNumber_1 bs n c).1, e8 (F_X3_readNumber_1 bs n c).1, e9 (F_X3_readNumber_1 bs n c).1, e10 (F_X3_readNumber_1 bs n c).1, e11 (F_X3_readNumber_1 bs n c).1, (F_X3_readNumber_1 bs n c).2) (e0 (F_X10_number_1 bs n r).1, e1 (F_X10_number_1 bs n r).1, e2 (F_X10_number_1 bs n r).1, e3 (F_X10_number_1 bs n r).1, e4 (F_X10_number_1 bs n r).1, e5 (F_X10_number_1 bs n r).1, e6 (F_X10_number_1 bs n r).1, e7 (F_X10_number_1 bs n r).1, e8 (F_X10_number_1 bs n r).1, e9 (F_X10_number_1 bs n r).1, e10 (F_X10_number_1 bs n r).1, e11 (F_X10_number_1 bs n r).1, (F_X10_number_1 bs n r).2) := by
  obtain ⟨g, v⟩ := rn1 (bs := bs) hn hB h
  obtain ⟨k1, k3, k4, k5, k6, k7, k8, k9, k10, k11, kJ⟩ := kc_rn1 (bs := bs) (n := n) c
  obtain ⟨r1, r2, r3, r4, r5, r6, r8, r9, r10, r11, rJ⟩ := kr_rn1 (bs := bs) (n := n) r
  generalize F_X3_readNumber_1 bs n c = zC at *
  generalize F_X10_number_1 bs n r = zR at *
  rcases g with ⟨b1, b2⟩ | ⟨g2, g7, g0, gr⟩
  · exact Or.inl ⟨b2, Or.inl b1⟩
  · obtain ⟨s, ev⟩ := v g2
    obtain ⟨w7, w8, w9, w10, w11, wr, wn2, wn3, w19⟩ := hw s
    have y19 : Z19 (e7 zC.1) (e9 zC.1) (e10 zC.1) (e11 zC.1) := by rw [k7, k9, k10, k11]; exact w19
    have hj : (e0 zC.1 : Int32).toInt64 + zC.2 = zR.2 + (e0 zR.1 : Int32).toInt64 := by rw [ev, g0, Int64.add_comm]
    exact Or.inr ⟨g2, g7, g0, k7.trans (w7.trans r1.symm), k8.trans (w8.trans r2.symm), k9.trans (w9.trans r3.symm), k10.trans (w10.trans r4.symm), k11.trans (w11.trans r5.symm), rg_cast k7 wr, fun q => wn2 (k7.symm.trans q), fun q => wn3 (k7.symm.trans q), y19, Or.inl ev⟩
theorem numj_bad1 {c r : DD} (h1 : e7 r = 1) (h2 : e2 c = 0 ∨ e7 c = 2 ∨ e7 c = 3) : OO (e0 (F_X3_readNumber_1 bs n c).1, e1 (F_X3_readNumber_1 bs n c).1, e2 (F_X3_readNumber_1 bs n c).1, e3 (F_X3_readNumber_1 bs n c).1, e4 (F_X3_readNumber_1 bs n c).1, e5 (F_X3_readNumber_1 bs n c).1, e6 (F_X3_readNumber_1 bs n c).1, e7 (F_X3_readNumber_1 bs n c).1, e8 (F_X3_readNumber_1 bs n c).1, e9 (F_X3_readNumber_1 bs n c).1, e10 (F_X3_readNumber_1 bs n c).1, e11 (F_X3_readNumber_1 bs n c).1, ((e0 (F_X3_readNumber_1 bs n c).1 : Int32).toInt64 + (F_X3_readNumber_1 bs n c).2)) (e0 (F_X10_number_1 bs n r).1, e1 (F_X10_number_1 bs n r).1, e2 (F_X10_number_1 bs n r).1, e3 (F_X10_number_1 bs n r).1, e4 (F_X10_number_1 bs n r).1, e5 (F_X10_number_1 bs n r).1, e6 (F_X10_number_1 bs n r).1, e7 (F_X10_number_1 bs n r).1, e8 (F_X10_number_1 bs n r).1, e9 (F_X10_number_1 bs n r).1, e10 (F_X10_number_1 bs n r).1, e11 (F_X10_number_1 bs n r).1, ((F_X10_number_1 bs n r).2 + (e0 (F_X10_number_1 bs n r).1 : Int32).toInt64)) := by
  obtain ⟨k1, k3, k4, k5, k6, k7, k8, k9, k10, k11, kJ⟩ := kc_rn1 (bs := bs) (n := n) c
  have za := rn1_1 (bs := bs) (n := n) h1
  have zb := rn1_0 (bs := bs) (n := n) (c := c)
  generalize F_X3_readNumber_1 bs n c = zC at *
  generalize F_X10_number_1 bs n r = zR at *
  exact Or.inl ⟨za, h2.imp zb (Or.imp k7.trans k7.trans)⟩
theorem numj_oo1 (hn : Rg 0 200 n) (hB : ∀ i, Rg 0 255 (bs i)) {c r : DD} (h : GG c r) (hw : e2 c = 1 → WW c r) : OO (e0 (F_X3_readNumber_1 bs n c).1, e1 (F_X3_readNumber_1 bs n c).1, e2 (F_X3_readNumber_1 bs n c).1, e3 (F_X3_readNumber_1 bs n c).1, e4 (F_X3_readNumber_1 bs n c).1, e5 (F_X3_readNumber_1 bs n c).1, e6 (F_X3_readNumber_1 bs n c).1, e7 (F_X3_readNumber_1 bs n c).1, e8 (F_X3_readNumber_1 bs n c).1, e9 (F_X3_readNumber_1 bs n c).1, e10 (F_X3_readNumber_1 bs n c).1, e11 (F_X3_readNumber_1 bs n c).1, ((e0 (F_X3_readNumber_1 bs n c).1 : Int32).toInt64 + (F_X3_readNumber_1 bs n c).2)) (e0 (F_X10_number_1 bs n r).1, e1 (F_X10_number_1 bs n r).1, e2 (F_X10_number_1 bs n r).1, e3 (F_X10_number_1 bs n r).1, e4 (F_X10_number_1 bs n r).1, e5 (F_X10_number_1 bs n r).1, e6 (F_X10_number_1 bs n r).1, e7 (F_X10_number_1 bs n r).1, e8 (F_X10_number_1 bs n r).1, e9 (F_X10_number_1 bs n r).1, e10 (F_X10_number_1 bs n r).1, e11 (F_X10_number_1 bs n r).1, ((F_X10_number_1 bs n r).2 + (e0 (F_X10_number_1 bs n r).1 : Int32).toInt64)) := by
  obtain ⟨g, v⟩ := rn1 (bs := bs) hn hB h
  obtain ⟨k1, k3, k4, k5, k6, k7, k8, k9, k10, k11, kJ⟩ := kc_rn1 (bs := bs) (n := n) c
  obtain ⟨r1, r2, r3, r4, r5, r6, r8, r9, r10, r11, rJ⟩ := kr_rn1 (bs := bs) (n := n) r
  generalize F_X3_readNumber_1 bs n c = zC at *
  generalize F_X10_number_1 bs n r = zR at *
  rcases g with ⟨b1, b2⟩ | ⟨g2, g7, g0, gr⟩
  · exact Or.inl ⟨b2, Or.inl b1⟩
  · obtain ⟨s, ev⟩ := v g2
    obtain ⟨w7, w8, w9, w10, w11, wr, wn2, wn3, w19⟩ := hw s
    have y19 : Z19 (e7 zC.1) (e9 zC.1) (e10 zC.1) (e11 zC.1) := by rw [k7, k9, k10, k11]; exact w19
    have hj : (e0 zC.1 : Int32).toInt64 + zC.2 = zR.2 + (e0 zR.1 : Int32).toInt64 := by rw [ev, g0, Int64.add_comm]
    exact Or.inr ⟨g2, g7, g0, k7.trans (w7.trans r1.symm), k8.trans (w8.trans r2.symm), k9.trans (w9.trans r3.symm), k10.trans (w10.trans r4.symm), k11.trans (w11.trans r5.symm), rg_cast k7 wr, fun q => wn2 (k7.symm.trans q), fun q => wn3 (k7.symm.trans q), y19, Or.inl hj⟩
theorem num_bad4 {c r : DD} (h1 : e7 r = 1) (h2 : e2 c = 0 ∨ e7 c = 2 ∨ e7 c = 3) : OO (e0 (F_X3_readNumber_4 bs n c).1, e1 (F_X3_readNumber_4 bs n c).1, e2 (F_X3_readNumber_4 bs n c).1, e3 (F_X3_readNumber_4 bs n c).1, e4 (F_X3_readNumber_4 bs n c).1, e5 (F_X3_readNumber_4 bs n c).1, e6 (F_X3_readNumber_4 bs n c).1, e7 (F_X3_readNumber_4 bs n c).1, e8 (F_X3_readNumber_4 bs n c).1, e9 (F_X3_readNumber_4 bs n c).1, e10 (F_X3_readNumber_4 bs n c).1, e11 (F_X3_readNumber_4 bs n c).1, (F_X3_readNumber_4 bs n c).2) (e0 (F_X10_number_4 bs n r).1, e1 (F_X10_number_4 bs n r).1, e2 (F_X10_number_4 bs n r).1, e3 (F_X10_number_4 bs n r).1, e4 (F_X10_number_4 bs n r).1, e5 (F_X10_number_4 bs n r).1, e6 (F_X10_number_4 bs n r).1, e7 (F_X10_number_4 bs n r).1, e8 (F_X10_number_4 bs n r).1, e9 (F_X10_number_4 bs n r).1, e10 (F_X10_number_4 bs n r).1, e11 (F_X10_number_4 bs n r).1, (F_X10_number_4 bs n r).2) := by
  obtain ⟨k1, k3, k4, k5, k6, k7, k8, k9, k10, k11, kJ⟩ := kc_rn4 (bs := bs) (n := n) c
  have za := rn4_1 (bs := bs) (n := n) h1
  have zb := rn4_0 (bs := bs) (n := n) (c := c)
  generalize F_X3_readNumber_4 bs n c = zC at *
  generalize F_X10_number_4 bs n r = zR at *
  exact Or.inl ⟨za, h2.imp zb (Or.imp k7.trans k7.trans)⟩
theorem num_oo4 (hn : Rg 0 200 n) (hB : ∀ i, Rg 0 255 (bs i)) {c r : DD} (h : GG c r) (hw : e2 c = 1 → WW c r) : OO (e0 (F_X3_readNumber_4 bs n c).1, e1 (F_X3_readNumber_4 bs n c).1, e2 (F_X3_readNumber_4 bs n c).1, e3 (F_X3_readNumber_4 bs n c).1, e4 (F_X3_readNumber_4 bs n c).1, e5 (F_X3_readNumber_4 bs n c).1, e6 (F_X3_readNumber_4 bs n c).1, e7 (F_X3_readNumber_4 bs n c).1, e8 (F_X3_readNumber_4 bs n c).1, e9 (F_X3_readNumber_4 bs n c).1, e10 (F_X3_readNumber_4 bs n c).1, e11 (F_X3_readNumber_4 bs n c).1, (F_X3_readNumber_4 bs n c).2) (e0 (F_X10_number_4 bs n r).1, e1 (F_X10_number_4 bs n r).1, e2 (F_X10_number_4 bs n r).1, e3 (F_X10_number_4 bs n r).1, e4 (F_X10_number_4 bs n r).1, e5 (F_X10_number_4 bs n r).1, e6 (F_X10_number_4 bs n r).1, e7 (F_X10_number_4 bs n r).1, e8 (F_X10_number_4 bs n r).1, e9 (F_X10_number_4 bs n r).1, e10 (F_X10_number_4 bs n r).1, e11 (F_X10_number_4 bs n r).1, (F_X10_number_4 bs n r).2) := by
  obtain ⟨g, v⟩ := rn4 (bs := bs) hn hB h
  obtain ⟨k1, k3, k4, k5, k6, k7, k8, k9, k10, k11, kJ⟩ := kc_rn4 (bs := bs) (n := n) c
  obtain ⟨r1, r2, r3, r4, r5, r6, r8, r9, r10, r11, rJ⟩ := kr_rn4 (bs := bs) (n := n) r
  generalize F_X3_readNumber_4 bs n c = zC at *
  generalize F_X10_number_4 bs n r = zR at *
  rcases g with ⟨b1, b2⟩ | ⟨g2, g7, g0, gr⟩
  · exact Or.inl ⟨b2, Or.inl b1⟩
  · obtain ⟨s, ev⟩ := v g2
    obtain ⟨w7, w8, w9, w10, w11, wr, wn2, wn3, w19⟩ := hw s
    have y19 : Z19 (e7 zC.1) (e9 zC.1) (e10 zC.1) (e11 zC.1) := by rw [k7, k9, k10, k11]; exact w19
    have hj : (e0 zC.1 : Int32).toInt64 + zC.2 = zR.2 + (e0 zR.1 : Int32).toInt64 := by rw [ev, g0, Int64.add_comm]
    exact Or.inr ⟨g2, g7, g0, k7.trans (w7.trans r1.symm), k8.trans (w8.trans r2.symm), k9.trans (w9.trans r3.symm), k10.trans (w10.trans r4.symm), k11.trans (w11.trans r5.symm), rg_cast k7 wr, fun q => wn2 (k7.symm.trans q), fun q => wn3 (k7.symm.trans q), y19, Or.inl ev⟩
theorem numj_bad4 {c r : DD} (h1 : e7 r = 1) (h2 : e2 c = 0 ∨ e7 c = 2 ∨ e7 c = 3) : OO (e0 (F_X3_readNumber_4 bs n c).1, e1 (F_X3_readNumber_4 bs n c).1, e2 (F_X3_readNumber_4 bs n c).1, e3 (F_X3_readNumber_4 bs n c).1, e4 (F_X3_readNumber_4 bs n c).1, e5 (F_X3_readNumber_4 bs n c).1, e6 (F_X3_readNumber_4 bs n c).1, e7 (F_X3_readNumber_4 bs n c).1, e8 (F_X3_readNumber_4 bs n c).1, e9 (F_X3_readNumber_4 bs n c).1, e10 (F_X3_readNumber_4 bs n c).1, e11 (F_X3_readNumber_4 bs n c).1, ((e0 (F_X3_readNumber_4 bs n c).1 : Int32).toInt64 + (F_X3_readNumber_4 bs n c).2)) (e0 (F_X10_number_4 bs n r).1, e1 (F_X10_number_4 bs n r).1, e2 (F_X10_number_4 bs n r).1, e3 (F_X10_number_4 bs n r).1, e4 (F_X10_number_4 bs n r).1, e5 (F_X10_number_4 bs n r).1, e6 (F_X10_number_4 bs n r).1, e7 (F_X10_number_4 bs n r).1, e8 (F_X10_number_4 bs n r).1, e9 (F_X10_number_4 bs n r).1, e10 (F_X10_number_4 bs n r).1, e11 (F_X10_number_4 bs n r).1, ((F_X10_number_4 bs n r).2 + (e0 (F_X10_number_4 bs n r).1 : Int32).toInt64)) := by
  obtain ⟨k1, k3, k4, k5, k6, k7, k8, k9, k10, k11, kJ⟩ := kc_rn4 (bs := bs) (n := n) c
  have za := rn4_1 (bs := bs) (n := n) h1
  have zb := rn4_0 (bs := bs) (n := n) (c := c)
  generalize F_X3_readNumber_4 bs n c = zC at *
  generalize F_X10_number_4 bs n r = zR at *
  exact Or.inl ⟨za, h2.imp zb (Or.imp k7.trans k7.trans)⟩
theorem numj_oo4 (hn : Rg 0 200 n) (hB : ∀ i, Rg 0 255 (bs i)) {c r : DD} (h : GG c r) (hw : e2 c = 1 → WW c r) : OO (e0 (F_X3_readNumber_4 bs n c).1, e1 (F_X3_readNumber_4 bs n c).1, e2 (F_X3_readNumber_4 bs n c).1, e3 (F_X3_readNumber_4 bs n c).1, e4 (F_X3_readNumber_4 bs n c).1, e5 (F_X3_readNumber_4 bs n c).1, e6 (F_X3_readNumber_4 bs n c).1, e7 (F_X3_readNumber_4 bs n c).1, e8 (F_X3_readNumber_4 bs n c).1, e9 (F_X3_readNumber_4 bs n c).1, e10 (F_X3_readNumber_4 bs n c).1, e11 (F_X3_readNumber_4 bs n c).1, ((e0 (F_X3_readNumber_4 bs n c).1 : Int32).toInt64 + (F_X3_readNumber_4 bs n c).2)) (e0 (F_X10_number_4 bs n r).1, e1 (F_X10_number_4 bs n r).1, e2 (F_X10_number_4 bs n r).1, e3 (F_X10_number_4 bs n r).1, e4 (F_X10_number_4 bs n r).1, e5 (F_X10_number_4 bs n r).1, e6 (F_X10_number_4 bs n r).1, e7 (F_X10_number_4 bs n r).1, e8 (F_X10_number_4 bs n r).1, e9 (F_X10_number_4 bs n r).1, e10 (F_X10_number_4 bs n r).1, e11 (F_X10_number_4 bs n r).1, ((F_X10_number_4 bs n r).2 + (e0 (F_X10_number_4 bs n r).1 : Int32).toInt64)) := by
  obtain ⟨g, v⟩ := rn4 (bs := bs) hn hB h
  obtain ⟨k1, k3, k4, k5, k6, k7, k8, k9, k10, k11, kJ⟩ := kc_rn4 (bs := bs) (n := n) c
  obtain ⟨r1, r2, r3, r4, r5, r6, r8, r9, r10, r11, rJ⟩ := kr_rn4 (bs := bs) (n := n) r
  generalize F_X3_readNumber_4 bs n c = zC at *
  generalize F_X10_number_4 bs n r = zR at *
  rcases g with ⟨b1, b2⟩ | ⟨g2, g7, g0, gr⟩
  · exact Or.inl ⟨b2, Or.inl b1⟩
  · obtain ⟨s, ev⟩ := v g2
    obtain ⟨w7, w8, w9, w10, w11, wr, wn2, wn3, w19⟩ := hw s
    have y19 : Z19 (e7 zC.1) (e9 zC.1) (e10 zC.1) (e11 zC.1) := by rw [k7, k9, k10, k11]; exact w19
    have hj : (e0 zC.1 : Int32).toInt64 + zC.2 = zR.2 + (e0 zR.1 : Int32).toInt64 := by rw [ev, g0, Int64.add_comm]
    exact Or.inr ⟨g2, g7, g0, k7.trans (w7.trans r1.symm), k8.trans (w8.trans r2.symm), k9.trans (w9.trans r3.symm), k10.trans (w10.trans r4.symm), k11.trans (w11.trans r5.symm), rg_cast k7 wr, fun q => wn2 (k7.symm.trans q), fun q => wn3 (k7.symm.trans q), y19, Or.inl hj⟩
theorem num_bad8 {c r : DD} (h1 : e7 r = 1) (h2 : e2 c = 0 ∨ e7 c = 2 ∨ e7 c = 3) : OO (e0 (F_X3_readNumber_8 bs n c).1, e1 (F_X3_readNumber_8 bs n c).1, e2 (F_X3_readNumber_8 bs n c).1, e3 (F_X3_readNumber_8 bs n c).1, e4 (F_X3_readNumber_8 bs n c).1, e5 (F_X3_readNumber_8 bs n c).1, e6 (F_X3_readNumber_8 bs n c).1, e7 (F_X3_readNumber_8 bs n c).1, e8 (F_X3_readNumber_8 bs n c).1, e9 (F_X3_readNumber_8 bs n c).1, e10 (F_X3_readNumber_8 bs n c).1, e11 (F_X3_readNumber_8 bs n c).1, (F_X3_readNumber_8 bs n c).2) (e0 (F_X10_number_8 bs n r).1, e1 (F_X10_number_8 bs n r).1, e2 (F_X10_number_8 bs n r).1, e3 (F_X10_number_8 bs n r).1, e4 (F_X10_number_8 bs n r).1, e5 (F_X10_number_8 bs n r).1, e6 (F_X10_number_8 bs n r).1, e7 (F_X10_number_8 bs n r).1, e8 (F_X10_number_8 bs n r).1, e9 (F_X10_number_8 bs n r).1, e10 (F_X10_number_8 bs n r).1, e11 (F_X10_number_8 bs n r).1, (F_X10_number_8 bs n r).2) := by
  obtain ⟨k1, k3, k4, k5, k6, k7, k8, k9, k10, k11, kJ⟩ := kc_rn8 (bs := bs) (n := n) c
  have za := rn8_1 (bs := bs) (n := n) h1
  have zb := rn8_0 (bs := bs) (n := n) (c := c)
  generalize F_X3_readNumber_8 bs n c = zC at *
  generalize F_X10_number_8 bs n r = zR at *
  exact Or.inl ⟨za, h2.imp zb (Or.imp k7.trans k7.trans)⟩
theorem num_oo8 (hn : Rg 0 200 n) (hB : ∀ i, Rg 0 255 (bs i)) {c r : DD} (h : GG c r) (hw : e2 c = 1 → WW c r) : OO (e0 (F_X3_readNumber_8 bs n c).1, e1 (F_X3_readNumber_8 bs n c).1, e2 (F_X3_readNumber_8 bs n c).1, e3 (F_X3_readNumber_8 bs n c).1, e4 (F_X3_readNumber_8 bs n c).1, e5 (F_X3_readNumber_8 bs n c).1, e6 (F_X3_readNumber_8 bs n c).1, e7 (F_X3_readNumber_8 bs n c).1, e8 (F_X3_readNumber_8 bs n c).1, e9 (F_X3_readNumber_8 bs n c).1, e10 (F_X3_readNumber_8 bs n c).1, e11 (F_X3_readNumber_8 bs n c).1, (F_X3_readNumber_8 bs n c).2) (e0 (F_X10_number_8 bs n r).1, e1 (F_X10_number_8 bs n r).1, e2 (F_X10_number_8 bs n r).1, e3 (F_X10_number_8 bs n r).1, e4 (F_X10_number_8 bs n r).1, e5 (F_X10_number_8 bs n r).1, e6 (F_X10_number_8 bs n r).1, e7 (F_X10_number_8 bs n r).1, e8 (F_X10_number_8 bs n r).1, e9 (F_X10_number_8 bs n r).1, e10 (F_X10_number_8 bs n r).1, e11 (F_X10_number_8 bs n r).1, (F_X10_number_8 bs n r).2) := by
  obtain ⟨g, v⟩ := rn8 (bs := bs) hn hB h
  obtain ⟨k1, k3, k4, k5, k6, k7, k8, k9, k10, k11, kJ⟩ := kc_rn8 (bs := bs) (n := n) c
  obtain ⟨r1, r2, r3, r4, r5, r6, r8, r9, r10, r11, rJ⟩ := kr_rn8 (bs := bs) (n := n) r
  generalize F_X3_readNumber_8 bs n c = zC at *
  generalize F_X10_number_8 bs n r = zR at *
  rcases g with ⟨b1, b2⟩ | ⟨g2, g7, g0, gr⟩
  · exact Or.inl ⟨b2, Or.inl b1⟩
  · obtain ⟨s, ev⟩ := v g2
    obtain ⟨w7, w8, w9, w10, w11, wr, wn2, wn3, w19⟩ := hw s
    have y19 : Z19 (e7 zC.1) (e9 zC.1) (e10 zC.1) (e11 zC.1) := by rw [k7, k9, k10, k11]; exact w19
    have hj : (e0 zC.1 : Int32).toInt64 + zC.2 = zR.2 + (e0 zR.1 : Int32).toInt64 := by rw [ev, g0, Int64.add_comm]
    exact Or.inr ⟨g2, g7, g0, k7.trans (w7.trans r1.symm), k8.trans (w8.trans r2.symm), k9.trans (w9.trans r3.symm), k10.trans (w10.trans r4.symm), k11.trans (w11.trans r5.symm), rg_cast k7 wr, fun q => wn2 (k7.symm.trans q), fun q => wn3 (k7.symm.trans q), y19, Or.inl ev⟩
theorem numj_bad8 {c r : DD} (h1 : e7 r = 1) (h2 : e2 c = 0 ∨ e7 c = 2 ∨ e7 c = 3) : OO (e0 (F_X3_readNumber_8 bs n c).1, e1 (F_X3_readNumber_8 bs n c).1, e2 (F_X3_readNumber_8 bs n c).1, e3 (F_X3_readNumber_8 bs n c).1, e4 (F_X3_readNumber_8 bs n c).1, e5 (F_X3_readNumber_8 bs n c).1, e6 (F_X3_readNumber_8 bs n c).1, e7 (F_X3_readNumber_8 bs n c).1, e8 (F_X3_readNumber_8 bs n c).1, e9 (F_X3_readNumber_8 bs n c).1, e10 (F_X3_readNumber_8 bs n c).1, e11 (F_X3_readNumber_8 bs n c).1, ((e0 (F_X3_readNumber_8 bs n c).1 : Int32).toInt64 + (F_X3_readNumber_8 bs n c).2)) (e0 (F_X10_number_8 bs n r).1, e1 (F_X10_number_8 bs n r).1, e2 (F_X10_number_8 bs n r).1, e3 (F_X10_number_8 bs n r).1, e4 (F_X10_number_8 bs n r).1, e5 (F_X10_number_8 bs n r).1, e6 (F_X10_number_8 bs n r).1, e7 (F_X10_number_8 bs n r).1, e8 (F_X10_number_8 bs n r).1, e9 (F_X10_number_8 bs n r).1, e10 (F_X10_number_8 bs n r).1, e11 (F_X10_number_8 bs n r).1, ((F_X10_number_8 bs n r).2 + (e0 (F_X10_number_8 bs n r).1 : Int32).toInt64)) := by
  obtain ⟨k1, k3, k4, k5, k6, k7, k8, k9, k10, k11, kJ⟩ := kc_rn8 (bs := bs) (n := n) c
  have za := rn8_1 (bs := bs) (n := n) h1
  have zb := rn8_0 (bs := bs) (n := n) (c := c)
  generalize F_X3_readNumber_8 bs n c = zC at *
  generalize F_X10_number_8 bs n r = zR at *
  exact Or.inl ⟨za, h2.imp zb (Or.imp k7.trans k7.trans)⟩
theorem numj_oo8 (hn : Rg 0 200 n) (hB : ∀ i, Rg 0 255 (bs i)) {c r : DD} (h : GG c r) (hw : e2 c = 1 → WW c r) : OO (e0 (F_X3_readNumber_8 bs n c).1, e1 (F_X3_readNumber_8 bs n c).1, e2 (F_X3_readNumber_8 bs n c).1, e3 (F_X3_readNumber_8 bs n c).1, e4 (F_X3_readNumber_8 bs n c).1, e5 (F_X3_readNumber_8 bs n c).1, e6 (F_X3_readNumber_8 bs n c).1, e7 (F_X3_readNumber_8 bs n c).1, e8 (F_X3_readNumber_8 bs n c).1, e9 (F_X3_readNumber_8 bs n c).1, e10 (F_X3_readNumber_8 bs n c).1, e11 (F_X3_readNumber_8 bs n c).1, ((e0 (F_X3_readNumber_8 bs n c).1 : Int32).toInt64 + (F_X3_readNumber_8 bs n c).2)) (e0 (F_X10_number_8 bs n r).1, e1 (F_X10_number_8 bs n r).1, e2 (F_X10_number_8 bs n r).1, e3 (F_X10_number_8 bs n r).1, e4 (F_X10_number_8 bs n r).1, e5 (F_X10_number_8 bs n r).1, e6 (F_X10_number_8 bs n r).1, e7 (F_X10_number_8 bs n r).1, e8 (F_X10_number_8 bs n r).1, e9 (F_X10_number_8 bs n r).1, e10 (F_X10_number_8 bs n r).1, e11 (F_X10_number_8 bs n r).1, ((F_X10_number_8 bs n r).2 + (e0 (F_X10_number_8 bs n r).1 : Int32).toInt64)) := by
  obtain ⟨g, v⟩ := rn8 (bs := bs) hn hB h
  obtain ⟨k1, k3, k4, k5, k6, k7, k8, k9, k10, k11, kJ⟩ := kc_rn8 (bs := bs) (n := n) c
  obtain ⟨r1, r2, r3, r4, r5, r6, r8, r9, r10, r11, rJ⟩ := kr_rn8 (bs := bs) (n := n) r
  generalize F_X3_readNumber_8 bs n c = zC at *
  generalize F_X10_number_8 bs n r = zR at *
  rcases g with ⟨b1, b2⟩ | ⟨g2, g7, g0, gr⟩
  · exact Or.inl ⟨b2, Or.inl b1⟩
  · obtain ⟨s, ev⟩ := v g2
    obtain ⟨w7, w8, w9, w10, w11, wr, wn2, wn3, w19⟩ := hw s
    have y19 : Z19 (e7 zC.1) (e9 zC.1) (e10 zC.1) (e11 zC.1) := by rw [k7, k9, k10, k11]; exact w19
    have hj : (e0 zC.1 : Int32).toInt64 + zC.2 = zR.2 + (e0 zR.1 : Int32).toInt64 := by rw [ev, g0, Int64.add_comm]
    exact Or.inr ⟨g2, g7, g0, k7.trans (w7.trans r1.symm), k8.trans (w8.trans r2.symm), k9.trans (w9.trans r3.symm), k10.trans (w10.trans r4.symm), k11.trans (w11.trans r5.symm), rg_cast k7 wr, fun q => wn2 (k7.symm.trans q), fun q => wn3 (k7.symm.trans q), y19, Or.inl hj⟩
theorem g_pair1 (hn : Rg 0 200 n) (hB : ∀ i, Rg 0 255 (bs i)) {c r : DD} {x : Int32} (h : IN c r x) {b : Int32} (h1 : (b - b / 8 * 8) = 1) (h3 : b >>> (3 &&& 31) = b / 8) (h7 : Rg 0 7 (b / 8)) : OO (F_X3_readPair bs n c (b >>> (3 &&& 31)) 1) (F_X10_readRest_p22 bs n r b x) := by
  obtain ⟨hp, hq⟩ := pl_in (bs := bs) hn hB h
  rw [h3, q_X3_readPair_1 (by decide)]
  rcases hp with ⟨b1, b2⟩ | ⟨p2, p7, p0, pr, p3, p4, p5, pr4, pi, p23, p15⟩
  · rw [q_X10_readRest_p22_2 (by rw [b2]; decide), q_X10_readRest_p53_0 h1]
    generalize F_X3_readPlace bs n c = zP at *
    generalize F_X10_readPlaces bs n r x = zQ at *
    exact Or.inl ⟨rfl, Or.inl b1⟩
  · by_cases s : F_X10_isSimple (b / 8) = 0
    · rw [q_X10_readRest_p22_0 p7 s, q_X10_readRest_p53_0 h1]
      generalize F_X3_readPlace bs n c = zP at *
      generalize F_X10_readPlaces bs n r x = zQ at *
      exact Or.inl ⟨rfl, Or.inr (simp0 s)⟩
    · rw [q_X10_readRest_p22_1 p7 s, q_X10_readRest_p53_0 h1]
      generalize F_X3_readPlace bs n c = zP at *
      generalize F_X10_readPlaces bs n r x = zQ at *
      have y8 := w8 hq
      have y11 := w11 hq
      have yJ := wJ hq
      exact Or.inr ⟨p2, rfl, p0, rfl, y8, p5, p3, y11, rg_w h7, simp2 s, simp3 s, z19 h7 p23 (rg_w p15), Or.inl yJ⟩
theorem g_pair3 (hn : Rg 0 200 n) (hB : ∀ i, Rg 0 255 (bs i)) {c r : DD} {x : Int32} (h : IN c r x) {b : Int32} (h1 : ¬ (b - b / 8 * 8) = 1) (h3 : b >>> (3 &&& 31) = b / 8) (h7 : Rg 0 7 (b / 8)) : OO (F_X3_readPair bs n c (b >>> (3 &&& 31)) 0) (F_X10_readRest_p22 bs n r b x) := by
  obtain ⟨hp, hq⟩ := pl_in (bs := bs) hn hB h
  rw [h3, q_X3_readPair_0 rfl]
  rcases hp with ⟨b1, b2⟩ | ⟨p2, p7, p0, pr, p3, p4, p5, pr4, pi, p23, p15⟩
  · rw [q_X10_readRest_p22_2 (by rw [b2]; decide), q_X10_readRest_p53_1 h1]
    generalize F_X3_readPlace bs n c = zP at *
    generalize F_X10_readPlaces bs n r x = zQ at *
    exact Or.inl ⟨rfl, Or.inl b1⟩
  · by_cases s : F_X10_isSimple (b / 8) = 0
    · rw [q_X10_readRest_p22_0 p7 s, q_X10_readRest_p53_1 h1]
      generalize F_X3_readPlace bs n c = zP at *
      generalize F_X10_readPlaces bs n r x = zQ at *
      exact Or.inl ⟨rfl, Or.inr (simp0 s)⟩
    · rw [q_X10_readRest_p22_1 p7 s, q_X10_readRest_p53_1 h1]
      generalize F_X3_readPlace bs n c = zP at *
      generalize F_X10_readPlaces bs n r x = zQ at *
      have y8 := w8 hq
      have y11 := w11 hq
      have yJ := wJ hq
      exact Or.inr ⟨p2, rfl, p0, rfl, y8, p3, p5, y11, rg_w h7, simp2 s, simp3 s, z19 h7 (rg_w p15) (rg_w p23), Or.inl yJ⟩
theorem g_test (hn : Rg 0 200 n) (hB : ∀ i, Rg 0 255 (bs i)) {c r : DD} {x : Int32} (h : IN c r x) : OO (F_X3_readPair bs n c 8 1) (F_X10_readRest_p190 bs n r 133 x) := by
  obtain ⟨hp, hq⟩ := pl_in (bs := bs) hn hB h
  rw [q_X3_readPair_1 (by decide), q_X10_readRest_p190_0]
  rcases hp with ⟨b1, b2⟩ | ⟨p2, p7, p0, pr, p3, p4, p5, pr4, pi, p23, p15⟩
  · generalize F_X3_readPlace bs n c = zP at *
    generalize F_X10_readPlaces bs n r x = zQ at *
    exact Or.inl ⟨b2, Or.inl b1⟩
  · generalize F_X3_readPlace bs n c = zP at *
    generalize F_X10_readPlaces bs n r x = zQ at *
    have y8 := w8 hq
    have y11 := w11 hq
    have yJ := wJ hq
    exact Or.inr ⟨p2, p7, p0, rfl, y8, p5, p3, y11, (⟨by decide, by decide⟩ : Rg 0 22 8), (by decide : ¬ (8 : Int32) = 2), (by decide : ¬ (8 : Int32) = 3), z19 (⟨by decide, by decide⟩ : Rg 8 8 8) p23 (rg_w p15), Or.inl yJ⟩
theorem g_mov1 (hn : Rg 0 200 n) (hB : ∀ i, Rg 0 255 (bs i)) {c r : DD} {x : Int32} (h : IN c r x) : OO (F_X3_readPair bs n c 13 1) (F_X10_readRest_p391 bs n r 137 x) := by
  obtain ⟨hp, hq⟩ := pl_in (bs := bs) hn hB h
  rw [q_X3_readPair_1 (by decide), q_X10_readRest_p391_0 rfl]
  rcases hp with ⟨b1, b2⟩ | ⟨p2, p7, p0, pr, p3, p4, p5, pr4, pi, p23, p15⟩
  · generalize F_X3_readPlace bs n c = zP at *
    generalize F_X10_readPlaces bs n r x = zQ at *
    exact Or.inl ⟨b2, Or.inl b1⟩
  · generalize F_X3_readPlace bs n c = zP at *
    generalize F_X10_readPlaces bs n r x = zQ at *
    have y8 := w8 hq
    have y11 := w11 hq
    have yJ := wJ hq
    exact Or.inr ⟨p2, p7, p0, rfl, y8, p5, p3, y11, (⟨by decide, by decide⟩ : Rg 0 22 13), (by decide : ¬ (13 : Int32) = 2), (by decide : ¬ (13 : Int32) = 3), z19 (⟨by decide, by decide⟩ : Rg 13 13 13) p23 (rg_w p15), Or.inl yJ⟩
theorem g_mov3 (hn : Rg 0 200 n) (hB : ∀ i, Rg 0 255 (bs i)) {c r : DD} {x : Int32} (h : IN c r x) : OO (F_X3_readPair bs n c 13 0) (F_X10_readRest_p391 bs n r 139 x) := by
  obtain ⟨hp, hq⟩ := pl_in (bs := bs) hn hB h
  rw [q_X3_readPair_0 rfl, q_X10_readRest_p391_1 (by decide)]
  rcases hp with ⟨b1, b2⟩ | ⟨p2, p7, p0, pr, p3, p4, p5, pr4, pi, p23, p15⟩
  · generalize F_X3_readPlace bs n c = zP at *
    generalize F_X10_readPlaces bs n r x = zQ at *
    exact Or.inl ⟨b2, Or.inl b1⟩
  · generalize F_X3_readPlace bs n c = zP at *
    generalize F_X10_readPlaces bs n r x = zQ at *
    have y8 := w8 hq
    have y11 := w11 hq
    have yJ := wJ hq
    exact Or.inr ⟨p2, p7, p0, rfl, y8, p3, p5, y11, (⟨by decide, by decide⟩ : Rg 0 22 13), (by decide : ¬ (13 : Int32) = 2), (by decide : ¬ (13 : Int32) = 3), z19 (⟨by decide, by decide⟩ : Rg 13 13 13) (rg_w p15) (rg_w p23), Or.inl yJ⟩
theorem g_imul (hn : Rg 0 200 n) (hB : ∀ i, Rg 0 255 (bs i)) {c r : DD} {x : Int32} (h : IN c r x) : OO (F_X3_readPair bs n c 17 0) (F_X10_readTwo bs n r 175 x) := by
  obtain ⟨hp, hq⟩ := pl_in (bs := bs) hn hB h
  rw [q_X3_readPair_0 rfl, q_X10_readTwo_0 rfl]
  rcases hp with ⟨b1, b2⟩ | ⟨p2, p7, p0, pr, p3, p4, p5, pr4, pi, p23, p15⟩
  · generalize F_X3_readPlace bs n c = zP at *
    generalize F_X10_readPlaces bs n r x = zQ at *
    exact Or.inl ⟨b2, Or.inl b1⟩
  · generalize F_X3_readPlace bs n c = zP at *
    generalize F_X10_readPlaces bs n r x = zQ at *
    have y8 := w8 hq
    have y11 := w11 hq
    have yJ := wJ hq
    exact Or.inr ⟨p2, p7, p0, rfl, y8, p3, p5, y11, (⟨by decide, by decide⟩ : Rg 0 22 17), (by decide : ¬ (17 : Int32) = 2), (by decide : ¬ (17 : Int32) = 3), z19 (⟨by decide, by decide⟩ : Rg 17 17 17) (rg_w p15) (rg_w p23), Or.inl yJ⟩
theorem g_sign (hn : Rg 0 200 n) (hB : ∀ i, Rg 0 255 (bs i)) {c r : DD} {x : Int32} (h : IN c r x) : OO (F_X3_readSignExtension bs n c) (F_X10_readRest_p688 bs n r 99 x) := by
  obtain ⟨hp, hq⟩ := pl_in (bs := bs) hn hB h
  rcases hp with ⟨b1, b2⟩ | ⟨p2, p7, p0, pr, p3, p4, p5, pr4, pi, p23, p15⟩
  · rw [q_X10_readRest_p688_3 (by rw [b2]; decide), q_X10_readRest_p726_0]
    refine Or.inl ⟨rfl, Or.inl ?_⟩
    by_cases a : e8 (F_X3_readPlace bs n c) = 64
    · by_cases a2 : e5 (F_X3_readPlace bs n c) < 16
      · rw [q_X3_readSignExtension_0 a a2]
        generalize F_X3_readPlace bs n c = zP at *
        generalize F_X10_readPlaces bs n r x = zQ at *
        exact b1
      · rw [q_X3_readSignExtension_1 a a2]
    · rw [q_X3_readSignExtension_2 a]
  · rcases hq.2.1 with ⟨a1, a2, a3⟩ | ⟨a1, a2, a3⟩
    · by_cases a4 : e5 (F_X3_readPlace bs n c) < 16
      · rw [q_X3_readSignExtension_0 a1 a4, q_X10_readRest_p688_1 p7 (by rw [a2]; decide) (pi.mp a4), q_X10_readRest_p726_0]
        generalize F_X3_readPlace bs n c = zP at *
        generalize F_X10_readPlaces bs n r x = zQ at *
        have y8 := w8 hq
        have y11 := w11 hq
        have yJ := wJ hq
        exact Or.inr ⟨p2, rfl, p0, rfl, y8, p3, p5, y11, (⟨by decide, by decide⟩ : Rg 0 22 18), (by decide : ¬ (18 : Int32) = 2), (by decide : ¬ (18 : Int32) = 3), z19 (⟨by decide, by decide⟩ : Rg 18 18 18) (rg_w p15) (rg_w p23), Or.inl yJ⟩
      · rw [q_X3_readSignExtension_1 a1 a4, q_X10_readRest_p688_2 p7 (by rw [a2]; decide) (fun q => a4 (pi.mpr q)), q_X10_readRest_p726_0]
        generalize F_X3_readPlace bs n c = zP at *
        generalize F_X10_readPlaces bs n r x = zQ at *
        exact Or.inl ⟨rfl, Or.inl rfl⟩
    · rw [q_X3_readSignExtension_2 (by rw [a1]; decide), q_X10_readRest_p688_0 p7 a2, q_X10_readRest_p726_0]
      generalize F_X3_readPlace bs n c = zP at *
      generalize F_X10_readPlaces bs n r x = zQ at *
      exact Or.inl ⟨rfl, Or.inl rfl⟩
theorem g_ari4 (hn : Rg 0 200 n) (hB : ∀ i, Rg 0 255 (bs i)) {c r : DD} {x : Int32} (h : IN c r x) : OO (F_X3_readArithmeticWithConstant_4 bs n c) (F_X10_readRest_p116 bs n r 129 x) := by
  obtain ⟨hp, hq⟩ := pl_in (bs := bs) hn hB h
  rw [q_X3_readArithmeticWithConstant_4_0]
  rcases hp with ⟨b1, b2⟩ | ⟨p2, p7, p0, pr, p3, p4, p5, pr4, pi, p23, p15⟩
  · rw [q_X10_readRest_p116_2 (by rw [b2]; decide), q_X10_readRest_p147_0 rfl]
    generalize F_X3_readPlace bs n c = zP at *
    generalize F_X10_readPlaces bs n r x = zQ at *
    exact num_bad4 rfl (Or.inl b1)
  · by_cases s : F_X10_isSimple (e10 (F_X10_readPlaces bs n r x)) = 0
    · rw [q_X10_readRest_p116_0 p7 s, q_X10_readRest_p147_0 rfl]
      generalize F_X3_readPlace bs n c = zP at *
      generalize F_X10_readPlaces bs n r x = zQ at *
      exact num_bad4 rfl (Or.inr ((simp0 s).imp p4.trans p4.trans))
    · rw [q_X10_readRest_p116_1 p7 s, q_X10_readRest_p147_0 rfl]
      generalize F_X3_readPlace bs n c = zP at *
      generalize F_X10_readPlaces bs n r x = zQ at *
      have y8 := w8 hq
      have y10 := w10 hq
      have y11 := w11 hq
      exact num_oo4 hn hB (Or.inr ⟨p2, rfl, p0, pr⟩) (fun _ => ⟨p4, y8, p5, y10, y11, rg_w pr4, fun q => simp2 s (p4.symm.trans q), fun q => simp3 s (p4.symm.trans q), z19 pr4 p23 (rg_cast y10 (⟨by decide, by decide⟩ : Rg (-1) 23 (-1)))⟩)
theorem g_ari1 (hn : Rg 0 200 n) (hB : ∀ i, Rg 0 255 (bs i)) {c r : DD} {x : Int32} (h : IN c r x) : OO (F_X3_readArithmeticWithConstant_1 bs n c) (F_X10_readRest_p116 bs n r 131 x) := by
  obtain ⟨hp, hq⟩ := pl_in (bs := bs) hn hB h
  rw [q_X3_readArithmeticWithConstant_1_0]
  rcases hp with ⟨b1, b2⟩ | ⟨p2, p7, p0, pr, p3, p4, p5, pr4, pi, p23, p15⟩
  · rw [q_X10_readRest_p116_2 (by rw [b2]; decide), q_X10_readRest_p147_1 (by decide)]
    generalize F_X3_readPlace bs n c = zP at *
    generalize F_X10_readPlaces bs n r x = zQ at *
    exact num_bad1 rfl (Or.inl b1)
  · by_cases s : F_X10_isSimple (e10 (F_X10_readPlaces bs n r x)) = 0
    · rw [q_X10_readRest_p116_0 p7 s, q_X10_readRest_p147_1 (by decide)]
      generalize F_X3_readPlace bs n c = zP at *
      generalize F_X10_readPlaces bs n r x = zQ at *
      exact num_bad1 rfl (Or.inr ((simp0 s).imp p4.trans p4.trans))
    · rw [q_X10_readRest_p116_1 p7 s, q_X10_readRest_p147_1 (by decide)]
      generalize F_X3_readPlace bs n c = zP at *
      generalize F_X10_readPlaces bs n r x = zQ at *
      have y8 := w8 hq
      have y10 := w10 hq
      have y11 := w11 hq
      exact num_oo1 hn hB (Or.inr ⟨p2, rfl, p0, pr⟩) (fun _ => ⟨p4, y8, p5, y10, y11, rg_w pr4, fun q => simp2 s (p4.symm.trans q), fun q => simp3 s (p4.symm.trans q), z19 pr4 p23 (rg_cast y10 (⟨by decide, by decide⟩ : Rg (-1) 23 (-1)))⟩)
theorem g_movp (hn : Rg 0 200 n) (hB : ∀ i, Rg 0 255 (bs i)) {c r : DD} {x : Int32} (h : IN c r x) : OO (F_X3_readMoveToPlace bs n c) (F_X10_readRest_p448 bs n r 199 x) := by
  obtain ⟨hp, hq⟩ := pl_in (bs := bs) hn hB h
  have k4 : e4 (F_X3_readNumber_4 bs n (e0 (F_X3_readPlace bs n c), e1 (F_X3_readPlace bs n c), e2 (F_X3_readPlace bs n c), e3 (F_X3_readPlace bs n c), e4 (F_X3_readPlace bs n c), e5 (F_X3_readPlace bs n c), e6 (F_X3_readPlace bs n c), 13, e8 (F_X3_readPlace bs n c), e5 (F_X3_readPlace bs n c), e10 (F_X3_readPlace bs n c), e11 (F_X3_readPlace bs n c), eJ (F_X3_readPlace bs n c))).1 = e4 (F_X3_readPlace bs n c) := (kc_rn4 (bs := bs) (n := n) (e0 (F_X3_readPlace bs n c), e1 (F_X3_readPlace bs n c), e2 (F_X3_readPlace bs n c), e3 (F_X3_readPlace bs n c), e4 (F_X3_readPlace bs n c), e5 (F_X3_readPlace bs n c), e6 (F_X3_readPlace bs n c), 13, e8 (F_X3_readPlace bs n c), e5 (F_X3_readPlace bs n c), e10 (F_X3_readPlace bs n c), e11 (F_X3_readPlace bs n c), eJ (F_X3_readPlace bs n c))).2.2.1
  by_cases z : e4 (F_X3_readPlace bs n c) = 0
  · rw [q_X3_readMoveToPlace_0 (k4.trans z)]
    rcases hp with ⟨b1, b2⟩ | ⟨p2, p7, p0, pr, p3, p4, p5, pr4, pi, p23, p15⟩
    · rw [q_X10_readRest_p448_2 (by rw [b2]; decide), q_X10_readRest_p476_0]
      generalize F_X3_readPlace bs n c = zP at *
      generalize F_X10_readPlaces bs n r x = zQ at *
      exact num_bad4 rfl (Or.inl b1)
    · rw [q_X10_readRest_p448_0 p7 (p4.symm.trans z), q_X10_readRest_p476_0]
      generalize F_X3_readPlace bs n c = zP at *
      generalize F_X10_readPlaces bs n r x = zQ at *
      have y8 := w8 hq
      have y10 := w10 hq
      have y11 := w11 hq
      exact num_oo4 hn hB (Or.inr ⟨p2, rfl, p0, pr⟩) (fun _ => ⟨rfl, y8, p5, y10, y11, (⟨by decide, by decide⟩ : Rg 0 22 13), (by decide : ¬ (13 : Int32) = 2), (by decide : ¬ (13 : Int32) = 3), z19 (⟨by decide, by decide⟩ : Rg 13 13 13) p23 (rg_cast y10 (⟨by decide, by decide⟩ : Rg (-1) 23 (-1)))⟩)
  · rw [q_X3_readMoveToPlace_1 (fun q => z (k4.symm.trans q))]
    rcases hp with ⟨b1, b2⟩ | ⟨p2, p7, p0, pr, p3, p4, p5, pr4, pi, p23, p15⟩
    · rw [q_X10_readRest_p448_2 (by rw [b2]; decide), q_X10_readRest_p476_0]
      have zz := rn4_1 (bs := bs) (n := n) (r := F_X10_take bs n (e0 (F_X10_readPlaces bs n r x), e1 (F_X10_readPlaces bs n r x), e2 (F_X10_readPlaces bs n r x), e3 (F_X10_readPlaces bs n r x), e4 (F_X10_readPlaces bs n r x), e5 (F_X10_readPlaces bs n r x), e6 (F_X10_readPlaces bs n r x), 1, e8 (F_X10_readPlaces bs n r x), e9 (F_X10_readPlaces bs n r x), e10 (F_X10_readPlaces bs n r x), e11 (F_X10_readPlaces bs n r x), eJ (F_X10_readPlaces bs n r x)) 13 (e9 (F_X10_readPlaces bs n r x)) (-1)) rfl
      generalize F_X10_number_4 bs n (F_X10_take bs n (e0 (F_X10_readPlaces bs n r x), e1 (F_X10_readPlaces bs n r x), e2 (F_X10_readPlaces bs n r x), e3 (F_X10_readPlaces bs n r x), e4 (F_X10_readPlaces bs n r x), e5 (F_X10_readPlaces bs n r x), e6 (F_X10_readPlaces bs n r x), 1, e8 (F_X10_readPlaces bs n r x), e9 (F_X10_readPlaces bs n r x), e10 (F_X10_readPlaces bs n r x), e11 (F_X10_readPlaces bs n r x), eJ (F_X10_readPlaces bs n r x)) 13 (e9 (F_X10_readPlaces bs n r x)) (-1)) = zN at zz ⊢
      exact Or.inl ⟨zz, Or.inl rfl⟩
    · rw [q_X10_readRest_p448_1 p7 (fun q => z (p4.trans q)), q_X10_readRest_p476_0]
      have zz := rn4_1 (bs := bs) (n := n) (r := F_X10_take bs n (e0 (F_X10_readPlaces bs n r x), e1 (F_X10_readPlaces bs n r x), e2 (F_X10_readPlaces bs n r x), e3 (F_X10_readPlaces bs n r x), e4 (F_X10_readPlaces bs n r x), e5 (F_X10_readPlaces bs n r x), e6 (F_X10_readPlaces bs n r x), 1, e8 (F_X10_readPlaces bs n r x), e9 (F_X10_readPlaces bs n r x), e10 (F_X10_readPlaces bs n r x), e11 (F_X10_readPlaces bs n r x), eJ (F_X10_readPlaces bs n r x)) 13 (e9 (F_X10_readPlaces bs n r x)) (-1)) rfl
      generalize F_X10_number_4 bs n (F_X10_take bs n (e0 (F_X10_readPlaces bs n r x), e1 (F_X10_readPlaces bs n r x), e2 (F_X10_readPlaces bs n r x), e3 (F_X10_readPlaces bs n r x), e4 (F_X10_readPlaces bs n r x), e5 (F_X10_readPlaces bs n r x), e6 (F_X10_readPlaces bs n r x), 1, e8 (F_X10_readPlaces bs n r x), e9 (F_X10_readPlaces bs n r x), e10 (F_X10_readPlaces bs n r x), e11 (F_X10_readPlaces bs n r x), eJ (F_X10_readPlaces bs n r x)) 13 (e9 (F_X10_readPlaces bs n r x)) (-1)) = zN at zz ⊢
      exact Or.inl ⟨zz, Or.inl rfl⟩
theorem g_mvr (hn : Rg 0 200 n) (hB : ∀ i, Rg 0 255 (bs i)) {c r : DD} {x : Int32} (h : IN c r x) {b : Int32} (hb : b - 184 = b &&& 7) : OO (F_X3_readMoveToRegister bs n c (b &&& 7)) (F_X10_readRest_p513 bs n r b x) := by
  obtain ⟨⟨g2, g7, g0, gr⟩, hq⟩ := h
  by_cases f : (x &&& 1) = 0
  · have f1 : (e1 c &&& 1) = 0 := by rw [hq.1]; exact f
    rcases hq.2.1 with ⟨a1, a2, a3⟩ | ⟨a1, a2, a3⟩
    · rw [q_X3_readMoveToRegister_0 f1 a1, q_X10_readRest_p513_0 f a2]
      have y8 := w8 hq
      have y10 := w10 hq
      have y11 := w11 hq
      exact num_oo8 hn hB (Or.inr ⟨g2, g7, g0, gr⟩) (fun _ => ⟨rfl, y8, (Eq.trans hb.symm (Int32.add_zero _).symm), y10, y11, (⟨by decide, by decide⟩ : Rg 0 22 13), (by decide : ¬ (13 : Int32) = 2), (by decide : ¬ (13 : Int32) = 3), z19 (⟨by decide, by decide⟩ : Rg 13 13 13) (rg_w (rg_and (x := b) (⟨by decide, by decide⟩ : Rg 7 7 7))) (rg_cast y10 (⟨by decide, by decide⟩ : Rg (-1) 23 (-1)))⟩)
    · rw [q_X3_readMoveToRegister_1 f1 (by rw [a1]; decide), q_X10_readRest_p513_1 f (by show ¬ e2 r = 64; rw [a2]; decide)]
      have y8 := w8 hq
      have y10 := w10 hq
      have y11 := w11 hq
      exact num_oo4 hn hB (Or.inr ⟨g2, g7, g0, gr⟩) (fun _ => ⟨rfl, y8, (Eq.trans hb.symm (Int32.add_zero _).symm), y10, y11, (⟨by decide, by decide⟩ : Rg 0 22 13), (by decide : ¬ (13 : Int32) = 2), (by decide : ¬ (13 : Int32) = 3), z19 (⟨by decide, by decide⟩ : Rg 13 13 13) (rg_w (rg_and (x := b) (⟨by decide, by decide⟩ : Rg 7 7 7))) (rg_cast y10 (⟨by decide, by decide⟩ : Rg (-1) 23 (-1)))⟩)
  · have f1 : ¬ (e1 c &&& 1) = 0 := by rw [hq.1]; exact f
    rcases hq.2.1 with ⟨a1, a2, a3⟩ | ⟨a1, a2, a3⟩
    · rw [q_X3_readMoveToRegister_2 f1 a1, q_X10_readRest_p513_2 f a2]
      have y8 := w8 hq
      have y10 := w10 hq
      have y11 := w11 hq
      exact num_oo8 hn hB (Or.inr ⟨g2, g7, g0, gr⟩) (fun _ => ⟨rfl, y8, congrArg (fun q => q + 8) hb.symm, y10, y11, (⟨by decide, by decide⟩ : Rg 0 22 13), (by decide : ¬ (13 : Int32) = 2), (by decide : ¬ (13 : Int32) = 3), z19 (⟨by decide, by decide⟩ : Rg 13 13 13) (rg_w (rg_add (lo := 8) (hi := 15) (rg_and (x := b) (⟨by decide, by decide⟩ : Rg 7 7 7)) (⟨by decide, by decide⟩ : Rg 8 8 8))) (rg_cast y10 (⟨by decide, by decide⟩ : Rg (-1) 23 (-1)))⟩)
    · rw [q_X3_readMoveToRegister_3 f1 (by rw [a1]; decide), q_X10_readRest_p513_3 f (by show ¬ e2 r = 64; rw [a2]; decide)]
      have y8 := w8 hq
      have y10 := w10 hq
      have y11 := w11 hq
      exact num_oo4 hn hB (Or.inr ⟨g2, g7, g0, gr⟩) (fun _ => ⟨rfl, y8, congrArg (fun q => q + 8) hb.symm, y10, y11, (⟨by decide, by decide⟩ : Rg 0 22 13), (by decide : ¬ (13 : Int32) = 2), (by decide : ¬ (13 : Int32) = 3), z19 (⟨by decide, by decide⟩ : Rg 13 13 13) (rg_w (rg_add (lo := 8) (hi := 15) (rg_and (x := b) (⟨by decide, by decide⟩ : Rg 7 7 7)) (⟨by decide, by decide⟩ : Rg 8 8 8))) (rg_cast y10 (⟨by decide, by decide⟩ : Rg (-1) 23 (-1)))⟩)
theorem g_incdec (hn : Rg 0 200 n) (hB : ∀ i, Rg 0 255 (bs i)) {c r : DD} {x : Int32} (h : IN c r x) : OO (F_X3_readIncDec bs n c) (F_X10_readRest_p322 bs n r 255 x) := by
  obtain ⟨hp, hq⟩ := pl_in (bs := bs) hn hB h
  by_cases z : e4 (F_X3_readPlace bs n c) = 0
  · rw [q_X3_readIncDec_0 z (by rw [z]; decide)]
    rcases hp with ⟨b1, b2⟩ | ⟨p2, p7, p0, pr, p3, p4, p5, pr4, pi, p23, p15⟩
    · rw [q_X10_readRest_p322_2 (by rw [b2]; decide)]
      by_cases y : e10 (F_X10_readPlaces bs n r x) = 0
      · rw [q_X10_readRest_p351_0 (d := (e0 (F_X10_readPlaces bs n r x), e1 (F_X10_readPlaces bs n r x), e2 (F_X10_readPlaces bs n r x), e3 (F_X10_readPlaces bs n r x), e4 (F_X10_readPlaces bs n r x), e5 (F_X10_readPlaces bs n r x), e6 (F_X10_readPlaces bs n r x), 1, e8 (F_X10_readPlaces bs n r x), e9 (F_X10_readPlaces bs n r x), e10 (F_X10_readPlaces bs n r x), e11 (F_X10_readPlaces bs n r x), eJ (F_X10_readPlaces bs n r x))) y]
        generalize F_X3_readPlace bs n c = zP at *
        generalize F_X10_readPlaces bs n r x = zQ at *
        exact Or.inl ⟨rfl, Or.inl b1⟩
      · rw [q_X10_readRest_p351_1 (d := (e0 (F_X10_readPlaces bs n r x), e1 (F_X10_readPlaces bs n r x), e2 (F_X10_readPlaces bs n r x), e3 (F_X10_readPlaces bs n r x), e4 (F_X10_readPlaces bs n r x), e5 (F_X10_readPlaces bs n r x), e6 (F_X10_readPlaces bs n r x), 1, e8 (F_X10_readPlaces bs n r x), e9 (F_X10_readPlaces bs n r x), e10 (F_X10_readPlaces bs n r x), e11 (F_X10_readPlaces bs n r x), eJ (F_X10_readPlaces bs n r x))) y]
        generalize F_X3_readPlace bs n c = zP at *
        generalize F_X10_readPlaces bs n r x = zQ at *
        exact Or.inl ⟨rfl, Or.inl b1⟩
    · rw [q_X10_readRest_p322_0 p7 (by rw [← p4, z]; decide), q_X10_readRest_p351_0 (d := (e0 (F_X10_readPlaces bs n r x), e1 (F_X10_readPlaces bs n r x), e2 (F_X10_readPlaces bs n r x), e3 (F_X10_readPlaces bs n r x), e4 (F_X10_readPlaces bs n r x), e5 (F_X10_readPlaces bs n r x), e6 (F_X10_readPlaces bs n r x), 0, e8 (F_X10_readPlaces bs n r x), e9 (F_X10_readPlaces bs n r x), e10 (F_X10_readPlaces bs n r x), e11 (F_X10_readPlaces bs n r x), eJ (F_X10_readPlaces bs n r x))) (p4.symm.trans z)]
      generalize F_X3_readPlace bs n c = zP at *
      generalize F_X10_readPlaces bs n r x = zQ at *
      have y8 := w8 hq
      have y10 := w10 hq
      have y11 := w11 hq
      have yJ := wJ hq
      exact Or.inr ⟨p2, rfl, p0, rfl, y8, p5, y10, y11, (⟨by decide, by decide⟩ : Rg 0 22 11), (by decide : ¬ (11 : Int32) = 2), (by decide : ¬ (11 : Int32) = 3), z19 (⟨by decide, by decide⟩ : Rg 11 11 11) p23 (rg_cast y10 (⟨by decide, by decide⟩ : Rg (-1) 23 (-1))), Or.inl yJ⟩
  · by_cases z1 : e4 (F_X3_readPlace bs n c) ≤ 1
    · rw [q_X3_readIncDec_2 z z1]
      rcases hp with ⟨b1, b2⟩ | ⟨p2, p7, p0, pr, p3, p4, p5, pr4, pi, p23, p15⟩
      · rw [q_X10_readRest_p322_2 (by rw [b2]; decide)]
        by_cases y : e10 (F_X10_readPlaces bs n r x) = 0
        · rw [q_X10_readRest_p351_0 (d := (e0 (F_X10_readPlaces bs n r x), e1 (F_X10_readPlaces bs n r x), e2 (F_X10_readPlaces bs n r x), e3 (F_X10_readPlaces bs n r x), e4 (F_X10_readPlaces bs n r x), e5 (F_X10_readPlaces bs n r x), e6 (F_X10_readPlaces bs n r x), 1, e8 (F_X10_readPlaces bs n r x), e9 (F_X10_readPlaces bs n r x), e10 (F_X10_readPlaces bs n r x), e11 (F_X10_readPlaces bs n r x), eJ (F_X10_readPlaces bs n r x))) y]
          generalize F_X3_readPlace bs n c = zP at *
          generalize F_X10_readPlaces bs n r x = zQ at *
          exact Or.inl ⟨rfl, Or.inl b1⟩
        · rw [q_X10_readRest_p351_1 (d := (e0 (F_X10_readPlaces bs n r x), e1 (F_X10_readPlaces bs n r x), e2 (F_X10_readPlaces bs n r x), e3 (F_X10_readPlaces bs n r x), e4 (F_X10_readPlaces bs n r x), e5 (F_X10_readPlaces bs n r x), e6 (F_X10_readPlaces bs n r x), 1, e8 (F_X10_readPlaces bs n r x), e9 (F_X10_readPlaces bs n r x), e10 (F_X10_readPlaces bs n r x), e11 (F_X10_readPlaces bs n r x), eJ (F_X10_readPlaces bs n r x))) y]
          generalize F_X3_readPlace bs n c = zP at *
          generalize F_X10_readPlaces bs n r x = zQ at *
          exact Or.inl ⟨rfl, Or.inl b1⟩
      · rw [q_X10_readRest_p322_0 p7 (by rw [← p4]; exact z1), q_X10_readRest_p351_1 (d := (e0 (F_X10_readPlaces bs n r x), e1 (F_X10_readPlaces bs n r x), e2 (F_X10_readPlaces bs n r x), e3 (F_X10_readPlaces bs n r x), e4 (F_X10_readPlaces bs n r x), e5 (F_X10_readPlaces bs n r x), e6 (F_X10_readPlaces bs n r x), 0, e8 (F_X10_readPlaces bs n r x), e9 (F_X10_readPlaces bs n r x), e10 (F_X10_readPlaces bs n r x), e11 (F_X10_readPlaces bs n r x), eJ (F_X10_readPlaces bs n r x))) (fun q => z (p4.trans q))]
        generalize F_X3_readPlace bs n c = zP at *
        generalize F_X10_readPlaces bs n r x = zQ at *
        have y8 := w8 hq
        have y10 := w10 hq
        have y11 := w11 hq
        have yJ := wJ hq
        exact Or.inr ⟨p2, rfl, p0, rfl, y8, p5, y10, y11, (⟨by decide, by decide⟩ : Rg 0 22 12), (by decide : ¬ (12 : Int32) = 2), (by decide : ¬ (12 : Int32) = 3), z19 (⟨by decide, by decide⟩ : Rg 12 12 12) p23 (rg_cast y10 (⟨by decide, by decide⟩ : Rg (-1) 23 (-1))), Or.inl yJ⟩
    · rw [q_X3_readIncDec_3 z z1]
      refine Or.inl ⟨?_, Or.inl rfl⟩
      rcases hp with ⟨b1, b2⟩ | ⟨p2, p7, p0, pr, p3, p4, p5, pr4, pi, p23, p15⟩
      · rw [q_X10_readRest_p322_2 (by rw [b2]; decide)]
        by_cases y : e10 (F_X10_readPlaces bs n r x) = 0
        · rw [q_X10_readRest_p351_0 (d := (e0 (F_X10_readPlaces bs n r x), e1 (F_X10_readPlaces bs n r x), e2 (F_X10_readPlaces bs n r x), e3 (F_X10_readPlaces bs n r x), e4 (F_X10_readPlaces bs n r x), e5 (F_X10_readPlaces bs n r x), e6 (F_X10_readPlaces bs n r x), 1, e8 (F_X10_readPlaces bs n r x), e9 (F_X10_readPlaces bs n r x), e10 (F_X10_readPlaces bs n r x), e11 (F_X10_readPlaces bs n r x), eJ (F_X10_readPlaces bs n r x))) y]
          rfl
        · rw [q_X10_readRest_p351_1 (d := (e0 (F_X10_readPlaces bs n r x), e1 (F_X10_readPlaces bs n r x), e2 (F_X10_readPlaces bs n r x), e3 (F_X10_readPlaces bs n r x), e4 (F_X10_readPlaces bs n r x), e5 (F_X10_readPlaces bs n r x), e6 (F_X10_readPlaces bs n r x), 1, e8 (F_X10_readPlaces bs n r x), e9 (F_X10_readPlaces bs n r x), e10 (F_X10_readPlaces bs n r x), e11 (F_X10_readPlaces bs n r x), eJ (F_X10_readPlaces bs n r x))) y]
          rfl
      · rw [q_X10_readRest_p322_1 p7 (by rw [← p4]; exact z1), q_X10_readRest_p351_1 (d := (e0 (F_X10_readPlaces bs n r x), e1 (F_X10_readPlaces bs n r x), e2 (F_X10_readPlaces bs n r x), e3 (F_X10_readPlaces bs n r x), e4 (F_X10_readPlaces bs n r x), e5 (F_X10_readPlaces bs n r x), e6 (F_X10_readPlaces bs n r x), 1, e8 (F_X10_readPlaces bs n r x), e9 (F_X10_readPlaces bs n r x), e10 (F_X10_readPlaces bs n r x), e11 (F_X10_readPlaces bs n r x), eJ (F_X10_readPlaces bs n r x))) (fun q => z (p4.trans q))]
        rfl
theorem p256_bad {r : DD} {x1 x2 : Int32} (h : e7 r = 1) : e7 (F_X10_readRest_p256 bs n r x1 x2) = 1 := by
  by_cases a : e10 r = 0
  · rw [q_X10_readRest_p256_0 a a]
    have zz := rn4_1 (bs := bs) (n := n) (r := F_X10_take bs n r 8 (e9 r) (-1)) h
    generalize F_X10_number_4 bs n (F_X10_take bs n r 8 (e9 r) (-1)) = zN at zz ⊢
    exact zz
  · by_cases a2 : e10 r = 2
    · rw [q_X10_readRest_p256_3 a a2 a]
      exact h
    · rw [q_X10_readRest_p256_5 a a2 a]
      exact h
theorem g_tnn (hn : Rg 0 200 n) (hB : ∀ i, Rg 0 255 (bs i)) {c r : DD} {x : Int32} (h : IN c r x) : OO (F_X3_readTestNotNeg bs n c) (F_X10_readRest_p219 bs n r 247 x) := by
  obtain ⟨hp, hq⟩ := pl_in (bs := bs) hn hB h
  have kb : ¬ e7 (F_X10_readPlaces bs n r x) = 0 → F_X10_readRest_p219 bs n r 247 x = F_X10_readRest_p256 bs n (e0 (F_X10_readPlaces bs n r x), e1 (F_X10_readPlaces bs n r x), e2 (F_X10_readPlaces bs n r x), e3 (F_X10_readPlaces bs n r x), e4 (F_X10_readPlaces bs n r x), e5 (F_X10_readPlaces bs n r x), e6 (F_X10_readPlaces bs n r x), 1, e8 (F_X10_readPlaces bs n r x), e9 (F_X10_readPlaces bs n r x), e10 (F_X10_readPlaces bs n r x), e11 (F_X10_readPlaces bs n r x), eJ (F_X10_readPlaces bs n r x)) 247 x := fun q => q_X10_readRest_p219_3 q
  have eb : e7 (F_X10_readRest_p256 bs n (e0 (F_X10_readPlaces bs n r x), e1 (F_X10_readPlaces bs n r x), e2 (F_X10_readPlaces bs n r x), e3 (F_X10_readPlaces bs n r x), e4 (F_X10_readPlaces bs n r x), e5 (F_X10_readPlaces bs n r x), e6 (F_X10_readPlaces bs n r x), 1, e8 (F_X10_readPlaces bs n r x), e9 (F_X10_readPlaces bs n r x), e10 (F_X10_readPlaces bs n r x), e11 (F_X10_readPlaces bs n r x), eJ (F_X10_readPlaces bs n r x)) 247 x) = 1 := p256_bad rfl
  by_cases z0 : e4 (F_X3_readPlace bs n c) = 0
  · rw [q_X3_readTestNotNeg_0 z0]
    rcases hp with ⟨b1, b2⟩ | ⟨p2, p7, p0, pr, p3, p4, p5, pr4, pi, p23, p15⟩
    · rw [kb (by rw [b2]; decide)]
      have zz := rn4_0 (bs := bs) (n := n) (c := (e0 (F_X3_readPlace bs n c), e1 (F_X3_readPlace bs n c), e2 (F_X3_readPlace bs n c), e3 (F_X3_readPlace bs n c), e4 (F_X3_readPlace bs n c), e5 (F_X3_readPlace bs n c), e6 (F_X3_readPlace bs n c), 8, e8 (F_X3_readPlace bs n c), e5 (F_X3_readPlace bs n c), e10 (F_X3_readPlace bs n c), e11 (F_X3_readPlace bs n c), eJ (F_X3_readPlace bs n c))) b1
      generalize F_X3_readNumber_4 bs n ((e0 (F_X3_readPlace bs n c), e1 (F_X3_readPlace bs n c), e2 (F_X3_readPlace bs n c), e3 (F_X3_readPlace bs n c), e4 (F_X3_readPlace bs n c), e5 (F_X3_readPlace bs n c), e6 (F_X3_readPlace bs n c), 8, e8 (F_X3_readPlace bs n c), e5 (F_X3_readPlace bs n c), e10 (F_X3_readPlace bs n c), e11 (F_X3_readPlace bs n c), eJ (F_X3_readPlace bs n c))) = zN at zz ⊢
      exact Or.inl ⟨eb, Or.inl zz⟩
    · rw [q_X10_readRest_p219_1 p7 (by rw [← p4, z0]; decide) (by rw [← p4, z0]; decide), q_X10_readRest_p256_0 (d := (e0 (F_X10_readPlaces bs n r x), e1 (F_X10_readPlaces bs n r x), e2 (F_X10_readPlaces bs n r x), e3 (F_X10_readPlaces bs n r x), e4 (F_X10_readPlaces bs n r x), e5 (F_X10_readPlaces bs n r x), e6 (F_X10_readPlaces bs n r x), 0, e8 (F_X10_readPlaces bs n r x), e9 (F_X10_readPlaces bs n r x), e10 (F_X10_readPlaces bs n r x), e11 (F_X10_readPlaces bs n r x), eJ (F_X10_readPlaces bs n r x))) (p4.symm.trans z0) (p4.symm.trans z0)]
      generalize F_X3_readPlace bs n c = zP at *
      generalize F_X10_readPlaces bs n r x = zQ at *
      have y8 := w8 hq
      have y10 := w10 hq
      have y11 := w11 hq
      exact num_oo4 hn hB (Or.inr ⟨p2, rfl, p0, pr⟩) (fun _ => ⟨rfl, y8, p5, y10, y11, (⟨by decide, by decide⟩ : Rg 0 22 8), (by decide : ¬ (8 : Int32) = 2), (by decide : ¬ (8 : Int32) = 3), z19 (⟨by decide, by decide⟩ : Rg 8 8 8) p23 (rg_cast y10 (⟨by decide, by decide⟩ : Rg (-1) 23 (-1)))⟩)
  by_cases z1 : e4 (F_X3_readPlace bs n c) = 1
  · rw [q_X3_readTestNotNeg_1 z0 z1]
    refine Or.inl ⟨?_, Or.inl rfl⟩
    rcases hp with ⟨b1, b2⟩ | ⟨p2, p7, p0, pr, p3, p4, p5, pr4, pi, p23, p15⟩
    · rw [kb (by rw [b2]; decide)]
      exact eb
    · rw [q_X10_readRest_p219_0 p7 (p4.symm.trans z1)]
      exact p256_bad rfl
  by_cases z2 : e4 (F_X3_readPlace bs n c) = 2
  · rw [q_X3_readTestNotNeg_2 z0 z1 z2]
    rcases hp with ⟨b1, b2⟩ | ⟨p2, p7, p0, pr, p3, p4, p5, pr4, pi, p23, p15⟩
    · rw [kb (by rw [b2]; decide)]
      generalize F_X3_readPlace bs n c = zP at *
      generalize F_X10_readPlaces bs n r x = zQ at *
      exact Or.inl ⟨eb, Or.inl b1⟩
    · rw [q_X10_readRest_p219_1 p7 (by rw [← p4, z2]; decide) (by rw [← p4, z2]; decide), q_X10_readRest_p256_3 (d := (e0 (F_X10_readPlaces bs n r x), e1 (F_X10_readPlaces bs n r x), e2 (F_X10_readPlaces bs n r x), e3 (F_X10_readPlaces bs n r x), e4 (F_X10_readPlaces bs n r x), e5 (F_X10_readPlaces bs n r x), e6 (F_X10_readPlaces bs n r x), 0, e8 (F_X10_readPlaces bs n r x), e9 (F_X10_readPlaces bs n r x), e10 (F_X10_readPlaces bs n r x), e11 (F_X10_readPlaces bs n r x), eJ (F_X10_readPlaces bs n r x))) (fun q => z0 (p4.trans q)) (p4.symm.trans z2) (fun q => z0 (p4.trans q))]
      generalize F_X3_readPlace bs n c = zP at *
      generalize F_X10_readPlaces bs n r x = zQ at *
      have y8 := w8 hq
      have y10 := w10 hq
      have y11 := w11 hq
      exact Or.inr ⟨p2, rfl, p0, rfl, y8, p5, y10, y11, (⟨by decide, by decide⟩ : Rg 0 22 9), (by decide : ¬ (9 : Int32) = 2), (by decide : ¬ (9 : Int32) = 3), z19 (⟨by decide, by decide⟩ : Rg 9 9 9) p23 (rg_cast y10 (⟨by decide, by decide⟩ : Rg (-1) 23 (-1))), Or.inl hq.2.2.1.2.2.2.2⟩
  by_cases z3 : e4 (F_X3_readPlace bs n c) = 3
  · rw [q_X3_readTestNotNeg_3 z0 z1 z2 z3]
    rcases hp with ⟨b1, b2⟩ | ⟨p2, p7, p0, pr, p3, p4, p5, pr4, pi, p23, p15⟩
    · rw [kb (by rw [b2]; decide)]
      generalize F_X3_readPlace bs n c = zP at *
      generalize F_X10_readPlaces bs n r x = zQ at *
      exact Or.inl ⟨eb, Or.inl b1⟩
    · rw [q_X10_readRest_p219_1 p7 (by rw [← p4, z3]; decide) (by rw [← p4, z3]; decide), q_X10_readRest_p256_5 (d := (e0 (F_X10_readPlaces bs n r x), e1 (F_X10_readPlaces bs n r x), e2 (F_X10_readPlaces bs n r x), e3 (F_X10_readPlaces bs n r x), e4 (F_X10_readPlaces bs n r x), e5 (F_X10_readPlaces bs n r x), e6 (F_X10_readPlaces bs n r x), 0, e8 (F_X10_readPlaces bs n r x), e9 (F_X10_readPlaces bs n r x), e10 (F_X10_readPlaces bs n r x), e11 (F_X10_readPlaces bs n r x), eJ (F_X10_readPlaces bs n r x))) (fun q => z0 (p4.trans q)) (fun q => z2 (p4.trans q)) (fun q => z0 (p4.trans q))]
      generalize F_X3_readPlace bs n c = zP at *
      generalize F_X10_readPlaces bs n r x = zQ at *
      have y8 := w8 hq
      have y10 := w10 hq
      have y11 := w11 hq
      exact Or.inr ⟨p2, rfl, p0, rfl, y8, p5, y10, y11, (⟨by decide, by decide⟩ : Rg 0 22 10), (by decide : ¬ (10 : Int32) = 2), (by decide : ¬ (10 : Int32) = 3), z19 (⟨by decide, by decide⟩ : Rg 10 10 10) p23 (rg_cast y10 (⟨by decide, by decide⟩ : Rg (-1) 23 (-1))), Or.inl hq.2.2.1.2.2.2.2⟩
  · rw [q_X3_readTestNotNeg_4 z0 z1 z2 z3]
    refine Or.inl ⟨?_, Or.inl rfl⟩
    rcases hp with ⟨b1, b2⟩ | ⟨p2, p7, p0, pr, p3, p4, p5, pr4, pi, p23, p15⟩
    · rw [kb (by rw [b2]; decide)]
      exact eb
    · rw [q_X10_readRest_p219_2 p7 (fun q => z1 (p4.trans q)) (by rw [← p4]; exact gt3 pr4 z0 z1 z2 z3)]
      exact p256_bad rfl
theorem sh_oo64 (hn : Rg 0 200 n) (hB : ∀ i, Rg 0 255 (bs i)) {c r : DD} {op : Int32} (ho : Rg 14 16 op) (h : GG c r) (h1 : e1 r = op) (h8 : e8 c = 64) (h2 : e2 r = 64) (h9 : e9 c = e3 r) (h10 : e10 c = e4 r) (ha : Rg 0 23 (e9 c)) (hb : Rg (-1) 23 (e10 c)) : OO (e0 (F_X3_readNumber_1 bs n c).1, e1 (F_X3_readNumber_1 bs n c).1, e2 (F_X3_readNumber_1 bs n c).1, e3 (F_X3_readNumber_1 bs n c).1, e4 (F_X3_readNumber_1 bs n c).1, e5 (F_X3_readNumber_1 bs n c).1, e6 (F_X3_readNumber_1 bs n c).1, op, e8 (F_X3_readNumber_1 bs n c).1, e9 (F_X3_readNumber_1 bs n c).1, e10 (F_X3_readNumber_1 bs n c).1, ((F_X3_readNumber_1 bs n c).2 : Int64).toInt32 &&& (e8 (F_X3_readNumber_1 bs n c).1 - 1), (F_X3_readNumber_1 bs n c).2) (e0 (F_X10_next bs n r).1, e1 (F_X10_next bs n r).1, e2 (F_X10_next bs n r).1, e3 (F_X10_next bs n r).1, e4 (F_X10_next bs n r).1, (F_X10_next bs n r).2 &&& 63, e6 (F_X10_next bs n r).1, e7 (F_X10_next bs n r).1, e8 (F_X10_next bs n r).1, e9 (F_X10_next bs n r).1, e10 (F_X10_next bs n r).1, e11 (F_X10_next bs n r).1, eJ (F_X10_next bs n r).1) := by
  obtain ⟨g, v⟩ := nx (bs := bs) hn hB h
  obtain ⟨k1, k3, k4, k5, k6, k7, k8, k9, k10, k11, kJ⟩ := kc_nb (bs := bs) (n := n) c
  obtain ⟨r1, r2, r3, r4, r5, r6, r8, r9, r10, r11, rJ⟩ := kr_nx (bs := bs) (n := n) r
  rw [q_X3_readNumber_1_0]
  generalize F_X3_nextByte bs n c = zB at *
  generalize F_X10_next bs n r = zY at *
  rcases g with ⟨b1, b2⟩ | ⟨g2, g7, g0, gr⟩
  · exact Or.inl ⟨b2, Or.inl b1⟩
  · obtain ⟨s, ev, er⟩ := v g2
    have hd : (num1 zB.2 : Int64).toInt32 &&& (e8 zB.1 - 1) = zY.2 &&& 63 := by
      rw [k8, h8, (sh_ok er).1, ev]
    have e2x : e8 zB.1 = e2 zY.1 := k8.trans (h8.trans (r2.trans h2).symm)
    exact Or.inr ⟨g2, g7, g0, (r1.trans h1).symm, e2x, k9.trans (h9.trans r3.symm), k10.trans (h10.trans r4.symm), hd, rg_w ho, rg_nec (v := 2) ho, rg_nec (v := 3) ho, z19 ho (rg_cast k9 ha) (rg_cast k10 hb), Or.inr ho⟩
theorem sh_oo32 (hn : Rg 0 200 n) (hB : ∀ i, Rg 0 255 (bs i)) {c r : DD} {op : Int32} (ho : Rg 14 16 op) (h : GG c r) (h1 : e1 r = op) (h8 : e8 c = 32) (h2 : e2 r = 32) (h9 : e9 c = e3 r) (h10 : e10 c = e4 r) (ha : Rg 0 23 (e9 c)) (hb : Rg (-1) 23 (e10 c)) : OO (e0 (F_X3_readNumber_1 bs n c).1, e1 (F_X3_readNumber_1 bs n c).1, e2 (F_X3_readNumber_1 bs n c).1, e3 (F_X3_readNumber_1 bs n c).1, e4 (F_X3_readNumber_1 bs n c).1, e5 (F_X3_readNumber_1 bs n c).1, e6 (F_X3_readNumber_1 bs n c).1, op, e8 (F_X3_readNumber_1 bs n c).1, e9 (F_X3_readNumber_1 bs n c).1, e10 (F_X3_readNumber_1 bs n c).1, ((F_X3_readNumber_1 bs n c).2 : Int64).toInt32 &&& (e8 (F_X3_readNumber_1 bs n c).1 - 1), (F_X3_readNumber_1 bs n c).2) (e0 (F_X10_next bs n r).1, e1 (F_X10_next bs n r).1, e2 (F_X10_next bs n r).1, e3 (F_X10_next bs n r).1, e4 (F_X10_next bs n r).1, (F_X10_next bs n r).2 &&& 31, e6 (F_X10_next bs n r).1, e7 (F_X10_next bs n r).1, e8 (F_X10_next bs n r).1, e9 (F_X10_next bs n r).1, e10 (F_X10_next bs n r).1, e11 (F_X10_next bs n r).1, eJ (F_X10_next bs n r).1) := by
  obtain ⟨g, v⟩ := nx (bs := bs) hn hB h
  obtain ⟨k1, k3, k4, k5, k6, k7, k8, k9, k10, k11, kJ⟩ := kc_nb (bs := bs) (n := n) c
  obtain ⟨r1, r2, r3, r4, r5, r6, r8, r9, r10, r11, rJ⟩ := kr_nx (bs := bs) (n := n) r
  rw [q_X3_readNumber_1_0]
  generalize F_X3_nextByte bs n c = zB at *
  generalize F_X10_next bs n r = zY at *
  rcases g with ⟨b1, b2⟩ | ⟨g2, g7, g0, gr⟩
  · exact Or.inl ⟨b2, Or.inl b1⟩
  · obtain ⟨s, ev, er⟩ := v g2
    have hd : (num1 zB.2 : Int64).toInt32 &&& (e8 zB.1 - 1) = zY.2 &&& 31 := by
      rw [k8, h8, (sh_ok er).2, ev]
    have e2x : e8 zB.1 = e2 zY.1 := k8.trans (h8.trans (r2.trans h2).symm)
    exact Or.inr ⟨g2, g7, g0, (r1.trans h1).symm, e2x, k9.trans (h9.trans r3.symm), k10.trans (h10.trans r4.symm), hd, rg_w ho, rg_nec (v := 2) ho, rg_nec (v := 3) ho, z19 ho (rg_cast k9 ha) (rg_cast k10 hb), Or.inr ho⟩
theorem p617_bad {r : DD} {x1 x2 : Int32} (h : e7 r = 1) : e7 (F_X10_readRest_p617 bs n r x1 x2) = 1 := by
  by_cases a : e10 r = 4
  · by_cases b : e2 (F_X10_next bs n (F_X10_take bs n r 14 (e9 r) (-1))).1 = 64
    · rw [q_X10_readRest_p617_0 a b]
      have zz := nx1 (bs := bs) (n := n) (r := F_X10_take bs n r 14 (e9 r) (-1)) h
      generalize F_X10_next bs n (F_X10_take bs n r 14 (e9 r) (-1)) = zN at zz ⊢
      exact zz
    · rw [q_X10_readRest_p617_1 a b]
      have zz := nx1 (bs := bs) (n := n) (r := F_X10_take bs n r 14 (e9 r) (-1)) h
      generalize F_X10_next bs n (F_X10_take bs n r 14 (e9 r) (-1)) = zN at zz ⊢
      exact zz
  · by_cases a2 : e10 r = 5
    · by_cases b : e2 (F_X10_next bs n (F_X10_take bs n r 15 (e9 r) (-1))).1 = 64
      · rw [q_X10_readRest_p617_2 a a2 b]
        have zz := nx1 (bs := bs) (n := n) (r := F_X10_take bs n r 15 (e9 r) (-1)) h
        generalize F_X10_next bs n (F_X10_take bs n r 15 (e9 r) (-1)) = zN at zz ⊢
        exact zz
      · rw [q_X10_readRest_p617_3 a a2 b]
        have zz := nx1 (bs := bs) (n := n) (r := F_X10_take bs n r 15 (e9 r) (-1)) h
        generalize F_X10_next bs n (F_X10_take bs n r 15 (e9 r) (-1)) = zN at zz ⊢
        exact zz
    · by_cases b : e2 (F_X10_next bs n (F_X10_take bs n r 16 (e9 r) (-1))).1 = 64
      · rw [q_X10_readRest_p617_4 a a2 b]
        have zz := nx1 (bs := bs) (n := n) (r := F_X10_take bs n r 16 (e9 r) (-1)) h
        generalize F_X10_next bs n (F_X10_take bs n r 16 (e9 r) (-1)) = zN at zz ⊢
        exact zz
      · rw [q_X10_readRest_p617_5 a a2 b]
        have zz := nx1 (bs := bs) (n := n) (r := F_X10_take bs n r 16 (e9 r) (-1)) h
        generalize F_X10_next bs n (F_X10_take bs n r 16 (e9 r) (-1)) = zN at zz ⊢
        exact zz
set_option maxHeartbeats 1000000 in
theorem g_shift (hn : Rg 0 200 n) (hB : ∀ i, Rg 0 255 (bs i)) {c r : DD} {x : Int32} (h : IN c r x) : OO (F_X3_readShift bs n c) (F_X10_readRest_p571 bs n r 193 x) := by
  obtain ⟨hp, hq⟩ := pl_in (bs := bs) hn hB h
  have k4 : e4 (F_X3_readNumber_1 bs n (e0 (F_X3_readPlace bs n c), e1 (F_X3_readPlace bs n c), e2 (F_X3_readPlace bs n c), e3 (F_X3_readPlace bs n c), e4 (F_X3_readPlace bs n c), e5 (F_X3_readPlace bs n c), e6 (F_X3_readPlace bs n c), e7 (F_X3_readPlace bs n c), e8 (F_X3_readPlace bs n c), e5 (F_X3_readPlace bs n c), e10 (F_X3_readPlace bs n c), e11 (F_X3_readPlace bs n c), eJ (F_X3_readPlace bs n c))).1 = e4 (F_X3_readPlace bs n c) := (kc_rn1 (bs := bs) (n := n) (e0 (F_X3_readPlace bs n c), e1 (F_X3_readPlace bs n c), e2 (F_X3_readPlace bs n c), e3 (F_X3_readPlace bs n c), e4 (F_X3_readPlace bs n c), e5 (F_X3_readPlace bs n c), e6 (F_X3_readPlace bs n c), e7 (F_X3_readPlace bs n c), e8 (F_X3_readPlace bs n c), e5 (F_X3_readPlace bs n c), e10 (F_X3_readPlace bs n c), e11 (F_X3_readPlace bs n c), eJ (F_X3_readPlace bs n c))).2.2.1
  rcases hp with ⟨b1, b2⟩ | ⟨p2, p7, p0, pr, p3, p4, p5, pr4, pi, p23, p15⟩
  · rw [q_X10_readRest_p571_4 (by rw [b2]; decide)]
    refine Or.inl ⟨p617_bad rfl, Or.inl ?_⟩
    have k0 : e2 (F_X3_readNumber_1 bs n (e0 (F_X3_readPlace bs n c), e1 (F_X3_readPlace bs n c), e2 (F_X3_readPlace bs n c), e3 (F_X3_readPlace bs n c), e4 (F_X3_readPlace bs n c), e5 (F_X3_readPlace bs n c), e6 (F_X3_readPlace bs n c), e7 (F_X3_readPlace bs n c), e8 (F_X3_readPlace bs n c), e5 (F_X3_readPlace bs n c), e10 (F_X3_readPlace bs n c), e11 (F_X3_readPlace bs n c), eJ (F_X3_readPlace bs n c))).1 = 0 := rn1_0 (bs := bs) (n := n) (c := (e0 (F_X3_readPlace bs n c), e1 (F_X3_readPlace bs n c), e2 (F_X3_readPlace bs n c), e3 (F_X3_readPlace bs n c), e4 (F_X3_readPlace bs n c), e5 (F_X3_readPlace bs n c), e6 (F_X3_readPlace bs n c), e7 (F_X3_readPlace bs n c), e8 (F_X3_readPlace bs n c), e5 (F_X3_readPlace bs n c), e10 (F_X3_readPlace bs n c), e11 (F_X3_readPlace bs n c), eJ (F_X3_readPlace bs n c))) b1
    by_cases a4 : e4 (F_X3_readNumber_1 bs n (e0 (F_X3_readPlace bs n c), e1 (F_X3_readPlace bs n c), e2 (F_X3_readPlace bs n c), e3 (F_X3_readPlace bs n c), e4 (F_X3_readPlace bs n c), e5 (F_X3_readPlace bs n c), e6 (F_X3_readPlace bs n c), e7 (F_X3_readPlace bs n c), e8 (F_X3_readPlace bs n c), e5 (F_X3_readPlace bs n c), e10 (F_X3_readPlace bs n c), e11 (F_X3_readPlace bs n c), eJ (F_X3_readPlace bs n c))).1 = 4
    · rw [q_X3_readShift_0 a4]
      generalize F_X3_readPlace bs n c = zP at *
      generalize F_X10_readPlaces bs n r x = zQ at *
      exact k0
    by_cases a5 : e4 (F_X3_readNumber_1 bs n (e0 (F_X3_readPlace bs n c), e1 (F_X3_readPlace bs n c), e2 (F_X3_readPlace bs n c), e3 (F_X3_readPlace bs n c), e4 (F_X3_readPlace bs n c), e5 (F_X3_readPlace bs n c), e6 (F_X3_readPlace bs n c), e7 (F_X3_readPlace bs n c), e8 (F_X3_readPlace bs n c), e5 (F_X3_readPlace bs n c), e10 (F_X3_readPlace bs n c), e11 (F_X3_readPlace bs n c), eJ (F_X3_readPlace bs n c))).1 = 5
    · rw [q_X3_readShift_1 a4 a5]
      generalize F_X3_readPlace bs n c = zP at *
      generalize F_X10_readPlaces bs n r x = zQ at *
      exact k0
    by_cases a6 : e4 (F_X3_readNumber_1 bs n (e0 (F_X3_readPlace bs n c), e1 (F_X3_readPlace bs n c), e2 (F_X3_readPlace bs n c), e3 (F_X3_readPlace bs n c), e4 (F_X3_readPlace bs n c), e5 (F_X3_readPlace bs n c), e6 (F_X3_readPlace bs n c), e7 (F_X3_readPlace bs n c), e8 (F_X3_readPlace bs n c), e5 (F_X3_readPlace bs n c), e10 (F_X3_readPlace bs n c), e11 (F_X3_readPlace bs n c), eJ (F_X3_readPlace bs n c))).1 = 6
    · rw [q_X3_readShift_2 a4 a5 a6]
    by_cases a7 : e4 (F_X3_readNumber_1 bs n (e0 (F_X3_readPlace bs n c), e1 (F_X3_readPlace bs n c), e2 (F_X3_readPlace bs n c), e3 (F_X3_readPlace bs n c), e4 (F_X3_readPlace bs n c), e5 (F_X3_readPlace bs n c), e6 (F_X3_readPlace bs n c), e7 (F_X3_readPlace bs n c), e8 (F_X3_readPlace bs n c), e5 (F_X3_readPlace bs n c), e10 (F_X3_readPlace bs n c), e11 (F_X3_readPlace bs n c), eJ (F_X3_readPlace bs n c))).1 = 7
    · rw [q_X3_readShift_3 a4 a5 a6 a7]
      generalize F_X3_readPlace bs n c = zP at *
      generalize F_X10_readPlaces bs n r x = zQ at *
      exact k0
    · rw [q_X3_readShift_4 a4 a5 a6 a7]
  · by_cases a4 : e4 (F_X3_readPlace bs n c) = 4
    · rw [q_X3_readShift_0 (k4.trans a4), q_X10_readRest_p571_0 p7 (p4.symm.trans a4)]
      rcases hq.2.1 with ⟨c1, c2, c3⟩ | ⟨c1, c2, c3⟩
      · rw [q_X10_readRest_p617_0 (d := (e0 (F_X10_readPlaces bs n r x), e1 (F_X10_readPlaces bs n r x), e2 (F_X10_readPlaces bs n r x), e3 (F_X10_readPlaces bs n r x), e4 (F_X10_readPlaces bs n r x), e5 (F_X10_readPlaces bs n r x), e6 (F_X10_readPlaces bs n r x), 0, e8 (F_X10_readPlaces bs n r x), e9 (F_X10_readPlaces bs n r x), e10 (F_X10_readPlaces bs n r x), e11 (F_X10_readPlaces bs n r x), eJ (F_X10_readPlaces bs n r x))) (p4.symm.trans a4) ((kr_nx _).2.1.trans c2)]
        generalize F_X3_readPlace bs n c = zP at *
        generalize F_X10_readPlaces bs n r x = zQ at *
        have y10 := w10 hq
        exact sh_oo64 hn hB ⟨by decide, by decide⟩ (Or.inr ⟨p2, rfl, p0, pr⟩) rfl c1 c2 p5 y10 p23 (rg_cast y10 (⟨by decide, by decide⟩ : Rg (-1) 23 (-1)))
      · rw [q_X10_readRest_p617_1 (d := (e0 (F_X10_readPlaces bs n r x), e1 (F_X10_readPlaces bs n r x), e2 (F_X10_readPlaces bs n r x), e3 (F_X10_readPlaces bs n r x), e4 (F_X10_readPlaces bs n r x), e5 (F_X10_readPlaces bs n r x), e6 (F_X10_readPlaces bs n r x), 0, e8 (F_X10_readPlaces bs n r x), e9 (F_X10_readPlaces bs n r x), e10 (F_X10_readPlaces bs n r x), e11 (F_X10_readPlaces bs n r x), eJ (F_X10_readPlaces bs n r x))) (p4.symm.trans a4) (by rw [(kr_nx _).2.1]; show ¬ e2 (F_X10_readPlaces bs n r x) = 64; rw [c2]; decide)]
        generalize F_X3_readPlace bs n c = zP at *
        generalize F_X10_readPlaces bs n r x = zQ at *
        have y10 := w10 hq
        exact sh_oo32 hn hB ⟨by decide, by decide⟩ (Or.inr ⟨p2, rfl, p0, pr⟩) rfl c1 c2 p5 y10 p23 (rg_cast y10 (⟨by decide, by decide⟩ : Rg (-1) 23 (-1)))
    have b4 : ¬ e10 (F_X10_readPlaces bs n r x) = 4 := fun q => a4 (p4.trans q)
    by_cases a5 : e4 (F_X3_readPlace bs n c) = 5
    · rw [q_X3_readShift_1 (fun q => a4 (k4.symm.trans q)) (k4.trans a5), q_X10_readRest_p571_1 p7 b4 (p4.symm.trans a5)]
      rcases hq.2.1 with ⟨c1, c2, c3⟩ | ⟨c1, c2, c3⟩
      · rw [q_X10_readRest_p617_2 (d := (e0 (F_X10_readPlaces bs n r x), e1 (F_X10_readPlaces bs n r x), e2 (F_X10_readPlaces bs n r x), e3 (F_X10_readPlaces bs n r x), e4 (F_X10_readPlaces bs n r x), e5 (F_X10_readPlaces bs n r x), e6 (F_X10_readPlaces bs n r x), 0, e8 (F_X10_readPlaces bs n r x), e9 (F_X10_readPlaces bs n r x), e10 (F_X10_readPlaces bs n r x), e11 (F_X10_readPlaces bs n r x), eJ (F_X10_readPlaces bs n r x))) b4 (p4.symm.trans a5) ((kr_nx _).2.1.trans c2)]
        generalize F_X3_readPlace bs n c = zP at *
        generalize F_X10_readPlaces bs n r x = zQ at *
        have y10 := w10 hq
        exact sh_oo64 hn hB ⟨by decide, by decide⟩ (Or.inr ⟨p2, rfl, p0, pr⟩) rfl c1 c2 p5 y10 p23 (rg_cast y10 (⟨by decide, by decide⟩ : Rg (-1) 23 (-1)))
      · rw [q_X10_readRest_p617_3 (d := (e0 (F_X10_readPlaces bs n r x), e1 (F_X10_readPlaces bs n r x), e2 (F_X10_readPlaces bs n r x), e3 (F_X10_readPlaces bs n r x), e4 (F_X10_readPlaces bs n r x), e5 (F_X10_readPlaces bs n r x), e6 (F_X10_readPlaces bs n r x), 0, e8 (F_X10_readPlaces bs n r x), e9 (F_X10_readPlaces bs n r x), e10 (F_X10_readPlaces bs n r x), e11 (F_X10_readPlaces bs n r x), eJ (F_X10_readPlaces bs n r x))) b4 (p4.symm.trans a5) (by rw [(kr_nx _).2.1]; show ¬ e2 (F_X10_readPlaces bs n r x) = 64; rw [c2]; decide)]
        generalize F_X3_readPlace bs n c = zP at *
        generalize F_X10_readPlaces bs n r x = zQ at *
        have y10 := w10 hq
        exact sh_oo32 hn hB ⟨by decide, by decide⟩ (Or.inr ⟨p2, rfl, p0, pr⟩) rfl c1 c2 p5 y10 p23 (rg_cast y10 (⟨by decide, by decide⟩ : Rg (-1) 23 (-1)))
    have b5 : ¬ e10 (F_X10_readPlaces bs n r x) = 5 := fun q => a5 (p4.trans q)
    by_cases a7 : e4 (F_X3_readPlace bs n c) = 7
    · rw [q_X3_readShift_3 (fun q => a4 (k4.symm.trans q)) (fun q => a5 (k4.symm.trans q)) (by rw [k4, a7]; decide) (k4.trans a7), q_X10_readRest_p571_2 p7 b4 b5 (p4.symm.trans a7)]
      rcases hq.2.1 with ⟨c1, c2, c3⟩ | ⟨c1, c2, c3⟩
      · rw [q_X10_readRest_p617_4 (d := (e0 (F_X10_readPlaces bs n r x), e1 (F_X10_readPlaces bs n r x), e2 (F_X10_readPlaces bs n r x), e3 (F_X10_readPlaces bs n r x), e4 (F_X10_readPlaces bs n r x), e5 (F_X10_readPlaces bs n r x), e6 (F_X10_readPlaces bs n r x), 0, e8 (F_X10_readPlaces bs n r x), e9 (F_X10_readPlaces bs n r x), e10 (F_X10_readPlaces bs n r x), e11 (F_X10_readPlaces bs n r x), eJ (F_X10_readPlaces bs n r x))) b4 b5 ((kr_nx _).2.1.trans c2)]
        generalize F_X3_readPlace bs n c = zP at *
        generalize F_X10_readPlaces bs n r x = zQ at *
        have y10 := w10 hq
        exact sh_oo64 hn hB ⟨by decide, by decide⟩ (Or.inr ⟨p2, rfl, p0, pr⟩) rfl c1 c2 p5 y10 p23 (rg_cast y10 (⟨by decide, by decide⟩ : Rg (-1) 23 (-1)))
      · rw [q_X10_readRest_p617_5 (d := (e0 (F_X10_readPlaces bs n r x), e1 (F_X10_readPlaces bs n r x), e2 (F_X10_readPlaces bs n r x), e3 (F_X10_readPlaces bs n r x), e4 (F_X10_readPlaces bs n r x), e5 (F_X10_readPlaces bs n r x), e6 (F_X10_readPlaces bs n r x), 0, e8 (F_X10_readPlaces bs n r x), e9 (F_X10_readPlaces bs n r x), e10 (F_X10_readPlaces bs n r x), e11 (F_X10_readPlaces bs n r x), eJ (F_X10_readPlaces bs n r x))) b4 b5 (by rw [(kr_nx _).2.1]; show ¬ e2 (F_X10_readPlaces bs n r x) = 64; rw [c2]; decide)]
        generalize F_X3_readPlace bs n c = zP at *
        generalize F_X10_readPlaces bs n r x = zQ at *
        have y10 := w10 hq
        exact sh_oo32 hn hB ⟨by decide, by decide⟩ (Or.inr ⟨p2, rfl, p0, pr⟩) rfl c1 c2 p5 y10 p23 (rg_cast y10 (⟨by decide, by decide⟩ : Rg (-1) 23 (-1)))
    · rw [q_X10_readRest_p571_3 p7 b4 b5 (fun q => a7 (p4.trans q))]
      refine Or.inl ⟨p617_bad rfl, Or.inl ?_⟩
      by_cases a6 : e4 (F_X3_readNumber_1 bs n (e0 (F_X3_readPlace bs n c), e1 (F_X3_readPlace bs n c), e2 (F_X3_readPlace bs n c), e3 (F_X3_readPlace bs n c), e4 (F_X3_readPlace bs n c), e5 (F_X3_readPlace bs n c), e6 (F_X3_readPlace bs n c), e7 (F_X3_readPlace bs n c), e8 (F_X3_readPlace bs n c), e5 (F_X3_readPlace bs n c), e10 (F_X3_readPlace bs n c), e11 (F_X3_readPlace bs n c), eJ (F_X3_readPlace bs n c))).1 = 6
      · rw [q_X3_readShift_2 (fun q => a4 (k4.symm.trans q)) (fun q => a5 (k4.symm.trans q)) a6]
      · rw [q_X3_readShift_4 (fun q => a4 (k4.symm.trans q)) (fun q => a5 (k4.symm.trans q)) a6 (fun q => a7 (k4.symm.trans q))]
theorem if38_bad1 {r : DD} {b : Int32} (h : e7 r = 1) : e7 (F_X10_readIf_1_p38 bs n r b) = 1 := by
  rw [q_X10_readIf_1_p38_0]
  have zz := rn1_1 (bs := bs) (n := n) (r := (e0 r, 19, e2 r, e3 r, e4 r, b, e6 r, e7 r, e8 r, e9 r, e10 r, e11 r, eJ r)) h
  generalize F_X10_number_1 bs n ((e0 r, 19, e2 r, e3 r, e4 r, b, e6 r, e7 r, e8 r, e9 r, e10 r, e11 r, eJ r)) = zN at zz ⊢
  exact zz
theorem g_jcc1 (hn : Rg 0 200 n) (hB : ∀ i, Rg 0 255 (bs i)) {c r : DD} {x : Int32} (h : IN c r x) {b : Int32} (h0 : ¬ b < 0) (h15 : ¬ 15 < b) (hp1 : (b &&& 14) = 10 → b = 10 ∨ b = 11) (hp2 : ¬ (b &&& 14) = 10 → ¬ b = 10 ∧ ¬ b = 11) : OO (F_X3_readJump_1 bs n c 19 b) (F_X10_readIf_1 bs n r b) := by
  obtain ⟨⟨g2, g7, g0, gr⟩, hq⟩ := h
  by_cases hp : (b &&& 14) = 10
  · rw [q_X3_readJump_1_0 hp]
    refine Or.inl ⟨?_, Or.inl rfl⟩
    by_cases h10 : b = 10
    · rw [q_X10_readIf_1_2 g7 h0 h15 h10]
      exact if38_bad1 rfl
    · have h11 : b = 11 := (hp1 hp).elim (fun q => absurd q h10) id
      rw [q_X10_readIf_1_3 g7 h0 h15 h10 h11]
      exact if38_bad1 rfl
  · rw [q_X3_readJump_1_1 hp, q_X10_readIf_1_4 g7 h0 h15 (hp2 hp).1 (hp2 hp).2, q_X10_readIf_1_p38_0]
    have y8 := w8 hq
    have y9 := w9 hq
    have y10 := w10 hq
    exact numj_oo1 hn hB (Or.inr ⟨g2, rfl, g0, gr⟩) (fun _ => ⟨rfl, y8, y9.trans hq.2.2.2.2.1.symm, y10.trans hq.2.2.2.2.2.1.symm, rfl, (⟨by decide, by decide⟩ : Rg 0 22 19), (by decide : ¬ (19 : Int32) = 2), (by decide : ¬ (19 : Int32) = 3), z19j (by decide : (19 : Int32) ≤ 19) y9 (fun _ => rg15 h0 h15)⟩)
theorem g_jmp1 (hn : Rg 0 200 n) (hB : ∀ i, Rg 0 255 (bs i)) {c r : DD} {x : Int32} (h : IN c r x) : OO (F_X3_readJump_1 bs n c 20 0) (F_X10_readJumps bs n r 235) := by
  obtain ⟨⟨g2, g7, g0, gr⟩, hq⟩ := h
  rw [q_X3_readJump_1_1 (by decide), q_X10_readJumps_6 (by decide) (by decide) rfl]
  have y8 := w8 hq
  have y9 := w9 hq
  have y10 := w10 hq
  exact numj_oo1 hn hB (Or.inr ⟨g2, g7, g0, gr⟩) (fun _ => ⟨rfl, y8, y9.trans hq.2.2.2.2.1.symm, y10.trans hq.2.2.2.2.2.1.symm, hq.2.2.2.2.2.2.1.symm, (⟨by decide, by decide⟩ : Rg 0 22 20), (by decide : ¬ (20 : Int32) = 2), (by decide : ¬ (20 : Int32) = 3), z19j (by decide : (19 : Int32) ≤ 20) y9 (fun q => absurd (show (20 : Int32) = 19 from q) (by decide))⟩)
theorem if38_bad4 {r : DD} {b : Int32} (h : e7 r = 1) : e7 (F_X10_readIf_4_p38 bs n r b) = 1 := by
  rw [q_X10_readIf_4_p38_0]
  have zz := rn4_1 (bs := bs) (n := n) (r := (e0 r, 19, e2 r, e3 r, e4 r, b, e6 r, e7 r, e8 r, e9 r, e10 r, e11 r, eJ r)) h
  generalize F_X10_number_4 bs n ((e0 r, 19, e2 r, e3 r, e4 r, b, e6 r, e7 r, e8 r, e9 r, e10 r, e11 r, eJ r)) = zN at zz ⊢
  exact zz
theorem g_jcc4 (hn : Rg 0 200 n) (hB : ∀ i, Rg 0 255 (bs i)) {c r : DD} {x : Int32} (h : IN c r x) {b : Int32} (h0 : ¬ b < 0) (h15 : ¬ 15 < b) (hp1 : (b &&& 14) = 10 → b = 10 ∨ b = 11) (hp2 : ¬ (b &&& 14) = 10 → ¬ b = 10 ∧ ¬ b = 11) : OO (F_X3_readJump_4 bs n c 19 b) (F_X10_readIf_4 bs n r b) := by
  obtain ⟨⟨g2, g7, g0, gr⟩, hq⟩ := h
  by_cases hp : (b &&& 14) = 10
  · rw [q_X3_readJump_4_0 hp]
    refine Or.inl ⟨?_, Or.inl rfl⟩
    by_cases h10 : b = 10
    · rw [q_X10_readIf_4_2 g7 h0 h15 h10]
      exact if38_bad4 rfl
    · have h11 : b = 11 := (hp1 hp).elim (fun q => absurd q h10) id
      rw [q_X10_readIf_4_3 g7 h0 h15 h10 h11]
      exact if38_bad4 rfl
  · rw [q_X3_readJump_4_1 hp, q_X10_readIf_4_4 g7 h0 h15 (hp2 hp).1 (hp2 hp).2, q_X10_readIf_4_p38_0]
    have y8 := w8 hq
    have y9 := w9 hq
    have y10 := w10 hq
    exact numj_oo4 hn hB (Or.inr ⟨g2, rfl, g0, gr⟩) (fun _ => ⟨rfl, y8, y9.trans hq.2.2.2.2.1.symm, y10.trans hq.2.2.2.2.2.1.symm, rfl, (⟨by decide, by decide⟩ : Rg 0 22 19), (by decide : ¬ (19 : Int32) = 2), (by decide : ¬ (19 : Int32) = 3), z19j (by decide : (19 : Int32) ≤ 19) y9 (fun _ => rg15 h0 h15)⟩)
theorem g_jmp4 (hn : Rg 0 200 n) (hB : ∀ i, Rg 0 255 (bs i)) {c r : DD} {x : Int32} (h : IN c r x) : OO (F_X3_readJump_4 bs n c 20 0) (F_X10_readJumps bs n r 233) := by
  obtain ⟨⟨g2, g7, g0, gr⟩, hq⟩ := h
  rw [q_X3_readJump_4_1 (by decide), q_X10_readJumps_7 (by decide) (by decide) (by decide) rfl]
  have y8 := w8 hq
  have y9 := w9 hq
  have y10 := w10 hq
  exact numj_oo4 hn hB (Or.inr ⟨g2, g7, g0, gr⟩) (fun _ => ⟨rfl, y8, y9.trans hq.2.2.2.2.1.symm, y10.trans hq.2.2.2.2.2.1.symm, hq.2.2.2.2.2.2.1.symm, (⟨by decide, by decide⟩ : Rg 0 22 20), (by decide : ¬ (20 : Int32) = 2), (by decide : ¬ (20 : Int32) = 3), z19j (by decide : (19 : Int32) ≤ 20) y9 (fun q => absurd (show (20 : Int32) = 19 from q) (by decide))⟩)
end AH
