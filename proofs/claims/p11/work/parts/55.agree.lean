/-! what holds of all bytes -/
theorem by256 {p : Int32 → Prop} (h : ∀ k : Fin 256, p (Int32.ofNat k.val)) {w : Int32} (hw : Rg 0 255 w) : p w := by
  obtain ⟨h1, h2⟩ := hw
  have e : Int32.ofNat w.toInt.toNat = w := by
    rw [← Int32.ofInt_eq_ofNat, Int.toNat_of_nonneg h1, Int32.ofInt_toInt]
  have k := h ⟨w.toInt.toNat, by omega⟩
  exact Eq.mp (congrArg p e) k
theorem rg_lt16 {lo hi : Int} {x : Int32} (h : Rg lo hi x) (h2 : hi < 16 := by decide) : x < 16 := Int32.lt_iff_toInt_lt.mpr (by rw [show (16 : Int32).toInt = 16 from rfl]; have := h.2; omega)
def num1 (w : Int32) : Int64 := (((0 ||| ((w : Int32).toInt64 <<< (((8 * 0) : Int32).toInt64 &&& 63))) <<< (((64 - (8 * 1)) : Int32).toInt64 &&& 63)) >>> (((64 - (8 * 1)) : Int32).toInt64 &&& 63))
abbrev oo (w : Int32) : Int32 := (w : Int32).toInt8.toInt32
abbrev mm (w : Int32) : Int32 := (-(num1 w : Int64).toInt32)
abbrev offp (w : Int32) : Prop := (mm w < 8 ↔ -8 < oo w) ∧ (64 < mm w ↔ oo w < -64) ∧ ((mm w - mm w / 8 * 8) = 0 ↔ (oo w - oo w / 8 * 8) = 0) ∧ 15 + mm w / 8 = 15 - oo w / 8 ∧ (¬ -8 < oo w → ¬ 15 - oo w / 8 < 16) ∧ (¬ oo w < -64 → ¬ -8 < oo w → 16 ≤ (15 - oo w / 8).toInt ∧ (15 - oo w / 8).toInt ≤ 23)
set_option maxRecDepth 100000 in
theorem off_ok {w : Int32} (h : Rg 0 255 w) : offp w := by256 (p := offp) (by decide +kernel) h
/-! in step: both are bad, or both are good and at the same byte -/
abbrev GG (c r : DD) : Prop := (e2 c = 0 ∧ e7 r = 1) ∨ (e2 c = 1 ∧ e7 r = 0 ∧ e0 c = e0 r ∧ Rg 0 200 (e0 c))
abbrev KC (c q : DD) : Prop := e1 q = e1 c ∧ e3 q = e3 c ∧ e4 q = e4 c ∧ e5 q = e5 c ∧ e6 q = e6 c ∧ e7 q = e7 c ∧ e8 q = e8 c ∧ e9 q = e9 c ∧ e10 q = e10 c ∧ e11 q = e11 c ∧ eJ q = eJ c
theorem kc_tr {a b c : DD} (h : KC a b) (g : KC b c) : KC a c := ⟨g.1.trans h.1, g.2.1.trans h.2.1, g.2.2.1.trans h.2.2.1, g.2.2.2.1.trans h.2.2.2.1, g.2.2.2.2.1.trans h.2.2.2.2.1, g.2.2.2.2.2.1.trans h.2.2.2.2.2.1, g.2.2.2.2.2.2.1.trans h.2.2.2.2.2.2.1, g.2.2.2.2.2.2.2.1.trans h.2.2.2.2.2.2.2.1, g.2.2.2.2.2.2.2.2.1.trans h.2.2.2.2.2.2.2.2.1, g.2.2.2.2.2.2.2.2.2.1.trans h.2.2.2.2.2.2.2.2.2.1, g.2.2.2.2.2.2.2.2.2.2.trans h.2.2.2.2.2.2.2.2.2.2⟩
abbrev KR (c q : DD) : Prop := e1 q = e1 c ∧ e2 q = e2 c ∧ e3 q = e3 c ∧ e4 q = e4 c ∧ e5 q = e5 c ∧ e6 q = e6 c ∧ e8 q = e8 c ∧ e9 q = e9 c ∧ e10 q = e10 c ∧ e11 q = e11 c ∧ eJ q = eJ c
theorem kr_tr {a b c : DD} (h : KR a b) (g : KR b c) : KR a c := ⟨g.1.trans h.1, g.2.1.trans h.2.1, g.2.2.1.trans h.2.2.1, g.2.2.2.1.trans h.2.2.2.1, g.2.2.2.2.1.trans h.2.2.2.2.1, g.2.2.2.2.2.1.trans h.2.2.2.2.2.1, g.2.2.2.2.2.2.1.trans h.2.2.2.2.2.2.1, g.2.2.2.2.2.2.2.1.trans h.2.2.2.2.2.2.2.1, g.2.2.2.2.2.2.2.2.1.trans h.2.2.2.2.2.2.2.2.1, g.2.2.2.2.2.2.2.2.2.1.trans h.2.2.2.2.2.2.2.2.2.1, g.2.2.2.2.2.2.2.2.2.2.trans h.2.2.2.2.2.2.2.2.2.2⟩
abbrev KP (c q : DD) : Prop := e1 q = e1 c ∧ e6 q = e6 c ∧ e7 q = e7 c ∧ e8 q = e8 c ∧ e9 q = e9 c ∧ e10 q = e10 c ∧ e11 q = e11 c ∧ eJ q = eJ c
theorem kp_tr {a b c : DD} (h : KP a b) (g : KP b c) : KP a c := ⟨g.1.trans h.1, g.2.1.trans h.2.1, g.2.2.1.trans h.2.2.1, g.2.2.2.1.trans h.2.2.2.1, g.2.2.2.2.1.trans h.2.2.2.2.1, g.2.2.2.2.2.1.trans h.2.2.2.2.2.1, g.2.2.2.2.2.2.1.trans h.2.2.2.2.2.2.1, g.2.2.2.2.2.2.2.trans h.2.2.2.2.2.2.2⟩
abbrev KQ (c q : DD) : Prop := e1 q = e1 c ∧ e2 q = e2 c ∧ e3 q = e3 c ∧ e4 q = e4 c ∧ e5 q = e5 c ∧ e6 q = e6 c ∧ eJ q = eJ c
theorem kq_tr {a b c : DD} (h : KQ a b) (g : KQ b c) : KQ a c := ⟨g.1.trans h.1, g.2.1.trans h.2.1, g.2.2.1.trans h.2.2.1, g.2.2.2.1.trans h.2.2.2.1, g.2.2.2.2.1.trans h.2.2.2.2.1, g.2.2.2.2.2.1.trans h.2.2.2.2.2.1, g.2.2.2.2.2.2.trans h.2.2.2.2.2.2⟩
theorem lt_no {x : Int32} (h : x < -64) : ¬ -8 < x := fun q => by
  have a := Int32.lt_iff_toInt_lt.mp h
  have b := Int32.lt_iff_toInt_lt.mp q
  rw [show (-64 : Int32).toInt = -64 from rfl] at a
  rw [show (-8 : Int32).toInt = -8 from rfl] at b
  omega
section AG
variable {bs : Nat → Int32} {n : Int32}
theorem kc_nb (c : DD) : KC c (F_X3_nextByte bs n c).1 := by
  by_cases q1 : e0 c < 0
  · rw [q_X3_nextByte_0 q1]; exact ⟨rfl, rfl, rfl, rfl, rfl, rfl, rfl, rfl, rfl, rfl, rfl⟩
  · by_cases q2 : e0 c < n
    · rw [q_X3_nextByte_1 q1 q2]; exact ⟨rfl, rfl, rfl, rfl, rfl, rfl, rfl, rfl, rfl, rfl, rfl⟩
    · rw [q_X3_nextByte_2 q1 q2]; exact ⟨rfl, rfl, rfl, rfl, rfl, rfl, rfl, rfl, rfl, rfl, rfl⟩
theorem kr_nx (r : DD) : KR r (F_X10_next bs n r).1 := by
  by_cases q2 : e0 r < n
  · rw [q_X10_next_0 q2]; exact ⟨rfl, rfl, rfl, rfl, rfl, rfl, rfl, rfl, rfl, rfl, rfl⟩
  · rw [q_X10_next_1 q2]; exact ⟨rfl, rfl, rfl, rfl, rfl, rfl, rfl, rfl, rfl, rfl, rfl⟩
theorem nb0 {c : DD} (h : e2 c = 0) : e2 (F_X3_nextByte bs n c).1 = 0 := by
  by_cases q1 : e0 c < 0
  · rw [q_X3_nextByte_0 q1]
  · by_cases q2 : e0 c < n
    · rw [q_X3_nextByte_1 q1 q2]; exact h
    · rw [q_X3_nextByte_2 q1 q2]
theorem nx1 {r : DD} (h : e7 r = 1) : e7 (F_X10_next bs n r).1 = 1 := by
  by_cases q2 : e0 r < n
  · rw [q_X10_next_0 q2]; exact h
  · rw [q_X10_next_1 q2]
theorem nx (hn : Rg 0 200 n) (hB : ∀ i, Rg 0 255 (bs i)) {c r : DD} (h : GG c r) : GG (F_X3_nextByte bs n c).1 (F_X10_next bs n r).1 ∧ (e2 (F_X3_nextByte bs n c).1 = 1 → e2 c = 1 ∧ (F_X3_nextByte bs n c).2 = (F_X10_next bs n r).2 ∧ Rg 0 255 (F_X3_nextByte bs n c).2) := by
  rcases h with ⟨h1, h2⟩ | ⟨h1, h2, h3, h4⟩
  · exact ⟨Or.inl ⟨nb0 h1, nx1 h2⟩, fun q => absurd (show (1 : Int32) = 0 from q.symm.trans (nb0 h1)) (by decide)⟩
  · have q1 : ¬ e0 c < 0 := fun q => by
      have a := Int32.lt_iff_toInt_lt.mp q
      rw [show (0 : Int32).toInt = 0 from rfl] at a
      have b := h4.1
      omega
    by_cases q2 : e0 c < n
    · have q3 : e0 r < n := h3 ▸ q2
      rw [q_X3_nextByte_1 q1 q2, q_X10_next_0 q3]
      refine ⟨Or.inr ⟨h1, h2, congrArg (fun q => q + 1) h3, rg_add (lo := 0) (hi := 200) (rg_lt_l (hi := 199) h4 hn q2) (⟨by decide, by decide⟩ : Rg 1 1 1)⟩, fun _ => ⟨h1, ?_, hB _⟩⟩
      show bs (e0 c).toNatClampNeg = bs ((e0 r + 1) - 1).toNatClampNeg
      rw [Int32.add_sub_cancel, h3]
    · have q3 : ¬ e0 r < n := h3 ▸ q2
      rw [q_X3_nextByte_2 q1 q2, q_X10_next_1 q3]
      exact ⟨Or.inl ⟨rfl, rfl⟩, fun q => absurd (show (0 : Int32) = 1 from q) (by decide)⟩
theorem kc_rn1 (c : DD) : KC c (F_X3_readNumber_1 bs n c).1 := by
  rw [q_X3_readNumber_1_0]
  dsimp only
  exact kc_nb _
theorem kr_rn1 (r : DD) : KR r (F_X10_number_1 bs n r).1 := by
  rw [q_X10_number_1_0]
  dsimp only
  exact kr_nx _
theorem rn1_0 {c : DD} (h : e2 c = 0) : e2 (F_X3_readNumber_1 bs n c).1 = 0 := by
  rw [q_X3_readNumber_1_0]
  dsimp only
  exact nb0 (h)
theorem rn1_1 {r : DD} (h : e7 r = 1) : e7 (F_X10_number_1 bs n r).1 = 1 := by
  rw [q_X10_number_1_0]
  dsimp only
  exact nx1 (h)
theorem rn1 (hn : Rg 0 200 n) (hB : ∀ i, Rg 0 255 (bs i)) {c r : DD} (h : GG c r) : GG (F_X3_readNumber_1 bs n c).1 (F_X10_number_1 bs n r).1 ∧ (e2 (F_X3_readNumber_1 bs n c).1 = 1 → e2 c = 1 ∧ (F_X3_readNumber_1 bs n c).2 = (F_X10_number_1 bs n r).2) := by
  rw [q_X3_readNumber_1_0, q_X10_number_1_0]
  dsimp only
  obtain ⟨g1, v1⟩ := nx (bs := bs) hn hB (c := c) (r := r) h
  refine ⟨g1, fun s2 => ?_⟩
  obtain ⟨s1, w1, -⟩ := v1 s2
  refine ⟨s1, ?_⟩
  rw [w1]
theorem kc_rn4 (c : DD) : KC c (F_X3_readNumber_4 bs n c).1 := by
  rw [q_X3_readNumber_4_0]
  dsimp only
  exact kc_tr (kc_nb _) (kc_tr (kc_nb _) (kc_tr (kc_nb _) (kc_nb _)))
theorem kr_rn4 (r : DD) : KR r (F_X10_number_4 bs n r).1 := by
  rw [q_X10_number_4_0]
  dsimp only
  exact kr_tr (kr_nx _) (kr_tr (kr_nx _) (kr_tr (kr_nx _) (kr_nx _)))
theorem rn4_0 {c : DD} (h : e2 c = 0) : e2 (F_X3_readNumber_4 bs n c).1 = 0 := by
  rw [q_X3_readNumber_4_0]
  dsimp only
  exact nb0 (nb0 (nb0 (nb0 (h))))
theorem rn4_1 {r : DD} (h : e7 r = 1) : e7 (F_X10_number_4 bs n r).1 = 1 := by
  rw [q_X10_number_4_0]
  dsimp only
  exact nx1 (nx1 (nx1 (nx1 (h))))
theorem rn4 (hn : Rg 0 200 n) (hB : ∀ i, Rg 0 255 (bs i)) {c r : DD} (h : GG c r) : GG (F_X3_readNumber_4 bs n c).1 (F_X10_number_4 bs n r).1 ∧ (e2 (F_X3_readNumber_4 bs n c).1 = 1 → e2 c = 1 ∧ (F_X3_readNumber_4 bs n c).2 = (F_X10_number_4 bs n r).2) := by
  rw [q_X3_readNumber_4_0, q_X10_number_4_0]
  dsimp only
  obtain ⟨g1, v1⟩ := nx (bs := bs) hn hB (c := c) (r := r) h
  obtain ⟨g2, v2⟩ := nx (bs := bs) hn hB (c := (F_X3_nextByte bs n c).1) (r := (F_X10_next bs n r).1) g1
  obtain ⟨g3, v3⟩ := nx (bs := bs) hn hB (c := (F_X3_nextByte bs n (F_X3_nextByte bs n c).1).1) (r := (F_X10_next bs n (F_X10_next bs n r).1).1) g2
  obtain ⟨g4, v4⟩ := nx (bs := bs) hn hB (c := (F_X3_nextByte bs n (F_X3_nextByte bs n (F_X3_nextByte bs n c).1).1).1) (r := (F_X10_next bs n (F_X10_next bs n (F_X10_next bs n r).1).1).1) g3
  refine ⟨g4, fun s5 => ?_⟩
  obtain ⟨s4, w4, -⟩ := v4 s5
  obtain ⟨s3, w3, -⟩ := v3 s4
  obtain ⟨s2, w2, -⟩ := v2 s3
  obtain ⟨s1, w1, -⟩ := v1 s2
  refine ⟨s1, ?_⟩
  rw [w1, w2, w3, w4]
theorem kc_rn8 (c : DD) : KC c (F_X3_readNumber_8 bs n c).1 := by
  rw [q_X3_readNumber_8_0]
  dsimp only
  exact kc_tr (kc_nb _) (kc_tr (kc_nb _) (kc_tr (kc_nb _) (kc_tr (kc_nb _) (kc_tr (kc_nb _) (kc_tr (kc_nb _) (kc_tr (kc_nb _) (kc_nb _)))))))
theorem kr_rn8 (r : DD) : KR r (F_X10_number_8 bs n r).1 := by
  rw [q_X10_number_8_0]
  dsimp only
  exact kr_tr (kr_nx _) (kr_tr (kr_nx _) (kr_tr (kr_nx _) (kr_tr (kr_nx _) (kr_tr (kr_nx _) (kr_tr (kr_nx _) (kr_tr (kr_nx _) (kr_nx _)))))))
theorem rn8_0 {c : DD} (h : e2 c = 0) : e2 (F_X3_readNumber_8 bs n c).1 = 0 := by
  rw [q_X3_readNumber_8_0]
  dsimp only
  exact nb0 (nb0 (nb0 (nb0 (nb0 (nb0 (nb0 (nb0 (h))))))))
theorem rn8_1 {r : DD} (h : e7 r = 1) : e7 (F_X10_number_8 bs n r).1 = 1 := by
  rw [q_X10_number_8_0]
  dsimp only
  exact nx1 (nx1 (nx1 (nx1 (nx1 (nx1 (nx1 (nx1 (h))))))))
theorem rn8 (hn : Rg 0 200 n) (hB : ∀ i, Rg 0 255 (bs i)) {c r : DD} (h : GG c r) : GG (F_X3_readNumber_8 bs n c).1 (F_X10_number_8 bs n r).1 ∧ (e2 (F_X3_readNumber_8 bs n c).1 = 1 → e2 c = 1 ∧ (F_X3_readNumber_8 bs n c).2 = (F_X10_number_8 bs n r).2) := by
  rw [q_X3_readNumber_8_0, q_X10_number_8_0]
  dsimp only
  obtain ⟨g1, v1⟩ := nx (bs := bs) hn hB (c := c) (r := r) h
  obtain ⟨g2, v2⟩ := nx (bs := bs) hn hB (c := (F_X3_nextByte bs n c).1) (r := (F_X10_next bs n r).1) g1
  obtain ⟨g3, v3⟩ := nx (bs := bs) hn hB (c := (F_X3_nextByte bs n (F_X3_nextByte bs n c).1).1) (r := (F_X10_next bs n (F_X10_next bs n r).1).1) g2
  obtain ⟨g4, v4⟩ := nx (bs := bs) hn hB (c := (F_X3_nextByte bs n (F_X3_nextByte bs n (F_X3_nextByte bs n c).1).1).1) (r := (F_X10_next bs n (F_X10_next bs n (F_X10_next bs n r).1).1).1) g3
  obtain ⟨g5, v5⟩ := nx (bs := bs) hn hB (c := (F_X3_nextByte bs n (F_X3_nextByte bs n (F_X3_nextByte bs n (F_X3_nextByte bs n c).1).1).1).1) (r := (F_X10_next bs n (F_X10_next bs n (F_X10_next bs n (F_X10_next bs n r).1).1).1).1) g4
  obtain ⟨g6, v6⟩ := nx (bs := bs) hn hB (c := (F_X3_nextByte bs n (F_X3_nextByte bs n (F_X3_nextByte bs n (F_X3_nextByte bs n (F_X3_nextByte bs n c).1).1).1).1).1) (r := (F_X10_next bs n (F_X10_next bs n (F_X10_next bs n (F_X10_next bs n (F_X10_next bs n r).1).1).1).1).1) g5
  obtain ⟨g7, v7⟩ := nx (bs := bs) hn hB (c := (F_X3_nextByte bs n (F_X3_nextByte bs n (F_X3_nextByte bs n (F_X3_nextByte bs n (F_X3_nextByte bs n (F_X3_nextByte bs n c).1).1).1).1).1).1) (r := (F_X10_next bs n (F_X10_next bs n (F_X10_next bs n (F_X10_next bs n (F_X10_next bs n (F_X10_next bs n r).1).1).1).1).1).1) g6
  obtain ⟨g8, v8⟩ := nx (bs := bs) hn hB (c := (F_X3_nextByte bs n (F_X3_nextByte bs n (F_X3_nextByte bs n (F_X3_nextByte bs n (F_X3_nextByte bs n (F_X3_nextByte bs n (F_X3_nextByte bs n c).1).1).1).1).1).1).1) (r := (F_X10_next bs n (F_X10_next bs n (F_X10_next bs n (F_X10_next bs n (F_X10_next bs n (F_X10_next bs n (F_X10_next bs n r).1).1).1).1).1).1).1) g7
  refine ⟨g8, fun s9 => ?_⟩
  obtain ⟨s8, w8, -⟩ := v8 s9
  obtain ⟨s7, w7, -⟩ := v7 s8
  obtain ⟨s6, w6, -⟩ := v6 s7
  obtain ⟨s5, w5, -⟩ := v5 s6
  obtain ⟨s4, w4, -⟩ := v4 s5
  obtain ⟨s3, w3, -⟩ := v3 s4
  obtain ⟨s2, w2, -⟩ := v2 s3
  obtain ⟨s1, w1, -⟩ := v1 s2
  refine ⟨s1, ?_⟩
  rw [w1, w2, w3, w4, w5, w6, w7, w8]
theorem m78 {c : DD} {x1 x2 x3 : Int32} (h : e2 c = 0) : e2 (F_X3_readPlace_p78 bs n c x1 x2 x3) = 0 := by
  unfold F_X3_readPlace_p78
  dsimp only
  repeat' split
  all_goals first | rfl | exact h | exact nb0 h
theorem kp_78 (c : DD) (x1 x2 x3 : Int32) : KP c (F_X3_readPlace_p78 bs n c x1 x2 x3) := by
  have k := kc_nb (bs := bs) (n := n) c
  unfold F_X3_readPlace_p78
  dsimp only
  repeat' split
  all_goals first | exact ⟨rfl, rfl, rfl, rfl, rfl, rfl, rfl, rfl⟩ | exact ⟨k.1, k.2.2.2.2.1, k.2.2.2.2.2.1, k.2.2.2.2.2.2.1, k.2.2.2.2.2.2.2.1, k.2.2.2.2.2.2.2.2.1, k.2.2.2.2.2.2.2.2.2.1, k.2.2.2.2.2.2.2.2.2.2⟩
theorem kp_rp (c : DD) : KP c (F_X3_readPlace bs n c) := by
  have k := kc_nb (bs := bs) (n := n) c
  have k2 : KP c (F_X3_nextByte bs n c).1 := ⟨k.1, k.2.2.2.2.1, k.2.2.2.2.2.1, k.2.2.2.2.2.2.1, k.2.2.2.2.2.2.2.1, k.2.2.2.2.2.2.2.2.1, k.2.2.2.2.2.2.2.2.2.1, k.2.2.2.2.2.2.2.2.2.2⟩
  unfold F_X3_readPlace
  dsimp only
  repeat' split
  all_goals
    refine kp_tr ?_ (kp_78 _ _ _ _)
    exact ⟨k2.1, k2.2.1, k2.2.2.1, k2.2.2.2.1, k2.2.2.2.2.1, k2.2.2.2.2.2.1, k2.2.2.2.2.2.2.1, k2.2.2.2.2.2.2.2⟩
theorem m44 {r : DD} {x1 x2 : Int32} (h : e7 r = 1) : e7 (F_X10_readPlaces_p44 bs n r x1 x2) = 1 := by
  have k : ¬ e7 (F_X10_number_1 bs n (e0 r, e1 r, e2 r, e3 r, e4 r, e5 r, e6 r, e7 r, e8 r, x2 &&& 7, e10 r, e11 r, eJ r)).1 = 0 := fun q => absurd (show (1 : Int32) = 0 from (rn1_1 (r := (e0 r, e1 r, e2 r, e3 r, e4 r, e5 r, e6 r, e7 r, e8 r, x2 &&& 7, e10 r, e11 r, eJ r)) h).symm.trans q) (by decide)
  unfold F_X10_readPlaces_p44
  dsimp only
  rw [if_neg k]
  repeat' split
  all_goals first | rfl | exact h
theorem kq_44 (r : DD) (x1 x2 : Int32) : KQ r (F_X10_readPlaces_p44 bs n r x1 x2) := by
  have k := kr_rn1 (bs := bs) (n := n) (e0 r, e1 r, e2 r, e3 r, e4 r, e5 r, e6 r, e7 r, e8 r, x2 &&& 7, e10 r, e11 r, eJ r)
  have k2 : KQ r (F_X10_number_1 bs n (e0 r, e1 r, e2 r, e3 r, e4 r, e5 r, e6 r, e7 r, e8 r, x2 &&& 7, e10 r, e11 r, eJ r)).1 := ⟨k.1, k.2.1, k.2.2.1, k.2.2.2.1, k.2.2.2.2.1, k.2.2.2.2.2.1, k.2.2.2.2.2.2.2.2.2.2⟩
  by_cases a : e11 r = 3
  · by_cases b : (x1 &&& 1) = 0
    · rw [q_X10_readPlaces_p44_0 a b]; exact ⟨rfl, rfl, rfl, rfl, rfl, rfl, rfl⟩
    · rw [q_X10_readPlaces_p44_1 a b]; exact ⟨rfl, rfl, rfl, rfl, rfl, rfl, rfl⟩
  by_cases c1 : e11 r = 1
  · by_cases c2 : (x2 &&& 7) = 5
    · by_cases c3 : (x1 &&& 1) = 0
      · by_cases c4 : (x1 &&& 8) = 0
        · rw [q_X10_readPlaces_p44_2 a c1 c2 c3 c4]; exact ⟨rfl, rfl, rfl, rfl, rfl, rfl, rfl⟩
        · by_cases c5 : e7 (F_X10_number_1 bs n (e0 r, e1 r, e2 r, e3 r, e4 r, e5 r, e6 r, e7 r, e8 r, x2 &&& 7, e10 r, e11 r, eJ r)).1 = 0
          · by_cases c6 : (-((F_X10_number_1 bs n (e0 r, e1 r, e2 r, e3 r, e4 r, e5 r, e6 r, e7 r, e8 r, x2 &&& 7, e10 r, e11 r, eJ r)).2 : Int64).toInt32) < 8
            · rw [q_X10_readPlaces_p44_3 a c1 c2 c3 c4 c5 c6, q_X10_readPlaces_p156_0]; exact ⟨k2.1, k2.2.1, k2.2.2.1, k2.2.2.2.1, k2.2.2.2.2.1, k2.2.2.2.2.2.1, k2.2.2.2.2.2.2⟩
            · by_cases c7 : 64 < (-((F_X10_number_1 bs n (e0 r, e1 r, e2 r, e3 r, e4 r, e5 r, e6 r, e7 r, e8 r, x2 &&& 7, e10 r, e11 r, eJ r)).2 : Int64).toInt32)
              · rw [q_X10_readPlaces_p44_4 a c1 c2 c3 c4 c5 c6 c7, q_X10_readPlaces_p156_0]; exact ⟨k2.1, k2.2.1, k2.2.2.1, k2.2.2.2.1, k2.2.2.2.2.1, k2.2.2.2.2.2.1, k2.2.2.2.2.2.2⟩
              · by_cases c8 : ((-((F_X10_number_1 bs n (e0 r, e1 r, e2 r, e3 r, e4 r, e5 r, e6 r, e7 r, e8 r, x2 &&& 7, e10 r, e11 r, eJ r)).2 : Int64).toInt32) - (-((F_X10_number_1 bs n (e0 r, e1 r, e2 r, e3 r, e4 r, e5 r, e6 r, e7 r, e8 r, x2 &&& 7, e10 r, e11 r, eJ r)).2 : Int64).toInt32) / 8 * 8) = 0
                · rw [q_X10_readPlaces_p44_5 a c1 c2 c3 c4 c5 c6 c7 c8, q_X10_readPlaces_p156_0]; exact ⟨k2.1, k2.2.1, k2.2.2.1, k2.2.2.2.1, k2.2.2.2.2.1, k2.2.2.2.2.2.1, k2.2.2.2.2.2.2⟩
                · rw [q_X10_readPlaces_p44_6 a c1 c2 c3 c4 c5 c6 c7 c8, q_X10_readPlaces_p156_0]; exact ⟨k2.1, k2.2.1, k2.2.2.1, k2.2.2.2.1, k2.2.2.2.2.1, k2.2.2.2.2.2.1, k2.2.2.2.2.2.2⟩
          · rw [q_X10_readPlaces_p44_7 a c1 c2 c3 c4 c5, q_X10_readPlaces_p156_0]; exact ⟨k2.1, k2.2.1, k2.2.2.1, k2.2.2.2.1, k2.2.2.2.2.1, k2.2.2.2.2.2.1, k2.2.2.2.2.2.2⟩
      · rw [q_X10_readPlaces_p44_8 a c1 c2 c3]; exact ⟨rfl, rfl, rfl, rfl, rfl, rfl, rfl⟩
    · rw [q_X10_readPlaces_p44_9 a c1 c2]; exact ⟨rfl, rfl, rfl, rfl, rfl, rfl, rfl⟩
  · rw [q_X10_readPlaces_p44_10 a c1]; exact ⟨rfl, rfl, rfl, rfl, rfl, rfl, rfl⟩
theorem kq_rp (r : DD) (x : Int32) : KQ r (F_X10_readPlaces bs n r x) := by
  have k := kr_nx (bs := bs) (n := n) r
  have k2 : KQ r (F_X10_next bs n r).1 := ⟨k.1, k.2.1, k.2.2.1, k.2.2.2.1, k.2.2.2.2.1, k.2.2.2.2.2.1, k.2.2.2.2.2.2.2.2.2.2⟩
  unfold F_X10_readPlaces
  dsimp only
  repeat' split
  all_goals
    refine kq_tr ?_ (kq_44 _ _ _)
    exact ⟨k2.1, k2.2.1, k2.2.2.1, k2.2.2.2.1, k2.2.2.2.2.1, k2.2.2.2.2.2.1, k2.2.2.2.2.2.2⟩
abbrev PPg (c r : DD) : Prop := e2 c = 1 ∧ e7 r = 0 ∧ e0 c = e0 r ∧ Rg 0 200 (e0 c) ∧ e3 c = e8 r ∧ e4 c = e10 r ∧ e5 c = e9 r ∧ Rg 0 7 (e4 c) ∧ (e5 c < 16 ↔ e11 r = 3) ∧ Rg 0 23 (e5 c) ∧ Rg 0 15 (e3 c)
abbrev PP (c r : DD) : Prop := (e2 c = 0 ∧ e7 r = 1) ∨ PPg c r
set_option maxHeartbeats 1000000 in
theorem pl2 (hn : Rg 0 200 n) (hB : ∀ i, Rg 0 255 (bs i)) {c r : DD} {x v f : Int32} (g1 : e2 c = 1) (g2 : e7 r = 0) (g3 : e0 c = e0 r) (g4 : Rg 0 200 (e0 c)) (k3 : e3 c = e8 r) (k4 : e4 c = e10 r) (k11 : e11 r = v >>> (6 &&& 31)) (hf : (f = 0 ∧ (x &&& 1) = 0 ∧ e5 c = (v &&& 7)) ∨ (f = 1 ∧ ¬ (x &&& 1) = 0 ∧ e5 c = (v &&& 7) + 8)) (hw : (e8 c = 64 ∧ ¬ (x &&& 8) = 0) ∨ (e8 c = 32 ∧ (x &&& 8) = 0)) (h4 : Rg 0 7 (e4 c)) (h3 : Rg 0 15 (e3 c)) : PP (F_X3_readPlace_p78 bs n c v f (v &&& 7)) (F_X10_readPlaces_p44 bs n r x v) := by
  have v7 : Rg 0 7 (v &&& 7) := rg_and (⟨by decide, by decide⟩ : Rg 7 7 7)
  by_cases q3 : (v >>> (6 &&& 31)) = 3
  · have q3' : e11 r = 3 := k11.trans q3
    rw [q_X3_readPlace_p78_0 q3]
    rcases hf with ⟨f1, f2, f3⟩ | ⟨f1, f2, f3⟩
    · rw [q_X10_readPlaces_p44_0 q3' f2]
      exact Or.inr ⟨g1, g2, g3, g4, k3, k4, f3.trans (Int32.add_zero _).symm, h4, ⟨fun _ => q3', fun _ => by rw [f3]; exact rg_lt16 v7⟩, rg_cast f3 (rg_w v7), h3⟩
    · rw [q_X10_readPlaces_p44_1 q3' f2]
      exact Or.inr ⟨g1, g2, g3, g4, k3, k4, f3, h4, ⟨fun _ => q3', fun _ => by rw [f3]; exact rg_lt16 (rg_add (lo := 8) (hi := 15) v7 (⟨by decide, by decide⟩ : Rg 8 8 8))⟩, rg_cast f3 (rg_w (rg_add (lo := 8) (hi := 15) v7 (⟨by decide, by decide⟩ : Rg 8 8 8))), h3⟩
  have q3' : ¬ e11 r = 3 := fun q => q3 (k11.symm.trans q)
  by_cases q1 : (v >>> (6 &&& 31)) = 1
  · have q1' : e11 r = 1 := k11.trans q1
    by_cases q5 : (v &&& 7) = 5
    · rcases hf with ⟨f1, f2, f3⟩ | ⟨f1, f2, f3⟩
      · rcases hw with ⟨w1, w2⟩ | ⟨w1, w2⟩
        · have hg : GG c (e0 r, e1 r, e2 r, e3 r, e4 r, e5 r, e6 r, e7 r, e8 r, v &&& 7, e10 r, e11 r, eJ r) := Or.inr ⟨g1, g2, g3, g4⟩
          obtain ⟨gn, vn⟩ := nx (bs := bs) hn hB hg
          have kk := kc_nb (bs := bs) (n := n) c
          have e7n : e7 (F_X10_number_1 bs n (e0 r, e1 r, e2 r, e3 r, e4 r, e5 r, e6 r, e7 r, e8 r, v &&& 7, e10 r, e11 r, eJ r)).1 = e7 (F_X10_next bs n (e0 r, e1 r, e2 r, e3 r, e4 r, e5 r, e6 r, e7 r, e8 r, v &&& 7, e10 r, e11 r, eJ r)).1 := by rw [q_X10_number_1_0]
          have e0n : e0 (F_X10_number_1 bs n (e0 r, e1 r, e2 r, e3 r, e4 r, e5 r, e6 r, e7 r, e8 r, v &&& 7, e10 r, e11 r, eJ r)).1 = e0 (F_X10_next bs n (e0 r, e1 r, e2 r, e3 r, e4 r, e5 r, e6 r, e7 r, e8 r, v &&& 7, e10 r, e11 r, eJ r)).1 := by rw [q_X10_number_1_0]
          have en2 : (F_X10_number_1 bs n (e0 r, e1 r, e2 r, e3 r, e4 r, e5 r, e6 r, e7 r, e8 r, v &&& 7, e10 r, e11 r, eJ r)).2 = num1 (F_X10_next bs n (e0 r, e1 r, e2 r, e3 r, e4 r, e5 r, e6 r, e7 r, e8 r, v &&& 7, e10 r, e11 r, eJ r)).2 := by rw [q_X10_number_1_0]; unfold num1; rfl
          have kn := kr_rn1 (bs := bs) (n := n) (e0 r, e1 r, e2 r, e3 r, e4 r, e5 r, e6 r, e7 r, e8 r, v &&& 7, e10 r, e11 r, eJ r)
          have kn8 : e8 (F_X10_number_1 bs n (e0 r, e1 r, e2 r, e3 r, e4 r, e5 r, e6 r, e7 r, e8 r, v &&& 7, e10 r, e11 r, eJ r)).1 = e8 r := kn.2.2.2.2.2.2.1
          have kn10 : e10 (F_X10_number_1 bs n (e0 r, e1 r, e2 r, e3 r, e4 r, e5 r, e6 r, e7 r, e8 r, v &&& 7, e10 r, e11 r, eJ r)).1 = e10 r := kn.2.2.2.2.2.2.2.2.1
          have kn11 : e11 (F_X10_number_1 bs n (e0 r, e1 r, e2 r, e3 r, e4 r, e5 r, e6 r, e7 r, e8 r, v &&& 7, e10 r, e11 r, eJ r)).1 = e11 r := kn.2.2.2.2.2.2.2.2.2.1
          rcases gn with ⟨b1, b2⟩ | ⟨b1, b2, b3, b4⟩
          · left
            constructor
            · unfold F_X3_readPlace_p78
              dsimp only
              repeat' split
              all_goals first | rfl | exact b1 | contradiction
            · rw [q_X10_readPlaces_p44_7 q3' q1' q5 f2 w2 (by rw [e7n, b2]; decide), q_X10_readPlaces_p156_0]
          · obtain ⟨-, vv, vr⟩ := vn b1
            obtain ⟨o1, o2, o3, o4, o5, o6⟩ := off_ok vr
            have em : (-(F_X10_number_1 bs n (e0 r, e1 r, e2 r, e3 r, e4 r, e5 r, e6 r, e7 r, e8 r, v &&& 7, e10 r, e11 r, eJ r)).2.toInt32) = mm (F_X3_nextByte bs n c).2 := by rw [en2, ← vv]
            by_cases a1 : oo (F_X3_nextByte bs n c).2 < -64
            · rw [q_X3_readPlace_p78_1 q3 q1 q5 f1 w1 a1, q_X10_readPlaces_p44_4 q3' q1' q5 f2 w2 (e7n.trans b2) (by rw [em]; exact fun q => absurd (o1.mp q) (lt_no a1)) (by rw [em]; exact o2.mpr a1), q_X10_readPlaces_p156_0]
              exact Or.inl ⟨rfl, rfl⟩
            by_cases a2 : -8 < oo (F_X3_nextByte bs n c).2
            · rw [q_X3_readPlace_p78_2 q3 q1 q5 f1 w1 a1 a2, q_X10_readPlaces_p44_3 q3' q1' q5 f2 w2 (e7n.trans b2) (by rw [em]; exact o1.mpr a2), q_X10_readPlaces_p156_0]
              exact Or.inl ⟨rfl, rfl⟩
            have c1 : ¬ mm (F_X3_nextByte bs n c).2 < 8 := fun q => a2 (o1.mp q)
            have c2 : ¬ 64 < mm (F_X3_nextByte bs n c).2 := fun q => a1 (o2.mp q)
            by_cases a3 : (oo (F_X3_nextByte bs n c).2 - oo (F_X3_nextByte bs n c).2 / 8 * 8) = 0
            · rw [q_X3_readPlace_p78_3 q3 q1 q5 f1 w1 a1 a2 a3, q_X10_readPlaces_p44_5 q3' q1' q5 f2 w2 (e7n.trans b2) (by rw [em]; exact c1) (by rw [em]; exact c2) (by rw [em]; exact o3.mpr a3), q_X10_readPlaces_p156_0, em]
              exact Or.inr ⟨b1, rfl, b3.trans e0n.symm, b4, (kk.2.1.trans k3).trans kn8.symm, (kk.2.2.1.trans k4).trans kn10.symm, o4.symm, rg_cast kk.2.2.1 h4, ⟨fun q => absurd q (o5 a2), fun q => absurd (kn11.symm.trans q) q3'⟩, rg_w (⟨(o6 a1 a2).1, (o6 a1 a2).2⟩ : Rg 16 23 _), rg_cast kk.2.1 h3⟩
            · rw [q_X3_readPlace_p78_4 q3 q1 q5 f1 w1 a1 a2 a3, q_X10_readPlaces_p44_6 q3' q1' q5 f2 w2 (e7n.trans b2) (by rw [em]; exact c1) (by rw [em]; exact c2) (by rw [em]; exact fun q => a3 (o3.mp q)), q_X10_readPlaces_p156_0]
              exact Or.inl ⟨rfl, rfl⟩
        · rw [q_X3_readPlace_p78_5 q3 q1 q5 f1 (by rw [w1]; decide), q_X10_readPlaces_p44_2 q3' q1' q5 f2 w2]
          exact Or.inl ⟨rfl, rfl⟩
      · rw [q_X3_readPlace_p78_6 q3 q1 q5 (by rw [f1]; decide), q_X10_readPlaces_p44_8 q3' q1' q5 f2]
        exact Or.inl ⟨rfl, rfl⟩
    · rw [q_X3_readPlace_p78_7 q3 q1 q5, q_X10_readPlaces_p44_9 q3' q1' q5]
      exact Or.inl ⟨rfl, rfl⟩
  · rw [q_X3_readPlace_p78_8 q3 q1, q_X10_readPlaces_p44_10 q3' (fun q => q1 (k11.symm.trans q))]
    exact Or.inl ⟨rfl, rfl⟩
theorem pl (hn : Rg 0 200 n) (hB : ∀ i, Rg 0 255 (bs i)) {c r : DD} {x : Int32} (h : GG c r) (hx : e1 c = x) (hw : (e8 c = 64 ∧ ¬ (x &&& 8) = 0) ∨ (e8 c = 32 ∧ (x &&& 8) = 0)) : PP (F_X3_readPlace bs n c) (F_X10_readPlaces bs n r x) := by
  obtain ⟨g, v⟩ := nx (bs := bs) hn hB h
  have k := kc_nb (bs := bs) (n := n) c
  have e1x : e1 (F_X3_nextByte bs n c).1 = x := k.1.trans hx
  have e8x : e8 (F_X3_nextByte bs n c).1 = e8 c := k.2.2.2.2.2.2.1
  rcases g with ⟨g1, g2⟩ | ⟨g1, g2, g3, g4⟩
  · left
    constructor
    · unfold F_X3_readPlace
      dsimp only
      repeat' split
      all_goals exact m78 g1
    · unfold F_X10_readPlaces
      dsimp only
      repeat' split
      all_goals exact m44 g2
  · obtain ⟨-, vv, vr⟩ := v g1
    have hw' : (e8 (F_X3_nextByte bs n c).1 = 64 ∧ ¬ (x &&& 8) = 0) ∨ (e8 (F_X3_nextByte bs n c).1 = 32 ∧ (x &&& 8) = 0) := by rw [e8x]; exact hw
    have h7 : Rg 0 7 (((F_X3_nextByte bs n c).2 >>> (3 &&& 31)) &&& 7) := rg_and (⟨by decide, by decide⟩ : Rg 7 7 7)
    by_cases f : (x &&& 1) = 0
    · by_cases q : (x &&& 4) = 0
      · rw [q_X3_readPlace_0 (by rw [e1x]; exact f) (by rw [e1x]; exact q), q_X10_readPlaces_0 q, ← vv]
        exact pl2 hn hB g1 g2 g3 g4 (Int32.add_zero _).symm rfl rfl (Or.inl ⟨rfl, f, rfl⟩) hw' h7 (rg_w h7)
      · rw [q_X3_readPlace_1 (by rw [e1x]; exact f) (by rw [e1x]; exact q), q_X10_readPlaces_1 q, ← vv]
        exact pl2 hn hB g1 g2 g3 g4 rfl rfl rfl (Or.inl ⟨rfl, f, rfl⟩) hw' h7 (rg_w (rg_add (lo := 8) (hi := 15) h7 (⟨by decide, by decide⟩ : Rg 8 8 8)))
    · by_cases q : (x &&& 4) = 0
      · rw [q_X3_readPlace_2 (by rw [e1x]; exact f) (by rw [e1x]; exact q), q_X10_readPlaces_0 q, ← vv]
        exact pl2 hn hB g1 g2 g3 g4 (Int32.add_zero _).symm rfl rfl (Or.inr ⟨rfl, f, rfl⟩) hw' h7 (rg_w h7)
      · rw [q_X3_readPlace_3 (by rw [e1x]; exact f) (by rw [e1x]; exact q), q_X10_readPlaces_1 q, ← vv]
        exact pl2 hn hB g1 g2 g3 g4 rfl rfl rfl (Or.inr ⟨rfl, f, rfl⟩) hw' h7 (rg_w (rg_add (lo := 8) (hi := 15) h7 (⟨by decide, by decide⟩ : Rg 8 8 8)))
end AG
