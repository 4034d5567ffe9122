/-! what the class's decoder gives -/
def DG (a : Int32) (d : DD) : Prop := e2 d = 0 ∨ (e2 d = 1 ∧ a.toInt < (e0 d).toInt ∧ (e0 d).toInt ≤ 200)
def DB (a : Int32) (d : DD) : Prop := DG a d ∧ (e8 d = 32 ∨ e8 d = 64) ∧ e10 d = -1 ∧ e11 d = 0 ∧ eJ d = 0
def DP (a : Int32) (d : DD) : Prop := e2 d = 0 ∨ ((e2 d = 1 ∧ a.toInt < (e0 d).toInt ∧ (e0 d).toInt ≤ 200) ∧ (e8 d = 32 ∨ e8 d = 64) ∧ (e7 d = 18 → e8 d = 64) ∧ (Rg 14 16 (e7 d) → e10 d = -1) ∧ Rg 0 63 (e11 d) ∧ (¬ e10 d = -1 → eJ d = 0))
section DFS
variable {bs : Nat → Int32} {n a : Int32} {d q : DD}
theorem dp_mk (g : DG a d) (h2 : e2 q = e2 d) (h0 : e0 q = e0 d) (w : e8 q = 32 ∨ e8 q = 64) (x : e7 q = 18 → e8 q = 64) (s : Rg 14 16 (e7 q) → e10 q = -1) (t : Rg 0 63 (e11 q)) (u : ¬ e10 q = -1 → eJ q = 0) : DP a q := by
  rcases g with g | g
  · exact Or.inl (h2.trans g)
  · exact Or.inr ⟨by rw [h2, h0]; exact g, w, x, s, t, u⟩
theorem dg_nb (hn : n.toInt ≤ 200) (h : DG a d) : DG a (F_X3_nextByte bs n d).1 := by
  by_cases q1 : e0 d < 0
  · rw [q_X3_nextByte_0 q1]; exact Or.inl rfl
  · by_cases q2 : e0 d < n
    · rw [q_X3_nextByte_1 q1 q2]
      rcases h with h | ⟨h1, h2, h3⟩
      · exact Or.inl h
      · have l1 := Int32.lt_iff_toInt_lt.mp q2
        have l0 := mt Int32.lt_iff_toInt_lt.mpr q1
        rw [show (0 : Int32).toInt = 0 from rfl] at l0
        have e : (e0 d + 1).toInt = (e0 d).toInt + 1 := by rw [Int32.toInt_add, show (1 : Int32).toInt = 1 from rfl, bmod_in (by omega) (by omega)]
        refine Or.inr ⟨h1, ?_, ?_⟩
        · show a.toInt < (e0 d + 1).toInt
          rw [e]; omega
        · show (e0 d + 1).toInt ≤ 200
          rw [e]; omega
    · rw [q_X3_nextByte_2 q1 q2]; exact Or.inl rfl
theorem dg_n1 (hn : n.toInt ≤ 200) (h : DG a d) : DG a (F_X3_readNumber_1 bs n d).1 := dg_nb hn h
theorem dg_n4 (hn : n.toInt ≤ 200) (h : DG a d) : DG a (F_X3_readNumber_4 bs n d).1 := dg_nb hn (dg_nb hn (dg_nb hn (dg_nb hn h)))
theorem dg_n8 (hn : n.toInt ≤ 200) (h : DG a d) : DG a (F_X3_readNumber_8 bs n d).1 := by
  unfold F_X3_readNumber_8
  dsimp only
  exact dg_nb hn (dg_nb hn (dg_nb hn (dg_nb hn (dg_nb hn (dg_nb hn (dg_nb hn (dg_nb hn h)))))))
theorem dg_78 {x1 x2 x3 : Int32} (hn : n.toInt ≤ 200) (h : DG a d) : DG a (F_X3_readPlace_p78 bs n d x1 x2 x3) := by
  have h9 := dg_nb (bs := bs) hn h
  unfold F_X3_readPlace_p78
  dsimp only
  repeat' split
  all_goals first | exact h | exact h9 | exact Or.inl rfl
theorem dg_rp (hn : n.toInt ≤ 200) (h : DG a d) : DG a (F_X3_readPlace bs n d) := by
  have h9 := dg_nb (bs := bs) hn h
  unfold F_X3_readPlace
  dsimp only
  repeat' split
  all_goals exact dg_78 hn h9
theorem e4_78 {x1 x2 x3 : Int32} : e4 (F_X3_readPlace_p78 bs n d x1 x2 x3) = e4 d := by
  have k := (kc_nb (bs := bs) (n := n) d).2.2.1
  unfold F_X3_readPlace_p78
  dsimp only
  repeat' split
  all_goals first | rfl | exact k
theorem rg_a7 (x : Int32) : Rg 0 7 (x &&& 7) := rg_and (⟨by decide, by decide⟩ : Rg 7 7 7)
theorem e4_rp : Rg 0 7 (e4 (F_X3_readPlace bs n d)) := by
  unfold F_X3_readPlace
  dsimp only
  repeat' split
  all_goals (rw [e4_78]; exact rg_a7 _)
theorem nr_16 {x : Int32} {p : Prop} (h : Rg 0 7 x) (q : Rg 14 16 x) : p := by
  have := h.2
  have := q.1
  omega
theorem rg_063 {x : Int32} (h : x = 0) : Rg 0 63 x := by rw [h]; exact ⟨by decide, by decide⟩
theorem dp_pair {x1 x2 : Int32} (hn : n.toInt ≤ 200) (h : DB a d) (hx : ¬ x1 = 18) (hs : ¬ Rg 14 16 x1) : DP a (F_X3_readPair bs n d x1 x2) := by
  have g := dg_rp (bs := bs) hn h.1
  obtain ⟨-, hw, h10, h11, hJ⟩ := h
  obtain ⟨a1, a6, a7, a8, a9, a10, a11, aJ⟩ := kp_rp (bs := bs) (n := n) d
  unfold F_X3_readPair
  dsimp only
  split
  all_goals exact dp_mk g rfl rfl (by rw [← a8] at hw; exact hw) (fun q => absurd q hx) (fun q => absurd q hs) (rg_063 (a11.trans h11)) (fun _ => aJ.trans hJ)
theorem dp_sign (hn : n.toInt ≤ 200) (h : DB a d) : DP a (F_X3_readSignExtension bs n d) := by
  have g := dg_rp (bs := bs) hn h.1
  obtain ⟨-, hw, h10, h11, hJ⟩ := h
  obtain ⟨a1, a6, a7, a8, a9, a10, a11, aJ⟩ := kp_rp (bs := bs) (n := n) d
  unfold F_X3_readSignExtension
  dsimp only
  split
  next h64 =>
    split
    · exact dp_mk g rfl rfl (by rw [← a8] at hw; exact hw) (fun _ => h64) (fun q => absurd q.2 (by show ¬ (18 : Int32).toInt ≤ 16; decide)) (rg_063 (a11.trans h11)) (fun _ => aJ.trans hJ)
    · exact Or.inl rfl
  next => exact Or.inl rfl
theorem dp_num {c z : DD} (g : DG a z) (h8 : e8 z = e8 c) (h7 : e7 z = e7 c) (h10 : e10 z = e10 c) (h11 : e11 z = e11 c) (hw : e8 c = 32 ∨ e8 c = 64) (hx : ¬ e7 c = 18) (c10 : e10 c = -1) (c11 : Rg 0 63 (e11 c)) (v : Int64) : DP a (e0 z, e1 z, e2 z, e3 z, e4 z, e5 z, e6 z, e7 z, e8 z, e9 z, e10 z, e11 z, v) := dp_mk g rfl rfl (by rw [← h8] at hw; exact hw) (fun q => absurd (h7.symm.trans q) hx) (fun _ => h10.trans c10) (by show Rg 0 63 (e11 z); rw [h11]; exact c11) (fun q => absurd (h10.trans c10) q)
theorem n18 {x : Int32} (h : Rg 0 7 x) : ¬ x = 18 := rg_nec (v := 18) h
theorem dp_ar1 (hn : n.toInt ≤ 200) (h : DB a d) : DP a (F_X3_readArithmeticWithConstant_1 bs n d) := by
  have g := dg_rp (bs := bs) hn h.1
  obtain ⟨-, hw, h10, h11, hJ⟩ := h
  obtain ⟨a1, a6, a7, a8, a9, a10, a11, aJ⟩ := kp_rp (bs := bs) (n := n) d
  have h4 := e4_rp (bs := bs) (n := n) (d := d)
  unfold F_X3_readArithmeticWithConstant_1
  generalize F_X3_readPlace bs n d = p at *
  dsimp only
  obtain ⟨k1, k3, k4, k5, k6, k7, k8, k9, k10, k11, kJ⟩ := kc_rn1 (bs := bs) (n := n) (e0 p, e1 p, e2 p, e3 p, e4 p, e5 p, e6 p, e4 p, e8 p, e5 p, e10 p, e11 p, eJ p)
  exact dp_num (dg_n1 hn (d := (e0 p, e1 p, e2 p, e3 p, e4 p, e5 p, e6 p, e4 p, e8 p, e5 p, e10 p, e11 p, eJ p)) g) k8 k7 k10 k11 (by rw [← a8] at hw; exact hw) (n18 h4) (a10.trans h10) (rg_063 (a11.trans h11)) _
theorem dp_ar4 (hn : n.toInt ≤ 200) (h : DB a d) : DP a (F_X3_readArithmeticWithConstant_4 bs n d) := by
  have g := dg_rp (bs := bs) hn h.1
  obtain ⟨-, hw, h10, h11, hJ⟩ := h
  obtain ⟨a1, a6, a7, a8, a9, a10, a11, aJ⟩ := kp_rp (bs := bs) (n := n) d
  have h4 := e4_rp (bs := bs) (n := n) (d := d)
  unfold F_X3_readArithmeticWithConstant_4
  generalize F_X3_readPlace bs n d = p at *
  dsimp only
  obtain ⟨k1, k3, k4, k5, k6, k7, k8, k9, k10, k11, kJ⟩ := kc_rn4 (bs := bs) (n := n) (e0 p, e1 p, e2 p, e3 p, e4 p, e5 p, e6 p, e4 p, e8 p, e5 p, e10 p, e11 p, eJ p)
  exact dp_num (dg_n4 hn (d := (e0 p, e1 p, e2 p, e3 p, e4 p, e5 p, e6 p, e4 p, e8 p, e5 p, e10 p, e11 p, eJ p)) g) k8 k7 k10 k11 (by rw [← a8] at hw; exact hw) (n18 h4) (a10.trans h10) (rg_063 (a11.trans h11)) _
theorem rg_aw {x w : Int32} (hw : w = 32 ∨ w = 64) : Rg 0 63 (x &&& (w - 1)) := by
  rcases hw with rfl | rfl
  · exact rg_w (rg_and (x := x) (⟨by decide, by decide⟩ : Rg 31 31 (32 - 1)))
  · exact rg_and (x := x) (⟨by decide, by decide⟩ : Rg 63 63 (64 - 1))
theorem dp_shift (hn : n.toInt ≤ 200) (h : DB a d) : DP a (F_X3_readShift bs n d) := by
  have g := dg_rp (bs := bs) hn h.1
  obtain ⟨-, hw, h10, h11, hJ⟩ := h
  obtain ⟨a1, a6, a7, a8, a9, a10, a11, aJ⟩ := kp_rp (bs := bs) (n := n) d
  unfold F_X3_readShift
  generalize F_X3_readPlace bs n d = p at *
  dsimp only
  obtain ⟨k1, k3, k4, k5, k6, k7, k8, k9, k10, k11, kJ⟩ := kc_rn1 (bs := bs) (n := n) (e0 p, e1 p, e2 p, e3 p, e4 p, e5 p, e6 p, e7 p, e8 p, e5 p, e10 p, e11 p, eJ p)
  have g1 := dg_n1 (bs := bs) hn (d := (e0 p, e1 p, e2 p, e3 p, e4 p, e5 p, e6 p, e7 p, e8 p, e5 p, e10 p, e11 p, eJ p)) g
  generalize F_X3_readNumber_1 bs n (e0 p, e1 p, e2 p, e3 p, e4 p, e5 p, e6 p, e7 p, e8 p, e5 p, e10 p, e11 p, eJ p) = z at *
  have w2 : e8 z.1 = 32 ∨ e8 z.1 = 64 := by rw [← a8] at hw; rw [k8]; exact hw
  have t10 : e10 z.1 = -1 := k10.trans (a10.trans h10)
  have n1 : ¬ (14 : Int32) = 18 := by decide
  have n2 : ¬ (15 : Int32) = 18 := by decide
  have n3 : ¬ (16 : Int32) = 18 := by decide
  split
  · exact dp_mk g1 rfl rfl w2 (fun q => absurd q n1) (fun _ => t10) (rg_aw w2) (fun q => absurd t10 q)
  · split
    · exact dp_mk g1 rfl rfl w2 (fun q => absurd q n2) (fun _ => t10) (rg_aw w2) (fun q => absurd t10 q)
    · split
      · exact Or.inl rfl
      · split
        · exact dp_mk g1 rfl rfl w2 (fun q => absurd q n3) (fun _ => t10) (rg_aw w2) (fun q => absurd t10 q)
        · exact Or.inl rfl
theorem n13 : ¬ (13 : Int32) = 18 := by decide
theorem dp_mvp (hn : n.toInt ≤ 200) (h : DB a d) : DP a (F_X3_readMoveToPlace bs n d) := by
  have g := dg_rp (bs := bs) hn h.1
  obtain ⟨-, hw, h10, h11, hJ⟩ := h
  obtain ⟨a1, a6, a7, a8, a9, a10, a11, aJ⟩ := kp_rp (bs := bs) (n := n) d
  unfold F_X3_readMoveToPlace
  generalize F_X3_readPlace bs n d = p at *
  dsimp only
  obtain ⟨k1, k3, k4, k5, k6, k7, k8, k9, k10, k11, kJ⟩ := kc_rn4 (bs := bs) (n := n) (e0 p, e1 p, e2 p, e3 p, e4 p, e5 p, e6 p, 13, e8 p, e5 p, e10 p, e11 p, eJ p)
  split
  · exact dp_num (dg_n4 hn (d := (e0 p, e1 p, e2 p, e3 p, e4 p, e5 p, e6 p, 13, e8 p, e5 p, e10 p, e11 p, eJ p)) g) k8 k7 k10 k11 (by rw [← a8] at hw; exact hw) n13 (a10.trans h10) (rg_063 (a11.trans h11)) _
  · exact Or.inl rfl
theorem dp_mvr {x1 : Int32} (hn : n.toInt ≤ 200) (h : DB a d) : DP a (F_X3_readMoveToRegister bs n d x1) := by
  obtain ⟨g, hw, h10, h11, hJ⟩ := h
  have go : ∀ x : Int32, DP a (e0 (F_X3_readNumber_8 bs n (e0 d, e1 d, e2 d, e3 d, e4 d, e5 d, e6 d, 13, e8 d, x, e10 d, e11 d, eJ d)).1, e1 (F_X3_readNumber_8 bs n (e0 d, e1 d, e2 d, e3 d, e4 d, e5 d, e6 d, 13, e8 d, x, e10 d, e11 d, eJ d)).1, e2 (F_X3_readNumber_8 bs n (e0 d, e1 d, e2 d, e3 d, e4 d, e5 d, e6 d, 13, e8 d, x, e10 d, e11 d, eJ d)).1, e3 (F_X3_readNumber_8 bs n (e0 d, e1 d, e2 d, e3 d, e4 d, e5 d, e6 d, 13, e8 d, x, e10 d, e11 d, eJ d)).1, e4 (F_X3_readNumber_8 bs n (e0 d, e1 d, e2 d, e3 d, e4 d, e5 d, e6 d, 13, e8 d, x, e10 d, e11 d, eJ d)).1, e5 (F_X3_readNumber_8 bs n (e0 d, e1 d, e2 d, e3 d, e4 d, e5 d, e6 d, 13, e8 d, x, e10 d, e11 d, eJ d)).1, e6 (F_X3_readNumber_8 bs n (e0 d, e1 d, e2 d, e3 d, e4 d, e5 d, e6 d, 13, e8 d, x, e10 d, e11 d, eJ d)).1, e7 (F_X3_readNumber_8 bs n (e0 d, e1 d, e2 d, e3 d, e4 d, e5 d, e6 d, 13, e8 d, x, e10 d, e11 d, eJ d)).1, e8 (F_X3_readNumber_8 bs n (e0 d, e1 d, e2 d, e3 d, e4 d, e5 d, e6 d, 13, e8 d, x, e10 d, e11 d, eJ d)).1, e9 (F_X3_readNumber_8 bs n (e0 d, e1 d, e2 d, e3 d, e4 d, e5 d, e6 d, 13, e8 d, x, e10 d, e11 d, eJ d)).1, e10 (F_X3_readNumber_8 bs n (e0 d, e1 d, e2 d, e3 d, e4 d, e5 d, e6 d, 13, e8 d, x, e10 d, e11 d, eJ d)).1, e11 (F_X3_readNumber_8 bs n (e0 d, e1 d, e2 d, e3 d, e4 d, e5 d, e6 d, 13, e8 d, x, e10 d, e11 d, eJ d)).1, (F_X3_readNumber_8 bs n (e0 d, e1 d, e2 d, e3 d, e4 d, e5 d, e6 d, 13, e8 d, x, e10 d, e11 d, eJ d)).2) ∧ DP a (e0 (F_X3_readNumber_4 bs n (e0 d, e1 d, e2 d, e3 d, e4 d, e5 d, e6 d, 13, e8 d, x, e10 d, e11 d, eJ d)).1, e1 (F_X3_readNumber_4 bs n (e0 d, e1 d, e2 d, e3 d, e4 d, e5 d, e6 d, 13, e8 d, x, e10 d, e11 d, eJ d)).1, e2 (F_X3_readNumber_4 bs n (e0 d, e1 d, e2 d, e3 d, e4 d, e5 d, e6 d, 13, e8 d, x, e10 d, e11 d, eJ d)).1, e3 (F_X3_readNumber_4 bs n (e0 d, e1 d, e2 d, e3 d, e4 d, e5 d, e6 d, 13, e8 d, x, e10 d, e11 d, eJ d)).1, e4 (F_X3_readNumber_4 bs n (e0 d, e1 d, e2 d, e3 d, e4 d, e5 d, e6 d, 13, e8 d, x, e10 d, e11 d, eJ d)).1, e5 (F_X3_readNumber_4 bs n (e0 d, e1 d, e2 d, e3 d, e4 d, e5 d, e6 d, 13, e8 d, x, e10 d, e11 d, eJ d)).1, e6 (F_X3_readNumber_4 bs n (e0 d, e1 d, e2 d, e3 d, e4 d, e5 d, e6 d, 13, e8 d, x, e10 d, e11 d, eJ d)).1, e7 (F_X3_readNumber_4 bs n (e0 d, e1 d, e2 d, e3 d, e4 d, e5 d, e6 d, 13, e8 d, x, e10 d, e11 d, eJ d)).1, e8 (F_X3_readNumber_4 bs n (e0 d, e1 d, e2 d, e3 d, e4 d, e5 d, e6 d, 13, e8 d, x, e10 d, e11 d, eJ d)).1, e9 (F_X3_readNumber_4 bs n (e0 d, e1 d, e2 d, e3 d, e4 d, e5 d, e6 d, 13, e8 d, x, e10 d, e11 d, eJ d)).1, e10 (F_X3_readNumber_4 bs n (e0 d, e1 d, e2 d, e3 d, e4 d, e5 d, e6 d, 13, e8 d, x, e10 d, e11 d, eJ d)).1, e11 (F_X3_readNumber_4 bs n (e0 d, e1 d, e2 d, e3 d, e4 d, e5 d, e6 d, 13, e8 d, x, e10 d, e11 d, eJ d)).1, (F_X3_readNumber_4 bs n (e0 d, e1 d, e2 d, e3 d, e4 d, e5 d, e6 d, 13, e8 d, x, e10 d, e11 d, eJ d)).2) := by
    intro x
    obtain ⟨k1, k3, k4, k5, k6, k7, k8, k9, k10, k11, kJ⟩ := kc_rn8 (bs := bs) (n := n) (e0 d, e1 d, e2 d, e3 d, e4 d, e5 d, e6 d, 13, e8 d, x, e10 d, e11 d, eJ d)
    obtain ⟨m1, m3, m4, m5, m6, m7, m8, m9, m10, m11, mJ9⟩ := kc_rn4 (bs := bs) (n := n) (e0 d, e1 d, e2 d, e3 d, e4 d, e5 d, e6 d, 13, e8 d, x, e10 d, e11 d, eJ d)
    exact ⟨dp_num (dg_n8 hn (d := (e0 d, e1 d, e2 d, e3 d, e4 d, e5 d, e6 d, 13, e8 d, x, e10 d, e11 d, eJ d)) g) k8 k7 k10 k11 hw n13 h10 (rg_063 h11) _, dp_num (dg_n4 hn (d := (e0 d, e1 d, e2 d, e3 d, e4 d, e5 d, e6 d, 13, e8 d, x, e10 d, e11 d, eJ d)) g) m8 m7 m10 m11 hw n13 h10 (rg_063 h11) _⟩
  unfold F_X3_readMoveToRegister
  dsimp only
  split
  · split
    · exact (go _).1
    · exact (go _).2
  · split
    · exact (go _).1
    · exact (go _).2
theorem dp_tnn (hn : n.toInt ≤ 200) (h : DB a d) : DP a (F_X3_readTestNotNeg bs n d) := by
  have g := dg_rp (bs := bs) hn h.1
  obtain ⟨-, hw, h10, h11, hJ⟩ := h
  obtain ⟨a1, a6, a7, a8, a9, a10, a11, aJ⟩ := kp_rp (bs := bs) (n := n) d
  unfold F_X3_readTestNotNeg
  generalize F_X3_readPlace bs n d = p at *
  dsimp only
  obtain ⟨k1, k3, k4, k5, k6, k7, k8, k9, k10, k11, kJ⟩ := kc_rn4 (bs := bs) (n := n) (e0 p, e1 p, e2 p, e3 p, e4 p, e5 p, e6 p, 8, e8 p, e5 p, e10 p, e11 p, eJ p)
  have w2 : e8 p = 32 ∨ e8 p = 64 := by rw [← a8] at hw; exact hw
  have t10 : e10 p = -1 := a10.trans h10
  have n1 : ¬ (9 : Int32) = 18 := by decide
  have n2 : ¬ (10 : Int32) = 18 := by decide
  have n3 : ¬ (8 : Int32) = 18 := by decide
  split
  · exact dp_num (dg_n4 hn (d := (e0 p, e1 p, e2 p, e3 p, e4 p, e5 p, e6 p, 8, e8 p, e5 p, e10 p, e11 p, eJ p)) g) k8 k7 k10 k11 w2 n3 t10 (rg_063 (a11.trans h11)) _
  · split
    · exact Or.inl rfl
    · split
      · exact dp_mk g rfl rfl w2 (fun q => absurd q n1) (fun _ => t10) (rg_063 (a11.trans h11)) (fun q => absurd t10 q)
      · split
        · exact dp_mk g rfl rfl w2 (fun q => absurd q n2) (fun _ => t10) (rg_063 (a11.trans h11)) (fun q => absurd t10 q)
        · exact Or.inl rfl
theorem dp_inc (hn : n.toInt ≤ 200) (h : DB a d) : DP a (F_X3_readIncDec bs n d) := by
  have g := dg_rp (bs := bs) hn h.1
  obtain ⟨-, hw, h10, h11, hJ⟩ := h
  obtain ⟨a1, a6, a7, a8, a9, a10, a11, aJ⟩ := kp_rp (bs := bs) (n := n) d
  unfold F_X3_readIncDec
  generalize F_X3_readPlace bs n d = p at *
  dsimp only
  have w2 : e8 p = 32 ∨ e8 p = 64 := by rw [← a8] at hw; exact hw
  have t10 : e10 p = -1 := a10.trans h10
  have n1 : ¬ (11 : Int32) = 18 := by decide
  have n2 : ¬ (12 : Int32) = 18 := by decide
  split
  next z =>
    split
    · exact dp_mk g rfl rfl w2 (fun q => absurd q n1) (fun _ => t10) (rg_063 (a11.trans h11)) (fun q => absurd t10 q)
    next z2 => rw [z] at z2; exact absurd (by decide) z2
  next =>
    split
    · exact dp_mk g rfl rfl w2 (fun q => absurd q n2) (fun _ => t10) (rg_063 (a11.trans h11)) (fun q => absurd t10 q)
    · exact Or.inl rfl
theorem dp_j1 {x1 x2 : Int32} (hn : n.toInt ≤ 200) (h : DB a d) (h1 : ¬ x1 = 18) (h2 : Rg 0 63 x2) : DP a (F_X3_readJump_1 bs n d x1 x2) := by
  obtain ⟨g, hw, h10, h11, hJ⟩ := h
  unfold F_X3_readJump_1
  dsimp only
  obtain ⟨k1, k3, k4, k5, k6, k7, k8, k9, k10, k11, kJ⟩ := kc_rn1 (bs := bs) (n := n) (e0 d, e1 d, e2 d, e3 d, e4 d, e5 d, e6 d, x1, e8 d, e9 d, e10 d, x2, eJ d)
  split
  · exact Or.inl rfl
  · exact dp_num (dg_n1 hn (d := (e0 d, e1 d, e2 d, e3 d, e4 d, e5 d, e6 d, x1, e8 d, e9 d, e10 d, x2, eJ d)) g) k8 k7 k10 k11 hw h1 h10 h2 _
theorem dp_j4 {x1 x2 : Int32} (hn : n.toInt ≤ 200) (h : DB a d) (h1 : ¬ x1 = 18) (h2 : Rg 0 63 x2) : DP a (F_X3_readJump_4 bs n d x1 x2) := by
  obtain ⟨g, hw, h10, h11, hJ⟩ := h
  unfold F_X3_readJump_4
  dsimp only
  obtain ⟨k1, k3, k4, k5, k6, k7, k8, k9, k10, k11, kJ⟩ := kc_rn4 (bs := bs) (n := n) (e0 d, e1 d, e2 d, e3 d, e4 d, e5 d, e6 d, x1, e8 d, e9 d, e10 d, x2, eJ d)
  split
  · exact Or.inl rfl
  · exact dp_num (dg_n4 hn (d := (e0 d, e1 d, e2 d, e3 d, e4 d, e5 d, e6 d, x1, e8 d, e9 d, e10 d, x2, eJ d)) g) k8 k7 k10 k11 hw h1 h10 h2 _
theorem nr9 {lo hi : Int} {x : Int32} (h1 : x.toInt < lo ∨ hi < x.toInt := by decide) : ¬ Rg lo hi x := fun q => by
  have := q.1
  have := q.2
  omega
theorem dp_plain {k : Int32} (h : DB a d) (h1 : ¬ k = 18) : DP a (e0 d, e1 d, e2 d, e3 d, e4 d, e5 d, e6 d, k, e8 d, e9 d, e10 d, e11 d, eJ d) := by
  obtain ⟨g, hw, h10, h11, hJ⟩ := h
  exact dp_mk g rfl rfl hw (fun q => absurd q h1) (fun _ => h10) (rg_063 h11) (fun _ => hJ)
theorem r063 : Rg 0 63 0 := ⟨by decide, by decide⟩
theorem dp_other {x1 : Int32} (hn : n.toInt ≤ 200) (h : DB a d) : DP a (F_X3_readOther bs n d x1) := by
  unfold F_X3_readOther
  dsimp only
  by_cases c99 : x1 = 99
  · rw [if_pos c99]; exact dp_sign hn h
  rw [if_neg c99]
  by_cases c129 : x1 = 129
  · rw [if_pos c129]; exact dp_ar4 hn h
  rw [if_neg c129]
  by_cases c131 : x1 = 131
  · rw [if_pos c131]; exact dp_ar1 hn h
  rw [if_neg c131]
  by_cases c133 : x1 = 133
  · rw [if_pos c133]; exact dp_pair hn h (by decide) nr9
  rw [if_neg c133]
  by_cases c137 : x1 = 137
  · rw [if_pos c137]; exact dp_pair hn h (by decide) nr9
  rw [if_neg c137]
  by_cases c139 : x1 = 139
  · rw [if_pos c139]; exact dp_pair hn h (by decide) nr9
  rw [if_neg c139]
  by_cases c144 : x1 = 144
  · rw [if_pos c144]; exact dp_plain h (by decide)
  rw [if_neg c144]
  by_cases c193 : x1 = 193
  · rw [if_pos c193]; exact dp_shift hn h
  rw [if_neg c193]
  by_cases c195 : x1 = 195
  · rw [if_pos c195]; exact dp_plain h (by decide)
  rw [if_neg c195]
  by_cases c199 : x1 = 199
  · rw [if_pos c199]; exact dp_mvp hn h
  rw [if_neg c199]
  by_cases c233 : x1 = 233
  · rw [if_pos c233]; exact dp_j4 hn h (by decide) r063
  rw [if_neg c233]
  by_cases c235 : x1 = 235
  · rw [if_pos c235]; exact dp_j1 hn h (by decide) r063
  rw [if_neg c235]
  by_cases c244 : x1 = 244
  · rw [if_pos c244]; exact dp_plain h (by decide)
  rw [if_neg c244]
  by_cases c247 : x1 = 247
  · rw [if_pos c247]; exact dp_tnn hn h
  rw [if_neg c247]
  by_cases c255 : x1 = 255
  · rw [if_pos c255]; exact dp_inc hn h
  rw [if_neg c255]
  by_cases c431 : x1 = 431
  · rw [if_pos c431]; exact dp_pair hn h (by decide) nr9
  rw [if_neg c431]
  exact Or.inl rfl
set_option maxRecDepth 100000 in
theorem x3_7 {v : Int32} (h : Rg 0 255 v) (h2 : ¬ 64 ≤ v) : (v >>> (3 &&& 31)).toInt ≤ 7 := (by256 (p := fun v => 64 ≤ v ∨ (v >>> (3 &&& 31)).toInt ≤ 7) (by decide +kernel) h).resolve_left h2
theorem lt18 {v : Int32} (h : v.toInt ≤ 7) : ¬ v = 18 ∧ ¬ Rg 14 16 v := ⟨fun e => by rw [e] at h; exact absurd h (by decide), fun q => by have := q.1; omega⟩
theorem p82_dp {x2 : Int32} (hn : n.toInt ≤ 200) (h : DB a d) (hx : ¬ 64 ≤ x2 → Rg 0 255 x2) : ∃ q, F_X3_readFrom_p82 bs n d a x2 = F_X3_readFrom_p193 bs n q a ∧ DP a q := by
  have r15 : Rg 0 63 (x2 &&& 15) := rg_w (rg_and (x := x2) (⟨by decide, by decide⟩ : Rg 15 15 15))
  have n19 : ¬ (19 : Int32) = 18 := by decide
  unfold F_X3_readFrom_p82
  dsimp only
  by_cases c : 64 ≤ x2
  · rw [if_pos c]
    repeat' split
    · exact ⟨_, rfl, dp_j1 hn h n19 r15⟩
    · exact ⟨_, rfl, dp_j4 hn h n19 r15⟩
    · exact ⟨_, rfl, dp_mvr hn h⟩
    · exact ⟨_, rfl, dp_other hn h⟩
  · rw [if_neg c]
    obtain ⟨l1, l2⟩ := lt18 (x3_7 (hx c) c)
    repeat' split
    · exact ⟨_, rfl, dp_pair hn h l1 l2⟩
    · exact ⟨_, rfl, dp_pair hn h l1 l2⟩
    · exact ⟨_, rfl, dp_j1 hn h n19 r15⟩
    · exact ⟨_, rfl, dp_j4 hn h n19 r15⟩
    · exact ⟨_, rfl, dp_mvr hn h⟩
    · exact ⟨_, rfl, dp_other hn h⟩
theorem p61_dp {x2 : Int32} (hn : n.toInt ≤ 200) (g : DG a d) (h10 : e10 d = -1) (h11 : e11 d = 0) (hJ : eJ d = 0) (hx : ¬ 64 ≤ x2 → Rg 0 255 x2) : ∃ q, F_X3_readFrom_p61 bs n d a x2 = F_X3_readFrom_p193 bs n q a ∧ DP a q := by
  unfold F_X3_readFrom_p61
  split
  · exact p82_dp hn (⟨g, Or.inl rfl, h10, h11, hJ⟩ : DB a (e0 d, e1 d, e2 d, e3 d, e4 d, e5 d, e6 d, e7 d, 32, e9 d, e10 d, e11 d, eJ d)) hx
  · exact p82_dp hn (⟨g, Or.inr rfl, h10, h11, hJ⟩ : DB a (e0 d, e1 d, e2 d, e3 d, e4 d, e5 d, e6 d, e7 d, 64, e9 d, e10 d, e11 d, eJ d)) hx
theorem nb_255 (hB : ∀ i, Rg 0 255 (bs i)) : Rg 0 255 (F_X3_nextByte bs n d).2 := by
  have z : Rg 0 255 0 := ⟨by decide, by decide⟩
  by_cases q1 : e0 d < 0
  · rw [q_X3_nextByte_0 q1]; exact z
  · by_cases q2 : e0 d < n
    · rw [q_X3_nextByte_1 q1 q2]; exact hB _
    · rw [q_X3_nextByte_2 q1 q2]; exact z
theorem p46_dp {x2 : Int32} (hn : n.toInt ≤ 200) (hB : ∀ i, Rg 0 255 (bs i)) (g : DG a d) (h10 : e10 d = -1) (h11 : e11 d = 0) (hJ : eJ d = 0) (hx : Rg 0 255 x2) : ∃ q, F_X3_readFrom_p46 bs n d a x2 = F_X3_readFrom_p193 bs n q a ∧ DP a q := by
  unfold F_X3_readFrom_p46
  dsimp only
  split
  · obtain ⟨k1, k3, k4, k5, k6, k7, k8, k9, k10, k11, kJ⟩ := kc_nb (bs := bs) (n := n) d
    refine p61_dp hn (dg_nb hn g) (k10.trans h10) (k11.trans h11) (kJ.trans hJ) (fun z => absurd ?_ z)
    have hb := nb_255 (n := n) (d := d) hB
    rw [Int32.le_iff_toInt_le, Int32.toInt_add, show (256 : Int32).toInt = 256 from rfl, show (64 : Int32).toInt = 64 from rfl, bmod_in (by have := hb.1; omega) (by have := hb.2; omega)]
    have := hb.1
    omega
  · exact p61_dp hn g h10 h11 hJ (fun _ => hx)
/-- the first byte lies there -/
theorem dg_st (hn : n.toInt ≤ 200) {c : DD} (h0 : e0 c = a) (h2 : e2 c = 1) : DG a (F_X3_nextByte bs n c).1 := by
  by_cases q1 : e0 c < 0
  · rw [q_X3_nextByte_0 q1]; exact Or.inl rfl
  · by_cases q2 : e0 c < n
    · rw [q_X3_nextByte_1 q1 q2]
      have l1 := Int32.lt_iff_toInt_lt.mp q2
      have l0 := mt Int32.lt_iff_toInt_lt.mpr q1
      rw [show (0 : Int32).toInt = 0 from rfl] at l0
      have e : (e0 c + 1).toInt = (e0 c).toInt + 1 := by rw [Int32.toInt_add, show (1 : Int32).toInt = 1 from rfl, bmod_in (by omega) (by omega)]
      refine Or.inr ⟨h2, ?_, ?_⟩
      · show a.toInt < (e0 c + 1).toInt
        rw [e, h0]; omega
      · show (e0 c + 1).toInt ≤ 200
        rw [e]; omega
    · rw [q_X3_nextByte_2 q1 q2]; exact Or.inl rfl
theorem rf_dp (hn : n.toInt ≤ 200) (hB : ∀ i, Rg 0 255 (bs i)) : ∃ q, F_X3_readFrom bs n d a = F_X3_readFrom_p193 bs n q a ∧ DP a q := by
  unfold F_X3_readFrom
  dsimp only
  have e : F_X3_becomePlain bs n (a, 0, 1, e3 d, e4 d, e5 d, e6 d, e7 d, e8 d, e9 d, e10 d, e11 d, eJ d) 21 = (a, 0, 1, e3 d, e4 d, e5 d, e6 d, 21, e8 d, -1, -1, 0, 0) := rfl
  rw [e]
  obtain ⟨k1, k3, k4, k5, k6, k7, k8, k9, k10, k11, kJ⟩ := kc_nb (bs := bs) (n := n) (a, 0, 1, e3 d, e4 d, e5 d, e6 d, 21, e8 d, -1, -1, 0, 0)
  have g := dg_st (bs := bs) (a := a) hn (c := (a, 0, 1, e3 d, e4 d, e5 d, e6 d, 21, e8 d, -1, -1, 0, 0)) rfl rfl
  have b1 := nb_255 (n := n) (d := (a, 0, 1, e3 d, e4 d, e5 d, e6 d, 21, e8 d, -1, -1, 0, 0)) hB
  generalize F_X3_nextByte bs n (a, 0, 1, e3 d, e4 d, e5 d, e6 d, 21, e8 d, -1, -1, 0, 0) = z at *
  split
  · obtain ⟨l1, l3, l4, l5, l6, l7, l8, l9, l10, l11, lJ⟩ := kc_nb (bs := bs) (n := n) (e0 z.1, z.2, e2 z.1, e3 z.1, e4 z.1, e5 z.1, e6 z.1, e7 z.1, e8 z.1, e9 z.1, e10 z.1, e11 z.1, eJ z.1)
    exact p46_dp hn hB (dg_nb hn (d := (e0 z.1, z.2, e2 z.1, e3 z.1, e4 z.1, e5 z.1, e6 z.1, e7 z.1, e8 z.1, e9 z.1, e10 z.1, e11 z.1, eJ z.1)) g) (l10.trans k10) (l11.trans k11) (lJ.trans kJ) (nb_255 hB)
  · exact p46_dp hn hB g k10 k11 kJ b1
/-- what is known of a decoded instruction -/
theorem rf_facts (hn : n.toInt ≤ 200) (hB : ∀ i, Rg 0 255 (bs i)) (ha : 0 ≤ a.toInt) (hb : ¬ e7 (F_X3_readFrom bs n d a) = -1) : ¬ e6 (F_X3_readFrom bs n d a) = 0 ∧ (e7 (F_X3_readFrom bs n d a) < 19 → (e8 (F_X3_readFrom bs n d a) = 32 ∨ e8 (F_X3_readFrom bs n d a) = 64) ∧ (e7 (F_X3_readFrom bs n d a) = 18 → e8 (F_X3_readFrom bs n d a) = 64)) ∧ (Rg 14 16 (e7 (F_X3_readFrom bs n d a)) → e10 (F_X3_readFrom bs n d a) = -1) ∧ Rg 0 63 (e11 (F_X3_readFrom bs n d a)) ∧ (¬ e10 (F_X3_readFrom bs n d a) = -1 → eJ (F_X3_readFrom bs n d a) = 0) := by
  obtain ⟨q, e, hq⟩ := rf_dp (d := d) (a := a) hn hB
  rw [e] at hb ⊢
  by_cases z : e2 q = 0 ∨ e7 q = 2 ∨ e7 q = 3 ∨ FR q
  · exact absurd (c193_bad z) hb
  · have z2 : ¬ e2 q = 0 := fun h => z (Or.inl h)
    rcases hq with hq | ⟨⟨g1, g2, g3⟩, w, x, s, t, u⟩
    · exact absurd hq z2
    · have ln : ¬ e0 q - a = 0 := fun h => by
        have h9 : (e0 q - a).toInt = 0 := by rw [h]; rfl
        rw [Int32.toInt_sub, bmod_in (by omega) (by omega)] at h9
        omega
      by_cases c : e7 q < 19
      · rw [q_X3_readFrom_p193_0 c, c217_ok (d := (e0 q, e1 q, e2 q, e3 q, e4 q, e5 q, (e0 q - a), e7 q, e8 q, e9 q, e10 q, e11 q, eJ q)) g1 (fun h => z (Or.inr (Or.inr (Or.inr h)))) (fun h => z (Or.inr (Or.inl h))) (fun h => z (Or.inr (Or.inr (Or.inl h))))]
        exact ⟨ln, fun _ => ⟨w, x⟩, s, t, u⟩
      · rw [q_X3_readFrom_p193_1 c, c217_ok (d := (e0 q, e1 q, e2 q, e3 q, e4 q, e5 q, (e0 q - a), e7 q, 0, e9 q, e10 q, e11 q, eJ q)) g1 (fun h => z (Or.inr (Or.inr (Or.inr h)))) (fun h => z (Or.inr (Or.inl h))) (fun h => z (Or.inr (Or.inr (Or.inl h))))]
        exact ⟨ln, fun h => absurd h c, s, t, u⟩
end DFS
