abbrev f_70_p (b : Int32) : Prop := (b &&& (-16)) = 112 → 64 ≤ b ∧ (¬ b = 129 ∧ ¬ b = 131 ∧ ¬ b = 133 ∧ ¬ b = 247 ∧ ¬ b = 255 ∧ ¬ b = 137 ∧ ¬ b = 139 ∧ ¬ b = 199) ∧ b < 184 ∧ ¬ b = 193 ∧ ¬ b = 99 ∧ ¬ b = 15 ∧ ¬ b < 112 ∧ ¬ 128 ≤ b ∧ b - 112 = (b &&& 15) ∧ ¬ (b &&& 15) < 0 ∧ ¬ 15 < (b &&& 15) ∧ (((b &&& 15) &&& 14) = 10 → (b &&& 15) = 10 ∨ (b &&& 15) = 11) ∧ (¬ ((b &&& 15) &&& 14) = 10 → ¬ (b &&& 15) = 10 ∧ ¬ (b &&& 15) = 11)
set_option maxRecDepth 100000 in
theorem f_70 {b : Int32} (h : Rg 0 255 b) : f_70_p b := by256 (p := f_70_p) (by decide +kernel) h
abbrev f_b8_p (b : Int32) : Prop := (b &&& (-8)) = 184 → 64 ≤ b ∧ ¬ (b &&& (-16)) = 112 ∧ ¬ (b &&& (-16)) = 384 ∧ (¬ b = 129 ∧ ¬ b = 131 ∧ ¬ b = 133 ∧ ¬ b = 247 ∧ ¬ b = 255 ∧ ¬ b = 137 ∧ ¬ b = 139 ∧ ¬ b = 199) ∧ ¬ b < 184 ∧ ¬ 192 ≤ b ∧ b - 184 = (b &&& 7)
set_option maxRecDepth 100000 in
theorem f_b8 {b : Int32} (h : Rg 0 255 b) : f_b8_p b := by256 (p := f_b8_p) (by decide +kernel) h
abbrev f_p1_p (b : Int32) : Prop := ¬ 64 ≤ b → (b &&& 7) = 1 → (b - b / 8 * 8) = 1 ∧ b >>> (3 &&& 31) = b / 8 ∧ 0 ≤ (b / 8).toInt ∧ (b / 8).toInt ≤ 7
set_option maxRecDepth 100000 in
theorem f_p1 {b : Int32} (h : Rg 0 255 b) : f_p1_p b := by256 (p := f_p1_p) (by decide +kernel) h
abbrev f_p3_p (b : Int32) : Prop := ¬ 64 ≤ b → (b &&& 7) = 3 → ¬ (b - b / 8 * 8) = 1 ∧ (b - b / 8 * 8) = 3 ∧ b >>> (3 &&& 31) = b / 8 ∧ 0 ≤ (b / 8).toInt ∧ (b / 8).toInt ≤ 7
set_option maxRecDepth 100000 in
theorem f_p3 {b : Int32} (h : Rg 0 255 b) : f_p3_p b := by256 (p := f_p3_p) (by decide +kernel) h
abbrev f_no_p (b : Int32) : Prop := ¬ (b &&& (-16)) = 384 ∧ ¬ b = 431 ∧ (¬ 64 ≤ b → (b - b / 8 * 8) = 1 → (b &&& 7) = 1) ∧ (¬ 64 ≤ b → (b - b / 8 * 8) = 3 → (b &&& 7) = 3) ∧ (¬ (b &&& (-8)) = 184 → ¬ b < 184 → 192 ≤ b) ∧ (¬ (b &&& (-16)) = 112 → ¬ b < 112 → 128 ≤ b)
set_option maxRecDepth 100000 in
theorem f_no {b : Int32} (h : Rg 0 255 b) : f_no_p b := by256 (p := f_no_p) (by decide +kernel) h
abbrev f_80_p (b : Int32) : Prop := (b &&& (-16)) = 128 → ¬ b = 175 ∧ 64 ≤ 256 + b ∧ ¬ ((256 + b) &&& (-16)) = 112 ∧ ((256 + b) &&& (-16)) = 384 ∧ ((256 + b) &&& 15) = b - 128 ∧ ¬ (b - 128) < 0 ∧ ¬ 15 < (b - 128) ∧ (((b - 128) &&& 14) = 10 → (b - 128) = 10 ∨ (b - 128) = 11) ∧ (¬ ((b - 128) &&& 14) = 10 → ¬ (b - 128) = 10 ∧ ¬ (b - 128) = 11)
set_option maxRecDepth 100000 in
theorem f_80 {b : Int32} (h : Rg 0 255 b) : f_80_p b := by256 (p := f_80_p) (by decide +kernel) h
abbrev f_n2_p (b : Int32) : Prop := ¬ b = 175 → ¬ (b &&& (-16)) = 128 → 64 ≤ 256 + b ∧ ¬ ((256 + b) &&& (-16)) = 112 ∧ ¬ ((256 + b) &&& (-16)) = 384 ∧ ¬ ((256 + b) &&& (-8)) = 184 ∧ (∀ k ∈ ([99, 129, 131, 133, 137, 139, 144, 193, 195, 199, 233, 235, 244, 247, 255, 431] : List Int32), ¬ 256 + b = k) ∧ (b - 128 < 0 ∨ 15 < b - 128)
set_option maxRecDepth 100000 in
theorem f_n2 {b : Int32} (h : Rg 0 255 b) : f_n2_p b := by256 (p := f_n2_p) (by decide +kernel) h
abbrev f_rx_p (b : Int32) : Prop := (b &&& 242) = 64 → ¬ b < 64 ∧ ¬ 80 ≤ b ∧ (b &&& 2) = 0
set_option maxRecDepth 100000 in
theorem f_rx {b : Int32} (h : Rg 0 255 b) : f_rx_p b := by256 (p := f_rx_p) (by decide +kernel) h
abbrev f_rn_p (b : Int32) : Prop := ¬ (b &&& 242) = 64 → ¬ b < 64 → ¬ 80 ≤ b → ¬ (b &&& 2) = 0 ∧ ¬ b = 15 ∧ 64 ≤ b ∧ ¬ (b &&& (-16)) = 112 ∧ ¬ (b &&& (-16)) = 384 ∧ ¬ (b &&& (-8)) = 184 ∧ (∀ k ∈ ([99, 129, 131, 133, 137, 139, 144, 193, 195, 199, 233, 235, 244, 247, 255, 431] : List Int32), ¬ b = k)
set_option maxRecDepth 100000 in
theorem f_rn {b : Int32} (h : Rg 0 255 b) : f_rn_p b := by256 (p := f_rn_p) (by decide +kernel) h
section AI
variable {bs : Nat → Int32} {n : Int32}
theorem dflt {c : DD} {a b : Int32} (d1 : ¬ 64 ≤ b → ¬ (b &&& 7) = 1 ∧ ¬ (b &&& 7) = 3) (d2 : ¬ (b &&& (-16)) = 112) (d3 : ¬ (b &&& (-16)) = 384) (d4 : ¬ (b &&& (-8)) = 184) (d5 : ∀ k ∈ ([99, 129, 131, 133, 137, 139, 144, 193, 195, 199, 233, 235, 244, 247, 255, 431] : List Int32), ¬ b = k) : ∃ q, F_X3_readFrom_p82 bs n c a b = F_X3_readFrom_p193 bs n q a ∧ e2 q = 0 := by
  have e : e2 (F_X3_readOther bs n c b) = 0 := by rw [q_X3_readOther_16 (d5 99 (by decide)) (d5 129 (by decide)) (d5 131 (by decide)) (d5 133 (by decide)) (d5 137 (by decide)) (d5 139 (by decide)) (d5 144 (by decide)) (d5 193 (by decide)) (d5 195 (by decide)) (d5 199 (by decide)) (d5 233 (by decide)) (d5 235 (by decide)) (d5 244 (by decide)) (d5 247 (by decide)) (d5 255 (by decide)) (d5 431 (by decide))]
  by_cases q : 64 ≤ b
  · exact ⟨_, q_X3_readFrom_p82_3 q d2 d3 d4, e⟩
  · exact ⟨_, q_X3_readFrom_p82_9 q (d1 q).1 (d1 q).2 d2 d3 d4, e⟩
theorem rj_bad {r : DD} {b : Int32} (h1 : ¬ b < 112 → 128 ≤ b) (h2 : ¬ b = 235) (h3 : ¬ b = 233) (h4 : ¬ b = 195) (h5 : ¬ b = 244) (h6 : ¬ b = 144) : e7 (F_X10_readJumps bs n r b) = 1 := by
  by_cases q : b < 112
  · rw [q_X10_readJumps_5 q h2 h3 h4 h5 h6]
  · rw [q_X10_readJumps_11 q (h1 q) h2 h3 h4 h5 h6]
theorem rr_bad {r : DD} {x b : Int32} (h0 : ¬ 64 ≤ b → ¬ (b - b / 8 * 8) = 1 ∧ ¬ (b - b / 8 * 8) = 3) (h1 : ¬ b < 112 → 128 ≤ b) (h8 : ¬ b < 184 → 192 ≤ b) (h15 : ¬ b = 15) (d5 : ∀ k ∈ ([99, 129, 131, 133, 137, 139, 144, 193, 195, 199, 233, 235, 244, 247, 255, 431] : List Int32), ¬ b = k) : e7 (F_X10_readRest bs n r b x) = 1 := by
  have e : e7 (F_X10_readRest_p102 bs n r b x) = 1 := by
    by_cases q : b < 184
    · rw [q_X10_readRest_p102_8 (d5 129 (by decide)) (d5 131 (by decide)) (d5 133 (by decide)) (d5 247 (by decide)) (d5 255 (by decide)) (d5 137 (by decide)) (d5 139 (by decide)) (d5 199 (by decide)) q, q_X10_readRest_p564_3 (d5 193 (by decide)) (d5 99 (by decide)) h15]
      exact rj_bad h1 (d5 235 (by decide)) (d5 233 (by decide)) (d5 195 (by decide)) (d5 244 (by decide)) (d5 144 (by decide))
    · rw [q_X10_readRest_p102_9 (d5 129 (by decide)) (d5 131 (by decide)) (d5 133 (by decide)) (d5 247 (by decide)) (d5 255 (by decide)) (d5 137 (by decide)) (d5 139 (by decide)) (d5 199 (by decide)) q (h8 q), q_X10_readRest_p564_3 (d5 193 (by decide)) (d5 99 (by decide)) h15]
      exact rj_bad h1 (d5 235 (by decide)) (d5 233 (by decide)) (d5 195 (by decide)) (d5 244 (by decide)) (d5 144 (by decide))
  by_cases q : 64 ≤ b
  · rw [q_X10_readRest_0 q]; exact e
  · rw [q_X10_readRest_3 q (h0 q).1 (h0 q).2]; exact e
set_option maxHeartbeats 2000000 in
theorem body (hn : Rg 0 200 n) (hB : ∀ i, Rg 0 255 (bs i)) {c r : DD} {x a b : Int32} (h : IN c r x) (hb : Rg 0 255 b) (h15 : ¬ b = 15) : ∃ q, F_X3_readFrom_p82 bs n c a b = F_X3_readFrom_p193 bs n q a ∧ OO q (F_X10_readRest bs n r b x) := by
  by_cases v99 : b = 99
  · subst v99
    refine ⟨F_X3_readOther bs n c 99, q_X3_readFrom_p82_3 (x2 := 99) (by decide) (by decide) (by decide) (by decide), ?_⟩
    rw [q_X3_readOther_0 (x1 := 99) rfl, q_X10_readRest_0 (x1 := 99) (by decide), q_X10_readRest_p102_8 (x1 := 99) (by decide) (by decide) (by decide) (by decide) (by decide) (by decide) (by decide) (by decide) (by decide), q_X10_readRest_p564_1 (x1 := 99) (by decide) rfl]
    exact g_sign hn hB h
  by_cases v129 : b = 129
  · subst v129
    refine ⟨F_X3_readOther bs n c 129, q_X3_readFrom_p82_3 (x2 := 129) (by decide) (by decide) (by decide) (by decide), ?_⟩
    rw [q_X3_readOther_1 (x1 := 129) (by decide) rfl, q_X10_readRest_0 (x1 := 129) (by decide), q_X10_readRest_p102_0 (x1 := 129) rfl]
    exact g_ari4 hn hB h
  by_cases v131 : b = 131
  · subst v131
    refine ⟨F_X3_readOther bs n c 131, q_X3_readFrom_p82_3 (x2 := 131) (by decide) (by decide) (by decide) (by decide), ?_⟩
    rw [q_X3_readOther_2 (x1 := 131) (by decide) (by decide) rfl, q_X10_readRest_0 (x1 := 131) (by decide), q_X10_readRest_p102_1 (x1 := 131) (by decide) rfl]
    exact g_ari1 hn hB h
  by_cases v133 : b = 133
  · subst v133
    refine ⟨F_X3_readOther bs n c 133, q_X3_readFrom_p82_3 (x2 := 133) (by decide) (by decide) (by decide) (by decide), ?_⟩
    rw [q_X3_readOther_3 (x1 := 133) (by decide) (by decide) (by decide) rfl, q_X10_readRest_0 (x1 := 133) (by decide), q_X10_readRest_p102_2 (x1 := 133) (by decide) (by decide) rfl]
    exact g_test hn hB h
  by_cases v137 : b = 137
  · subst v137
    refine ⟨F_X3_readOther bs n c 137, q_X3_readFrom_p82_3 (x2 := 137) (by decide) (by decide) (by decide) (by decide), ?_⟩
    rw [q_X3_readOther_4 (x1 := 137) (by decide) (by decide) (by decide) (by decide) rfl, q_X10_readRest_0 (x1 := 137) (by decide), q_X10_readRest_p102_5 (x1 := 137) (by decide) (by decide) (by decide) (by decide) (by decide) rfl]
    exact g_mov1 hn hB h
  by_cases v139 : b = 139
  · subst v139
    refine ⟨F_X3_readOther bs n c 139, q_X3_readFrom_p82_3 (x2 := 139) (by decide) (by decide) (by decide) (by decide), ?_⟩
    rw [q_X3_readOther_5 (x1 := 139) (by decide) (by decide) (by decide) (by decide) (by decide) rfl, q_X10_readRest_0 (x1 := 139) (by decide), q_X10_readRest_p102_6 (x1 := 139) (by decide) (by decide) (by decide) (by decide) (by decide) (by decide) rfl]
    exact g_mov3 hn hB h
  by_cases v144 : b = 144
  · subst v144
    refine ⟨F_X3_readOther bs n c 144, q_X3_readFrom_p82_3 (x2 := 144) (by decide) (by decide) (by decide) (by decide), ?_⟩
    rw [q_X3_readOther_6 (x1 := 144) (by decide) (by decide) (by decide) (by decide) (by decide) (by decide) rfl, q_X10_readRest_0 (x1 := 144) (by decide), q_X10_readRest_p102_8 (x1 := 144) (by decide) (by decide) (by decide) (by decide) (by decide) (by decide) (by decide) (by decide) (by decide), q_X10_readRest_p564_3 (x1 := 144) (by decide) (by decide) (by decide), q_X10_readJumps_10 (x1 := 144) (by decide) (by decide) (by decide) (by decide) (by decide) (by decide) rfl]
    have y8 := w8 h.2
    have y9 := w9 h.2
    have y10 := w10 h.2
    have y11 := w11 h.2
    have yJ := wJ h.2
    exact Or.inr ⟨h.1.1, h.1.2.1, h.1.2.2.1, h.2.2.2.2.1.symm, y8, y9.trans h.2.2.2.2.2.1.symm, y10.trans h.2.2.2.2.2.2.1.symm, y11, (⟨by decide, by decide⟩ : Rg 0 22 21), (by decide : ¬ (21 : Int32) = 2), (by decide : ¬ (21 : Int32) = 3), z19j (by decide : (19 : Int32) ≤ 21) y9 (fun q => absurd (show (21 : Int32) = 19 from q) (by decide)), Or.inl yJ⟩
  by_cases v193 : b = 193
  · subst v193
    refine ⟨F_X3_readOther bs n c 193, q_X3_readFrom_p82_3 (x2 := 193) (by decide) (by decide) (by decide) (by decide), ?_⟩
    rw [q_X3_readOther_7 (x1 := 193) (by decide) (by decide) (by decide) (by decide) (by decide) (by decide) (by decide) rfl, q_X10_readRest_0 (x1 := 193) (by decide), q_X10_readRest_p102_9 (x1 := 193) (by decide) (by decide) (by decide) (by decide) (by decide) (by decide) (by decide) (by decide) (by decide) (by decide), q_X10_readRest_p564_0 (x1 := 193) rfl]
    exact g_shift hn hB h
  by_cases v195 : b = 195
  · subst v195
    refine ⟨F_X3_readOther bs n c 195, q_X3_readFrom_p82_3 (x2 := 195) (by decide) (by decide) (by decide) (by decide), ?_⟩
    rw [q_X3_readOther_8 (x1 := 195) (by decide) (by decide) (by decide) (by decide) (by decide) (by decide) (by decide) (by decide) rfl, q_X10_readRest_0 (x1 := 195) (by decide), q_X10_readRest_p102_9 (x1 := 195) (by decide) (by decide) (by decide) (by decide) (by decide) (by decide) (by decide) (by decide) (by decide) (by decide), q_X10_readRest_p564_3 (x1 := 195) (by decide) (by decide) (by decide), q_X10_readJumps_8 (x1 := 195) (by decide) (by decide) (by decide) (by decide) rfl]
    have y8 := w8 h.2
    have y9 := w9 h.2
    have y10 := w10 h.2
    have y11 := w11 h.2
    have yJ := wJ h.2
    exact Or.inr ⟨h.1.1, h.1.2.1, h.1.2.2.1, rfl, y8, y9.trans h.2.2.2.2.2.1.symm, y10.trans h.2.2.2.2.2.2.1.symm, y11, (⟨by decide, by decide⟩ : Rg 0 22 22), (by decide : ¬ (22 : Int32) = 2), (by decide : ¬ (22 : Int32) = 3), z19j (by decide : (19 : Int32) ≤ 22) y9 (fun q => absurd (show (22 : Int32) = 19 from q) (by decide)), Or.inl yJ⟩
  by_cases v199 : b = 199
  · subst v199
    refine ⟨F_X3_readOther bs n c 199, q_X3_readFrom_p82_3 (x2 := 199) (by decide) (by decide) (by decide) (by decide), ?_⟩
    rw [q_X3_readOther_9 (x1 := 199) (by decide) (by decide) (by decide) (by decide) (by decide) (by decide) (by decide) (by decide) (by decide) rfl, q_X10_readRest_0 (x1 := 199) (by decide), q_X10_readRest_p102_7 (x1 := 199) (by decide) (by decide) (by decide) (by decide) (by decide) (by decide) (by decide) rfl]
    exact g_movp hn hB h
  by_cases v233 : b = 233
  · subst v233
    refine ⟨F_X3_readOther bs n c 233, q_X3_readFrom_p82_3 (x2 := 233) (by decide) (by decide) (by decide) (by decide), ?_⟩
    rw [q_X3_readOther_10 (x1 := 233) (by decide) (by decide) (by decide) (by decide) (by decide) (by decide) (by decide) (by decide) (by decide) (by decide) rfl, q_X10_readRest_0 (x1 := 233) (by decide), q_X10_readRest_p102_9 (x1 := 233) (by decide) (by decide) (by decide) (by decide) (by decide) (by decide) (by decide) (by decide) (by decide) (by decide), q_X10_readRest_p564_3 (x1 := 233) (by decide) (by decide) (by decide)]
    exact g_jmp4 hn hB h
  by_cases v235 : b = 235
  · subst v235
    refine ⟨F_X3_readOther bs n c 235, q_X3_readFrom_p82_3 (x2 := 235) (by decide) (by decide) (by decide) (by decide), ?_⟩
    rw [q_X3_readOther_11 (x1 := 235) (by decide) (by decide) (by decide) (by decide) (by decide) (by decide) (by decide) (by decide) (by decide) (by decide) (by decide) rfl, q_X10_readRest_0 (x1 := 235) (by decide), q_X10_readRest_p102_9 (x1 := 235) (by decide) (by decide) (by decide) (by decide) (by decide) (by decide) (by decide) (by decide) (by decide) (by decide), q_X10_readRest_p564_3 (x1 := 235) (by decide) (by decide) (by decide)]
    exact g_jmp1 hn hB h
  by_cases v244 : b = 244
  · subst v244
    refine ⟨F_X3_readOther bs n c 244, q_X3_readFrom_p82_3 (x2 := 244) (by decide) (by decide) (by decide) (by decide), ?_⟩
    rw [q_X3_readOther_12 (x1 := 244) (by decide) (by decide) (by decide) (by decide) (by decide) (by decide) (by decide) (by decide) (by decide) (by decide) (by decide) (by decide) rfl, q_X10_readRest_0 (x1 := 244) (by decide), q_X10_readRest_p102_9 (x1 := 244) (by decide) (by decide) (by decide) (by decide) (by decide) (by decide) (by decide) (by decide) (by decide) (by decide), q_X10_readRest_p564_3 (x1 := 244) (by decide) (by decide) (by decide), q_X10_readJumps_9 (x1 := 244) (by decide) (by decide) (by decide) (by decide) (by decide) rfl]
    have y8 := w8 h.2
    have y9 := w9 h.2
    have y10 := w10 h.2
    have y11 := w11 h.2
    have yJ := wJ h.2
    exact Or.inr ⟨h.1.1, h.1.2.1, h.1.2.2.1, rfl, y8, y9.trans h.2.2.2.2.2.1.symm, y10.trans h.2.2.2.2.2.2.1.symm, y11, (⟨by decide, by decide⟩ : Rg 0 22 22), (by decide : ¬ (22 : Int32) = 2), (by decide : ¬ (22 : Int32) = 3), z19j (by decide : (19 : Int32) ≤ 22) y9 (fun q => absurd (show (22 : Int32) = 19 from q) (by decide)), Or.inl yJ⟩
  by_cases v247 : b = 247
  · subst v247
    refine ⟨F_X3_readOther bs n c 247, q_X3_readFrom_p82_3 (x2 := 247) (by decide) (by decide) (by decide) (by decide), ?_⟩
    rw [q_X3_readOther_13 (x1 := 247) (by decide) (by decide) (by decide) (by decide) (by decide) (by decide) (by decide) (by decide) (by decide) (by decide) (by decide) (by decide) (by decide) rfl, q_X10_readRest_0 (x1 := 247) (by decide), q_X10_readRest_p102_3 (x1 := 247) (by decide) (by decide) (by decide) rfl]
    exact g_tnn hn hB h
  by_cases v255 : b = 255
  · subst v255
    refine ⟨F_X3_readOther bs n c 255, q_X3_readFrom_p82_3 (x2 := 255) (by decide) (by decide) (by decide) (by decide), ?_⟩
    rw [q_X3_readOther_14 (x1 := 255) (by decide) (by decide) (by decide) (by decide) (by decide) (by decide) (by decide) (by decide) (by decide) (by decide) (by decide) (by decide) (by decide) (by decide) rfl, q_X10_readRest_0 (x1 := 255) (by decide), q_X10_readRest_p102_4 (x1 := 255) (by decide) (by decide) (by decide) (by decide) rfl]
    exact g_incdec hn hB h
  by_cases q70 : (b &&& (-16)) = 112
  · obtain ⟨f1, ⟨m129, m131, m133, m247, m255, m137, m139, m199⟩, f2, f3, f4, f5, f6, f7, f8, f9, f10, f11, f12⟩ := f_70 hb q70
    refine ⟨F_X3_readJump_1 bs n c 19 (b &&& 15), q_X3_readFrom_p82_0 f1 q70, ?_⟩
    rw [q_X10_readRest_0 f1, q_X10_readRest_p102_8 m129 m131 m133 m247 m255 m137 m139 m199 f2, q_X10_readRest_p564_3 f3 f4 f5, q_X10_readJumps_12 f6 f7, f8]
    exact g_jcc1 hn hB h f9 f10 f11 f12
  by_cases qb8 : (b &&& (-8)) = 184
  · obtain ⟨f1, f2, f3, ⟨m129, m131, m133, m247, m255, m137, m139, m199⟩, f4, f5, f6⟩ := f_b8 hb qb8
    refine ⟨F_X3_readMoveToRegister bs n c (b &&& 7), q_X3_readFrom_p82_2 f1 f2 f3 qb8, ?_⟩
    rw [q_X10_readRest_0 f1, q_X10_readRest_p102_10 m129 m131 m133 m247 m255 m137 m139 m199 f4 f5]
    exact g_mvr hn hB h f6
  by_cases q1 : ¬ 64 ≤ b ∧ (b &&& 7) = 1
  · obtain ⟨f1, f2, f3, f4⟩ := f_p1 hb q1.1 q1.2
    refine ⟨F_X3_readPair bs n c (b >>> (3 &&& 31)) 1, q_X3_readFrom_p82_4 q1.1 q1.2, ?_⟩
    rw [q_X10_readRest_1 q1.1 f1]
    exact g_pair1 hn hB h f1 f2 ⟨f3, f4⟩
  by_cases q3 : ¬ 64 ≤ b ∧ (b &&& 7) = 3
  · obtain ⟨f0, f1, f2, f3, f4⟩ := f_p3 hb q3.1 q3.2
    refine ⟨F_X3_readPair bs n c (b >>> (3 &&& 31)) 0, q_X3_readFrom_p82_5 q3.1 (fun q => q1 ⟨q3.1, q⟩) q3.2, ?_⟩
    rw [q_X10_readRest_2 q3.1 f0 f1]
    exact g_pair3 hn hB h f0 f2 ⟨f3, f4⟩
  obtain ⟨f1, f2, f3, f4, f5, f6⟩ := f_no hb
  have d5 : ∀ k ∈ ([99, 129, 131, 133, 137, 139, 144, 193, 195, 199, 233, 235, 244, 247, 255, 431] : List Int32), ¬ b = k := by
    intro k hk
    simp only [List.mem_cons, List.not_mem_nil, or_false] at hk
    rcases hk with rfl | rfl | rfl | rfl | rfl | rfl | rfl | rfl | rfl | rfl | rfl | rfl | rfl | rfl | rfl | rfl
    all_goals assumption
  obtain ⟨q, e1, e2⟩ := dflt (bs := bs) (n := n) (c := c) (a := a) (b := b) (fun g => ⟨fun y => q1 ⟨g, y⟩, fun y => q3 ⟨g, y⟩⟩) q70 f1 qb8 d5
  exact ⟨q, e1, Or.inl ⟨rr_bad (fun g => ⟨fun y => q1 ⟨g, f3 g y⟩, fun y => q3 ⟨g, f4 g y⟩⟩) (f6 q70) (f5 qb8) h15 d5, Or.inl e2⟩⟩
theorem rp_1 {r : DD} {x : Int32} (h : e7 r = 1) : e7 (F_X10_readPlaces bs n r x) = 1 := by
  by_cases q : (x &&& 4) = 0
  · rw [q_X10_readPlaces_0 q]; exact m44 (nx1 (bs := bs) (n := n) h)
  · rw [q_X10_readPlaces_1 q]; exact m44 (nx1 (bs := bs) (n := n) h)
theorem two_bad {r : DD} {x b : Int32} (h : e7 r = 1) : e7 (F_X10_readTwo bs n r b x) = 1 := by
  by_cases q : b = 175
  · rw [q_X10_readTwo_0 q]; exact rp_1 h
  · rw [q_X10_readTwo_1 q, q_X10_readIf_4_5 (by rw [h]; decide)]; exact if38_bad4 rfl
set_option maxHeartbeats 2000000 in
theorem body2 (hn : Rg 0 200 n) (hB : ∀ i, Rg 0 255 (bs i)) {c r : DD} {x a b : Int32} (h : IN c r x) (hb : Rg 0 255 b) : ∃ q, F_X3_readFrom_p82 bs n c a (256 + b) = F_X3_readFrom_p193 bs n q a ∧ OO q (F_X10_readTwo bs n r b x) := by
  by_cases v : b = 175
  · subst v
    refine ⟨F_X3_readOther bs n c (256 + 175), q_X3_readFrom_p82_3 (x2 := 256 + 175) (by decide) (by decide) (by decide) (by decide), ?_⟩
    rw [q_X3_readOther_15 (x1 := 256 + 175) (by decide) (by decide) (by decide) (by decide) (by decide) (by decide) (by decide) (by decide) (by decide) (by decide) (by decide) (by decide) (by decide) (by decide) (by decide) (by decide)]
    exact g_imul hn hB h
  by_cases q : (b &&& (-16)) = 128
  · obtain ⟨f0, f1, f2, f3, f4, f5, f6, f7, f8⟩ := f_80 hb q
    refine ⟨F_X3_readJump_4 bs n c 19 ((256 + b) &&& 15), q_X3_readFrom_p82_1 f1 f2 f3, ?_⟩
    rw [q_X10_readTwo_1 v, f4]
    exact g_jcc4 hn hB h f5 f6 f7 f8
  · obtain ⟨f1, f2, f3, f4, f5, f6⟩ := f_n2 hb v q
    obtain ⟨q, e1, e2⟩ := dflt (bs := bs) (n := n) (c := c) (a := a) (b := 256 + b) (fun g => absurd f1 g) f2 f3 f4 f5
    refine ⟨q, e1, Or.inl ⟨?_, Or.inl e2⟩⟩
    rw [q_X10_readTwo_1 v]
    by_cases y : b - 128 < 0
    · rw [q_X10_readIf_4_0 h.1.2.1 y]; exact if38_bad4 rfl
    · rw [q_X10_readIf_4_1 h.1.2.1 y (f6.elim (fun g => absurd g y) id)]; exact if38_bad4 rfl
abbrev FR (d : DD) : Prop := (e9 d = 4 ∨ e9 d = 5) ∧ ¬ e7 d = 7 ∧ ¬ e7 d = 8
theorem fc1 (d : DD) : (F_X3_isFrameChanged bs n d).1 = d ∧ ((F_X3_isFrameChanged bs n d).2 = 0 → ¬ FR d) ∧ (¬ FR d → (F_X3_isFrameChanged bs n d).2 = 0) := by
  by_cases a : e9 d = 4
  · by_cases b : e7 d = 7
    · rw [q_X3_isFrameChanged_0 a b]; exact ⟨rfl, fun _ q => q.2.1 b, fun _ => rfl⟩
    · by_cases c : e7 d = 8
      · rw [q_X3_isFrameChanged_1 a b c]; exact ⟨rfl, fun _ q => q.2.2 c, fun _ => rfl⟩
      · rw [q_X3_isFrameChanged_2 a b c]; exact ⟨rfl, fun q => absurd (show (1 : Int32) = 0 from q) (by decide), fun q => absurd ⟨Or.inl a, b, c⟩ q⟩
  · by_cases a5 : e9 d = 5
    · by_cases b : e7 d = 7
      · rw [q_X3_isFrameChanged_3 a a5 b]; exact ⟨rfl, fun _ q => q.2.1 b, fun _ => rfl⟩
      · by_cases c : e7 d = 8
        · rw [q_X3_isFrameChanged_4 a a5 b c]; exact ⟨rfl, fun _ q => q.2.2 c, fun _ => rfl⟩
        · rw [q_X3_isFrameChanged_5 a a5 b c]; exact ⟨rfl, fun q => absurd (show (1 : Int32) = 0 from q) (by decide), fun q => absurd ⟨Or.inr a5, b, c⟩ q⟩
    · rw [q_X3_isFrameChanged_6 a a5]; exact ⟨rfl, fun _ q => q.1.elim a a5, fun _ => rfl⟩
theorem ca1 (d : DD) : (F_X3_isCarryArithmetic bs n d).1 = d ∧ ((F_X3_isCarryArithmetic bs n d).2 = 0 → ¬ e7 d = 2 ∧ ¬ e7 d = 3) ∧ (¬ e7 d = 2 → ¬ e7 d = 3 → (F_X3_isCarryArithmetic bs n d).2 = 0) := by
  by_cases a : e7 d = 2
  · rw [q_X3_isCarryArithmetic_0 a]; exact ⟨rfl, fun q => absurd (show (1 : Int32) = 0 from q) (by decide), fun q => absurd a q⟩
  · by_cases b : e7 d = 3
    · rw [q_X3_isCarryArithmetic_1 a b]; exact ⟨rfl, fun q => absurd (show (1 : Int32) = 0 from q) (by decide), fun _ q => absurd b q⟩
    · rw [q_X3_isCarryArithmetic_2 a b]; exact ⟨rfl, fun _ => ⟨a, b⟩, fun _ _ => rfl⟩
theorem c217_bad {d : DD} (h : e2 d = 0 ∨ e7 d = 2 ∨ e7 d = 3 ∨ FR d) : e7 (F_X3_readFrom_p217 bs n d) = -1 := by
  by_cases a : e2 d = 0
  · rw [q_X3_readFrom_p217_0 a]; rfl
  · by_cases b : (F_X3_isFrameChanged bs n d).2 = 0
    · by_cases c : (F_X3_isCarryArithmetic bs n (F_X3_isFrameChanged bs n d).1).2 = 0
      · have k := (ca1 (bs := bs) (n := n) (F_X3_isFrameChanged bs n d).1).2.1 c
        rw [(fc1 (bs := bs) (n := n) d).1] at k
        rcases h with h | h | h | h
        · exact absurd h a
        · exact absurd h k.1
        · exact absurd h k.2
        · exact absurd h ((fc1 (bs := bs) (n := n) d).2.1 b)
      · rw [q_X3_readFrom_p217_2 a b c]; rfl
    · rw [q_X3_readFrom_p217_3 a b]; rfl
theorem c217_ok {d : DD} (h2 : e2 d = 1) (hf : ¬ FR d) (h3 : ¬ e7 d = 2) (h4 : ¬ e7 d = 3) : F_X3_readFrom_p217 bs n d = d := by
  have a : ¬ e2 d = 0 := by rw [h2]; decide
  have b := (fc1 (bs := bs) (n := n) d).2.2 hf
  have e := (fc1 (bs := bs) (n := n) d).1
  have c : (F_X3_isCarryArithmetic bs n (F_X3_isFrameChanged bs n d).1).2 = 0 := by rw [e]; exact (ca1 (bs := bs) (n := n) d).2.2 h3 h4
  rw [q_X3_readFrom_p217_1 a b c, (ca1 (bs := bs) (n := n) _).1, e]
theorem c193_bad {d : DD} {a : Int32} (h : e2 d = 0 ∨ e7 d = 2 ∨ e7 d = 3 ∨ FR d) : e7 (F_X3_readFrom_p193 bs n d a) = -1 := by
  by_cases q : e7 d < 19
  · rw [q_X3_readFrom_p193_0 q]; exact c217_bad h
  · rw [q_X3_readFrom_p193_1 q]; exact c217_bad h
theorem r178_bad {d : DD} {a : Int32} (h : e7 d = 1) : (F_X10_read_p178 bs n d a).2 = 0 := by
  have k : ¬ e7 d = 0 := by rw [h]; decide
  by_cases q : e1 d < 19
  · rw [q_X10_read_p178_1 q k]
  · rw [q_X10_read_p178_3 q k]
theorem r107_bad {d : DD} {a : Int32} (h : e7 d = 1) : (F_X10_read_p107 bs n d a).2 = 0 := by
  have k : ¬ e7 d = 0 := by rw [h]; decide
  by_cases q7 : e1 d = 7
  · rw [q_X10_read_p107_0 q7, q_X10_read_p141_4 k]; exact r178_bad rfl
  by_cases q8 : e1 d = 8
  · rw [q_X10_read_p107_1 q7 q8, q_X10_read_p141_4 k]; exact r178_bad rfl
  by_cases q9 : 19 ≤ e1 d
  · rw [q_X10_read_p107_2 q7 q8 q9, q_X10_read_p141_4 k]; exact r178_bad rfl
  · rw [q_X10_read_p107_3 q7 q8 q9, q_X10_read_p141_4 k]; exact r178_bad rfl
abbrev FQ (d : DD) : Prop := (e3 d = 4 ∨ e3 d = 5) ∧ ¬ e1 d = 7 ∧ ¬ e1 d = 8 ∧ ¬ 19 ≤ e1 d
theorem r107_fr {d : DD} {a : Int32} (h : e7 d = 0) (hf : FQ d) : (F_X10_read_p107 bs n d a).2 = 0 := by
  obtain ⟨f1, f2, f3, f4⟩ := hf
  rw [q_X10_read_p107_3 f2 f3 f4]
  by_cases q : e3 d = 4
  · rw [q_X10_read_p141_1 h (by decide) q]; exact r178_bad rfl
  · rw [q_X10_read_p141_2 h (by decide) q (f1.elim (fun y => absurd y q) id)]; exact r178_bad rfl
theorem r107_ok {d : DD} {a : Int32} (h : e7 d = 0) (hf : ¬ FQ d) : F_X10_read_p107 bs n d a = F_X10_read_p178 bs n (e0 d, e1 d, e2 d, e3 d, e4 d, e5 d, e6 d, 0, e8 d, e9 d, e10 d, e11 d, eJ d) a := by
  by_cases q7 : e1 d = 7
  · rw [q_X10_read_p107_0 q7, q_X10_read_p141_0 h rfl]
  by_cases q8 : e1 d = 8
  · rw [q_X10_read_p107_1 q7 q8, q_X10_read_p141_0 h rfl]
  by_cases q9 : 19 ≤ e1 d
  · rw [q_X10_read_p107_2 q7 q8 q9, q_X10_read_p141_0 h rfl]
  · have h4 : ¬ e3 d = 4 := fun y => hf ⟨Or.inl y, q7, q8, q9⟩
    have h5 : ¬ e3 d = 5 := fun y => hf ⟨Or.inr y, q7, q8, q9⟩
    rw [q_X10_read_p107_3 q7 q8 q9, q_X10_read_p141_3 h (by decide) h4 h5]
abbrev FIN (c r : DD) (k : Int32) : Prop := (e7 c = -1 ∧ k = 0) ∨ (¬ e7 c = -1 ∧ k = 1 ∧ e6 c = e6 r ∧ e7 c = e1 r ∧ e8 c = e2 r ∧ e9 c = e3 r ∧ e10 c = e4 r ∧ e11 c = e5 r ∧ (eJ c = eJ r ∨ Rg 14 16 (e7 c)) ∧ Rg 0 22 (e7 c) ∧ Z19 (e7 c) (e9 c) (e10 c) (e11 c) ∧ ¬ e7 c = 2 ∧ ¬ e7 c = 3)
theorem fin {c r : DD} {a : Int32} (h : OO c r) : FIN (F_X3_readFrom_p193 bs n c a) (F_X10_read_p107 bs n r a).1 (F_X10_read_p107 bs n r a).2 := by
  rcases h with ⟨h7, h⟩ | ⟨h2, h7, h0, h71, h82, h93, h104, h115, hr, hn2, hn3, h19, hJ⟩
  · exact Or.inl ⟨c193_bad (by rcases h with h | h | h; exact Or.inl h; exact Or.inr (Or.inl h); exact Or.inr (Or.inr (Or.inl h))), r107_bad h7⟩
  · by_cases f : FR c
    · have fq : FQ r := ⟨by rw [← h93]; exact f.1, by rw [← h71]; exact f.2.1, by rw [← h71]; exact f.2.2, fun q => by
        have e := h19.1 (by rw [h71]; exact q)
        rcases f.1 with y | y <;> exact absurd (e.symm.trans y) (by decide)⟩
      exact Or.inl ⟨c193_bad (Or.inr (Or.inr (Or.inr f))), r107_fr h7 fq⟩
    · have fq : ¬ FQ r := fun q => f ⟨by rw [h93]; exact q.1, by rw [h71]; exact q.2.1, by rw [h71]; exact q.2.2.1⟩
      have hm : ¬ e7 c = -1 := rg_nec (v := -1) hr
      by_cases q : e7 c < 19
      · have q' : e1 r < 19 := by rw [← h71]; exact q
        rw [q_X3_readFrom_p193_0 q, c217_ok (d := (e0 c, e1 c, e2 c, e3 c, e4 c, e5 c, (e0 c - a), e7 c, e8 c, e9 c, e10 c, e11 c, eJ c)) h2 f hn2 hn3, r107_ok h7 fq, q_X10_read_p178_0 (d := (e0 r, e1 r, e2 r, e3 r, e4 r, e5 r, e6 r, 0, e8 r, e9 r, e10 r, e11 r, eJ r)) q' rfl]
        exact Or.inr ⟨hm, rfl, congrArg (fun y => y - a) h0, h71, h82, h93, h104, h115, hJ, hr, h19, hn2, hn3⟩
      · have q' : ¬ e1 r < 19 := by rw [← h71]; exact q
        rw [q_X3_readFrom_p193_1 q, c217_ok (d := (e0 c, e1 c, e2 c, e3 c, e4 c, e5 c, (e0 c - a), e7 c, 0, e9 c, e10 c, e11 c, eJ c)) h2 f hn2 hn3, r107_ok h7 fq, q_X10_read_p178_2 (d := (e0 r, e1 r, e2 r, e3 r, e4 r, e5 r, e6 r, 0, e8 r, e9 r, e10 r, e11 r, eJ r)) q' rfl]
        exact Or.inr ⟨hm, rfl, congrArg (fun y => y - a) h0, h71, rfl, h93, h104, h115, hJ, hr, h19, hn2, hn3⟩
theorem fin2 {c r : DD} {a b : Int32} (h : ∃ q, F_X3_readFrom_p82 bs n c a b = F_X3_readFrom_p193 bs n q a ∧ OO q r) : FIN (F_X3_readFrom_p82 bs n c a b) (F_X10_read_p107 bs n r a).1 (F_X10_read_p107 bs n r a).2 := by
  obtain ⟨q, e, ho⟩ := h
  rw [e]
  exact fin ho
theorem nb_bad {c : DD} (h : e2 c = 1) (hb : e2 (F_X3_nextByte bs n c).1 = 0) : (F_X3_nextByte bs n c).2 = 0 := by
  by_cases q1 : e0 c < 0
  · rw [q_X3_nextByte_0 q1]
  · by_cases q2 : e0 c < n
    · rw [q_X3_nextByte_1 q1 q2] at hb; exact absurd (h.symm.trans hb) (by decide)
    · rw [q_X3_nextByte_2 q1 q2]
theorem d0 {c : DD} {a : Int32} : ∃ q, F_X3_readFrom_p82 bs n c a 0 = F_X3_readFrom_p193 bs n q a ∧ e2 q = 0 := dflt (fun _ => ⟨(by decide), (by decide)⟩) (by decide) (by decide) (by decide) (by decide)
theorem d256 {c : DD} {a : Int32} : ∃ q, F_X3_readFrom_p82 bs n c a (256 + 0) = F_X3_readFrom_p193 bs n q a ∧ e2 q = 0 := dflt (b := 256 + 0) (fun g => absurd (by decide) g) (by decide) (by decide) (by decide) (by decide)
set_option maxHeartbeats 2000000 in
theorem st46 (hn : Rg 0 200 n) (hB : ∀ i, Rg 0 255 (bs i)) {c r : DD} {x a b : Int32} (hg : e2 c = 1 ∧ e7 r = 0 ∧ e0 c = e0 r ∧ Rg 0 200 (e0 c)) (h1 : e1 c = x) (hc : e7 c = 21 ∧ e9 c = -1 ∧ e10 c = -1 ∧ e11 c = 0 ∧ eJ c = 0) (hr : e1 r = 21 ∧ e3 r = -1 ∧ e4 r = -1 ∧ e5 r = 0 ∧ eJ r = 0) (hb : Rg 0 255 b) : FIN (F_X3_readFrom_p46 bs n c a b) (F_X10_read_p76 bs n r a b x).1 (F_X10_read_p76 bs n r a b x).2 := by
  by_cases w : (x &&& 8) = 0
  · rw [q_X10_read_p76_0 w hg.2.1]
    by_cases q : b = 15
    · subst q
      obtain ⟨k1, k3, k4, k5, k6, k7, k8, k9, k10, k11, kJ⟩ := kc_nb (bs := bs) (n := n) c
      obtain ⟨r1, r2, r3, r4, r5, r6, r8, r9, r10, r11, rJ⟩ := kr_nx (bs := bs) (n := n) (e0 r, e1 r, 32, e3 r, e4 r, e5 r, e6 r, e7 r, e8 r, e9 r, e10 r, e11 r, eJ r)
      obtain ⟨g, v⟩ := nx (bs := bs) hn hB (c := c) (r := (e0 r, e1 r, 32, e3 r, e4 r, e5 r, e6 r, e7 r, e8 r, e9 r, e10 r, e11 r, eJ r)) (Or.inr hg)
      rw [q_X3_readFrom_p46_0 rfl, q_X3_readFrom_p61_0 (by rw [k1, h1]; exact w), q_X10_readRest_3 (x1 := 15) (by decide) (by decide) (by decide), q_X10_readRest_p102_8 (x1 := 15) (by decide) (by decide) (by decide) (by decide) (by decide) (by decide) (by decide) (by decide) (by decide), q_X10_readRest_p564_2 (x1 := 15) (by decide) (by decide) rfl]
      rcases g with ⟨b1, b2⟩ | ⟨g2, g7, g0, gr⟩
      · rw [nb_bad hg.1 b1]
        obtain ⟨q, e1, e2⟩ := d256 (bs := bs) (n := n) (c := (e0 (F_X3_nextByte bs n c).1, e1 (F_X3_nextByte bs n c).1, e2 (F_X3_nextByte bs n c).1, e3 (F_X3_nextByte bs n c).1, e4 (F_X3_nextByte bs n c).1, e5 (F_X3_nextByte bs n c).1, e6 (F_X3_nextByte bs n c).1, e7 (F_X3_nextByte bs n c).1, 32, e9 (F_X3_nextByte bs n c).1, e10 (F_X3_nextByte bs n c).1, e11 (F_X3_nextByte bs n c).1, eJ (F_X3_nextByte bs n c).1)) (a := a)
        exact fin2 ⟨q, e1, Or.inl ⟨two_bad b2, Or.inl e2⟩⟩
      · obtain ⟨-, ev, er⟩ := v g2
        rw [← ev]
        exact fin2 (body2 hn hB ⟨⟨g2, g7, g0, gr⟩, k1.trans h1, Or.inr ⟨rfl, r2.trans rfl, w⟩, ⟨k7.trans hc.1, k9.trans hc.2.1, k10.trans hc.2.2.1, k11.trans hc.2.2.2.1, kJ.trans hc.2.2.2.2⟩, ⟨r1.trans hr.1, r3.trans hr.2.1, r4.trans hr.2.2.1, r5.trans hr.2.2.2.1, rJ.trans hr.2.2.2.2⟩⟩ er)
    · rw [q_X3_readFrom_p46_1 q, q_X3_readFrom_p61_0 (by rw [h1]; exact w)]
      exact fin2 (body hn hB ⟨hg, h1, Or.inr ⟨rfl, rfl, w⟩, hc, hr⟩ hb q)
  · rw [q_X10_read_p76_2 w hg.2.1]
    by_cases q : b = 15
    · subst q
      obtain ⟨k1, k3, k4, k5, k6, k7, k8, k9, k10, k11, kJ⟩ := kc_nb (bs := bs) (n := n) c
      obtain ⟨r1, r2, r3, r4, r5, r6, r8, r9, r10, r11, rJ⟩ := kr_nx (bs := bs) (n := n) (e0 r, e1 r, 64, e3 r, e4 r, e5 r, e6 r, e7 r, e8 r, e9 r, e10 r, e11 r, eJ r)
      obtain ⟨g, v⟩ := nx (bs := bs) hn hB (c := c) (r := (e0 r, e1 r, 64, e3 r, e4 r, e5 r, e6 r, e7 r, e8 r, e9 r, e10 r, e11 r, eJ r)) (Or.inr hg)
      rw [q_X3_readFrom_p46_0 rfl, q_X3_readFrom_p61_1 (by rw [k1, h1]; exact w), q_X10_readRest_3 (x1 := 15) (by decide) (by decide) (by decide), q_X10_readRest_p102_8 (x1 := 15) (by decide) (by decide) (by decide) (by decide) (by decide) (by decide) (by decide) (by decide) (by decide), q_X10_readRest_p564_2 (x1 := 15) (by decide) (by decide) rfl]
      rcases g with ⟨b1, b2⟩ | ⟨g2, g7, g0, gr⟩
      · rw [nb_bad hg.1 b1]
        obtain ⟨q, e1, e2⟩ := d256 (bs := bs) (n := n) (c := (e0 (F_X3_nextByte bs n c).1, e1 (F_X3_nextByte bs n c).1, e2 (F_X3_nextByte bs n c).1, e3 (F_X3_nextByte bs n c).1, e4 (F_X3_nextByte bs n c).1, e5 (F_X3_nextByte bs n c).1, e6 (F_X3_nextByte bs n c).1, e7 (F_X3_nextByte bs n c).1, 64, e9 (F_X3_nextByte bs n c).1, e10 (F_X3_nextByte bs n c).1, e11 (F_X3_nextByte bs n c).1, eJ (F_X3_nextByte bs n c).1)) (a := a)
        exact fin2 ⟨q, e1, Or.inl ⟨two_bad b2, Or.inl e2⟩⟩
      · obtain ⟨-, ev, er⟩ := v g2
        rw [← ev]
        exact fin2 (body2 hn hB ⟨⟨g2, g7, g0, gr⟩, k1.trans h1, Or.inl ⟨rfl, r2.trans rfl, w⟩, ⟨k7.trans hc.1, k9.trans hc.2.1, k10.trans hc.2.2.1, k11.trans hc.2.2.2.1, kJ.trans hc.2.2.2.2⟩, ⟨r1.trans hr.1, r3.trans hr.2.1, r4.trans hr.2.2.1, r5.trans hr.2.2.2.1, rJ.trans hr.2.2.2.2⟩⟩ er)
    · rw [q_X3_readFrom_p46_1 q, q_X3_readFrom_p61_1 (by rw [h1]; exact w)]
      exact fin2 (body hn hB ⟨hg, h1, Or.inl ⟨rfl, rfl, w⟩, hc, hr⟩ hb q)
theorem p46_bad {c : DD} {a b : Int32} (hb : ¬ b = 15) (h : ∀ c : DD, ∃ q, F_X3_readFrom_p82 bs n c a b = F_X3_readFrom_p193 bs n q a ∧ e2 q = 0) : e7 (F_X3_readFrom_p46 bs n c a b) = -1 := by
  by_cases w : (e1 c &&& 8) = 0
  · rw [q_X3_readFrom_p46_1 hb, q_X3_readFrom_p61_0 w]
    obtain ⟨q, e, e2⟩ := h (e0 c, e1 c, e2 c, e3 c, e4 c, e5 c, e6 c, e7 c, 32, e9 c, e10 c, e11 c, eJ c)
    rw [e]; exact c193_bad (Or.inl e2)
  · rw [q_X3_readFrom_p46_1 hb, q_X3_readFrom_p61_1 w]
    obtain ⟨q, e, e2⟩ := h (e0 c, e1 c, e2 c, e3 c, e4 c, e5 c, e6 c, e7 c, 64, e9 c, e10 c, e11 c, eJ c)
    rw [e]; exact c193_bad (Or.inl e2)
theorem p76_bad {r : DD} {a b x : Int32} (h : e7 r = 1) : (F_X10_read_p76 bs n r a b x).2 = 0 := by
  have k : ¬ e7 r = 0 := by rw [h]; decide
  by_cases w : (x &&& 8) = 0
  · rw [q_X10_read_p76_1 w k]; exact r107_bad h
  · rw [q_X10_read_p76_3 w k]; exact r107_bad h
def RFc (bs : Nat → Int32) (n : Int32) (c : DD) (a : Int32) : DD := if ((F_X3_nextByte bs n c).2 &&& 242) = 64 then F_X3_readFrom_p46 bs n (F_X3_nextByte bs n (e0 (F_X3_nextByte bs n c).1, (F_X3_nextByte bs n c).2, e2 (F_X3_nextByte bs n c).1, e3 (F_X3_nextByte bs n c).1, e4 (F_X3_nextByte bs n c).1, e5 (F_X3_nextByte bs n c).1, e6 (F_X3_nextByte bs n c).1, e7 (F_X3_nextByte bs n c).1, e8 (F_X3_nextByte bs n c).1, e9 (F_X3_nextByte bs n c).1, e10 (F_X3_nextByte bs n c).1, e11 (F_X3_nextByte bs n c).1, eJ (F_X3_nextByte bs n c).1)).1 a (F_X3_nextByte bs n (e0 (F_X3_nextByte bs n c).1, (F_X3_nextByte bs n c).2, e2 (F_X3_nextByte bs n c).1, e3 (F_X3_nextByte bs n c).1, e4 (F_X3_nextByte bs n c).1, e5 (F_X3_nextByte bs n c).1, e6 (F_X3_nextByte bs n c).1, e7 (F_X3_nextByte bs n c).1, e8 (F_X3_nextByte bs n c).1, e9 (F_X3_nextByte bs n c).1, e10 (F_X3_nextByte bs n c).1, e11 (F_X3_nextByte bs n c).1, eJ (F_X3_nextByte bs n c).1)).2 else F_X3_readFrom_p46 bs n (F_X3_nextByte bs n c).1 a (F_X3_nextByte bs n c).2
theorem rf_eq {d : DD} {a : Int32} : F_X3_readFrom bs n d a = RFc bs n (F_X3_becomePlain bs n (a, 0, 1, e3 d, e4 d, e5 d, e6 d, e7 d, e8 d, e9 d, e10 d, e11 d, eJ d) 21) a := rfl
def RRr (bs : Nat → Int32) (n : Int32) (r : DD) (a : Int32) : DD × Int32 := if (F_X10_next bs n r).2 < 64 then F_X10_read_p76 bs n (F_X10_next bs n r).1 a (F_X10_next bs n r).2 0 else if 80 ≤ (F_X10_next bs n r).2 then F_X10_read_p76 bs n (F_X10_next bs n r).1 a (F_X10_next bs n r).2 0 else if e7 (F_X10_next bs n r).1 = 0 then if ((F_X10_next bs n r).2 &&& 2) = 0 then F_X10_read_p71 bs n (e0 (F_X10_next bs n r).1, e1 (F_X10_next bs n r).1, e2 (F_X10_next bs n r).1, e3 (F_X10_next bs n r).1, e4 (F_X10_next bs n r).1, e5 (F_X10_next bs n r).1, e6 (F_X10_next bs n r).1, 0, e8 (F_X10_next bs n r).1, e9 (F_X10_next bs n r).1, e10 (F_X10_next bs n r).1, e11 (F_X10_next bs n r).1, eJ (F_X10_next bs n r).1) a (F_X10_next bs n r).2 (F_X10_next bs n r).2 else F_X10_read_p71 bs n (e0 (F_X10_next bs n r).1, e1 (F_X10_next bs n r).1, e2 (F_X10_next bs n r).1, e3 (F_X10_next bs n r).1, e4 (F_X10_next bs n r).1, e5 (F_X10_next bs n r).1, e6 (F_X10_next bs n r).1, 1, e8 (F_X10_next bs n r).1, e9 (F_X10_next bs n r).1, e10 (F_X10_next bs n r).1, e11 (F_X10_next bs n r).1, eJ (F_X10_next bs n r).1) a (F_X10_next bs n r).2 (F_X10_next bs n r).2 else F_X10_read_p71 bs n (e0 (F_X10_next bs n r).1, e1 (F_X10_next bs n r).1, e2 (F_X10_next bs n r).1, e3 (F_X10_next bs n r).1, e4 (F_X10_next bs n r).1, e5 (F_X10_next bs n r).1, e6 (F_X10_next bs n r).1, 1, e8 (F_X10_next bs n r).1, e9 (F_X10_next bs n r).1, e10 (F_X10_next bs n r).1, e11 (F_X10_next bs n r).1, eJ (F_X10_next bs n r).1) a (F_X10_next bs n r).2 (F_X10_next bs n r).2
theorem rr_eq {d : DD} {a : Int32} : F_X10_read bs n d a = RRr bs n (F_X10_take bs n (a, e1 d, e2 d, e3 d, e4 d, 0, e6 d, 0, e8 d, e9 d, e10 d, e11 d, 0) 21 (-1) (-1)) a := rfl
set_option maxHeartbeats 2000000 in
theorem dec1 (hn : Rg 0 200 n) (hB : ∀ i, Rg 0 255 (bs i)) {c r : DD} {a : Int32} (hg : e2 c = 1 ∧ e7 r = 0 ∧ e0 c = e0 r ∧ Rg 0 200 (e0 c)) (h1 : e1 c = 0) (hc : e7 c = 21 ∧ e9 c = -1 ∧ e10 c = -1 ∧ e11 c = 0 ∧ eJ c = 0) (hr : e1 r = 21 ∧ e3 r = -1 ∧ e4 r = -1 ∧ e5 r = 0 ∧ eJ r = 0) (hlt : e0 c < n) : FIN (RFc bs n c a) (RRr bs n r a).1 (RRr bs n r a).2 := by
  obtain ⟨k1, k3, k4, k5, k6, k7, k8, k9, k10, k11, kJ⟩ := kc_nb (bs := bs) (n := n) c
  obtain ⟨r1, r2, r3, r4, r5, r6, r8, r9, r10, r11, rJ⟩ := kr_nx (bs := bs) (n := n) r
  obtain ⟨g, v⟩ := nx (bs := bs) hn hB (Or.inr hg)
  rcases g with ⟨b1, b2⟩ | ⟨g2, g7, g0, gr⟩
  · have q1 : ¬ e0 c < 0 := fun q => by
      have a := Int32.lt_iff_toInt_lt.mp q
      rw [show (0 : Int32).toInt = 0 from rfl] at a
      have b := hg.2.2.2.1
      omega
    rw [q_X3_nextByte_1 q1 hlt] at b1
    exact absurd (hg.1.symm.trans b1) (by decide)
  · obtain ⟨-, ev, er⟩ := v g2
    have hc1 : e7 (F_X3_nextByte bs n c).1 = 21 ∧ e9 (F_X3_nextByte bs n c).1 = -1 ∧ e10 (F_X3_nextByte bs n c).1 = -1 ∧ e11 (F_X3_nextByte bs n c).1 = 0 ∧ eJ (F_X3_nextByte bs n c).1 = 0 := ⟨k7.trans hc.1, k9.trans hc.2.1, k10.trans hc.2.2.1, k11.trans hc.2.2.2.1, kJ.trans hc.2.2.2.2⟩
    have hr1 : e1 (F_X10_next bs n r).1 = 21 ∧ e3 (F_X10_next bs n r).1 = -1 ∧ e4 (F_X10_next bs n r).1 = -1 ∧ e5 (F_X10_next bs n r).1 = 0 ∧ eJ (F_X10_next bs n r).1 = 0 := ⟨r1.trans hr.1, r3.trans hr.2.1, r4.trans hr.2.2.1, r5.trans hr.2.2.2.1, rJ.trans hr.2.2.2.2⟩
    have er' : Rg 0 255 (F_X10_next bs n r).2 := ev ▸ er
    by_cases q : ((F_X3_nextByte bs n c).2 &&& 242) = 64
    · obtain ⟨f1, f2, f3⟩ := f_rx er q
      rw [ev] at f1 f2 f3
      have ec : RFc bs n c a = F_X3_readFrom_p46 bs n (F_X3_nextByte bs n (e0 (F_X3_nextByte bs n c).1, (F_X3_nextByte bs n c).2, e2 (F_X3_nextByte bs n c).1, e3 (F_X3_nextByte bs n c).1, e4 (F_X3_nextByte bs n c).1, e5 (F_X3_nextByte bs n c).1, e6 (F_X3_nextByte bs n c).1, e7 (F_X3_nextByte bs n c).1, e8 (F_X3_nextByte bs n c).1, e9 (F_X3_nextByte bs n c).1, e10 (F_X3_nextByte bs n c).1, e11 (F_X3_nextByte bs n c).1, eJ (F_X3_nextByte bs n c).1)).1 a (F_X3_nextByte bs n (e0 (F_X3_nextByte bs n c).1, (F_X3_nextByte bs n c).2, e2 (F_X3_nextByte bs n c).1, e3 (F_X3_nextByte bs n c).1, e4 (F_X3_nextByte bs n c).1, e5 (F_X3_nextByte bs n c).1, e6 (F_X3_nextByte bs n c).1, e7 (F_X3_nextByte bs n c).1, e8 (F_X3_nextByte bs n c).1, e9 (F_X3_nextByte bs n c).1, e10 (F_X3_nextByte bs n c).1, e11 (F_X3_nextByte bs n c).1, eJ (F_X3_nextByte bs n c).1)).2 := if_pos q
      have ee : RRr bs n r a = F_X10_read_p71 bs n (e0 (F_X10_next bs n r).1, e1 (F_X10_next bs n r).1, e2 (F_X10_next bs n r).1, e3 (F_X10_next bs n r).1, e4 (F_X10_next bs n r).1, e5 (F_X10_next bs n r).1, e6 (F_X10_next bs n r).1, 0, e8 (F_X10_next bs n r).1, e9 (F_X10_next bs n r).1, e10 (F_X10_next bs n r).1, e11 (F_X10_next bs n r).1, eJ (F_X10_next bs n r).1) a (F_X10_next bs n r).2 (F_X10_next bs n r).2 := (if_neg f1).trans ((if_neg f2).trans ((if_pos g7).trans (if_pos f3)))
      rw [ec, ee, q_X10_read_p71_0]
      obtain ⟨g', v'⟩ := nx (bs := bs) hn hB (c := (e0 (F_X3_nextByte bs n c).1, (F_X3_nextByte bs n c).2, e2 (F_X3_nextByte bs n c).1, e3 (F_X3_nextByte bs n c).1, e4 (F_X3_nextByte bs n c).1, e5 (F_X3_nextByte bs n c).1, e6 (F_X3_nextByte bs n c).1, e7 (F_X3_nextByte bs n c).1, e8 (F_X3_nextByte bs n c).1, e9 (F_X3_nextByte bs n c).1, e10 (F_X3_nextByte bs n c).1, e11 (F_X3_nextByte bs n c).1, eJ (F_X3_nextByte bs n c).1)) (r := (e0 (F_X10_next bs n r).1, e1 (F_X10_next bs n r).1, e2 (F_X10_next bs n r).1, e3 (F_X10_next bs n r).1, e4 (F_X10_next bs n r).1, e5 (F_X10_next bs n r).1, e6 (F_X10_next bs n r).1, 0, e8 (F_X10_next bs n r).1, e9 (F_X10_next bs n r).1, e10 (F_X10_next bs n r).1, e11 (F_X10_next bs n r).1, eJ (F_X10_next bs n r).1)) (Or.inr ⟨g2, rfl, g0, gr⟩)
      obtain ⟨l1, l3, l4, l5, l6, l7, l8, l9, l10, l11, lJ⟩ := kc_nb (bs := bs) (n := n) (e0 (F_X3_nextByte bs n c).1, (F_X3_nextByte bs n c).2, e2 (F_X3_nextByte bs n c).1, e3 (F_X3_nextByte bs n c).1, e4 (F_X3_nextByte bs n c).1, e5 (F_X3_nextByte bs n c).1, e6 (F_X3_nextByte bs n c).1, e7 (F_X3_nextByte bs n c).1, e8 (F_X3_nextByte bs n c).1, e9 (F_X3_nextByte bs n c).1, e10 (F_X3_nextByte bs n c).1, e11 (F_X3_nextByte bs n c).1, eJ (F_X3_nextByte bs n c).1)
      obtain ⟨s1, s2, s3, s4, s5, s6, s8, s9, s10, s11, sJ⟩ := kr_nx (bs := bs) (n := n) (e0 (F_X10_next bs n r).1, e1 (F_X10_next bs n r).1, e2 (F_X10_next bs n r).1, e3 (F_X10_next bs n r).1, e4 (F_X10_next bs n r).1, e5 (F_X10_next bs n r).1, e6 (F_X10_next bs n r).1, 0, e8 (F_X10_next bs n r).1, e9 (F_X10_next bs n r).1, e10 (F_X10_next bs n r).1, e11 (F_X10_next bs n r).1, eJ (F_X10_next bs n r).1)
      rcases g' with ⟨b1, b2⟩ | hg'
      · rw [nb_bad (c := (e0 (F_X3_nextByte bs n c).1, (F_X3_nextByte bs n c).2, e2 (F_X3_nextByte bs n c).1, e3 (F_X3_nextByte bs n c).1, e4 (F_X3_nextByte bs n c).1, e5 (F_X3_nextByte bs n c).1, e6 (F_X3_nextByte bs n c).1, e7 (F_X3_nextByte bs n c).1, e8 (F_X3_nextByte bs n c).1, e9 (F_X3_nextByte bs n c).1, e10 (F_X3_nextByte bs n c).1, e11 (F_X3_nextByte bs n c).1, eJ (F_X3_nextByte bs n c).1)) g2 b1]
        exact Or.inl ⟨p46_bad (by decide) (fun _ => d0), p76_bad b2⟩
      · obtain ⟨-, ev', er''⟩ := v' hg'.1
        rw [← ev']
        exact st46 hn hB hg' (l1.trans ev) ⟨l7.trans hc1.1, l9.trans hc1.2.1, l10.trans hc1.2.2.1, l11.trans hc1.2.2.2.1, lJ.trans hc1.2.2.2.2⟩ ⟨s1.trans hr1.1, s3.trans hr1.2.1, s4.trans hr1.2.2.1, s5.trans hr1.2.2.2.1, sJ.trans hr1.2.2.2.2⟩ er''
    · have ec : RFc bs n c a = F_X3_readFrom_p46 bs n (F_X3_nextByte bs n c).1 a (F_X3_nextByte bs n c).2 := if_neg q
      rw [ec]
      have key : FIN (F_X3_readFrom_p46 bs n (F_X3_nextByte bs n c).1 a (F_X3_nextByte bs n c).2) (F_X10_read_p76 bs n (F_X10_next bs n r).1 a (F_X10_next bs n r).2 0).1 (F_X10_read_p76 bs n (F_X10_next bs n r).1 a (F_X10_next bs n r).2 0).2 := by
        rw [← ev]
        exact st46 hn hB ⟨g2, g7, g0, gr⟩ (k1.trans h1) hc1 hr1 er
      by_cases f1 : (F_X10_next bs n r).2 < 64
      · rw [show RRr bs n r a = F_X10_read_p76 bs n (F_X10_next bs n r).1 a (F_X10_next bs n r).2 0 from if_pos f1]
        exact key
      by_cases f2 : 80 ≤ (F_X10_next bs n r).2
      · rw [show RRr bs n r a = F_X10_read_p76 bs n (F_X10_next bs n r).1 a (F_X10_next bs n r).2 0 from (if_neg f1).trans (if_pos f2)]
        exact key
      · obtain ⟨t1, t2, t3, t4, t5, t6, t7⟩ := f_rn er' (by rw [← ev]; exact q) f1 f2
        rw [show RRr bs n r a = F_X10_read_p71 bs n (e0 (F_X10_next bs n r).1, e1 (F_X10_next bs n r).1, e2 (F_X10_next bs n r).1, e3 (F_X10_next bs n r).1, e4 (F_X10_next bs n r).1, e5 (F_X10_next bs n r).1, e6 (F_X10_next bs n r).1, 1, e8 (F_X10_next bs n r).1, e9 (F_X10_next bs n r).1, e10 (F_X10_next bs n r).1, e11 (F_X10_next bs n r).1, eJ (F_X10_next bs n r).1) a (F_X10_next bs n r).2 (F_X10_next bs n r).2 from (if_neg f1).trans ((if_neg f2).trans ((if_pos g7).trans (if_neg t1))), q_X10_read_p71_0, ev]
        exact Or.inl ⟨p46_bad t2 (fun _ => dflt (fun y => absurd t3 y) t4 t5 t6 t7), p76_bad (nx1 (bs := bs) (n := n) (r := (e0 (F_X10_next bs n r).1, e1 (F_X10_next bs n r).1, e2 (F_X10_next bs n r).1, e3 (F_X10_next bs n r).1, e4 (F_X10_next bs n r).1, e5 (F_X10_next bs n r).1, e6 (F_X10_next bs n r).1, 1, e8 (F_X10_next bs n r).1, e9 (F_X10_next bs n r).1, e10 (F_X10_next bs n r).1, e11 (F_X10_next bs n r).1, eJ (F_X10_next bs n r).1)) rfl)⟩
/-- both decoders agree -/
theorem dec (hn : Rg 0 200 n) (hB : ∀ i, Rg 0 255 (bs i)) {d r : DD} {a : Int32} (ha : Rg 0 199 a) (hlt : a < n) : FIN (F_X3_readFrom bs n d a) (F_X10_read bs n r a).1 (F_X10_read bs n r a).2 := by
  rw [rf_eq, rr_eq]
  exact dec1 hn hB ⟨rfl, rfl, rfl, rg_w ha⟩ rfl ⟨rfl, rfl, rfl, rfl, rfl⟩ ⟨rfl, rfl, rfl, rfl, rfl⟩ hlt
end AI
