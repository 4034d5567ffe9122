theorem fa_nil {α : Type} {p : α → Prop} : ∀ x ∈ ([] : List α), p x := fun _ h => nomatch h
theorem fa_cons {α : Type} {p : α → Prop} {a : α} {l : List α} (h1 : p a) (h2 : ∀ x ∈ l, p x) : ∀ x ∈ a :: l, p x := fun x h => by
  rcases List.mem_cons.mp h with rfl | h
  · exact h1
  · exact h2 x h
theorem ls_off (ps : List (Int × Int)) (d k : Int) : Op.lookupswitch.offset ps d k ∈ d :: ps.map (fun q => q.2) := by
  induction ps with
  | nil => exact List.mem_cons_self
  | cons q r ih =>
    obtain ⟨a, b⟩ := q
    rw [Op.lookupswitch.offset_cons]
    split
    · simp
    · rcases List.mem_cons.mp ih with h | h
      · rw [h]; exact List.mem_cons_self
      · exact List.mem_cons_of_mem _ (List.mem_cons_of_mem _ h)
section SW
variable {xi : SX} {M : MD} {pc : Nat} {L : List (Nat × Value)} {rest : List Value} {S : Hp} {k0 n0 len : Nat} {P : Po} {x : Int32} {d lo hi : Int} {offs : Array Int} {ps : Array (Int × Int)}
theorem gt_ls (ts : List Nat) (h : decode (md_c M) pc = .ok (.lookupswitch d ps, len)) (hp : (ps.toList.zip (ps.toList.drop 1)).all (fun (a, next) => a.1 < next.1) = true) (ht : (d :: ps.toList.map (fun q => q.2)).all (fun o => ts.any (fun t => (pc : Int) + o == (t : Int))) = true) (kk : ∀ t ∈ ts, TT xi M t L rest S k0 n0 P) : TT xi M pc L (.int x :: rest) S k0 n0 P := by
  obtain ⟨t, h1, h2⟩ := List.any_eq_true.mp (List.all_eq_true.mp ht _ (ls_off ps.toList d x.toInt))
  exact tt_lookup h hp rfl (by simpa using h2) (kk t h1)
theorem gt_ts (ts : List Nat) (h : decode (md_c M) pc = .ok (.tableswitch d lo hi offs, len)) (hz : hi - lo < (offs.toList.length : Int)) (ht : (d :: offs.toList).all (fun o => ts.any (fun t => (pc : Int) + o == (t : Int))) = true) (kk : ∀ t ∈ ts, TT xi M t L rest S k0 n0 P) : TT xi M pc L (.int x :: rest) S k0 n0 P := by
  by_cases h1 : x.toInt < lo
  · obtain ⟨t, a1, a2⟩ := List.any_eq_true.mp (List.all_eq_true.mp ht d List.mem_cons_self)
    exact tt_tableOut h (Or.inl h1) (by simpa using a2) (kk t a1)
  by_cases h2 : hi < x.toInt
  · obtain ⟨t, a1, a2⟩ := List.any_eq_true.mp (List.all_eq_true.mp ht d List.mem_cons_self)
    exact tt_tableOut h (Or.inr h2) (by simpa using a2) (kk t a1)
  have hl : (x.toInt - lo).toNat < offs.toList.length := by omega
  have e : offs[(x.toInt - lo).toNat]? = some offs.toList[(x.toInt - lo).toNat] := by
    rw [← Array.getElem?_toList, List.getElem?_eq_getElem hl]
  obtain ⟨t, a1, a2⟩ := List.any_eq_true.mp (List.all_eq_true.mp ht _ (List.mem_cons_of_mem _ (List.getElem_mem hl)))
  exact tt_tableIn h h1 h2 e (by simpa using a2) (kk t a1)
end SW
theorem rg_no {a b : Int} {x : Int32} {p : Prop} (h : Rg a b x) (h1 : b < a := by decide) : p := by
  obtain ⟨x1, x2⟩ := h
  omega
theorem rl_no {a b : Int} {x : Int64} {p : Prop} (h : Rl a b x) (h1 : b < a := by decide) : p := by
  obtain ⟨x1, x2⟩ := h
  omega
section LC
variable {x y : Int64}
theorem lc_eq_t (h : lg_cmp x y = 0) : x = y := (lg_cmp_eq x y).mp h
theorem lc_eq_f (h : ¬ lg_cmp x y = 0) : ¬ x = y := fun e => h ((lg_cmp_eq x y).mpr e)
theorem lc_ne_t (h : ¬ lg_cmp x y = 0) : ¬ x = y := lc_eq_f h
theorem lc_ne_f (h : lg_cmp x y = 0) : x = y := lc_eq_t h
theorem lc_lt_t (h : lg_cmp x y < 0) : x < y := (lg_cmp_lt x y).mp h
theorem lc_lt_f (h : ¬ lg_cmp x y < 0) : y ≤ x := Int64.not_lt.mp (fun e => h ((lg_cmp_lt x y).mpr e))
theorem lc_ge_t (h : 0 ≤ lg_cmp x y) : y ≤ x := (lg_cmp_ge x y).mp h
theorem lc_ge_f (h : ¬ 0 ≤ lg_cmp x y) : x < y := Int64.not_le.mp (fun e => h ((lg_cmp_ge x y).mpr e))
theorem lc_gt_t (h : 0 < lg_cmp x y) : y < x := (lg_cmp_gt x y).mp h
theorem lc_gt_f (h : ¬ 0 < lg_cmp x y) : x ≤ y := Int64.not_lt.mp (fun e => h ((lg_cmp_gt x y).mpr e))
theorem lc_le_t (h : lg_cmp x y ≤ 0) : x ≤ y := (lg_cmp_le x y).mp h
theorem lc_le_f (h : ¬ lg_cmp x y ≤ 0) : y < x := Int64.not_le.mp (fun e => h ((lg_cmp_le x y).mpr e))
theorem nz_pos (h : 0 < y) : ¬ y = 0 := fun e => by subst e; exact absurd h (by decide)
theorem nz_neg (h : y < 0) : ¬ y = 0 := fun e => by subst e; exact absurd h (by decide)
variable {a b c d lo hi : Int}
theorem rl_lt_l (hx : Rl a b x) (hy : Rl c d y) (h : x < y) (h2 : d - 1 ≤ hi := by decide) : Rl a hi x := by
  have := Int64.lt_iff_toInt_lt.mp h
  exact ⟨hx.1, by have := hy.2; omega⟩
theorem rl_lt_r (hx : Rl a b x) (hy : Rl c d y) (h : x < y) (h2 : lo ≤ a + 1 := by decide) : Rl lo d y := by
  have := Int64.lt_iff_toInt_lt.mp h
  exact ⟨by have := hx.1; omega, hy.2⟩
theorem rl_le_l (hx : Rl a b x) (hy : Rl c d y) (h : x ≤ y) (h2 : d ≤ hi := by decide) : Rl a hi x := by
  have := Int64.le_iff_toInt_le.mp h
  exact ⟨hx.1, by have := hy.2; omega⟩
theorem rl_le_r (hx : Rl a b x) (hy : Rl c d y) (h : x ≤ y) (h2 : lo ≤ a := by decide) : Rl lo d y := by
  have := Int64.le_iff_toInt_le.mp h
  exact ⟨by have := hx.1; omega, hy.2⟩
theorem rl_eq_l (_ : Rl a b x) (hy : Rl c d y) (h : x = y) : Rl c d x := h ▸ hy
theorem rl_eq_r (hx : Rl a b x) (_ : Rl c d y) (h : x = y) : Rl a b y := h ▸ hx
end LC
section AR
variable {xi : SX} {M : MD} {pc : Nat} {L : List (Nat × Value)} {S : Hp} {k0 n0 b : Nat} {P : Po}
theorem tt_areturn {cl : String} (h : decode (md_c M) pc = .ok (.areturn, 1)) (hr : md_r M = some (.object cl)) (hP : P (.inl (some (.ref b))) S k0 n0) : TT xi M pc L [.ref b] S k0 n0 P := tt_ret (v := some (.ref b)) (rest := []) ⟨h, _, hr, Or.inl ⟨_, rfl⟩⟩ hP
theorem tt_areturnN {cl : String} (h : decode (md_c M) pc = .ok (.areturn, 1)) (hr : md_r M = some (.object cl)) (hP : P (.inl (some .null)) S k0 n0) : TT xi M pc L [.null] S k0 n0 P := tt_ret (v := some .null) (rest := []) ⟨h, _, hr, Or.inl ⟨_, rfl⟩⟩ hP
end AR
section GD
variable {xi : SX} {M N : MD} {pc : Nat} {L : List (Nat × Value)} {rest As : List Value} {S S0 : Hp} {k0 n0 b i cn n kd nn : Nat} {P : Po} {E ws vs : List Nat} {lo hi : Int} {ex : Option Value → Hp → Prop} {xs : List String}
theorem gt_Vv (h : decode (md_c M) pc = .ok (.invokevirtual i, 3)) (hcv : CV (md_y M).cls i N As.length) (hrm : RM M N) (ho : Oa S0 E cn n b) (hA : Af E ws S0 S) (hcn : (vwCl[cn]?).map (fun r => r.1) = some (md_y N).cls) (hlen : (lg_sl (.ref b :: As)).length ≤ md_L N) (hr8 : (rest.map fun v => v.category).sum ≤ 8) (hs : ∀ k ∈ vs, k ∈ ws) (kx : TT xi N 0 (lv_args 0 (.ref b :: As)) [] S k0 n0 (PV E vs S k0 n0 rV ex xs)) (hh : md_h M = []) (kt : ∀ X ∈ xs, ∀ S', GI S' E → Af E ws S0 S' → P (.inr X) S' 0 0) (kk : ∀ S' : Hp, ex none S' → GI S' E → Af E vs S S' → Af E ws S0 S' → TT xi M (pc + 3) L rest S' k0 n0 P) : TT xi M pc L (As.reverse ++ .ref b :: rest) S k0 n0 P := gt_V h hcv hrm ho hA hcn hlen hr8 hs kx hh kt (fun S' v hv hx g1 g2 g3 => by
  obtain rfl : v = none := hv
  exact kk S' hx g1 g2 g3)
theorem gt_VI (h : decode (md_c M) pc = .ok (.invokevirtual i, 3)) (hcv : CV (md_y M).cls i N As.length) (hrm : RM M N) (ho : Oa S0 E cn n b) (hA : Af E ws S0 S) (hcn : (vwCl[cn]?).map (fun r => r.1) = some (md_y N).cls) (hlen : (lg_sl (.ref b :: As)).length ≤ md_L N) (hr8 : (rest.map fun v => v.category).sum ≤ 8) (hs : ∀ k ∈ vs, k ∈ ws) (kx : TT xi N 0 (lv_args 0 (.ref b :: As)) [] S k0 n0 (PV E vs S k0 n0 (rI lo hi) ex xs)) (hh : md_h M = []) (kt : ∀ X ∈ xs, ∀ S', GI S' E → Af E ws S0 S' → P (.inr X) S' 0 0) (kk : ∀ (S' : Hp) (z : Int32), Rg lo hi z → ex (some (.int z)) S' → GI S' E → Af E vs S S' → Af E ws S0 S' → TT xi M (pc + 3) L (.int z :: rest) S' k0 n0 P) : TT xi M pc L (As.reverse ++ .ref b :: rest) S k0 n0 P := gt_V h hcv hrm ho hA hcn hlen hr8 hs kx hh kt (fun S' v hv hx g1 g2 g3 => by
  obtain ⟨z, rfl, hz⟩ := hv
  exact kk S' z hz hx g1 g2 g3)
theorem gt_VJ (h : decode (md_c M) pc = .ok (.invokevirtual i, 3)) (hcv : CV (md_y M).cls i N As.length) (hrm : RM M N) (ho : Oa S0 E cn n b) (hA : Af E ws S0 S) (hcn : (vwCl[cn]?).map (fun r => r.1) = some (md_y N).cls) (hlen : (lg_sl (.ref b :: As)).length ≤ md_L N) (hr8 : (rest.map fun v => v.category).sum ≤ 8) (hs : ∀ k ∈ vs, k ∈ ws) (kx : TT xi N 0 (lv_args 0 (.ref b :: As)) [] S k0 n0 (PV E vs S k0 n0 rJ ex xs)) (hh : md_h M = []) (kt : ∀ X ∈ xs, ∀ S', GI S' E → Af E ws S0 S' → P (.inr X) S' 0 0) (kk : ∀ (S' : Hp) (z : Int64), ex (some (.long z)) S' → GI S' E → Af E vs S S' → Af E ws S0 S' → TT xi M (pc + 3) L (.long z :: rest) S' k0 n0 P) : TT xi M pc L (As.reverse ++ .ref b :: rest) S k0 n0 P := gt_V h hcv hrm ho hA hcn hlen hr8 hs kx hh kt (fun S' v hv hx g1 g2 g3 => by
  obtain ⟨z, rfl⟩ := hv
  exact kk S' z hx g1 g2 g3)
theorem gt_VO (h : decode (md_c M) pc = .ok (.invokevirtual i, 3)) (hcv : CV (md_y M).cls i N As.length) (hrm : RM M N) (ho : Oa S0 E cn n b) (hA : Af E ws S0 S) (hcn : (vwCl[cn]?).map (fun r => r.1) = some (md_y N).cls) (hlen : (lg_sl (.ref b :: As)).length ≤ md_L N) (hr8 : (rest.map fun v => v.category).sum ≤ 8) (hs : ∀ k ∈ vs, k ∈ ws) (kx : TT xi N 0 (lv_args 0 (.ref b :: As)) [] S k0 n0 (PV E vs S k0 n0 (rO S E kd nn) ex xs)) (hh : md_h M = []) (kt : ∀ X ∈ xs, ∀ S', GI S' E → Af E ws S0 S' → P (.inr X) S' 0 0) (kk : ∀ (S' : Hp) (z : Nat), Oa S E kd nn z → ex (some (.ref z)) S' → GI S' E → Af E vs S S' → Af E ws S0 S' → TT xi M (pc + 3) L (.ref z :: rest) S' k0 n0 P) : TT xi M pc L (As.reverse ++ .ref b :: rest) S k0 n0 P := gt_V h hcv hrm ho hA hcn hlen hr8 hs kx hh kt (fun S' v hv hx g1 g2 g3 => by
  obtain ⟨z, rfl, hz⟩ := hv
  exact kk S' z hz hx g1 g2 g3)
theorem gt_VP (h : decode (md_c M) pc = .ok (.invokevirtual i, 3)) (hcv : CV (md_y M).cls i N As.length) (hrm : RM M N) (ho : Oa S0 E cn n b) (hA : Af E ws S0 S) (hcn : (vwCl[cn]?).map (fun r => r.1) = some (md_y N).cls) (hlen : (lg_sl (.ref b :: As)).length ≤ md_L N) (hr8 : (rest.map fun v => v.category).sum ≤ 8) (hs : ∀ k ∈ vs, k ∈ ws) (kx : TT xi N 0 (lv_args 0 (.ref b :: As)) [] S k0 n0 (PV E vs S k0 n0 (rP S E) ex xs)) (hh : md_h M = []) (kt : ∀ X ∈ xs, ∀ S', GI S' E → Af E ws S0 S' → P (.inr X) S' 0 0) (k1 : ∀ S' : Hp, ex (some .null) S' → GI S' E → Af E vs S S' → Af E ws S0 S' → TT xi M (pc + 3) L (.null :: rest) S' k0 n0 P) (kk : ∀ (S' : Hp) (z : Nat), Oa S E 5 0 z → ex (some (.ref z)) S' → GI S' E → Af E vs S S' → Af E ws S0 S' → TT xi M (pc + 3) L (.ref z :: rest) S' k0 n0 P) : TT xi M pc L (As.reverse ++ .ref b :: rest) S k0 n0 P := gt_V h hcv hrm ho hA hcn hlen hr8 hs kx hh kt (fun S' v hv hx g1 g2 g3 => by
  rcases hv with rfl | ⟨z, rfl, hz⟩
  · exact k1 S' hx g1 g2 g3
  · exact kk S' z hz hx g1 g2 g3)
theorem gt_Sv (h : decode (md_c M) pc = .ok (.invokestatic i, 3)) (hcv : CT (md_y M).cls i N As.length) (hrm : RM M N) (hA : Af E ws S0 S) (hlen : (lg_sl As).length ≤ md_L N) (hr8 : (rest.map fun v => v.category).sum ≤ 8) (hs : ∀ k ∈ vs, k ∈ ws) (kx : TT xi N 0 (lv_args 0 As) [] S k0 n0 (PV E vs S k0 n0 rV ex xs)) (hh : md_h M = []) (kt : ∀ X ∈ xs, ∀ S', GI S' E → Af E ws S0 S' → P (.inr X) S' 0 0) (kk : ∀ S' : Hp, ex none S' → GI S' E → Af E vs S S' → Af E ws S0 S' → TT xi M (pc + 3) L rest S' k0 n0 P) : TT xi M pc L (As.reverse ++ rest) S k0 n0 P := gt_S h hcv hrm hA hlen hr8 hs kx hh kt (fun S' v hv hx g1 g2 g3 => by
  obtain rfl : v = none := hv
  exact kk S' hx g1 g2 g3)
theorem gt_SI (h : decode (md_c M) pc = .ok (.invokestatic i, 3)) (hcv : CT (md_y M).cls i N As.length) (hrm : RM M N) (hA : Af E ws S0 S) (hlen : (lg_sl As).length ≤ md_L N) (hr8 : (rest.map fun v => v.category).sum ≤ 8) (hs : ∀ k ∈ vs, k ∈ ws) (kx : TT xi N 0 (lv_args 0 As) [] S k0 n0 (PV E vs S k0 n0 (rI lo hi) ex xs)) (hh : md_h M = []) (kt : ∀ X ∈ xs, ∀ S', GI S' E → Af E ws S0 S' → P (.inr X) S' 0 0) (kk : ∀ (S' : Hp) (z : Int32), Rg lo hi z → ex (some (.int z)) S' → GI S' E → Af E vs S S' → Af E ws S0 S' → TT xi M (pc + 3) L (.int z :: rest) S' k0 n0 P) : TT xi M pc L (As.reverse ++ rest) S k0 n0 P := gt_S h hcv hrm hA hlen hr8 hs kx hh kt (fun S' v hv hx g1 g2 g3 => by
  obtain ⟨z, rfl, hz⟩ := hv
  exact kk S' z hz hx g1 g2 g3)
theorem gt_SJ (h : decode (md_c M) pc = .ok (.invokestatic i, 3)) (hcv : CT (md_y M).cls i N As.length) (hrm : RM M N) (hA : Af E ws S0 S) (hlen : (lg_sl As).length ≤ md_L N) (hr8 : (rest.map fun v => v.category).sum ≤ 8) (hs : ∀ k ∈ vs, k ∈ ws) (kx : TT xi N 0 (lv_args 0 As) [] S k0 n0 (PV E vs S k0 n0 rJ ex xs)) (hh : md_h M = []) (kt : ∀ X ∈ xs, ∀ S', GI S' E → Af E ws S0 S' → P (.inr X) S' 0 0) (kk : ∀ (S' : Hp) (z : Int64), ex (some (.long z)) S' → GI S' E → Af E vs S S' → Af E ws S0 S' → TT xi M (pc + 3) L (.long z :: rest) S' k0 n0 P) : TT xi M pc L (As.reverse ++ rest) S k0 n0 P := gt_S h hcv hrm hA hlen hr8 hs kx hh kt (fun S' v hv hx g1 g2 g3 => by
  obtain ⟨z, rfl⟩ := hv
  exact kk S' z hx g1 g2 g3)
theorem gt_SO (h : decode (md_c M) pc = .ok (.invokestatic i, 3)) (hcv : CT (md_y M).cls i N As.length) (hrm : RM M N) (hA : Af E ws S0 S) (hlen : (lg_sl As).length ≤ md_L N) (hr8 : (rest.map fun v => v.category).sum ≤ 8) (hs : ∀ k ∈ vs, k ∈ ws) (kx : TT xi N 0 (lv_args 0 As) [] S k0 n0 (PV E vs S k0 n0 (rO S E kd nn) ex xs)) (hh : md_h M = []) (kt : ∀ X ∈ xs, ∀ S', GI S' E → Af E ws S0 S' → P (.inr X) S' 0 0) (kk : ∀ (S' : Hp) (z : Nat), Oa S E kd nn z → ex (some (.ref z)) S' → GI S' E → Af E vs S S' → Af E ws S0 S' → TT xi M (pc + 3) L (.ref z :: rest) S' k0 n0 P) : TT xi M pc L (As.reverse ++ rest) S k0 n0 P := gt_S h hcv hrm hA hlen hr8 hs kx hh kt (fun S' v hv hx g1 g2 g3 => by
  obtain ⟨z, rfl, hz⟩ := hv
  exact kk S' z hz hx g1 g2 g3)
theorem gt_SP (h : decode (md_c M) pc = .ok (.invokestatic i, 3)) (hcv : CT (md_y M).cls i N As.length) (hrm : RM M N) (hA : Af E ws S0 S) (hlen : (lg_sl As).length ≤ md_L N) (hr8 : (rest.map fun v => v.category).sum ≤ 8) (hs : ∀ k ∈ vs, k ∈ ws) (kx : TT xi N 0 (lv_args 0 As) [] S k0 n0 (PV E vs S k0 n0 (rP S E) ex xs)) (hh : md_h M = []) (kt : ∀ X ∈ xs, ∀ S', GI S' E → Af E ws S0 S' → P (.inr X) S' 0 0) (k1 : ∀ S' : Hp, ex (some .null) S' → GI S' E → Af E vs S S' → Af E ws S0 S' → TT xi M (pc + 3) L (.null :: rest) S' k0 n0 P) (kk : ∀ (S' : Hp) (z : Nat), Oa S E 5 0 z → ex (some (.ref z)) S' → GI S' E → Af E vs S S' → Af E ws S0 S' → TT xi M (pc + 3) L (.ref z :: rest) S' k0 n0 P) : TT xi M pc L (As.reverse ++ rest) S k0 n0 P := gt_S h hcv hrm hA hlen hr8 hs kx hh kt (fun S' v hv hx g1 g2 g3 => by
  rcases hv with rfl | ⟨z, rfl, hz⟩
  · exact k1 S' hx g1 g2 g3
  · exact kk S' z hz hx g1 g2 g3)
theorem gt_SNv (h : decode (md_c M) pc = .ok (.invokestatic i, 3)) (hcv : CTN (md_y M).cls i N As.length) (hrm : RM M N) (hA : Af E ws S0 S) (hlen : (lg_sl As).length ≤ md_L N) (hr8 : (rest.map fun v => v.category).sum ≤ 8) (hs : ∀ k ∈ vs, k ∈ ws) (kx : TT xi N 0 (lv_args 0 As) [] S 0 0 (PV E vs S 0 0 rV ex [])) (kk : ∀ S' : Hp, ex none S' → GI S' E → Af E vs S S' → Af E ws S0 S' → TT xi M (pc + 3) L rest S' k0 n0 P) : TT xi M pc L (As.reverse ++ rest) S k0 n0 P := gt_SN h hcv hrm hA hlen hr8 hs kx (fun S' v hv hx g1 g2 g3 => by
  obtain rfl : v = none := hv
  exact kk S' hx g1 g2 g3)
theorem gt_SNI (h : decode (md_c M) pc = .ok (.invokestatic i, 3)) (hcv : CTN (md_y M).cls i N As.length) (hrm : RM M N) (hA : Af E ws S0 S) (hlen : (lg_sl As).length ≤ md_L N) (hr8 : (rest.map fun v => v.category).sum ≤ 8) (hs : ∀ k ∈ vs, k ∈ ws) (kx : TT xi N 0 (lv_args 0 As) [] S 0 0 (PV E vs S 0 0 (rI lo hi) ex [])) (kk : ∀ (S' : Hp) (z : Int32), Rg lo hi z → ex (some (.int z)) S' → GI S' E → Af E vs S S' → Af E ws S0 S' → TT xi M (pc + 3) L (.int z :: rest) S' k0 n0 P) : TT xi M pc L (As.reverse ++ rest) S k0 n0 P := gt_SN h hcv hrm hA hlen hr8 hs kx (fun S' v hv hx g1 g2 g3 => by
  obtain ⟨z, rfl, hz⟩ := hv
  exact kk S' z hz hx g1 g2 g3)
theorem gt_SNJ (h : decode (md_c M) pc = .ok (.invokestatic i, 3)) (hcv : CTN (md_y M).cls i N As.length) (hrm : RM M N) (hA : Af E ws S0 S) (hlen : (lg_sl As).length ≤ md_L N) (hr8 : (rest.map fun v => v.category).sum ≤ 8) (hs : ∀ k ∈ vs, k ∈ ws) (kx : TT xi N 0 (lv_args 0 As) [] S 0 0 (PV E vs S 0 0 rJ ex [])) (kk : ∀ (S' : Hp) (z : Int64), ex (some (.long z)) S' → GI S' E → Af E vs S S' → Af E ws S0 S' → TT xi M (pc + 3) L (.long z :: rest) S' k0 n0 P) : TT xi M pc L (As.reverse ++ rest) S k0 n0 P := gt_SN h hcv hrm hA hlen hr8 hs kx (fun S' v hv hx g1 g2 g3 => by
  obtain ⟨z, rfl⟩ := hv
  exact kk S' z hx g1 g2 g3)
theorem gt_SNO (h : decode (md_c M) pc = .ok (.invokestatic i, 3)) (hcv : CTN (md_y M).cls i N As.length) (hrm : RM M N) (hA : Af E ws S0 S) (hlen : (lg_sl As).length ≤ md_L N) (hr8 : (rest.map fun v => v.category).sum ≤ 8) (hs : ∀ k ∈ vs, k ∈ ws) (kx : TT xi N 0 (lv_args 0 As) [] S 0 0 (PV E vs S 0 0 (rO S E kd nn) ex [])) (kk : ∀ (S' : Hp) (z : Nat), Oa S E kd nn z → ex (some (.ref z)) S' → GI S' E → Af E vs S S' → Af E ws S0 S' → TT xi M (pc + 3) L (.ref z :: rest) S' k0 n0 P) : TT xi M pc L (As.reverse ++ rest) S k0 n0 P := gt_SN h hcv hrm hA hlen hr8 hs kx (fun S' v hv hx g1 g2 g3 => by
  obtain ⟨z, rfl, hz⟩ := hv
  exact kk S' z hz hx g1 g2 g3)
theorem gt_SNP (h : decode (md_c M) pc = .ok (.invokestatic i, 3)) (hcv : CTN (md_y M).cls i N As.length) (hrm : RM M N) (hA : Af E ws S0 S) (hlen : (lg_sl As).length ≤ md_L N) (hr8 : (rest.map fun v => v.category).sum ≤ 8) (hs : ∀ k ∈ vs, k ∈ ws) (kx : TT xi N 0 (lv_args 0 As) [] S 0 0 (PV E vs S 0 0 (rP S E) ex [])) (k1 : ∀ S' : Hp, ex (some .null) S' → GI S' E → Af E vs S S' → Af E ws S0 S' → TT xi M (pc + 3) L (.null :: rest) S' k0 n0 P) (kk : ∀ (S' : Hp) (z : Nat), Oa S E 5 0 z → ex (some (.ref z)) S' → GI S' E → Af E vs S S' → Af E ws S0 S' → TT xi M (pc + 3) L (.ref z :: rest) S' k0 n0 P) : TT xi M pc L (As.reverse ++ rest) S k0 n0 P := gt_SN h hcv hrm hA hlen hr8 hs kx (fun S' v hv hx g1 g2 g3 => by
  rcases hv with rfl | ⟨z, rfl, hz⟩
  · exact k1 S' hx g1 g2 g3
  · exact kk S' z hz hx g1 g2 g3)
theorem gt_Vvp (h : decode (md_c M) pc = .ok (.invokevirtual i, 3)) (hcv : CV (md_y M).cls i N As.length) (hrm : RM M N) (ho : Oa S0 E cn n b) (hA : Af E ws S0 S) (hcn : (vwCl[cn]?).map (fun r => r.1) = some (md_y N).cls) (hlen : (lg_sl (.ref b :: As)).length ≤ md_L N) (hr8 : (rest.map fun v => v.category).sum ≤ 8) (hs : ∀ k ∈ vs, k ∈ ws) (kx : TT xi N 0 (lv_args 0 (.ref b :: As)) [] S k0 n0 (PV E vs S k0 n0 rV ex xs)) (hh : md_h M = []) (kt : ∀ X ∈ xs, ∀ S', GI S' E → Af E ws S0 S' → P (.inr X) S' 0 0) (hp : ∀ v T, ex v T → T = S) (kk : ex none S → TT xi M (pc + 3) L rest S k0 n0 P) : TT xi M pc L (As.reverse ++ .ref b :: rest) S k0 n0 P := gt_V h hcv hrm ho hA hcn hlen hr8 hs kx hh kt (fun S' v hv hx g1 g2 g3 => by
  obtain rfl : v = none := hv
  have e := hp _ _ hx
  rw [e] at hx ⊢
  exact kk hx)
theorem gt_VIp (h : decode (md_c M) pc = .ok (.invokevirtual i, 3)) (hcv : CV (md_y M).cls i N As.length) (hrm : RM M N) (ho : Oa S0 E cn n b) (hA : Af E ws S0 S) (hcn : (vwCl[cn]?).map (fun r => r.1) = some (md_y N).cls) (hlen : (lg_sl (.ref b :: As)).length ≤ md_L N) (hr8 : (rest.map fun v => v.category).sum ≤ 8) (hs : ∀ k ∈ vs, k ∈ ws) (kx : TT xi N 0 (lv_args 0 (.ref b :: As)) [] S k0 n0 (PV E vs S k0 n0 (rI lo hi) ex xs)) (hh : md_h M = []) (kt : ∀ X ∈ xs, ∀ S', GI S' E → Af E ws S0 S' → P (.inr X) S' 0 0) (hp : ∀ v T, ex v T → T = S) (kk : ∀ z : Int32, Rg lo hi z → ex (some (.int z)) S → TT xi M (pc + 3) L (.int z :: rest) S k0 n0 P) : TT xi M pc L (As.reverse ++ .ref b :: rest) S k0 n0 P := gt_V h hcv hrm ho hA hcn hlen hr8 hs kx hh kt (fun S' v hv hx g1 g2 g3 => by
  obtain ⟨z, rfl, hz⟩ := hv
  have e := hp _ _ hx
  rw [e] at hx ⊢
  exact kk z hz hx)
theorem gt_VJp (h : decode (md_c M) pc = .ok (.invokevirtual i, 3)) (hcv : CV (md_y M).cls i N As.length) (hrm : RM M N) (ho : Oa S0 E cn n b) (hA : Af E ws S0 S) (hcn : (vwCl[cn]?).map (fun r => r.1) = some (md_y N).cls) (hlen : (lg_sl (.ref b :: As)).length ≤ md_L N) (hr8 : (rest.map fun v => v.category).sum ≤ 8) (hs : ∀ k ∈ vs, k ∈ ws) (kx : TT xi N 0 (lv_args 0 (.ref b :: As)) [] S k0 n0 (PV E vs S k0 n0 rJ ex xs)) (hh : md_h M = []) (kt : ∀ X ∈ xs, ∀ S', GI S' E → Af E ws S0 S' → P (.inr X) S' 0 0) (hp : ∀ v T, ex v T → T = S) (kk : ∀ z : Int64, ex (some (.long z)) S → TT xi M (pc + 3) L (.long z :: rest) S k0 n0 P) : TT xi M pc L (As.reverse ++ .ref b :: rest) S k0 n0 P := gt_V h hcv hrm ho hA hcn hlen hr8 hs kx hh kt (fun S' v hv hx g1 g2 g3 => by
  obtain ⟨z, rfl⟩ := hv
  have e := hp _ _ hx
  rw [e] at hx ⊢
  exact kk z hx)
theorem gt_VPp (h : decode (md_c M) pc = .ok (.invokevirtual i, 3)) (hcv : CV (md_y M).cls i N As.length) (hrm : RM M N) (ho : Oa S0 E cn n b) (hA : Af E ws S0 S) (hcn : (vwCl[cn]?).map (fun r => r.1) = some (md_y N).cls) (hlen : (lg_sl (.ref b :: As)).length ≤ md_L N) (hr8 : (rest.map fun v => v.category).sum ≤ 8) (hs : ∀ k ∈ vs, k ∈ ws) (kx : TT xi N 0 (lv_args 0 (.ref b :: As)) [] S k0 n0 (PV E vs S k0 n0 (rP S E) ex xs)) (hh : md_h M = []) (kt : ∀ X ∈ xs, ∀ S', GI S' E → Af E ws S0 S' → P (.inr X) S' 0 0) (hp : ∀ v T, ex v T → T = S) (k1 : ex (some .null) S → TT xi M (pc + 3) L (.null :: rest) S k0 n0 P) (kk : ∀ z : Nat, Oa S E 5 0 z → ex (some (.ref z)) S → TT xi M (pc + 3) L (.ref z :: rest) S k0 n0 P) : TT xi M pc L (As.reverse ++ .ref b :: rest) S k0 n0 P := gt_V h hcv hrm ho hA hcn hlen hr8 hs kx hh kt (fun S' v hv hx g1 g2 g3 => by
  have e := hp _ _ hx
  rw [e] at hx ⊢
  rcases hv with rfl | ⟨z, rfl, hz⟩
  · exact k1 hx
  · exact kk z hz hx)
theorem gt_Svp (h : decode (md_c M) pc = .ok (.invokestatic i, 3)) (hcv : CT (md_y M).cls i N As.length) (hrm : RM M N) (hA : Af E ws S0 S) (hlen : (lg_sl As).length ≤ md_L N) (hr8 : (rest.map fun v => v.category).sum ≤ 8) (hs : ∀ k ∈ vs, k ∈ ws) (kx : TT xi N 0 (lv_args 0 As) [] S k0 n0 (PV E vs S k0 n0 rV ex xs)) (hh : md_h M = []) (kt : ∀ X ∈ xs, ∀ S', GI S' E → Af E ws S0 S' → P (.inr X) S' 0 0) (hp : ∀ v T, ex v T → T = S) (kk : ex none S → TT xi M (pc + 3) L rest S k0 n0 P) : TT xi M pc L (As.reverse ++ rest) S k0 n0 P := gt_S h hcv hrm hA hlen hr8 hs kx hh kt (fun S' v hv hx g1 g2 g3 => by
  obtain rfl : v = none := hv
  have e := hp _ _ hx
  rw [e] at hx ⊢
  exact kk hx)
theorem gt_SIp (h : decode (md_c M) pc = .ok (.invokestatic i, 3)) (hcv : CT (md_y M).cls i N As.length) (hrm : RM M N) (hA : Af E ws S0 S) (hlen : (lg_sl As).length ≤ md_L N) (hr8 : (rest.map fun v => v.category).sum ≤ 8) (hs : ∀ k ∈ vs, k ∈ ws) (kx : TT xi N 0 (lv_args 0 As) [] S k0 n0 (PV E vs S k0 n0 (rI lo hi) ex xs)) (hh : md_h M = []) (kt : ∀ X ∈ xs, ∀ S', GI S' E → Af E ws S0 S' → P (.inr X) S' 0 0) (hp : ∀ v T, ex v T → T = S) (kk : ∀ z : Int32, Rg lo hi z → ex (some (.int z)) S → TT xi M (pc + 3) L (.int z :: rest) S k0 n0 P) : TT xi M pc L (As.reverse ++ rest) S k0 n0 P := gt_S h hcv hrm hA hlen hr8 hs kx hh kt (fun S' v hv hx g1 g2 g3 => by
  obtain ⟨z, rfl, hz⟩ := hv
  have e := hp _ _ hx
  rw [e] at hx ⊢
  exact kk z hz hx)
theorem gt_SJp (h : decode (md_c M) pc = .ok (.invokestatic i, 3)) (hcv : CT (md_y M).cls i N As.length) (hrm : RM M N) (hA : Af E ws S0 S) (hlen : (lg_sl As).length ≤ md_L N) (hr8 : (rest.map fun v => v.category).sum ≤ 8) (hs : ∀ k ∈ vs, k ∈ ws) (kx : TT xi N 0 (lv_args 0 As) [] S k0 n0 (PV E vs S k0 n0 rJ ex xs)) (hh : md_h M = []) (kt : ∀ X ∈ xs, ∀ S', GI S' E → Af E ws S0 S' → P (.inr X) S' 0 0) (hp : ∀ v T, ex v T → T = S) (kk : ∀ z : Int64, ex (some (.long z)) S → TT xi M (pc + 3) L (.long z :: rest) S k0 n0 P) : TT xi M pc L (As.reverse ++ rest) S k0 n0 P := gt_S h hcv hrm hA hlen hr8 hs kx hh kt (fun S' v hv hx g1 g2 g3 => by
  obtain ⟨z, rfl⟩ := hv
  have e := hp _ _ hx
  rw [e] at hx ⊢
  exact kk z hx)
theorem gt_SPp (h : decode (md_c M) pc = .ok (.invokestatic i, 3)) (hcv : CT (md_y M).cls i N As.length) (hrm : RM M N) (hA : Af E ws S0 S) (hlen : (lg_sl As).length ≤ md_L N) (hr8 : (rest.map fun v => v.category).sum ≤ 8) (hs : ∀ k ∈ vs, k ∈ ws) (kx : TT xi N 0 (lv_args 0 As) [] S k0 n0 (PV E vs S k0 n0 (rP S E) ex xs)) (hh : md_h M = []) (kt : ∀ X ∈ xs, ∀ S', GI S' E → Af E ws S0 S' → P (.inr X) S' 0 0) (hp : ∀ v T, ex v T → T = S) (k1 : ex (some .null) S → TT xi M (pc + 3) L (.null :: rest) S k0 n0 P) (kk : ∀ z : Nat, Oa S E 5 0 z → ex (some (.ref z)) S → TT xi M (pc + 3) L (.ref z :: rest) S k0 n0 P) : TT xi M pc L (As.reverse ++ rest) S k0 n0 P := gt_S h hcv hrm hA hlen hr8 hs kx hh kt (fun S' v hv hx g1 g2 g3 => by
  have e := hp _ _ hx
  rw [e] at hx ⊢
  rcases hv with rfl | ⟨z, rfl, hz⟩
  · exact k1 hx
  · exact kk z hz hx)
theorem gt_SNvp (h : decode (md_c M) pc = .ok (.invokestatic i, 3)) (hcv : CTN (md_y M).cls i N As.length) (hrm : RM M N) (hA : Af E ws S0 S) (hlen : (lg_sl As).length ≤ md_L N) (hr8 : (rest.map fun v => v.category).sum ≤ 8) (hs : ∀ k ∈ vs, k ∈ ws) (kx : TT xi N 0 (lv_args 0 As) [] S 0 0 (PV E vs S 0 0 rV ex [])) (hp : ∀ v T, ex v T → T = S) (kk : ex none S → TT xi M (pc + 3) L rest S k0 n0 P) : TT xi M pc L (As.reverse ++ rest) S k0 n0 P := gt_SN h hcv hrm hA hlen hr8 hs kx (fun S' v hv hx g1 g2 g3 => by
  obtain rfl : v = none := hv
  have e := hp _ _ hx
  rw [e] at hx ⊢
  exact kk hx)
theorem gt_SNIp (h : decode (md_c M) pc = .ok (.invokestatic i, 3)) (hcv : CTN (md_y M).cls i N As.length) (hrm : RM M N) (hA : Af E ws S0 S) (hlen : (lg_sl As).length ≤ md_L N) (hr8 : (rest.map fun v => v.category).sum ≤ 8) (hs : ∀ k ∈ vs, k ∈ ws) (kx : TT xi N 0 (lv_args 0 As) [] S 0 0 (PV E vs S 0 0 (rI lo hi) ex [])) (hp : ∀ v T, ex v T → T = S) (kk : ∀ z : Int32, Rg lo hi z → ex (some (.int z)) S → TT xi M (pc + 3) L (.int z :: rest) S k0 n0 P) : TT xi M pc L (As.reverse ++ rest) S k0 n0 P := gt_SN h hcv hrm hA hlen hr8 hs kx (fun S' v hv hx g1 g2 g3 => by
  obtain ⟨z, rfl, hz⟩ := hv
  have e := hp _ _ hx
  rw [e] at hx ⊢
  exact kk z hz hx)
theorem gt_SNJp (h : decode (md_c M) pc = .ok (.invokestatic i, 3)) (hcv : CTN (md_y M).cls i N As.length) (hrm : RM M N) (hA : Af E ws S0 S) (hlen : (lg_sl As).length ≤ md_L N) (hr8 : (rest.map fun v => v.category).sum ≤ 8) (hs : ∀ k ∈ vs, k ∈ ws) (kx : TT xi N 0 (lv_args 0 As) [] S 0 0 (PV E vs S 0 0 rJ ex [])) (hp : ∀ v T, ex v T → T = S) (kk : ∀ z : Int64, ex (some (.long z)) S → TT xi M (pc + 3) L (.long z :: rest) S k0 n0 P) : TT xi M pc L (As.reverse ++ rest) S k0 n0 P := gt_SN h hcv hrm hA hlen hr8 hs kx (fun S' v hv hx g1 g2 g3 => by
  obtain ⟨z, rfl⟩ := hv
  have e := hp _ _ hx
  rw [e] at hx ⊢
  exact kk z hx)
theorem gt_SNPp (h : decode (md_c M) pc = .ok (.invokestatic i, 3)) (hcv : CTN (md_y M).cls i N As.length) (hrm : RM M N) (hA : Af E ws S0 S) (hlen : (lg_sl As).length ≤ md_L N) (hr8 : (rest.map fun v => v.category).sum ≤ 8) (hs : ∀ k ∈ vs, k ∈ ws) (kx : TT xi N 0 (lv_args 0 As) [] S 0 0 (PV E vs S 0 0 (rP S E) ex [])) (hp : ∀ v T, ex v T → T = S) (k1 : ex (some .null) S → TT xi M (pc + 3) L (.null :: rest) S k0 n0 P) (kk : ∀ z : Nat, Oa S E 5 0 z → ex (some (.ref z)) S → TT xi M (pc + 3) L (.ref z :: rest) S k0 n0 P) : TT xi M pc L (As.reverse ++ rest) S k0 n0 P := gt_SN h hcv hrm hA hlen hr8 hs kx (fun S' v hv hx g1 g2 g3 => by
  have e := hp _ _ hx
  rw [e] at hx ⊢
  rcases hv with rfl | ⟨z, rfl, hz⟩
  · exact k1 hx
  · exact kk z hz hx)
theorem ei_0 {Q : Prop} : ∀ z : Int32, some (Value.int 0) = some (.int z) → ¬ z = 0 → Q := fun z e q => absurd (by injection e with e; injection e with e; exact e.symm) q
theorem ei_1 {p : Prop} (h : p) : ∀ z : Int32, some (Value.int 1) = some (.int z) → (¬ z = 0 → p) ∧ (z = 0 → ¬ p) := fun z e => ⟨fun _ => h, fun q => by injection e with e; injection e with e; rw [← e] at q; exact absurd q (by decide)⟩
theorem ei_00 {p : Prop} (h : ¬ p) : ∀ z : Int32, some (Value.int 0) = some (.int z) → (¬ z = 0 → p) ∧ (z = 0 → ¬ p) := fun z e => ⟨fun q => by injection e with e; injection e with e; exact absurd e.symm q, fun _ => h⟩
theorem ei_v {w : Int32} : ∀ z : Int32, some (Value.int w) = some (.int z) → z = w := fun z e => by injection e with e; injection e with e; exact e.symm
theorem rg_out {a b lo hi : Int} {x : Int32} (h : Rg a b x) (h1 : b < lo ∨ hi < a := by decide) : ¬ Rg lo hi x := fun q => by obtain ⟨x1, x2⟩ := h; obtain ⟨y1, y2⟩ := q; omega
end GD
