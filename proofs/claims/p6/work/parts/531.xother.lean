def F_X3_readOther (bs : Nat → Int32) (n : Int32) (d : DD) (x1 : Int32) : DD :=
  if x1 = 99 then
    let d107 := F_X3_readSignExtension bs n d 
    d107
  else
    if x1 = 129 then
      let d117 := F_X3_readArithmeticWithConstant_4 bs n d 
      d117
    else
      if x1 = 131 then
        let d127 := F_X3_readArithmeticWithConstant_1 bs n d 
        d127
      else
        if x1 = 133 then
          let d137 := F_X3_readPair bs n d (8) (1)
          d137
        else
          if x1 = 137 then
            let d147 := F_X3_readPair bs n d (13) (1)
            d147
          else
            if x1 = 139 then
              let d157 := F_X3_readPair bs n d (13) (0)
              d157
            else
              if x1 = 144 then
                ((e0 d), (e1 d), (e2 d), (e3 d), (e4 d), (e5 d), (e6 d), 21, (e8 d), (e9 d), (e10 d), (e11 d), (eJ d))
              else
                if x1 = 193 then
                  let d174 := F_X3_readShift bs n d 
                  d174
                else
                  if x1 = 195 then
                    ((e0 d), (e1 d), (e2 d), (e3 d), (e4 d), (e5 d), (e6 d), 22, (e8 d), (e9 d), (e10 d), (e11 d), (eJ d))
                  else
                    if x1 = 199 then
                      let d191 := F_X3_readMoveToPlace bs n d 
                      d191
                    else
                      if x1 = 233 then
                        let d201 := F_X3_readJump_4 bs n d (20) (0)
                        d201
                      else
                        if x1 = 235 then
                          let d211 := F_X3_readJump_1 bs n d (20) (0)
                          d211
                        else
                          if x1 = 244 then
                            ((e0 d), (e1 d), (e2 d), (e3 d), (e4 d), (e5 d), (e6 d), 22, (e8 d), (e9 d), (e10 d), (e11 d), (eJ d))
                          else
                            if x1 = 247 then
                              let d228 := F_X3_readTestNotNeg bs n d 
                              d228
                            else
                              if x1 = 255 then
                                let d238 := F_X3_readIncDec bs n d 
                                d238
                              else
                                if x1 = 431 then
                                  let d248 := F_X3_readPair bs n d (17) (0)
                                  d248
                                else
                                  ((e0 d), (e1 d), 0, (e3 d), (e4 d), (e5 d), (e6 d), (e7 d), (e8 d), (e9 d), (e10 d), (e11 d), (eJ d))
theorem q_X3_readOther_0 {bs : Nat → Int32} {n : Int32} {d : DD} {x1 : Int32} (h0 : x1 = 99) : F_X3_readOther bs n d x1 = (F_X3_readSignExtension bs n d) := by unfold F_X3_readOther; exact if_pos h0
theorem q_X3_readOther_1 {bs : Nat → Int32} {n : Int32} {d : DD} {x1 : Int32} (h0 : ¬ x1 = 99) (h1 : x1 = 129) : F_X3_readOther bs n d x1 = (F_X3_readArithmeticWithConstant_4 bs n d) := by unfold F_X3_readOther; exact Eq.trans (if_neg h0) (if_pos h1)
theorem q_X3_readOther_2 {bs : Nat → Int32} {n : Int32} {d : DD} {x1 : Int32} (h0 : ¬ x1 = 99) (h1 : ¬ x1 = 129) (h2 : x1 = 131) : F_X3_readOther bs n d x1 = (F_X3_readArithmeticWithConstant_1 bs n d) := by unfold F_X3_readOther; exact Eq.trans (if_neg h0) (Eq.trans (if_neg h1) (if_pos h2))
theorem q_X3_readOther_3 {bs : Nat → Int32} {n : Int32} {d : DD} {x1 : Int32} (h0 : ¬ x1 = 99) (h1 : ¬ x1 = 129) (h2 : ¬ x1 = 131) (h3 : x1 = 133) : F_X3_readOther bs n d x1 = (F_X3_readPair bs n d (8) (1)) := by unfold F_X3_readOther; exact Eq.trans (if_neg h0) (Eq.trans (if_neg h1) (Eq.trans (if_neg h2) (if_pos h3)))
theorem q_X3_readOther_4 {bs : Nat → Int32} {n : Int32} {d : DD} {x1 : Int32} (h0 : ¬ x1 = 99) (h1 : ¬ x1 = 129) (h2 : ¬ x1 = 131) (h3 : ¬ x1 = 133) (h4 : x1 = 137) : F_X3_readOther bs n d x1 = (F_X3_readPair bs n d (13) (1)) := by unfold F_X3_readOther; exact Eq.trans (if_neg h0) (Eq.trans (if_neg h1) (Eq.trans (if_neg h2) (Eq.trans (if_neg h3) (if_pos h4))))
theorem q_X3_readOther_5 {bs : Nat → Int32} {n : Int32} {d : DD} {x1 : Int32} (h0 : ¬ x1 = 99) (h1 : ¬ x1 = 129) (h2 : ¬ x1 = 131) (h3 : ¬ x1 = 133) (h4 : ¬ x1 = 137) (h5 : x1 = 139) : F_X3_readOther bs n d x1 = (F_X3_readPair bs n d (13) (0)) := by unfold F_X3_readOther; exact Eq.trans (if_neg h0) (Eq.trans (if_neg h1) (Eq.trans (if_neg h2) (Eq.trans (if_neg h3) (Eq.trans (if_neg h4) (if_pos h5)))))
theorem q_X3_readOther_6 {bs : Nat → Int32} {n : Int32} {d : DD} {x1 : Int32} (h0 : ¬ x1 = 99) (h1 : ¬ x1 = 129) (h2 : ¬ x1 = 131) (h3 : ¬ x1 = 133) (h4 : ¬ x1 = 137) (h5 : ¬ x1 = 139) (h6 : x1 = 144) : F_X3_readOther bs n d x1 = ((e0 d), (e1 d), (e2 d), (e3 d), (e4 d), (e5 d), (e6 d), 21, (e8 d), (e9 d), (e10 d), (e11 d), (eJ d)) := by unfold F_X3_readOther; exact Eq.trans (if_neg h0) (Eq.trans (if_neg h1) (Eq.trans (if_neg h2) (Eq.trans (if_neg h3) (Eq.trans (if_neg h4) (Eq.trans (if_neg h5) (if_pos h6))))))
theorem q_X3_readOther_7 {bs : Nat → Int32} {n : Int32} {d : DD} {x1 : Int32} (h0 : ¬ x1 = 99) (h1 : ¬ x1 = 129) (h2 : ¬ x1 = 131) (h3 : ¬ x1 = 133) (h4 : ¬ x1 = 137) (h5 : ¬ x1 = 139) (h6 : ¬ x1 = 144) (h7 : x1 = 193) : F_X3_readOther bs n d x1 = (F_X3_readShift bs n d) := by unfold F_X3_readOther; exact Eq.trans (if_neg h0) (Eq.trans (if_neg h1) (Eq.trans (if_neg h2) (Eq.trans (if_neg h3) (Eq.trans (if_neg h4) (Eq.trans (if_neg h5) (Eq.trans (if_neg h6) (if_pos h7)))))))
theorem q_X3_readOther_8 {bs : Nat → Int32} {n : Int32} {d : DD} {x1 : Int32} (h0 : ¬ x1 = 99) (h1 : ¬ x1 = 129) (h2 : ¬ x1 = 131) (h3 : ¬ x1 = 133) (h4 : ¬ x1 = 137) (h5 : ¬ x1 = 139) (h6 : ¬ x1 = 144) (h7 : ¬ x1 = 193) (h8 : x1 = 195) : F_X3_readOther bs n d x1 = ((e0 d), (e1 d), (e2 d), (e3 d), (e4 d), (e5 d), (e6 d), 22, (e8 d), (e9 d), (e10 d), (e11 d), (eJ d)) := by unfold F_X3_readOther; exact Eq.trans (if_neg h0) (Eq.trans (if_neg h1) (Eq.trans (if_neg h2) (Eq.trans (if_neg h3) (Eq.trans (if_neg h4) (Eq.trans (if_neg h5) (Eq.trans (if_neg h6) (Eq.trans (if_neg h7) (if_pos h8))))))))
theorem q_X3_readOther_9 {bs : Nat → Int32} {n : Int32} {d : DD} {x1 : Int32} (h0 : ¬ x1 = 99) (h1 : ¬ x1 = 129) (h2 : ¬ x1 = 131) (h3 : ¬ x1 = 133) (h4 : ¬ x1 = 137) (h5 : ¬ x1 = 139) (h6 : ¬ x1 = 144) (h7 : ¬ x1 = 193) (h8 : ¬ x1 = 195) (h9 : x1 = 199) : F_X3_readOther bs n d x1 = (F_X3_readMoveToPlace bs n d) := by unfold F_X3_readOther; exact Eq.trans (if_neg h0) (Eq.trans (if_neg h1) (Eq.trans (if_neg h2) (Eq.trans (if_neg h3) (Eq.trans (if_neg h4) (Eq.trans (if_neg h5) (Eq.trans (if_neg h6) (Eq.trans (if_neg h7) (Eq.trans (if_neg h8) (if_pos h9)))))))))
theorem q_X3_readOther_10 {bs : Nat → Int32} {n : Int32} {d : DD} {x1 : Int32} (h0 : ¬ x1 = 99) (h1 : ¬ x1 = 129) (h2 : ¬ x1 = 131) (h3 : ¬ x1 = 133) (h4 : ¬ x1 = 137) (h5 : ¬ x1 = 139) (h6 : ¬ x1 = 144) (h7 : ¬ x1 = 193) (h8 : ¬ x1 = 195) (h9 : ¬ x1 = 199) (h10 : x1 = 233) : F_X3_readOther bs n d x1 = (F_X3_readJump_4 bs n d (20) (0)) := by unfold F_X3_readOther; exact Eq.trans (if_neg h0) (Eq.trans (if_neg h1) (Eq.trans (if_neg h2) (Eq.trans (if_neg h3) (Eq.trans (if_neg h4) (Eq.trans (if_neg h5) (Eq.trans (if_neg h6) (Eq.trans (if_neg h7) (Eq.trans (if_neg h8) (Eq.trans (if_neg h9) (if_pos h10))))))))))
theorem q_X3_readOther_11 {bs : Nat → Int32} {n : Int32} {d : DD} {x1 : Int32} (h0 : ¬ x1 = 99) (h1 : ¬ x1 = 129) (h2 : ¬ x1 = 131) (h3 : ¬ x1 = 133) (h4 : ¬ x1 = 137) (h5 : ¬ x1 = 139) (h6 : ¬ x1 = 144) (h7 : ¬ x1 = 193) (h8 : ¬ x1 = 195) (h9 : ¬ x1 = 199) (h10 : ¬ x1 = 233) (h11 : x1 = 235) : F_X3_readOther bs n d x1 = (F_X3_readJump_1 bs n d (20) (0)) := by unfold F_X3_readOther; exact Eq.trans (if_neg h0) (Eq.trans (if_neg h1) (Eq.trans (if_neg h2) (Eq.trans (if_neg h3) (Eq.trans (if_neg h4) (Eq.trans (if_neg h5) (Eq.trans (if_neg h6) (Eq.trans (if_neg h7) (Eq.trans (if_neg h8) (Eq.trans (if_neg h9) (Eq.trans (if_neg h10) (if_pos h11)))))))))))
theorem q_X3_readOther_12 {bs : Nat → Int32} {n : Int32} {d : DD} {x1 : Int32} (h0 : ¬ x1 = 99) (h1 : ¬ x1 = 129) (h2 : ¬ x1 = 131) (h3 : ¬ x1 = 133) (h4 : ¬ x1 = 137) (h5 : ¬ x1 = 139) (h6 : ¬ x1 = 144) (h7 : ¬ x1 = 193) (h8 : ¬ x1 = 195) (h9 : ¬ x1 = 199) (h10 : ¬ x1 = 233) (h11 : ¬ x1 = 235) (h12 : x1 = 244) : F_X3_readOther bs n d x1 = ((e0 d), (e1 d), (e2 d), (e3 d), (e4 d), (e5 d), (e6 d), 22, (e8 d), (e9 d), (e10 d), (e11 d), (eJ d)) := by unfold F_X3_readOther; exact Eq.trans (if_neg h0) (Eq.trans (if_neg h1) (Eq.trans (if_neg h2) (Eq.trans (if_neg h3) (Eq.trans (if_neg h4) (Eq.trans (if_neg h5) (Eq.trans (if_neg h6) (Eq.trans (if_neg h7) (Eq.trans (if_neg h8) (Eq.trans (if_neg h9) (Eq.trans (if_neg h10) (Eq.trans (if_neg h11) (if_pos h12))))))))))))
theorem q_X3_readOther_13 {bs : Nat → Int32} {n : Int32} {d : DD} {x1 : Int32} (h0 : ¬ x1 = 99) (h1 : ¬ x1 = 129) (h2 : ¬ x1 = 131) (h3 : ¬ x1 = 133) (h4 : ¬ x1 = 137) (h5 : ¬ x1 = 139) (h6 : ¬ x1 = 144) (h7 : ¬ x1 = 193) (h8 : ¬ x1 = 195) (h9 : ¬ x1 = 199) (h10 : ¬ x1 = 233) (h11 : ¬ x1 = 235) (h12 : ¬ x1 = 244) (h13 : x1 = 247) : F_X3_readOther bs n d x1 = (F_X3_readTestNotNeg bs n d) := by unfold F_X3_readOther; exact Eq.trans (if_neg h0) (Eq.trans (if_neg h1) (Eq.trans (if_neg h2) (Eq.trans (if_neg h3) (Eq.trans (if_neg h4) (Eq.trans (if_neg h5) (Eq.trans (if_neg h6) (Eq.trans (if_neg h7) (Eq.trans (if_neg h8) (Eq.trans (if_neg h9) (Eq.trans (if_neg h10) (Eq.trans (if_neg h11) (Eq.trans (if_neg h12) (if_pos h13)))))))))))))
theorem q_X3_readOther_14 {bs : Nat → Int32} {n : Int32} {d : DD} {x1 : Int32} (h0 : ¬ x1 = 99) (h1 : ¬ x1 = 129) (h2 : ¬ x1 = 131) (h3 : ¬ x1 = 133) (h4 : ¬ x1 = 137) (h5 : ¬ x1 = 139) (h6 : ¬ x1 = 144) (h7 : ¬ x1 = 193) (h8 : ¬ x1 = 195) (h9 : ¬ x1 = 199) (h10 : ¬ x1 = 233) (h11 : ¬ x1 = 235) (h12 : ¬ x1 = 244) (h13 : ¬ x1 = 247) (h14 : x1 = 255) : F_X3_readOther bs n d x1 = (F_X3_readIncDec bs n d) := by unfold F_X3_readOther; exact Eq.trans (if_neg h0) (Eq.trans (if_neg h1) (Eq.trans (if_neg h2) (Eq.trans (if_neg h3) (Eq.trans (if_neg h4) (Eq.trans (if_neg h5) (Eq.trans (if_neg h6) (Eq.trans (if_neg h7) (Eq.trans (if_neg h8) (Eq.trans (if_neg h9) (Eq.trans (if_neg h10) (Eq.trans (if_neg h11) (Eq.trans (if_neg h12) (Eq.trans (if_neg h13) (if_pos h14))))))))))))))
theorem q_X3_readOther_15 {bs : Nat → Int32} {n : Int32} {d : DD} {x1 : Int32} (h0 : ¬ x1 = 99) (h1 : ¬ x1 = 129) (h2 : ¬ x1 = 131) (h3 : ¬ x1 = 133) (h4 : ¬ x1 = 137) (h5 : ¬ x1 = 139) (h6 : ¬ x1 = 144) (h7 : ¬ x1 = 193) (h8 : ¬ x1 = 195) (h9 : ¬ x1 = 199) (h10 : ¬ x1 = 233) (h11 : ¬ x1 = 235) (h12 : ¬ x1 = 244) (h13 : ¬ x1 = 247) (h14 : ¬ x1 = 255) (h15 : x1 = 431) : F_X3_readOther bs n d x1 = (F_X3_readPair bs n d (17) (0)) := by unfold F_X3_readOther; exact Eq.trans (if_neg h0) (Eq.trans (if_neg h1) (Eq.trans (if_neg h2) (Eq.trans (if_neg h3) (Eq.trans (if_neg h4) (Eq.trans (if_neg h5) (Eq.trans (if_neg h6) (Eq.trans (if_neg h7) (Eq.trans (if_neg h8) (Eq.trans (if_neg h9) (Eq.trans (if_neg h10) (Eq.trans (if_neg h11) (Eq.trans (if_neg h12) (Eq.trans (if_neg h13) (Eq.trans (if_neg h14) (if_pos h15)))))))))))))))
theorem q_X3_readOther_16 {bs : Nat → Int32} {n : Int32} {d : DD} {x1 : Int32} (h0 : ¬ x1 = 99) (h1 : ¬ x1 = 129) (h2 : ¬ x1 = 131) (h3 : ¬ x1 = 133) (h4 : ¬ x1 = 137) (h5 : ¬ x1 = 139) (h6 : ¬ x1 = 144) (h7 : ¬ x1 = 193) (h8 : ¬ x1 = 195) (h9 : ¬ x1 = 199) (h10 : ¬ x1 = 233) (h11 : ¬ x1 = 235) (h12 : ¬ x1 = 244) (h13 : ¬ x1 = 247) (h14 : ¬ x1 = 255) (h15 : ¬ x1 = 431) : F_X3_readOther bs n d x1 = ((e0 d), (e1 d), 0, (e3 d), (e4 d), (e5 d), (e6 d), (e7 d), (e8 d), (e9 d), (e10 d), (e11 d), (eJ d)) := by unfold F_X3_readOther; exact Eq.trans (if_neg h0) (Eq.trans (if_neg h1) (Eq.trans (if_neg h2) (Eq.trans (if_neg h3) (Eq.trans (if_neg h4) (Eq.trans (if_neg h5) (Eq.trans (if_neg h6) (Eq.trans (if_neg h7) (Eq.trans (if_neg h8) (Eq.trans (if_neg h9) (Eq.trans (if_neg h10) (Eq.trans (if_neg h11) (Eq.trans (if_neg h12) (Eq.trans (if_neg h13) (Eq.trans (if_neg h14) (if_neg h15)))))))))))))))
set_option maxHeartbeats 40000000 in
theorem ce_X3_readOther {xi : SX} {S : Hp} {E : List Nat} {kc nc : Nat} {P : Po} {o0 : Nat} {x1 : Int32} {bs : Nat → Int32} {n : Int32} (hG : GI S E) (h0 : Oa S E 3 0 o0) (hb : BC S E o0 bs n) (hP : ∀ r T x y, PV E [193, 195, 196, 197, 198, 200, 202, 203, 204] S kc nc rV (fun v T => StC T o0 = F_X3_readOther bs n (StC S o0) x1) [] r T x y → P r T x y) : TT xi M_X3_readOther 0 [(0, .ref o0), (1, .int x1)] [] S kc nc P := by
  have hA : Af E [193, 195, 196, 197, 198, 200, 202, 203, 204] S S := af_rf
  refine tt_iload_n (j := 1) dX3_readOther_0 rfl ?_
  refine gt_by (c := x1 = 99) (fun q101 => ?_) (fun q101 => ?_)
  · skip
    refine gt_lseq (off := 139) (tgt := 140) 99 99 dX3_readOther_1 (by decide) q101 rfl rfl rfl ?_
    refine tt_aload_n (j := 0) dX3_readOther_140 rfl ?_
    refine gt_Vv (As := []) dX3_readOther_141 ca_X3_77 ⟨by decide, by decide⟩ h0 hA rfl (Nat.le_of_ble_eq_true rfl) (Nat.le_of_ble_eq_true rfl) (by decide) (ce_X3_readSignExtension hG (oa_af h0 hA) (bc_af hb h0 hA) (fun _ _ _ _ h => h)) rfl (fun _ h => nomatch h) (fun S102 hx106 hG103 hB104 hA105 => ?_)
    obtain ⟨d107, hd108⟩ : ∃ q, q = F_X3_readSignExtension bs n (StC S o0)  := ⟨_, rfl⟩
    have hq109 := (congrArg (fun q => F_X3_readSignExtension bs n q ) (stC_mk (sC_193 (T := S) (o := o0) rfl) (sC_194 (T := S) (o := o0) rfl) (sC_195 (T := S) (o := o0) rfl) (sC_196 (T := S) (o := o0) rfl) (sC_197 (T := S) (o := o0) rfl) (sC_198 (T := S) (o := o0) rfl) (sC_199 (T := S) (o := o0) rfl) (sC_200 (T := S) (o := o0) rfl) (sC_201 (T := S) (o := o0) rfl) (sC_202 (T := S) (o := o0) rfl) (sC_203 (T := S) (o := o0) rfl) (sC_204 (T := S) (o := o0) rfl) (sC_205 (T := S) (o := o0) rfl))).trans hd108.symm
    have hs110 := hx106.trans hq109
    refine tt_goto (tgt := 285) dX3_readOther_144 rfl ?_
    have hF : F_X3_readOther bs n (StC S o0) x1 = d107 := by
      subst hd108
      exact q_X3_readOther_0 q101
    exact tt_vreturn dX3_readOther_285 rfl (hP _ _ _ _ ⟨hG103, hA105, Or.inl ⟨_, rfl, rfl, Eq.trans (stC_mk (sC_193 hs110) (sC_194 hs110) (sC_195 hs110) (sC_196 hs110) (sC_197 hs110) (sC_198 hs110) (sC_199 hs110) (sC_200 hs110) (sC_201 hs110) (sC_202 hs110) (sC_203 hs110) (sC_204 hs110) (sC_205 hs110)) hF.symm, rfl, rfl⟩⟩)
  refine gt_by (c := x1 = 129) (fun q111 => ?_) (fun q111 => ?_)
  · skip
    refine gt_lseq (off := 146) (tgt := 147) 129 129 dX3_readOther_1 (by decide) q111 rfl rfl rfl ?_
    refine tt_aload_n (j := 0) dX3_readOther_147 rfl ?_
    refine tt_iconst (v := 4) dX3_readOther_148 rfl ?_
    refine gt_Vv (As := [.int 4]) dX3_readOther_149 ca_X3_80 ⟨by decide, by decide⟩ h0 hA rfl (Nat.le_of_ble_eq_true rfl) (Nat.le_of_ble_eq_true rfl) (by decide) (ce_X3_readArithmeticWithConstant_4 hG (oa_af h0 hA) (bc_af hb h0 hA) (fun _ _ _ _ h => h)) rfl (fun _ h => nomatch h) (fun S112 hx116 hG113 hB114 hA115 => ?_)
    obtain ⟨d117, hd118⟩ : ∃ q, q = F_X3_readArithmeticWithConstant_4 bs n (StC S o0)  := ⟨_, rfl⟩
    have hq119 := (congrArg (fun q => F_X3_readArithmeticWithConstant_4 bs n q ) (stC_mk (sC_193 (T := S) (o := o0) rfl) (sC_194 (T := S) (o := o0) rfl) (sC_195 (T := S) (o := o0) rfl) (sC_196 (T := S) (o := o0) rfl) (sC_197 (T := S) (o := o0) rfl) (sC_198 (T := S) (o := o0) rfl) (sC_199 (T := S) (o := o0) rfl) (sC_200 (T := S) (o := o0) rfl) (sC_201 (T := S) (o := o0) rfl) (sC_202 (T := S) (o := o0) rfl) (sC_203 (T := S) (o := o0) rfl) (sC_204 (T := S) (o := o0) rfl) (sC_205 (T := S) (o := o0) rfl))).trans hd118.symm
    have hs120 := hx116.trans hq119
    refine tt_goto (tgt := 285) dX3_readOther_152 rfl ?_
    have hF : F_X3_readOther bs n (StC S o0) x1 = d117 := by
      subst hd118
      exact q_X3_readOther_1 q101 q111
    exact tt_vreturn dX3_readOther_285 rfl (hP _ _ _ _ ⟨hG113, hA115, Or.inl ⟨_, rfl, rfl, Eq.trans (stC_mk (sC_193 hs120) (sC_194 hs120) (sC_195 hs120) (sC_196 hs120) (sC_197 hs120) (sC_198 hs120) (sC_199 hs120) (sC_200 hs120) (sC_201 hs120) (sC_202 hs120) (sC_203 hs120) (sC_204 hs120) (sC_205 hs120)) hF.symm, rfl, rfl⟩⟩)
  refine gt_by (c := x1 = 131) (fun q121 => ?_) (fun q121 => ?_)
  · skip
    refine gt_lseq (off := 154) (tgt := 155) 131 131 dX3_readOther_1 (by decide) q121 rfl rfl rfl ?_
    refine tt_aload_n (j := 0) dX3_readOther_155 rfl ?_
    refine tt_iconst (v := 1) dX3_readOther_156 rfl ?_
    refine gt_Vv (As := [.int 1]) dX3_readOther_157 ca_X3_80 ⟨by decide, by decide⟩ h0 hA rfl (Nat.le_of_ble_eq_true rfl) (Nat.le_of_ble_eq_true rfl) (by decide) (ce_X3_readArithmeticWithConstant_1 hG (oa_af h0 hA) (bc_af hb h0 hA) (fun _ _ _ _ h => h)) rfl (fun _ h => nomatch h) (fun S122 hx126 hG123 hB124 hA125 => ?_)
    obtain ⟨d127, hd128⟩ : ∃ q, q = F_X3_readArithmeticWithConstant_1 bs n (StC S o0)  := ⟨_, rfl⟩
    have hq129 := (congrArg (fun q => F_X3_readArithmeticWithConstant_1 bs n q ) (stC_mk (sC_193 (T := S) (o := o0) rfl) (sC_194 (T := S) (o := o0) rfl) (sC_195 (T := S) (o := o0) rfl) (sC_196 (T := S) (o := o0) rfl) (sC_197 (T := S) (o := o0) rfl) (sC_198 (T := S) (o := o0) rfl) (sC_199 (T := S) (o := o0) rfl) (sC_200 (T := S) (o := o0) rfl) (sC_201 (T := S) (o := o0) rfl) (sC_202 (T := S) (o := o0) rfl) (sC_203 (T := S) (o := o0) rfl) (sC_204 (T := S) (o := o0) rfl) (sC_205 (T := S) (o := o0) rfl))).trans hd128.symm
    have hs130 := hx126.trans hq129
    refine tt_goto (tgt := 285) dX3_readOther_160 rfl ?_
    have hF : F_X3_readOther bs n (StC S o0) x1 = d127 := by
      subst hd128
      exact q_X3_readOther_2 q101 q111 q121
    exact tt_vreturn dX3_readOther_285 rfl (hP _ _ _ _ ⟨hG123, hA125, Or.inl ⟨_, rfl, rfl, Eq.trans (stC_mk (sC_193 hs130) (sC_194 hs130) (sC_195 hs130) (sC_196 hs130) (sC_197 hs130) (sC_198 hs130) (sC_199 hs130) (sC_200 hs130) (sC_201 hs130) (sC_202 hs130) (sC_203 hs130) (sC_204 hs130) (sC_205 hs130)) hF.symm, rfl, rfl⟩⟩)
  refine gt_by (c := x1 = 133) (fun q131 => ?_) (fun q131 => ?_)
  · skip
    refine gt_lseq (off := 162) (tgt := 163) 133 133 dX3_readOther_1 (by decide) q131 rfl rfl rfl ?_
    refine tt_aload_n (j := 0) dX3_readOther_163 rfl ?_
    refine tt_bipush (v := 8) dX3_readOther_164 rfl ?_
    refine tt_iconst (v := 1) dX3_readOther_166 rfl ?_
    refine gt_Vv (As := [.int 8, .int 1]) dX3_readOther_167 ca_X3_37 ⟨by decide, by decide⟩ h0 hA rfl (Nat.le_of_ble_eq_true rfl) (Nat.le_of_ble_eq_true rfl) (by decide) (ce_X3_readPair hG (oa_af h0 hA) (rg_w (⟨by decide, by decide⟩ : Rg 1 1 1)) (bc_af hb h0 hA) (fun _ _ _ _ h => h)) rfl (fun _ h => nomatch h) (fun S132 hx136 hG133 hB134 hA135 => ?_)
    obtain ⟨d137, hd138⟩ : ∃ q, q = F_X3_readPair bs n (StC S o0) (8) (1) := ⟨_, rfl⟩
    have hq139 := (congrArg (fun q => F_X3_readPair bs n q (8) (1)) (stC_mk (sC_193 (T := S) (o := o0) rfl) (sC_194 (T := S) (o := o0) rfl) (sC_195 (T := S) (o := o0) rfl) (sC_196 (T := S) (o := o0) rfl) (sC_197 (T := S) (o := o0) rfl) (sC_198 (T := S) (o := o0) rfl) (sC_199 (T := S) (o := o0) rfl) (sC_200 (T := S) (o := o0) rfl) (sC_201 (T := S) (o := o0) rfl) (sC_202 (T := S) (o := o0) rfl) (sC_203 (T := S) (o := o0) rfl) (sC_204 (T := S) (o := o0) rfl) (sC_205 (T := S) (o := o0) rfl))).trans hd138.symm
    have hs140 := hx136.trans hq139
    refine tt_goto (tgt := 285) dX3_readOther_170 rfl ?_
    have hF : F_X3_readOther bs n (StC S o0) x1 = d137 := by
      subst hd138
      exact q_X3_readOther_3 q101 q111 q121 q131
    exact tt_vreturn dX3_readOther_285 rfl (hP _ _ _ _ ⟨hG133, hA135, Or.inl ⟨_, rfl, rfl, Eq.trans (stC_mk (sC_193 hs140) (sC_194 hs140) (sC_195 hs140) (sC_196 hs140) (sC_197 hs140) (sC_198 hs140) (sC_199 hs140) (sC_200 hs140) (sC_201 hs140) (sC_202 hs140) (sC_203 hs140) (sC_204 hs140) (sC_205 hs140)) hF.symm, rfl, rfl⟩⟩)
  refine gt_by (c := x1 = 137) (fun q141 => ?_) (fun q141 => ?_)
  · skip
    refine gt_lseq (off := 172) (tgt := 173) 137 137 dX3_readOther_1 (by decide) q141 rfl rfl rfl ?_
    refine tt_aload_n (j := 0) dX3_readOther_173 rfl ?_
    refine tt_bipush (v := 13) dX3_readOther_174 rfl ?_
    refine tt_iconst (v := 1) dX3_readOther_176 rfl ?_
    refine gt_Vv (As := [.int 13, .int 1]) dX3_readOther_177 ca_X3_37 ⟨by decide, by decide⟩ h0 hA rfl (Nat.le_of_ble_eq_true rfl) (Nat.le_of_ble_eq_true rfl) (by decide) (ce_X3_readPair hG (oa_af h0 hA) (rg_w (⟨by decide, by decide⟩ : Rg 1 1 1)) (bc_af hb h0 hA) (fun _ _ _ _ h => h)) rfl (fun _ h => nomatch h) (fun S142 hx146 hG143 hB144 hA145 => ?_)
    obtain ⟨d147, hd148⟩ : ∃ q, q = F_X3_readPair bs n (StC S o0) (13) (1) := ⟨_, rfl⟩
    have hq149 := (congrArg (fun q => F_X3_readPair bs n q (13) (1)) (stC_mk (sC_193 (T := S) (o := o0) rfl) (sC_194 (T := S) (o := o0) rfl) (sC_195 (T := S) (o := o0) rfl) (sC_196 (T := S) (o := o0) rfl) (sC_197 (T := S) (o := o0) rfl) (sC_198 (T := S) (o := o0) rfl) (sC_199 (T := S) (o := o0) rfl) (sC_200 (T := S) (o := o0) rfl) (sC_201 (T := S) (o := o0) rfl) (sC_202 (T := S) (o := o0) rfl) (sC_203 (T := S) (o := o0) rfl) (sC_204 (T := S) (o := o0) rfl) (sC_205 (T := S) (o := o0) rfl))).trans hd148.symm
    have hs150 := hx146.trans hq149
    refine tt_goto (tgt := 285) dX3_readOther_180 rfl ?_
    have hF : F_X3_readOther bs n (StC S o0) x1 = d147 := by
      subst hd148
      exact q_X3_readOther_4 q101 q111 q121 q131 q141
    exact tt_vreturn dX3_readOther_285 rfl (hP _ _ _ _ ⟨hG143, hA145, Or.inl ⟨_, rfl, rfl, Eq.trans (stC_mk (sC_193 hs150) (sC_194 hs150) (sC_195 hs150) (sC_196 hs150) (sC_197 hs150) (sC_198 hs150) (sC_199 hs150) (sC_200 hs150) (sC_201 hs150) (sC_202 hs150) (sC_203 hs150) (sC_204 hs150) (sC_205 hs150)) hF.symm, rfl, rfl⟩⟩)
  refine gt_by (c := x1 = 139) (fun q151 => ?_) (fun q151 => ?_)
  · skip
    refine gt_lseq (off := 182) (tgt := 183) 139 139 dX3_readOther_1 (by decide) q151 rfl rfl rfl ?_
    refine tt_aload_n (j := 0) dX3_readOther_183 rfl ?_
    refine tt_bipush (v := 13) dX3_readOther_184 rfl ?_
    refine tt_iconst (v := 0) dX3_readOther_186 rfl ?_
    refine gt_Vv (As := [.int 13, .int 0]) dX3_readOther_187 ca_X3_37 ⟨by decide, by decide⟩ h0 hA rfl (Nat.le_of_ble_eq_true rfl) (Nat.le_of_ble_eq_true rfl) (by decide) (ce_X3_readPair hG (oa_af h0 hA) (rg_w (⟨by decide, by decide⟩ : Rg 0 0 0)) (bc_af hb h0 hA) (fun _ _ _ _ h => h)) rfl (fun _ h => nomatch h) (fun S152 hx156 hG153 hB154 hA155 => ?_)
    obtain ⟨d157, hd158⟩ : ∃ q, q = F_X3_readPair bs n (StC S o0) (13) (0) := ⟨_, rfl⟩
    have hq159 := (congrArg (fun q => F_X3_readPair bs n q (13) (0)) (stC_mk (sC_193 (T := S) (o := o0) rfl) (sC_194 (T := S) (o := o0) rfl) (sC_195 (T := S) (o := o0) rfl) (sC_196 (T := S) (o := o0) rfl) (sC_197 (T := S) (o := o0) rfl) (sC_198 (T := S) (o := o0) rfl) (sC_199 (T := S) (o := o0) rfl) (sC_200 (T := S) (o := o0) rfl) (sC_201 (T := S) (o := o0) rfl) (sC_202 (T := S) (o := o0) rfl) (sC_203 (T := S) (o := o0) rfl) (sC_204 (T := S) (o := o0) rfl) (sC_205 (T := S) (o := o0) rfl))).trans hd158.symm
    have hs160 := hx156.trans hq159
    refine tt_goto (tgt := 285) dX3_readOther_190 rfl ?_
    have hF : F_X3_readOther bs n (StC S o0) x1 = d157 := by
      subst hd158
      exact q_X3_readOther_5 q101 q111 q121 q131 q141 q151
    exact tt_vreturn dX3_readOther_285 rfl (hP _ _ _ _ ⟨hG153, hA155, Or.inl ⟨_, rfl, rfl, Eq.trans (stC_mk (sC_193 hs160) (sC_194 hs160) (sC_195 hs160) (sC_196 hs160) (sC_197 hs160) (sC_198 hs160) (sC_199 hs160) (sC_200 hs160) (sC_201 hs160) (sC_202 hs160) (sC_203 hs160) (sC_204 hs160) (sC_205 hs160)) hF.symm, rfl, rfl⟩⟩)
  refine gt_by (c := x1 = 144) (fun q161 => ?_) (fun q161 => ?_)
  · skip
    refine gt_lseq (off := 192) (tgt := 193) 144 144 dX3_readOther_1 (by decide) q161 rfl rfl rfl ?_
    refine tt_aload_n (j := 0) dX3_readOther_193 rfl ?_
    refine tt_bipush (v := 21) dX3_readOther_194 rfl ?_
    refine gt_pI (id := 200) (x := 21) dX3_readOther_196 fl_3_54 rfl rfl h0 hA rfl rfl rfl (gp_I hG) (by decide) (fun h => absurd h (by decide)) (fun h => absurd h (by decide)) (fun S162 hG163 hA164 e165 f166 er167 => ?_)
    refine tt_goto (tgt := 285) dX3_readOther_199 rfl ?_
    have hF : F_X3_readOther bs n (StC S o0) x1 = ((e0 (StC S o0)), (e1 (StC S o0)), (e2 (StC S o0)), (e3 (StC S o0)), (e4 (StC S o0)), (e5 (StC S o0)), (e6 (StC S o0)), 21, (e8 (StC S o0)), (e9 (StC S o0)), (e10 (StC S o0)), (e11 (StC S o0)), (eJ (StC S o0))) := by
      exact q_X3_readOther_6 q101 q111 q121 q131 q141 q151 q161
    exact tt_vreturn dX3_readOther_285 rfl (hP _ _ _ _ ⟨hG163, hA164, Or.inl ⟨_, rfl, rfl, Eq.trans (stC_mk ((congrFun (congrFun e165 193) o0).trans ((congrFun (up2_ne (k := 193)) o0).trans (sC_193 (T := S) (o := o0) rfl))) ((congrFun (congrFun e165 194) o0).trans ((congrFun (up2_ne (k := 194)) o0).trans (sC_194 (T := S) (o := o0) rfl))) ((congrFun (congrFun e165 195) o0).trans ((congrFun (up2_ne (k := 195)) o0).trans (sC_195 (T := S) (o := o0) rfl))) ((congrFun (congrFun e165 196) o0).trans ((congrFun (up2_ne (k := 196)) o0).trans (sC_196 (T := S) (o := o0) rfl))) ((congrFun (congrFun e165 197) o0).trans ((congrFun (up2_ne (k := 197)) o0).trans (sC_197 (T := S) (o := o0) rfl))) ((congrFun (congrFun e165 198) o0).trans ((congrFun (up2_ne (k := 198)) o0).trans (sC_198 (T := S) (o := o0) rfl))) ((congrFun (congrFun e165 199) o0).trans ((congrFun (up2_ne (k := 199)) o0).trans (sC_199 (T := S) (o := o0) rfl))) (by rw [e165]; exact up2_self) ((congrFun (congrFun e165 201) o0).trans ((congrFun (up2_ne (k := 201)) o0).trans (sC_201 (T := S) (o := o0) rfl))) ((congrFun (congrFun e165 202) o0).trans ((congrFun (up2_ne (k := 202)) o0).trans (sC_202 (T := S) (o := o0) rfl))) ((congrFun (congrFun e165 203) o0).trans ((congrFun (up2_ne (k := 203)) o0).trans (sC_203 (T := S) (o := o0) rfl))) ((congrFun (congrFun e165 204) o0).trans ((congrFun (up2_ne (k := 204)) o0).trans (sC_204 (T := S) (o := o0) rfl))) ((congrFun (congrFun f166 205) o0).trans (sC_205 (T := S) (o := o0) rfl))) hF.symm, rfl, rfl⟩⟩)
  refine gt_by (c := x1 = 193) (fun q168 => ?_) (fun q168 => ?_)
  · skip
    refine gt_lseq (off := 201) (tgt := 202) 193 193 dX3_readOther_1 (by decide) q168 rfl rfl rfl ?_
    refine tt_aload_n (j := 0) dX3_readOther_202 rfl ?_
    refine gt_Vv (As := []) dX3_readOther_203 ca_X3_83 ⟨by decide, by decide⟩ h0 hA rfl (Nat.le_of_ble_eq_true rfl) (Nat.le_of_ble_eq_true rfl) (by decide) (ce_X3_readShift hG (oa_af h0 hA) (bc_af hb h0 hA) (fun _ _ _ _ h => h)) rfl (fun _ h => nomatch h) (fun S169 hx173 hG170 hB171 hA172 => ?_)
    obtain ⟨d174, hd175⟩ : ∃ q, q = F_X3_readShift bs n (StC S o0)  := ⟨_, rfl⟩
    have hq176 := (congrArg (fun q => F_X3_readShift bs n q ) (stC_mk (sC_193 (T := S) (o := o0) rfl) (sC_194 (T := S) (o := o0) rfl) (sC_195 (T := S) (o := o0) rfl) (sC_196 (T := S) (o := o0) rfl) (sC_197 (T := S) (o := o0) rfl) (sC_198 (T := S) (o := o0) rfl) (sC_199 (T := S) (o := o0) rfl) (sC_200 (T := S) (o := o0) rfl) (sC_201 (T := S) (o := o0) rfl) (sC_202 (T := S) (o := o0) rfl) (sC_203 (T := S) (o := o0) rfl) (sC_204 (T := S) (o := o0) rfl) (sC_205 (T := S) (o := o0) rfl))).trans hd175.symm
    have hs177 := hx173.trans hq176
    refine tt_goto (tgt := 285) dX3_readOther_206 rfl ?_
    have hF : F_X3_readOther bs n (StC S o0) x1 = d174 := by
      subst hd175
      exact q_X3_readOther_7 q101 q111 q121 q131 q141 q151 q161 q168
    exact tt_vreturn dX3_readOther_285 rfl (hP _ _ _ _ ⟨hG170, hA172, Or.inl ⟨_, rfl, rfl, Eq.trans (stC_mk (sC_193 hs177) (sC_194 hs177) (sC_195 hs177) (sC_196 hs177) (sC_197 hs177) (sC_198 hs177) (sC_199 hs177) (sC_200 hs177) (sC_201 hs177) (sC_202 hs177) (sC_203 hs177) (sC_204 hs177) (sC_205 hs177)) hF.symm, rfl, rfl⟩⟩)
  refine gt_by (c := x1 = 195) (fun q178 => ?_) (fun q178 => ?_)
  · skip
    refine gt_lseq (off := 208) (tgt := 209) 195 195 dX3_readOther_1 (by decide) q178 rfl rfl rfl ?_
    refine tt_aload_n (j := 0) dX3_readOther_209 rfl ?_
    refine tt_bipush (v := 22) dX3_readOther_210 rfl ?_
    refine gt_pI (id := 200) (x := 22) dX3_readOther_212 fl_3_54 rfl rfl h0 hA rfl rfl rfl (gp_I hG) (by decide) (fun h => absurd h (by decide)) (fun h => absurd h (by decide)) (fun S179 hG180 hA181 e182 f183 er184 => ?_)
    refine tt_goto (tgt := 285) dX3_readOther_215 rfl ?_
    have hF : F_X3_readOther bs n (StC S o0) x1 = ((e0 (StC S o0)), (e1 (StC S o0)), (e2 (StC S o0)), (e3 (StC S o0)), (e4 (StC S o0)), (e5 (StC S o0)), (e6 (StC S o0)), 22, (e8 (StC S o0)), (e9 (StC S o0)), (e10 (StC S o0)), (e11 (StC S o0)), (eJ (StC S o0))) := by
      exact q_X3_readOther_8 q101 q111 q121 q131 q141 q151 q161 q168 q178
    exact tt_vreturn dX3_readOther_285 rfl (hP _ _ _ _ ⟨hG180, hA181, Or.inl ⟨_, rfl, rfl, Eq.trans (stC_mk ((congrFun (congrFun e182 193) o0).trans ((congrFun (up2_ne (k := 193)) o0).trans (sC_193 (T := S) (o := o0) rfl))) ((congrFun (congrFun e182 194) o0).trans ((congrFun (up2_ne (k := 194)) o0).trans (sC_194 (T := S) (o := o0) rfl))) ((congrFun (congrFun e182 195) o0).trans ((congrFun (up2_ne (k := 195)) o0).trans (sC_195 (T := S) (o := o0) rfl))) ((congrFun (congrFun e182 196) o0).trans ((congrFun (up2_ne (k := 196)) o0).trans (sC_196 (T := S) (o := o0) rfl))) ((congrFun (congrFun e182 197) o0).trans ((congrFun (up2_ne (k := 197)) o0).trans (sC_197 (T := S) (o := o0) rfl))) ((congrFun (congrFun e182 198) o0).trans ((congrFun (up2_ne (k := 198)) o0).trans (sC_198 (T := S) (o := o0) rfl))) ((congrFun (congrFun e182 199) o0).trans ((congrFun (up2_ne (k := 199)) o0).trans (sC_199 (T := S) (o := o0) rfl))) (by rw [e182]; exact up2_self) ((congrFun (congrFun e182 201) o0).trans ((congrFun (up2_ne (k := 201)) o0).trans (sC_201 (T := S) (o := o0) rfl))) ((congrFun (congrFun e182 202) o0).trans ((congrFun (up2_ne (k := 202)) o0).trans (sC_202 (T := S) (o := o0) rfl))) ((congrFun (congrFun e182 203) o0).trans ((congrFun (up2_ne (k := 203)) o0).trans (sC_203 (T := S) (o := o0) rfl))) ((congrFun (congrFun e182 204) o0).trans ((congrFun (up2_ne (k := 204)) o0).trans (sC_204 (T := S) (o := o0) rfl))) ((congrFun (congrFun f183 205) o0).trans (sC_205 (T := S) (o := o0) rfl))) hF.symm, rfl, rfl⟩⟩)
  refine gt_by (c := x1 = 199) (fun q185 => ?_) (fun q185 => ?_)
  · skip
    refine gt_lseq (off := 217) (tgt := 218) 199 199 dX3_readOther_1 (by decide) q185 rfl rfl rfl ?_
    refine tt_aload_n (j := 0) dX3_readOther_218 rfl ?_
    refine gt_Vv (As := []) dX3_readOther_219 ca_X3_86 ⟨by decide, by decide⟩ h0 hA rfl (Nat.le_of_ble_eq_true rfl) (Nat.le_of_ble_eq_true rfl) (by decide) (ce_X3_readMoveToPlace hG (oa_af h0 hA) (bc_af hb h0 hA) (fun _ _ _ _ h => h)) rfl (fun _ h => nomatch h) (fun S186 hx190 hG187 hB188 hA189 => ?_)
    obtain ⟨d191, hd192⟩ : ∃ q, q = F_X3_readMoveToPlace bs n (StC S o0)  := ⟨_, rfl⟩
    have hq193 := (congrArg (fun q => F_X3_readMoveToPlace bs n q ) (stC_mk (sC_193 (T := S) (o := o0) rfl) (sC_194 (T := S) (o := o0) rfl) (sC_195 (T := S) (o := o0) rfl) (sC_196 (T := S) (o := o0) rfl) (sC_197 (T := S) (o := o0) rfl) (sC_198 (T := S) (o := o0) rfl) (sC_199 (T := S) (o := o0) rfl) (sC_200 (T := S) (o := o0) rfl) (sC_201 (T := S) (o := o0) rfl) (sC_202 (T := S) (o := o0) rfl) (sC_203 (T := S) (o := o0) rfl) (sC_204 (T := S) (o := o0) rfl) (sC_205 (T := S) (o := o0) rfl))).trans hd192.symm
    have hs194 := hx190.trans hq193
    refine tt_goto (tgt := 285) dX3_readOther_222 rfl ?_
    have hF : F_X3_readOther bs n (StC S o0) x1 = d191 := by
      subst hd192
      exact q_X3_readOther_9 q101 q111 q121 q131 q141 q151 q161 q168 q178 q185
    exact tt_vreturn dX3_readOther_285 rfl (hP _ _ _ _ ⟨hG187, hA189, Or.inl ⟨_, rfl, rfl, Eq.trans (stC_mk (sC_193 hs194) (sC_194 hs194) (sC_195 hs194) (sC_196 hs194) (sC_197 hs194) (sC_198 hs194) (sC_199 hs194) (sC_200 hs194) (sC_201 hs194) (sC_202 hs194) (sC_203 hs194) (sC_204 hs194) (sC_205 hs194)) hF.symm, rfl, rfl⟩⟩)
  refine gt_by (c := x1 = 233) (fun q195 => ?_) (fun q195 => ?_)
  · skip
    refine gt_lseq (off := 224) (tgt := 225) 233 233 dX3_readOther_1 (by decide) q195 rfl rfl rfl ?_
    refine tt_aload_n (j := 0) dX3_readOther_225 rfl ?_
    refine tt_bipush (v := 20) dX3_readOther_226 rfl ?_
    refine tt_iconst (v := 0) dX3_readOther_228 rfl ?_
    refine tt_iconst (v := 4) dX3_readOther_229 rfl ?_
    refine gt_Vv (As := [.int 20, .int 0, .int 4]) dX3_readOther_230 ca_X3_41 ⟨by decide, by decide⟩ h0 hA rfl (Nat.le_of_ble_eq_true rfl) (Nat.le_of_ble_eq_true rfl) (by decide) (ce_X3_readJump_4 hG (oa_af h0 hA) (bc_af hb h0 hA) (fun _ _ _ _ h => h)) rfl (fun _ h => nomatch h) (fun S196 hx200 hG197 hB198 hA199 => ?_)
    obtain ⟨d201, hd202⟩ : ∃ q, q = F_X3_readJump_4 bs n (StC S o0) (20) (0) := ⟨_, rfl⟩
    have hq203 := (congrArg (fun q => F_X3_readJump_4 bs n q (20) (0)) (stC_mk (sC_193 (T := S) (o := o0) rfl) (sC_194 (T := S) (o := o0) rfl) (sC_195 (T := S) (o := o0) rfl) (sC_196 (T := S) (o := o0) rfl) (sC_197 (T := S) (o := o0) rfl) (sC_198 (T := S) (o := o0) rfl) (sC_199 (T := S) (o := o0) rfl) (sC_200 (T := S) (o := o0) rfl) (sC_201 (T := S) (o := o0) rfl) (sC_202 (T := S) (o := o0) rfl) (sC_203 (T := S) (o := o0) rfl) (sC_204 (T := S) (o := o0) rfl) (sC_205 (T := S) (o := o0) rfl))).trans hd202.symm
    have hs204 := hx200.trans hq203
    refine tt_goto (tgt := 285) dX3_readOther_233 rfl ?_
    have hF : F_X3_readOther bs n (StC S o0) x1 = d201 := by
      subst hd202
      exact q_X3_readOther_10 q101 q111 q121 q131 q141 q151 q161 q168 q178 q185 q195
    exact tt_vreturn dX3_readOther_285 rfl (hP _ _ _ _ ⟨hG197, hA199, Or.inl ⟨_, rfl, rfl, Eq.trans (stC_mk (sC_193 hs204) (sC_194 hs204) (sC_195 hs204) (sC_196 hs204) (sC_197 hs204) (sC_198 hs204) (sC_199 hs204) (sC_200 hs204) (sC_201 hs204) (sC_202 hs204) (sC_203 hs204) (sC_204 hs204) (sC_205 hs204)) hF.symm, rfl, rfl⟩⟩)
  refine gt_by (c := x1 = 235) (fun q205 => ?_) (fun q205 => ?_)
  · skip
    refine gt_lseq (off := 235) (tgt := 236) 235 235 dX3_readOther_1 (by decide) q205 rfl rfl rfl ?_
    refine tt_aload_n (j := 0) dX3_readOther_236 rfl ?_
    refine tt_bipush (v := 20) dX3_readOther_237 rfl ?_
    refine tt_iconst (v := 0) dX3_readOther_239 rfl ?_
    refine tt_iconst (v := 1) dX3_readOther_240 rfl ?_
    refine gt_Vv (As := [.int 20, .int 0, .int 1]) dX3_readOther_241 ca_X3_41 ⟨by decide, by decide⟩ h0 hA rfl (Nat.le_of_ble_eq_true rfl) (Nat.le_of_ble_eq_true rfl) (by decide) (ce_X3_readJump_1 hG (oa_af h0 hA) (bc_af hb h0 hA) (fun _ _ _ _ h => h)) rfl (fun _ h => nomatch h) (fun S206 hx210 hG207 hB208 hA209 => ?_)
    obtain ⟨d211, hd212⟩ : ∃ q, q = F_X3_readJump_1 bs n (StC S o0) (20) (0) := ⟨_, rfl⟩
    have hq213 := (congrArg (fun q => F_X3_readJump_1 bs n q (20) (0)) (stC_mk (sC_193 (T := S) (o := o0) rfl) (sC_194 (T := S) (o := o0) rfl) (sC_195 (T := S) (o := o0) rfl) (sC_196 (T := S) (o := o0) rfl) (sC_197 (T := S) (o := o0) rfl) (sC_198 (T := S) (o := o0) rfl) (sC_199 (T := S) (o := o0) rfl) (sC_200 (T := S) (o := o0) rfl) (sC_201 (T := S) (o := o0) rfl) (sC_202 (T := S) (o := o0) rfl) (sC_203 (T := S) (o := o0) rfl) (sC_204 (T := S) (o := o0) rfl) (sC_205 (T := S) (o := o0) rfl))).trans hd212.symm
    have hs214 := hx210.trans hq213
    refine tt_goto (tgt := 285) dX3_readOther_244 rfl ?_
    have hF : F_X3_readOther bs n (StC S o0) x1 = d211 := by
      subst hd212
      exact q_X3_readOther_11 q101 q111 q121 q131 q141 q151 q161 q168 q178 q185 q195 q205
    exact tt_vreturn dX3_readOther_285 rfl (hP _ _ _ _ ⟨hG207, hA209, Or.inl ⟨_, rfl, rfl, Eq.trans (stC_mk (sC_193 hs214) (sC_194 hs214) (sC_195 hs214) (sC_196 hs214) (sC_197 hs214) (sC_198 hs214) (sC_199 hs214) (sC_200 hs214) (sC_201 hs214) (sC_202 hs214) (sC_203 hs214) (sC_204 hs214) (sC_205 hs214)) hF.symm, rfl, rfl⟩⟩)
  refine gt_by (c := x1 = 244) (fun q215 => ?_) (fun q215 => ?_)
  · skip
    refine gt_lseq (off := 246) (tgt := 247) 244 244 dX3_readOther_1 (by decide) q215 rfl rfl rfl ?_
    refine tt_aload_n (j := 0) dX3_readOther_247 rfl ?_
    refine tt_bipush (v := 22) dX3_readOther_248 rfl ?_
    refine gt_pI (id := 200) (x := 22) dX3_readOther_250 fl_3_54 rfl rfl h0 hA rfl rfl rfl (gp_I hG) (by decide) (fun h => absurd h (by decide)) (fun h => absurd h (by decide)) (fun S216 hG217 hA218 e219 f220 er221 => ?_)
    refine tt_goto (tgt := 285) dX3_readOther_253 rfl ?_
    have hF : F_X3_readOther bs n (StC S o0) x1 = ((e0 (StC S o0)), (e1 (StC S o0)), (e2 (StC S o0)), (e3 (StC S o0)), (e4 (StC S o0)), (e5 (StC S o0)), (e6 (StC S o0)), 22, (e8 (StC S o0)), (e9 (StC S o0)), (e10 (StC S o0)), (e11 (StC S o0)), (eJ (StC S o0))) := by
      exact q_X3_readOther_12 q101 q111 q121 q131 q141 q151 q161 q168 q178 q185 q195 q205 q215
    exact tt_vreturn dX3_readOther_285 rfl (hP _ _ _ _ ⟨hG217, hA218, Or.inl ⟨_, rfl, rfl, Eq.trans (stC_mk ((congrFun (congrFun e219 193) o0).trans ((congrFun (up2_ne (k := 193)) o0).trans (sC_193 (T := S) (o := o0) rfl))) ((congrFun (congrFun e219 194) o0).trans ((congrFun (up2_ne (k := 194)) o0).trans (sC_194 (T := S) (o := o0) rfl))) ((congrFun (congrFun e219 195) o0).trans ((congrFun (up2_ne (k := 195)) o0).trans (sC_195 (T := S) (o := o0) rfl))) ((congrFun (congrFun e219 196) o0).trans ((congrFun (up2_ne (k := 196)) o0).trans (sC_196 (T := S) (o := o0) rfl))) ((congrFun (congrFun e219 197) o0).trans ((congrFun (up2_ne (k := 197)) o0).trans (sC_197 (T := S) (o := o0) rfl))) ((congrFun (congrFun e219 198) o0).trans ((congrFun (up2_ne (k := 198)) o0).trans (sC_198 (T := S) (o := o0) rfl))) ((congrFun (congrFun e219 199) o0).trans ((congrFun (up2_ne (k := 199)) o0).trans (sC_199 (T := S) (o := o0) rfl))) (by rw [e219]; exact up2_self) ((congrFun (congrFun e219 201) o0).trans ((congrFun (up2_ne (k := 201)) o0).trans (sC_201 (T := S) (o := o0) rfl))) ((congrFun (congrFun e219 202) o0).trans ((congrFun (up2_ne (k := 202)) o0).trans (sC_202 (T := S) (o := o0) rfl))) ((congrFun (congrFun e219 203) o0).trans ((congrFun (up2_ne (k := 203)) o0).trans (sC_203 (T := S) (o := o0) rfl))) ((congrFun (congrFun e219 204) o0).trans ((congrFun (up2_ne (k := 204)) o0).trans (sC_204 (T := S) (o := o0) rfl))) ((congrFun (congrFun f220 205) o0).trans (sC_205 (T := S) (o := o0) rfl))) hF.symm, rfl, rfl⟩⟩)
  refine gt_by (c := x1 = 247) (fun q222 => ?_) (fun q222 => ?_)
  · skip
    refine gt_lseq (off := 255) (tgt := 256) 247 247 dX3_readOther_1 (by decide) q222 rfl rfl rfl ?_
    refine tt_aload_n (j := 0) dX3_readOther_256 rfl ?_
    refine gt_Vv (As := []) dX3_readOther_257 ca_X3_89 ⟨by decide, by decide⟩ h0 hA rfl (Nat.le_of_ble_eq_true rfl) (Nat.le_of_ble_eq_true rfl) (by decide) (ce_X3_readTestNotNeg hG (oa_af h0 hA) (bc_af hb h0 hA) (fun _ _ _ _ h => h)) rfl (fun _ h => nomatch h) (fun S223 hx227 hG224 hB225 hA226 => ?_)
    obtain ⟨d228, hd229⟩ : ∃ q, q = F_X3_readTestNotNeg bs n (StC S o0)  := ⟨_, rfl⟩
    have hq230 := (congrArg (fun q => F_X3_readTestNotNeg bs n q ) (stC_mk (sC_193 (T := S) (o := o0) rfl) (sC_194 (T := S) (o := o0) rfl) (sC_195 (T := S) (o := o0) rfl) (sC_196 (T := S) (o := o0) rfl) (sC_197 (T := S) (o := o0) rfl) (sC_198 (T := S) (o := o0) rfl) (sC_199 (T := S) (o := o0) rfl) (sC_200 (T := S) (o := o0) rfl) (sC_201 (T := S) (o := o0) rfl) (sC_202 (T := S) (o := o0) rfl) (sC_203 (T := S) (o := o0) rfl) (sC_204 (T := S) (o := o0) rfl) (sC_205 (T := S) (o := o0) rfl))).trans hd229.symm
    have hs231 := hx227.trans hq230
    refine tt_goto (tgt := 285) dX3_readOther_260 rfl ?_
    have hF : F_X3_readOther bs n (StC S o0) x1 = d228 := by
      subst hd229
      exact q_X3_readOther_13 q101 q111 q121 q131 q141 q151 q161 q168 q178 q185 q195 q205 q215 q222
    exact tt_vreturn dX3_readOther_285 rfl (hP _ _ _ _ ⟨hG224, hA226, Or.inl ⟨_, rfl, rfl, Eq.trans (stC_mk (sC_193 hs231) (sC_194 hs231) (sC_195 hs231) (sC_196 hs231) (sC_197 hs231) (sC_198 hs231) (sC_199 hs231) (sC_200 hs231) (sC_201 hs231) (sC_202 hs231) (sC_203 hs231) (sC_204 hs231) (sC_205 hs231)) hF.symm, rfl, rfl⟩⟩)
  refine gt_by (c := x1 = 255) (fun q232 => ?_) (fun q232 => ?_)
  · skip
    refine gt_lseq (off := 262) (tgt := 263) 255 255 dX3_readOther_1 (by decide) q232 rfl rfl rfl ?_
    refine tt_aload_n (j := 0) dX3_readOther_263 rfl ?_
    refine gt_Vv (As := []) dX3_readOther_264 ca_X3_92 ⟨by decide, by decide⟩ h0 hA rfl (Nat.le_of_ble_eq_true rfl) (Nat.le_of_ble_eq_true rfl) (by decide) (ce_X3_readIncDec hG (oa_af h0 hA) (bc_af hb h0 hA) (fun _ _ _ _ h => h)) rfl (fun _ h => nomatch h) (fun S233 hx237 hG234 hB235 hA236 => ?_)
    obtain ⟨d238, hd239⟩ : ∃ q, q = F_X3_readIncDec bs n (StC S o0)  := ⟨_, rfl⟩
    have hq240 := (congrArg (fun q => F_X3_readIncDec bs n q ) (stC_mk (sC_193 (T := S) (o := o0) rfl) (sC_194 (T := S) (o := o0) rfl) (sC_195 (T := S) (o := o0) rfl) (sC_196 (T := S) (o := o0) rfl) (sC_197 (T := S) (o := o0) rfl) (sC_198 (T := S) (o := o0) rfl) (sC_199 (T := S) (o := o0) rfl) (sC_200 (T := S) (o := o0) rfl) (sC_201 (T := S) (o := o0) rfl) (sC_202 (T := S) (o := o0) rfl) (sC_203 (T := S) (o := o0) rfl) (sC_204 (T := S) (o := o0) rfl) (sC_205 (T := S) (o := o0) rfl))).trans hd239.symm
    have hs241 := hx237.trans hq240
    refine tt_goto (tgt := 285) dX3_readOther_267 rfl ?_
    have hF : F_X3_readOther bs n (StC S o0) x1 = d238 := by
      subst hd239
      exact q_X3_readOther_14 q101 q111 q121 q131 q141 q151 q161 q168 q178 q185 q195 q205 q215 q222 q232
    exact tt_vreturn dX3_readOther_285 rfl (hP _ _ _ _ ⟨hG234, hA236, Or.inl ⟨_, rfl, rfl, Eq.trans (stC_mk (sC_193 hs241) (sC_194 hs241) (sC_195 hs241) (sC_196 hs241) (sC_197 hs241) (sC_198 hs241) (sC_199 hs241) (sC_200 hs241) (sC_201 hs241) (sC_202 hs241) (sC_203 hs241) (sC_204 hs241) (sC_205 hs241)) hF.symm, rfl, rfl⟩⟩)
  refine gt_by (c := x1 = 431) (fun q242 => ?_) (fun q242 => ?_)
  · skip
    refine gt_lseq (off := 269) (tgt := 270) 431 431 dX3_readOther_1 (by decide) q242 rfl rfl rfl ?_
    refine tt_aload_n (j := 0) dX3_readOther_270 rfl ?_
    refine tt_bipush (v := 17) dX3_readOther_271 rfl ?_
    refine tt_iconst (v := 0) dX3_readOther_273 rfl ?_
    refine gt_Vv (As := [.int 17, .int 0]) dX3_readOther_274 ca_X3_37 ⟨by decide, by decide⟩ h0 hA rfl (Nat.le_of_ble_eq_true rfl) (Nat.le_of_ble_eq_true rfl) (by decide) (ce_X3_readPair hG (oa_af h0 hA) (rg_w (⟨by decide, by decide⟩ : Rg 0 0 0)) (bc_af hb h0 hA) (fun _ _ _ _ h => h)) rfl (fun _ h => nomatch h) (fun S243 hx247 hG244 hB245 hA246 => ?_)
    obtain ⟨d248, hd249⟩ : ∃ q, q = F_X3_readPair bs n (StC S o0) (17) (0) := ⟨_, rfl⟩
    have hq250 := (congrArg (fun q => F_X3_readPair bs n q (17) (0)) (stC_mk (sC_193 (T := S) (o := o0) rfl) (sC_194 (T := S) (o := o0) rfl) (sC_195 (T := S) (o := o0) rfl) (sC_196 (T := S) (o := o0) rfl) (sC_197 (T := S) (o := o0) rfl) (sC_198 (T := S) (o := o0) rfl) (sC_199 (T := S) (o := o0) rfl) (sC_200 (T := S) (o := o0) rfl) (sC_201 (T := S) (o := o0) rfl) (sC_202 (T := S) (o := o0) rfl) (sC_203 (T := S) (o := o0) rfl) (sC_204 (T := S) (o := o0) rfl) (sC_205 (T := S) (o := o0) rfl))).trans hd249.symm
    have hs251 := hx247.trans hq250
    refine tt_goto (tgt := 285) dX3_readOther_277 rfl ?_
    have hF : F_X3_readOther bs n (StC S o0) x1 = d248 := by
      subst hd249
      exact q_X3_readOther_15 q101 q111 q121 q131 q141 q151 q161 q168 q178 q185 q195 q205 q215 q222 q232 q242
    exact tt_vreturn dX3_readOther_285 rfl (hP _ _ _ _ ⟨hG244, hA246, Or.inl ⟨_, rfl, rfl, Eq.trans (stC_mk (sC_193 hs251) (sC_194 hs251) (sC_195 hs251) (sC_196 hs251) (sC_197 hs251) (sC_198 hs251) (sC_199 hs251) (sC_200 hs251) (sC_201 hs251) (sC_202 hs251) (sC_203 hs251) (sC_204 hs251) (sC_205 hs251)) hF.symm, rfl, rfl⟩⟩)
  refine tt_lookup (off := 279) (tgt := 280) dX3_readOther_1 (by decide) (of_ne (ne_i 99 q101 rfl) (of_ne (ne_i 129 q111 rfl) (of_ne (ne_i 131 q121 rfl) (of_ne (ne_i 133 q131 rfl) (of_ne (ne_i 137 q141 rfl) (of_ne (ne_i 139 q151 rfl) (of_ne (ne_i 144 q161 rfl) (of_ne (ne_i 193 q168 rfl) (of_ne (ne_i 195 q178 rfl) (of_ne (ne_i 199 q185 rfl) (of_ne (ne_i 233 q195 rfl) (of_ne (ne_i 235 q205 rfl) (of_ne (ne_i 244 q215 rfl) (of_ne (ne_i 247 q222 rfl) (of_ne (ne_i 255 q232 rfl) (of_ne (ne_i 431 q242 rfl) rfl)))))))))))))))) rfl ?_
  refine tt_aload_n (j := 0) dX3_readOther_280 rfl ?_
  refine tt_iconst (v := 0) dX3_readOther_281 rfl ?_
  refine gt_pI (id := 195) (x := 0) dX3_readOther_282 fl_3_22 rfl rfl h0 hA rfl rfl rfl (gp_Ir hG (⟨by decide, by decide⟩ : Rg 0 0 0)) (by decide) (fun h => absurd h (by decide)) (fun h => absurd h (by decide)) (fun S252 hG253 hA254 e255 f256 er257 => ?_)
  have hF : F_X3_readOther bs n (StC S o0) x1 = ((e0 (StC S o0)), (e1 (StC S o0)), 0, (e3 (StC S o0)), (e4 (StC S o0)), (e5 (StC S o0)), (e6 (StC S o0)), (e7 (StC S o0)), (e8 (StC S o0)), (e9 (StC S o0)), (e10 (StC S o0)), (e11 (StC S o0)), (eJ (StC S o0))) := by
    exact q_X3_readOther_16 q101 q111 q121 q131 q141 q151 q161 q168 q178 q185 q195 q205 q215 q222 q232 q242
  exact tt_vreturn dX3_readOther_285 rfl (hP _ _ _ _ ⟨hG253, hA254, Or.inl ⟨_, rfl, rfl, Eq.trans (stC_mk ((congrFun (congrFun e255 193) o0).trans ((congrFun (up2_ne (k := 193)) o0).trans (sC_193 (T := S) (o := o0) rfl))) ((congrFun (congrFun e255 194) o0).trans ((congrFun (up2_ne (k := 194)) o0).trans (sC_194 (T := S) (o := o0) rfl))) (by rw [e255]; exact up2_self) ((congrFun (congrFun e255 196) o0).trans ((congrFun (up2_ne (k := 196)) o0).trans (sC_196 (T := S) (o := o0) rfl))) ((congrFun (congrFun e255 197) o0).trans ((congrFun (up2_ne (k := 197)) o0).trans (sC_197 (T := S) (o := o0) rfl))) ((congrFun (congrFun e255 198) o0).trans ((congrFun (up2_ne (k := 198)) o0).trans (sC_198 (T := S) (o := o0) rfl))) ((congrFun (congrFun e255 199) o0).trans ((congrFun (up2_ne (k := 199)) o0).trans (sC_199 (T := S) (o := o0) rfl))) ((congrFun (congrFun e255 200) o0).trans ((congrFun (up2_ne (k := 200)) o0).trans (sC_200 (T := S) (o := o0) rfl))) ((congrFun (congrFun e255 201) o0).trans ((congrFun (up2_ne (k := 201)) o0).trans (sC_201 (T := S) (o := o0) rfl))) ((congrFun (congrFun e255 202) o0).trans ((congrFun (up2_ne (k := 202)) o0).trans (sC_202 (T := S) (o := o0) rfl))) ((congrFun (congrFun e255 203) o0).trans ((congrFun (up2_ne (k := 203)) o0).trans (sC_203 (T := S) (o := o0) rfl))) ((congrFun (congrFun e255 204) o0).trans ((congrFun (up2_ne (k := 204)) o0).trans (sC_204 (T := S) (o := o0) rfl))) ((congrFun (congrFun f256 205) o0).trans (sC_205 (T := S) (o := o0) rfl))) hF.symm, rfl, rfl⟩⟩)
