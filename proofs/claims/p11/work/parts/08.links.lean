theorem tk_1 {w : Cond} (h : w ∈ tables_1_1) : w ∈ lw_tbl := List.mem_append_right _ (List.mem_append_left _ h)
theorem tk_2 {w : Cond} (h : w ∈ tables_1_2) : w ∈ lw_tbl := List.mem_append_right _ (List.mem_append_right _ (List.mem_append_left _ h))
theorem tk_3 {w : Cond} (h : w ∈ tables_1_3) : w ∈ lw_tbl := List.mem_append_right _ (List.mem_append_right _ (List.mem_append_right _ (List.mem_append_left _ h)))
theorem tk_4 {w : Cond} (h : w ∈ tables_1_4) : w ∈ lw_tbl := List.mem_append_right _ (List.mem_append_right _ (List.mem_append_right _ (List.mem_append_right _ (List.mem_append_left _ h))))
theorem tk_5 {w : Cond} (h : w ∈ tables_1_5) : w ∈ lw_tbl := List.mem_append_right _ (List.mem_append_right _ (List.mem_append_right _ (List.mem_append_right _ (List.mem_append_right _ (List.mem_append_left _ h)))))
theorem tk_6 {w : Cond} (h : w ∈ tables_1_6) : w ∈ lw_tbl := List.mem_append_right _ (List.mem_append_right _ (List.mem_append_right _ (List.mem_append_right _ (List.mem_append_right _ (List.mem_append_right _ h)))))
theorem pk_1 {q : MethodName × Nat} (h : q ∈ lw_privs_1) : q ∈ lw_privs := (List.mem_append_left _ h)
theorem pk_2 {q : MethodName × Nat} (h : q ∈ lw_privs_2) : q ∈ lw_privs := (List.mem_append_right _ (List.mem_append_left _ h))
theorem pk_3 {q : MethodName × Nat} (h : q ∈ lw_privs_3) : q ∈ lw_privs := (List.mem_append_right _ (List.mem_append_right _ (List.mem_append_left _ h)))
theorem pk_4 {q : MethodName × Nat} (h : q ∈ lw_privs_4) : q ∈ lw_privs := (List.mem_append_right _ (List.mem_append_right _ (List.mem_append_right _ (List.mem_append_left _ h))))
theorem pk_5 {q : MethodName × Nat} (h : q ∈ lw_privs_5) : q ∈ lw_privs := (List.mem_append_right _ (List.mem_append_right _ (List.mem_append_right _ (List.mem_append_right _ (List.mem_append_left _ h)))))
theorem pk_6 {q : MethodName × Nat} (h : q ∈ lw_privs_6) : q ∈ lw_privs := (List.mem_append_right _ (List.mem_append_right _ (List.mem_append_right _ (List.mem_append_right _ (List.mem_append_right _ (List.mem_append_left _ h))))))
theorem pk_7 {q : MethodName × Nat} (h : q ∈ lw_privs_7) : q ∈ lw_privs := (List.mem_append_right _ (List.mem_append_right _ (List.mem_append_right _ (List.mem_append_right _ (List.mem_append_right _ (List.mem_append_right _ h))))))
theorem ui_0 : ∀ w ∈ u_ws RX0 TX0 2, w ∈ lw_tbl := by decide +kernel
theorem uw_0 : ∀ w ∈ u_ws RX0 TX0 2, w ∈ wT := fun w h => wT_in (ui_0 w h) ((show ∀ w ∈ u_ws RX0 TX0 2, goodWord w = true by decide +kernel) w h)
theorem ui_1 : ∀ w ∈ u_ws RX1 TX1 2, w ∈ lw_tbl := by decide +kernel
theorem uw_1 : ∀ w ∈ u_ws RX1 TX1 2, w ∈ wT := fun w h => wT_in (ui_1 w h) ((show ∀ w ∈ u_ws RX1 TX1 2, goodWord w = true by decide +kernel) w h)
theorem ui_2 : ∀ w ∈ u_ws RX2 TX2 3, w ∈ lw_tbl := by decide +kernel
theorem uw_2 : ∀ w ∈ u_ws RX2 TX2 3, w ∈ wT := fun w h => wT_in (ui_2 w h) ((show ∀ w ∈ u_ws RX2 TX2 3, goodWord w = true by decide +kernel) w h)
theorem ui_3 : ∀ w ∈ u_ws RX3 TX3 14, w ∈ lw_tbl := by decide +kernel
theorem uw_3 : ∀ w ∈ u_ws RX3 TX3 14, w ∈ wT := fun w h => wT_in (ui_3 w h) ((show ∀ w ∈ u_ws RX3 TX3 14, goodWord w = true by decide +kernel) w h)
theorem ui_4 : ∀ w ∈ u_ws RX4 TX4 9, w ∈ lw_tbl := by decide +kernel
theorem uw_4 : ∀ w ∈ u_ws RX4 TX4 9, w ∈ wT := fun w h => wT_in (ui_4 w h) ((show ∀ w ∈ u_ws RX4 TX4 9, goodWord w = true by decide +kernel) w h)
theorem ui_5 : ∀ w ∈ u_ws RX5 TX5 3, w ∈ lw_tbl := by decide +kernel
theorem uw_5 : ∀ w ∈ u_ws RX5 TX5 3, w ∈ wT := fun w h => wT_in (ui_5 w h) ((show ∀ w ∈ u_ws RX5 TX5 3, goodWord w = true by decide +kernel) w h)
theorem ui_6 : ∀ w ∈ u_ws RX6 TX6 10, w ∈ lw_tbl := by decide +kernel
theorem uw_6 : ∀ w ∈ u_ws RX6 TX6 10, w ∈ wT := fun w h => wT_in (ui_6 w h) ((show ∀ w ∈ u_ws RX6 TX6 10, goodWord w = true by decide +kernel) w h)
theorem ui_7 : ∀ w ∈ u_ws RX7 TX7 3, w ∈ lw_tbl := by decide +kernel
theorem uw_7 : ∀ w ∈ u_ws RX7 TX7 3, w ∈ wT := fun w h => wT_in (ui_7 w h) ((show ∀ w ∈ u_ws RX7 TX7 3, goodWord w = true by decide +kernel) w h)
theorem ui_8 : ∀ w ∈ u_ws RX8 TX8 7, w ∈ lw_tbl := by decide +kernel
theorem uw_8 : ∀ w ∈ u_ws RX8 TX8 7, w ∈ wT := fun w h => wT_in (ui_8 w h) ((show ∀ w ∈ u_ws RX8 TX8 7, goodWord w = true by decide +kernel) w h)
theorem ui_9 : ∀ w ∈ u_ws RX9 TX9 5, w ∈ lw_tbl := by decide +kernel
theorem uw_9 : ∀ w ∈ u_ws RX9 TX9 5, w ∈ wT := fun w h => wT_in (ui_9 w h) ((show ∀ w ∈ u_ws RX9 TX9 5, goodWord w = true by decide +kernel) w h)
theorem ui_10 : ∀ w ∈ u_ws RX10 TX10 37, w ∈ lw_tbl := by decide +kernel
theorem uw_10 : ∀ w ∈ u_ws RX10 TX10 37, w ∈ wT := fun w h => wT_in (ui_10 w h) ((show ∀ w ∈ u_ws RX10 TX10 37, goodWord w = true by decide +kernel) w h)
theorem wd_35 : Cond.fieldLink "StrideWatch$Code" 9 "StrideWatch$Code" "bytes" "[I" ∈ wT := wT_in (tk_1 (List.mem_of_getElem? (i := 35) rfl)) rfl
theorem fl_1_9 : FL "StrideWatch$Code" 9 1 0 (.array .int) true false := ⟨RX1, TX1, 2, tyX1, rfl, by decide, rfl, rfl, uw_1, tyX1_ok, nmX1, by decide +kernel, rfl, (fun _ => ⟨rfl, wd_35⟩), (fun h => nomatch h)⟩
theorem wd_37 : Cond.fieldLink "StrideWatch$Code" 15 "StrideWatch$Code" "count" "I" ∈ wT := wT_in (tk_1 (List.mem_of_getElem? (i := 37) rfl)) rfl
theorem fl_1_15 : FL "StrideWatch$Code" 15 1 1 .int false false := ⟨RX1, TX1, 2, tyX1, rfl, by decide, rfl, rfl, uw_1, tyX1_ok, nmX1, by decide +kernel, rfl, (fun _ => ⟨rfl, wd_37⟩), (fun h => nomatch h)⟩
theorem wd_53 : Cond.fieldLink "StrideWatch$Instruction" 9 "StrideWatch$Instruction" "code" "LStrideWatch$Code;" ∈ wT := wT_in (tk_1 (List.mem_of_getElem? (i := 53) rfl)) rfl
theorem fl_3_9 : FL "StrideWatch$Instruction" 9 3 0 (.object "StrideWatch$Code") true false := ⟨RX3, TX3, 14, tyX3, rfl, by decide, rfl, rfl, uw_3, tyX3_ok, nmX3, by decide +kernel, rfl, (fun _ => ⟨rfl, wd_53⟩), (fun h => nomatch h)⟩
theorem wd_54 : Cond.fieldLink "StrideWatch$Instruction" 15 "StrideWatch$Instruction" "cursor" "I" ∈ wT := wT_in (tk_1 (List.mem_of_getElem? (i := 54) rfl)) rfl
theorem fl_3_15 : FL "StrideWatch$Instruction" 15 3 1 .int false false := ⟨RX3, TX3, 14, tyX3, rfl, by decide, rfl, rfl, uw_3, tyX3_ok, nmX3, by decide +kernel, rfl, (fun _ => ⟨rfl, wd_54⟩), (fun h => nomatch h)⟩
theorem wd_55 : Cond.fieldLink "StrideWatch$Instruction" 19 "StrideWatch$Instruction" "rex" "I" ∈ wT := wT_in (tk_1 (List.mem_of_getElem? (i := 55) rfl)) rfl
theorem fl_3_19 : FL "StrideWatch$Instruction" 19 3 2 .int false false := ⟨RX3, TX3, 14, tyX3, rfl, by decide, rfl, rfl, uw_3, tyX3_ok, nmX3, by decide +kernel, rfl, (fun _ => ⟨rfl, wd_55⟩), (fun h => nomatch h)⟩
theorem wd_56 : Cond.fieldLink "StrideWatch$Instruction" 22 "StrideWatch$Instruction" "sound" "Z" ∈ wT := wT_in (tk_1 (List.mem_of_getElem? (i := 56) rfl)) rfl
theorem fl_3_22 : FL "StrideWatch$Instruction" 22 3 3 .boolean false false := ⟨RX3, TX3, 14, tyX3, rfl, by decide, rfl, rfl, uw_3, tyX3_ok, nmX3, by decide +kernel, rfl, (fun _ => ⟨rfl, wd_56⟩), (fun h => nomatch h)⟩
theorem wd_57 : Cond.fieldLink "StrideWatch$Instruction" 101 "StrideWatch$Instruction" "register" "I" ∈ wT := wT_in (tk_1 (List.mem_of_getElem? (i := 57) rfl)) rfl
theorem fl_3_101 : FL "StrideWatch$Instruction" 101 3 4 .int false false := ⟨RX3, TX3, 14, tyX3, rfl, by decide, rfl, rfl, uw_3, tyX3_ok, nmX3, by decide +kernel, rfl, (fun _ => ⟨rfl, wd_57⟩), (fun h => nomatch h)⟩
theorem wd_58 : Cond.fieldLink "StrideWatch$Instruction" 104 "StrideWatch$Instruction" "extension" "I" ∈ wT := wT_in (tk_1 (List.mem_of_getElem? (i := 58) rfl)) rfl
theorem fl_3_104 : FL "StrideWatch$Instruction" 104 3 5 .int false false := ⟨RX3, TX3, 14, tyX3, rfl, by decide, rfl, rfl, uw_3, tyX3_ok, nmX3, by decide +kernel, rfl, (fun _ => ⟨rfl, wd_58⟩), (fun h => nomatch h)⟩
theorem wd_59 : Cond.fieldLink "StrideWatch$Instruction" 98 "StrideWatch$Instruction" "place" "I" ∈ wT := wT_in (tk_1 (List.mem_of_getElem? (i := 59) rfl)) rfl
theorem fl_3_98 : FL "StrideWatch$Instruction" 98 3 6 .int false false := ⟨RX3, TX3, 14, tyX3, rfl, by decide, rfl, rfl, uw_3, tyX3_ok, nmX3, by decide +kernel, rfl, (fun _ => ⟨rfl, wd_59⟩), (fun h => nomatch h)⟩
theorem wd_60 : Cond.fieldLink "StrideWatch$Instruction" 51 "StrideWatch$Instruction" "length" "I" ∈ wT := wT_in (tk_1 (List.mem_of_getElem? (i := 60) rfl)) rfl
theorem fl_3_51 : FL "StrideWatch$Instruction" 51 3 7 .int false false := ⟨RX3, TX3, 14, tyX3, rfl, by decide, rfl, rfl, uw_3, tyX3_ok, nmX3, by decide +kernel, rfl, (fun _ => ⟨rfl, wd_60⟩), (fun h => nomatch h)⟩
theorem wd_64 : Cond.fieldLink "StrideWatch$Instruction" 54 "StrideWatch$Instruction" "operation" "I" ∈ wT := wT_in (tk_1 (List.mem_of_getElem? (i := 64) rfl)) rfl
theorem fl_3_54 : FL "StrideWatch$Instruction" 54 3 8 .int false false := ⟨RX3, TX3, 14, tyX3, rfl, by decide, rfl, rfl, uw_3, tyX3_ok, nmX3, by decide +kernel, rfl, (fun _ => ⟨rfl, wd_64⟩), (fun h => nomatch h)⟩
theorem wd_67 : Cond.fieldLink "StrideWatch$Instruction" 34 "StrideWatch$Instruction" "width" "I" ∈ wT := wT_in (tk_1 (List.mem_of_getElem? (i := 67) rfl)) rfl
theorem fl_3_34 : FL "StrideWatch$Instruction" 34 3 9 .int false false := ⟨RX3, TX3, 14, tyX3, rfl, by decide, rfl, rfl, uw_3, tyX3_ok, nmX3, by decide +kernel, rfl, (fun _ => ⟨rfl, wd_67⟩), (fun h => nomatch h)⟩
theorem wd_71 : Cond.fieldLink "StrideWatch$Instruction" 64 "StrideWatch$Instruction" "target" "I" ∈ wT := wT_in (tk_1 (List.mem_of_getElem? (i := 71) rfl)) rfl
theorem fl_3_64 : FL "StrideWatch$Instruction" 64 3 10 .int false false := ⟨RX3, TX3, 14, tyX3, rfl, by decide, rfl, rfl, uw_3, tyX3_ok, nmX3, by decide +kernel, rfl, (fun _ => ⟨rfl, wd_71⟩), (fun h => nomatch h)⟩
theorem wd_74 : Cond.fieldLink "StrideWatch$Instruction" 67 "StrideWatch$Instruction" "source" "I" ∈ wT := wT_in (tk_1 (List.mem_of_getElem? (i := 74) rfl)) rfl
theorem fl_3_67 : FL "StrideWatch$Instruction" 67 3 11 .int false false := ⟨RX3, TX3, 14, tyX3, rfl, by decide, rfl, rfl, uw_3, tyX3_ok, nmX3, by decide +kernel, rfl, (fun _ => ⟨rfl, wd_74⟩), (fun h => nomatch h)⟩
theorem wd_76 : Cond.fieldLink "StrideWatch$Instruction" 70 "StrideWatch$Instruction" "detail" "I" ∈ wT := wT_in (tk_1 (List.mem_of_getElem? (i := 76) rfl)) rfl
theorem fl_3_70 : FL "StrideWatch$Instruction" 70 3 12 .int false false := ⟨RX3, TX3, 14, tyX3, rfl, by decide, rfl, rfl, uw_3, tyX3_ok, nmX3, by decide +kernel, rfl, (fun _ => ⟨rfl, wd_76⟩), (fun h => nomatch h)⟩
theorem wd_81 : Cond.fieldLink "StrideWatch$Instruction" 73 "StrideWatch$Instruction" "number" "J" ∈ wT := wT_in (tk_1 (List.mem_of_getElem? (i := 81) rfl)) rfl
theorem fl_3_73 : FL "StrideWatch$Instruction" 73 3 13 .long false false := ⟨RX3, TX3, 14, tyX3, rfl, by decide, rfl, rfl, uw_3, tyX3_ok, nmX3, by decide +kernel, rfl, (fun _ => ⟨rfl, wd_81⟩), (fun h => nomatch h)⟩
theorem wd_121 : Cond.fieldLink "StrideWatch$State" 9 "StrideWatch$State" "lows" "[J" ∈ wT := wT_in (tk_1 (List.mem_of_getElem? (i := 121) rfl)) rfl
theorem fl_8_9 : FL "StrideWatch$State" 9 8 0 (.array .long) true false := ⟨RX8, TX8, 7, tyX8, rfl, by decide, rfl, rfl, uw_8, tyX8_ok, nmX8, by decide +kernel, rfl, (fun _ => ⟨rfl, wd_121⟩), (fun h => nomatch h)⟩
theorem wd_122 : Cond.fieldLink "StrideWatch$State" 15 "StrideWatch$State" "highs" "[J" ∈ wT := wT_in (tk_1 (List.mem_of_getElem? (i := 122) rfl)) rfl
theorem fl_8_15 : FL "StrideWatch$State" 15 8 1 (.array .long) true false := ⟨RX8, TX8, 7, tyX8, rfl, by decide, rfl, rfl, uw_8, tyX8_ok, nmX8, by decide +kernel, rfl, (fun _ => ⟨rfl, wd_122⟩), (fun h => nomatch h)⟩
theorem wd_123 : Cond.fieldLink "StrideWatch$State" 18 "StrideWatch$State" "steps" "[J" ∈ wT := wT_in (tk_1 (List.mem_of_getElem? (i := 123) rfl)) rfl
theorem fl_8_18 : FL "StrideWatch$State" 18 8 2 (.array .long) true false := ⟨RX8, TX8, 7, tyX8, rfl, by decide, rfl, rfl, uw_8, tyX8_ok, nmX8, by decide +kernel, rfl, (fun _ => ⟨rfl, wd_123⟩), (fun h => nomatch h)⟩
theorem wd_124 : Cond.fieldLink "StrideWatch$State" 21 "StrideWatch$State" "record" "I" ∈ wT := wT_in (tk_1 (List.mem_of_getElem? (i := 124) rfl)) rfl
theorem fl_8_21 : FL "StrideWatch$State" 21 8 3 .int false false := ⟨RX8, TX8, 7, tyX8, rfl, by decide, rfl, rfl, uw_8, tyX8_ok, nmX8, by decide +kernel, rfl, (fun _ => ⟨rfl, wd_124⟩), (fun h => nomatch h)⟩
theorem wd_127 : Cond.fieldLink "StrideWatch$State" 25 "StrideWatch$State" "x" "I" ∈ wT := wT_in (tk_1 (List.mem_of_getElem? (i := 127) rfl)) rfl
theorem fl_8_25 : FL "StrideWatch$State" 25 8 4 .int false false := ⟨RX8, TX8, 7, tyX8, rfl, by decide, rfl, rfl, uw_8, tyX8_ok, nmX8, by decide +kernel, rfl, (fun _ => ⟨rfl, wd_127⟩), (fun h => nomatch h)⟩
theorem wd_130 : Cond.fieldLink "StrideWatch$State" 28 "StrideWatch$State" "y" "I" ∈ wT := wT_in (tk_1 (List.mem_of_getElem? (i := 130) rfl)) rfl
theorem fl_8_28 : FL "StrideWatch$State" 28 8 5 .int false false := ⟨RX8, TX8, 7, tyX8, rfl, by decide, rfl, rfl, uw_8, tyX8_ok, nmX8, by decide +kernel, rfl, (fun _ => ⟨rfl, wd_130⟩), (fun h => nomatch h)⟩
theorem wd_134 : Cond.fieldLink "StrideWatch$State" 62 "StrideWatch$State" "number" "J" ∈ wT := wT_in (tk_1 (List.mem_of_getElem? (i := 134) rfl)) rfl
theorem fl_8_62 : FL "StrideWatch$State" 62 8 6 .long false false := ⟨RX8, TX8, 7, tyX8, rfl, by decide, rfl, rfl, uw_8, tyX8_ok, nmX8, by decide +kernel, rfl, (fun _ => ⟨rfl, wd_134⟩), (fun h => nomatch h)⟩
theorem wd_175 : Cond.fieldLink "StrideWatch$Span" 23 "StrideWatch$Span" "low" "J" ∈ wT := wT_in (tk_1 (List.mem_of_getElem? (i := 175) rfl)) rfl
theorem fl_7_23 : FL "StrideWatch$Span" 23 7 0 .long false false := ⟨RX7, TX7, 3, tyX7, rfl, by decide, rfl, rfl, uw_7, tyX7_ok, nmX7, by decide +kernel, rfl, (fun _ => ⟨rfl, wd_175⟩), (fun h => nomatch h)⟩
theorem wd_180 : Cond.fieldLink "StrideWatch$Span" 26 "StrideWatch$Span" "high" "J" ∈ wT := wT_in (tk_1 (List.mem_of_getElem? (i := 180) rfl)) rfl
theorem fl_7_26 : FL "StrideWatch$Span" 26 7 1 .long false false := ⟨RX7, TX7, 3, tyX7, rfl, by decide, rfl, rfl, uw_7, tyX7_ok, nmX7, by decide +kernel, rfl, (fun _ => ⟨rfl, wd_180⟩), (fun h => nomatch h)⟩
theorem wd_183 : Cond.fieldLink "StrideWatch$Span" 15 "StrideWatch$Span" "step" "J" ∈ wT := wT_in (tk_1 (List.mem_of_getElem? (i := 183) rfl)) rfl
theorem fl_7_15 : FL "StrideWatch$Span" 15 7 2 .long false false := ⟨RX7, TX7, 3, tyX7, rfl, by decide, rfl, rfl, uw_7, tyX7_ok, nmX7, by decide +kernel, rfl, (fun _ => ⟨rfl, wd_183⟩), (fun h => nomatch h)⟩
theorem wd_194 : Cond.fieldLink "StrideWatch$Effect" 12 "StrideWatch$Effect" "first" "LStrideWatch$Span;" ∈ wT := wT_in (tk_1 (List.mem_of_getElem? (i := 194) rfl)) rfl
theorem fl_2_12 : FL "StrideWatch$Effect" 12 2 0 (.object "StrideWatch$Span") true false := ⟨RX2, TX2, 3, tyX2, rfl, by decide, rfl, rfl, uw_2, tyX2_ok, nmX2, by decide +kernel, rfl, (fun _ => ⟨rfl, wd_194⟩), (fun h => nomatch h)⟩
theorem wd_195 : Cond.fieldLink "StrideWatch$Effect" 18 "StrideWatch$Effect" "second" "LStrideWatch$Span;" ∈ wT := wT_in (tk_1 (List.mem_of_getElem? (i := 195) rfl)) rfl
theorem fl_2_18 : FL "StrideWatch$Effect" 18 2 1 (.object "StrideWatch$Span") true false := ⟨RX2, TX2, 3, tyX2, rfl, by decide, rfl, rfl, uw_2, tyX2_ok, nmX2, by decide +kernel, rfl, (fun _ => ⟨rfl, wd_195⟩), (fun h => nomatch h)⟩
theorem wd_196 : Cond.fieldLink "StrideWatch$Effect" 21 "StrideWatch$Effect" "result" "LStrideWatch$Span;" ∈ wT := wT_in (tk_1 (List.mem_of_getElem? (i := 196) rfl)) rfl
theorem fl_2_21 : FL "StrideWatch$Effect" 21 2 2 (.object "StrideWatch$Span") true false := ⟨RX2, TX2, 3, tyX2, rfl, by decide, rfl, rfl, uw_2, tyX2_ok, nmX2, by decide +kernel, rfl, (fun _ => ⟨rfl, wd_196⟩), (fun h => nomatch h)⟩
theorem wd_212 : Cond.fieldLink "StrideWatch$Branch" 14 "StrideWatch$Branch" "x" "LStrideWatch$Span;" ∈ wT := wT_in (tk_1 (List.mem_of_getElem? (i := 212) rfl)) rfl
theorem fl_0_14 : FL "StrideWatch$Branch" 14 0 0 (.object "StrideWatch$Span") true false := ⟨RX0, TX0, 2, tyX0, rfl, by decide, rfl, rfl, uw_0, tyX0_ok, nmX0, by decide +kernel, rfl, (fun _ => ⟨rfl, wd_212⟩), (fun h => nomatch h)⟩
theorem wd_213 : Cond.fieldLink "StrideWatch$Branch" 18 "StrideWatch$Branch" "y" "LStrideWatch$Span;" ∈ wT := wT_in (tk_1 (List.mem_of_getElem? (i := 213) rfl)) rfl
theorem fl_0_18 : FL "StrideWatch$Branch" 18 0 1 (.object "StrideWatch$Span") true false := ⟨RX0, TX0, 2, tyX0, rfl, by decide, rfl, rfl, uw_0, tyX0_ok, nmX0, by decide +kernel, rfl, (fun _ => ⟨rfl, wd_213⟩), (fun h => nomatch h)⟩
theorem wd_221 : Cond.fieldLink "StrideWatch$Looking" 51 "StrideWatch$Looking" "code" "LStrideWatch$Code;" ∈ wT := wT_in (tk_1 (List.mem_of_getElem? (i := 221) rfl)) rfl
theorem fl_4_51 : FL "StrideWatch$Looking" 51 4 0 (.object "StrideWatch$Code") true false := ⟨RX4, TX4, 9, tyX4, rfl, by decide, rfl, rfl, uw_4, tyX4_ok, nmX4, by decide +kernel, rfl, (fun _ => ⟨rfl, wd_221⟩), (fun h => nomatch h)⟩
theorem wd_222 : Cond.fieldLink "StrideWatch$Looking" 55 "StrideWatch$Looking" "instruction" "LStrideWatch$Instruction;" ∈ wT := wT_in (tk_1 (List.mem_of_getElem? (i := 222) rfl)) rfl
theorem fl_4_55 : FL "StrideWatch$Looking" 55 4 1 (.object "StrideWatch$Instruction") true false := ⟨RX4, TX4, 9, tyX4, rfl, by decide, rfl, rfl, uw_4, tyX4_ok, nmX4, by decide +kernel, rfl, (fun _ => ⟨rfl, wd_222⟩), (fun h => nomatch h)⟩
theorem wd_223 : Cond.fieldLink "StrideWatch$Looking" 11 "StrideWatch$Looking" "points" "[LStrideWatch$Point;" ∈ wT := wT_in (tk_1 (List.mem_of_getElem? (i := 223) rfl)) rfl
theorem fl_4_11 : FL "StrideWatch$Looking" 11 4 2 (.array (.object "StrideWatch$Point")) true false := ⟨RX4, TX4, 9, tyX4, rfl, by decide, rfl, rfl, uw_4, tyX4_ok, nmX4, by decide +kernel, rfl, (fun _ => ⟨rfl, wd_223⟩), (fun h => nomatch h)⟩
theorem wd_224 : Cond.fieldLink "StrideWatch$Looking" 20 "StrideWatch$Looking" "work" "LStrideWatch$State;" ∈ wT := wT_in (tk_1 (List.mem_of_getElem? (i := 224) rfl)) rfl
theorem fl_4_20 : FL "StrideWatch$Looking" 20 4 3 (.object "StrideWatch$State") true false := ⟨RX4, TX4, 9, tyX4, rfl, by decide, rfl, rfl, uw_4, tyX4_ok, nmX4, by decide +kernel, rfl, (fun _ => ⟨rfl, wd_224⟩), (fun h => nomatch h)⟩
theorem wd_225 : Cond.fieldLink "StrideWatch$Looking" 27 "StrideWatch$Looking" "effect" "LStrideWatch$Effect;" ∈ wT := wT_in (tk_1 (List.mem_of_getElem? (i := 225) rfl)) rfl
theorem fl_4_27 : FL "StrideWatch$Looking" 27 4 4 (.object "StrideWatch$Effect") true false := ⟨RX4, TX4, 9, tyX4, rfl, by decide, rfl, rfl, uw_4, tyX4_ok, nmX4, by decide +kernel, rfl, (fun _ => ⟨rfl, wd_225⟩), (fun h => nomatch h)⟩
theorem wd_226 : Cond.fieldLink "StrideWatch$Looking" 34 "StrideWatch$Looking" "branch" "LStrideWatch$Branch;" ∈ wT := wT_in (tk_1 (List.mem_of_getElem? (i := 226) rfl)) rfl
theorem fl_4_34 : FL "StrideWatch$Looking" 34 4 5 (.object "StrideWatch$Branch") true false := ⟨RX4, TX4, 9, tyX4, rfl, by decide, rfl, rfl, uw_4, tyX4_ok, nmX4, by decide +kernel, rfl, (fun _ => ⟨rfl, wd_226⟩), (fun h => nomatch h)⟩
theorem wd_227 : Cond.fieldLink "StrideWatch$Looking" 41 "StrideWatch$Looking" "before" "LStrideWatch$Span;" ∈ wT := wT_in (tk_1 (List.mem_of_getElem? (i := 227) rfl)) rfl
theorem fl_4_41 : FL "StrideWatch$Looking" 41 4 6 (.object "StrideWatch$Span") true false := ⟨RX4, TX4, 9, tyX4, rfl, by decide, rfl, rfl, uw_4, tyX4_ok, nmX4, by decide +kernel, rfl, (fun _ => ⟨rfl, wd_227⟩), (fun h => nomatch h)⟩
theorem wd_228 : Cond.fieldLink "StrideWatch$Looking" 45 "StrideWatch$Looking" "arriving" "LStrideWatch$Span;" ∈ wT := wT_in (tk_1 (List.mem_of_getElem? (i := 228) rfl)) rfl
theorem fl_4_45 : FL "StrideWatch$Looking" 45 4 7 (.object "StrideWatch$Span") true false := ⟨RX4, TX4, 9, tyX4, rfl, by decide, rfl, rfl, uw_4, tyX4_ok, nmX4, by decide +kernel, rfl, (fun _ => ⟨rfl, wd_228⟩), (fun h => nomatch h)⟩
theorem wd_229 : Cond.fieldLink "StrideWatch$Looking" 48 "StrideWatch$Looking" "joined" "LStrideWatch$Span;" ∈ wT := wT_in (tk_1 (List.mem_of_getElem? (i := 229) rfl)) rfl
theorem fl_4_48 : FL "StrideWatch$Looking" 48 4 8 (.object "StrideWatch$Span") true false := ⟨RX4, TX4, 9, tyX4, rfl, by decide, rfl, rfl, uw_4, tyX4_ok, nmX4, by decide +kernel, rfl, (fun _ => ⟨rfl, wd_229⟩), (fun h => nomatch h)⟩
theorem wd_255 : Cond.fieldLink "StrideWatch$Run" 22 "StrideWatch$Run" "code" "LStrideWatch$Code;" ∈ wT := wT_in (tk_2 (List.mem_of_getElem? (i := 15) rfl)) rfl
theorem fl_6_22 : FL "StrideWatch$Run" 22 6 0 (.object "StrideWatch$Code") true false := ⟨RX6, TX6, 10, tyX6, rfl, by decide, rfl, rfl, uw_6, tyX6_ok, nmX6, by decide +kernel, rfl, (fun _ => ⟨rfl, wd_255⟩), (fun h => nomatch h)⟩
theorem wd_256 : Cond.fieldLink "StrideWatch$Run" 26 "StrideWatch$Run" "instruction" "LStrideWatch$Instruction;" ∈ wT := wT_in (tk_2 (List.mem_of_getElem? (i := 16) rfl)) rfl
theorem fl_6_26 : FL "StrideWatch$Run" 26 6 1 (.object "StrideWatch$Instruction") true false := ⟨RX6, TX6, 10, tyX6, rfl, by decide, rfl, rfl, uw_6, tyX6_ok, nmX6, by decide +kernel, rfl, (fun _ => ⟨rfl, wd_256⟩), (fun h => nomatch h)⟩
theorem wd_257 : Cond.fieldLink "StrideWatch$Run" 9 "StrideWatch$Run" "prepared" "[J" ∈ wT := wT_in (tk_2 (List.mem_of_getElem? (i := 17) rfl)) rfl
theorem fl_6_9 : FL "StrideWatch$Run" 9 6 2 (.array .long) true false := ⟨RX6, TX6, 10, tyX6, rfl, by decide, rfl, rfl, uw_6, tyX6_ok, nmX6, by decide +kernel, rfl, (fun _ => ⟨rfl, wd_257⟩), (fun h => nomatch h)⟩
theorem wd_258 : Cond.fieldLink "StrideWatch$Run" 15 "StrideWatch$Run" "held" "[J" ∈ wT := wT_in (tk_2 (List.mem_of_getElem? (i := 18) rfl)) rfl
theorem fl_6_15 : FL "StrideWatch$Run" 15 6 3 (.array .long) true false := ⟨RX6, TX6, 10, tyX6, rfl, by decide, rfl, rfl, uw_6, tyX6_ok, nmX6, by decide +kernel, rfl, (fun _ => ⟨rfl, wd_258⟩), (fun h => nomatch h)⟩
theorem wd_259 : Cond.fieldLink "StrideWatch$Run" 18 "StrideWatch$Run" "where" "I" ∈ wT := wT_in (tk_2 (List.mem_of_getElem? (i := 19) rfl)) rfl
theorem fl_6_18 : FL "StrideWatch$Run" 18 6 4 .int false false := ⟨RX6, TX6, 10, tyX6, rfl, by decide, rfl, rfl, uw_6, tyX6_ok, nmX6, by decide +kernel, rfl, (fun _ => ⟨rfl, wd_259⟩), (fun h => nomatch h)⟩
theorem wd_261 : Cond.fieldLink "StrideWatch$Run" 40 "StrideWatch$Run" "known" "Z" ∈ wT := wT_in (tk_2 (List.mem_of_getElem? (i := 21) rfl)) rfl
theorem fl_6_40 : FL "StrideWatch$Run" 40 6 5 .boolean false false := ⟨RX6, TX6, 10, tyX6, rfl, by decide, rfl, rfl, uw_6, tyX6_ok, nmX6, by decide +kernel, rfl, (fun _ => ⟨rfl, wd_261⟩), (fun h => nomatch h)⟩
theorem wd_262 : Cond.fieldLink "StrideWatch$Run" 85 "StrideWatch$Run" "zero" "Z" ∈ wT := wT_in (tk_2 (List.mem_of_getElem? (i := 22) rfl)) rfl
theorem fl_6_85 : FL "StrideWatch$Run" 85 6 6 .boolean false false := ⟨RX6, TX6, 10, tyX6, rfl, by decide, rfl, rfl, uw_6, tyX6_ok, nmX6, by decide +kernel, rfl, (fun _ => ⟨rfl, wd_262⟩), (fun h => nomatch h)⟩
theorem wd_263 : Cond.fieldLink "StrideWatch$Run" 88 "StrideWatch$Run" "sign" "Z" ∈ wT := wT_in (tk_2 (List.mem_of_getElem? (i := 23) rfl)) rfl
theorem fl_6_88 : FL "StrideWatch$Run" 88 6 7 .boolean false false := ⟨RX6, TX6, 10, tyX6, rfl, by decide, rfl, rfl, uw_6, tyX6_ok, nmX6, by decide +kernel, rfl, (fun _ => ⟨rfl, wd_263⟩), (fun h => nomatch h)⟩
theorem wd_264 : Cond.fieldLink "StrideWatch$Run" 82 "StrideWatch$Run" "carry" "Z" ∈ wT := wT_in (tk_2 (List.mem_of_getElem? (i := 24) rfl)) rfl
theorem fl_6_82 : FL "StrideWatch$Run" 82 6 8 .boolean false false := ⟨RX6, TX6, 10, tyX6, rfl, by decide, rfl, rfl, uw_6, tyX6_ok, nmX6, by decide +kernel, rfl, (fun _ => ⟨rfl, wd_264⟩), (fun h => nomatch h)⟩
theorem wd_265 : Cond.fieldLink "StrideWatch$Run" 79 "StrideWatch$Run" "overflow" "Z" ∈ wT := wT_in (tk_2 (List.mem_of_getElem? (i := 25) rfl)) rfl
theorem fl_6_79 : FL "StrideWatch$Run" 79 6 9 .boolean false false := ⟨RX6, TX6, 10, tyX6, rfl, by decide, rfl, rfl, uw_6, tyX6_ok, nmX6, by decide +kernel, rfl, (fun _ => ⟨rfl, wd_265⟩), (fun h => nomatch h)⟩
theorem wd_287 : Cond.fieldLink "StrideWatch" 10 "StrideWatch" "code" "LStrideWatch$Code;" ∈ wT := wT_in (tk_2 (List.mem_of_getElem? (i := 47) rfl)) rfl
theorem fl_9_10 : FL "StrideWatch" 10 9 0 (.object "StrideWatch$Code") true false := ⟨RX9, TX9, 5, tyX9, rfl, by decide, rfl, rfl, uw_9, tyX9_ok, nmX9, by decide +kernel, rfl, (fun _ => ⟨rfl, wd_287⟩), (fun h => nomatch h)⟩
theorem wd_288 : Cond.fieldLink "StrideWatch" 21 "StrideWatch" "instruction" "LStrideWatch$Instruction;" ∈ wT := wT_in (tk_2 (List.mem_of_getElem? (i := 48) rfl)) rfl
theorem fl_9_21 : FL "StrideWatch" 21 9 1 (.object "StrideWatch$Instruction") true false := ⟨RX9, TX9, 5, tyX9, rfl, by decide, rfl, rfl, uw_9, tyX9_ok, nmX9, by decide +kernel, rfl, (fun _ => ⟨rfl, wd_288⟩), (fun h => nomatch h)⟩
theorem wd_289 : Cond.fieldLink "StrideWatch" 28 "StrideWatch" "entry" "LStrideWatch$State;" ∈ wT := wT_in (tk_2 (List.mem_of_getElem? (i := 49) rfl)) rfl
theorem fl_9_28 : FL "StrideWatch" 28 9 2 (.object "StrideWatch$State") true false := ⟨RX9, TX9, 5, tyX9, rfl, by decide, rfl, rfl, uw_9, tyX9_ok, nmX9, by decide +kernel, rfl, (fun _ => ⟨rfl, wd_289⟩), (fun h => nomatch h)⟩
theorem wd_290 : Cond.fieldLink "StrideWatch" 37 "StrideWatch" "looking" "LStrideWatch$Looking;" ∈ wT := wT_in (tk_2 (List.mem_of_getElem? (i := 50) rfl)) rfl
theorem fl_9_37 : FL "StrideWatch" 37 9 3 (.object "StrideWatch$Looking") true false := ⟨RX9, TX9, 5, tyX9, rfl, by decide, rfl, rfl, uw_9, tyX9_ok, nmX9, by decide +kernel, rfl, (fun _ => ⟨rfl, wd_290⟩), (fun h => nomatch h)⟩
theorem wd_291 : Cond.fieldLink "StrideWatch" 44 "StrideWatch" "run" "LStrideWatch$Run;" ∈ wT := wT_in (tk_2 (List.mem_of_getElem? (i := 51) rfl)) rfl
theorem fl_9_44 : FL "StrideWatch" 44 9 4 (.object "StrideWatch$Run") true false := ⟨RX9, TX9, 5, tyX9, rfl, by decide, rfl, rfl, uw_9, tyX9_ok, nmX9, by decide +kernel, rfl, (fun _ => ⟨rfl, wd_291⟩), (fun h => nomatch h)⟩
theorem wd_351 : Cond.fieldLink "StrideWatch$Point" 10 "StrideWatch$Point" "state" "LStrideWatch$State;" ∈ wT := wT_in (tk_2 (List.mem_of_getElem? (i := 111) rfl)) rfl
theorem fl_5_10 : FL "StrideWatch$Point" 10 5 0 (.object "StrideWatch$State") true false := ⟨RX5, TX5, 3, tyX5, rfl, by decide, rfl, rfl, uw_5, tyX5_ok, nmX5, by decide +kernel, rfl, (fun _ => ⟨rfl, wd_351⟩), (fun h => nomatch h)⟩
theorem wd_951 : Cond.fieldLink "StrideWatchModel" 55 "StrideWatchModel" "refusal" "I" ∈ wT := wT_in (tk_4 (List.mem_of_getElem? (i := 231) rfl)) rfl
theorem fl_10_55 : FL "StrideWatchModel" 55 10 0 .int false false := ⟨RX10, TX10, 37, tyX10, rfl, by decide, rfl, rfl, uw_10, tyX10_ok, nmX10, by decide +kernel, rfl, (fun _ => ⟨rfl, wd_951⟩), (fun h => nomatch h)⟩
theorem wd_952 : Cond.fieldLink "StrideWatchModel" 7 "StrideWatchModel" "code" "[I" ∈ wT := wT_in (tk_4 (List.mem_of_getElem? (i := 232) rfl)) rfl
theorem fl_10_7 : FL "StrideWatchModel" 7 10 1 (.array .int) true false := ⟨RX10, TX10, 37, tyX10, rfl, by decide, rfl, rfl, uw_10, tyX10_ok, nmX10, by decide +kernel, rfl, (fun _ => ⟨rfl, wd_952⟩), (fun h => nomatch h)⟩
theorem wd_953 : Cond.fieldLink "StrideWatchModel" 71 "StrideWatchModel" "size" "I" ∈ wT := wT_in (tk_4 (List.mem_of_getElem? (i := 233) rfl)) rfl
theorem fl_10_71 : FL "StrideWatchModel" 71 10 2 .int false false := ⟨RX10, TX10, 37, tyX10, rfl, by decide, rfl, rfl, uw_10, tyX10_ok, nmX10, by decide +kernel, rfl, (fun _ => ⟨rfl, wd_953⟩), (fun h => nomatch h)⟩
theorem wd_954 : Cond.fieldLink "StrideWatchModel" 13 "StrideWatchModel" "sort" "[I" ∈ wT := wT_in (tk_4 (List.mem_of_getElem? (i := 234) rfl)) rfl
theorem fl_10_13 : FL "StrideWatchModel" 13 10 3 (.array .int) true false := ⟨RX10, TX10, 37, tyX10, rfl, by decide, rfl, rfl, uw_10, tyX10_ok, nmX10, by decide +kernel, rfl, (fun _ => ⟨rfl, wd_954⟩), (fun h => nomatch h)⟩
theorem wd_955 : Cond.fieldLink "StrideWatchModel" 16 "StrideWatchModel" "low" "[J" ∈ wT := wT_in (tk_4 (List.mem_of_getElem? (i := 235) rfl)) rfl
theorem fl_10_16 : FL "StrideWatchModel" 16 10 4 (.array .long) true false := ⟨RX10, TX10, 37, tyX10, rfl, by decide, rfl, rfl, uw_10, tyX10_ok, nmX10, by decide +kernel, rfl, (fun _ => ⟨rfl, wd_955⟩), (fun h => nomatch h)⟩
theorem wd_956 : Cond.fieldLink "StrideWatchModel" 20 "StrideWatchModel" "high" "[J" ∈ wT := wT_in (tk_4 (List.mem_of_getElem? (i := 236) rfl)) rfl
theorem fl_10_20 : FL "StrideWatchModel" 20 10 5 (.array .long) true false := ⟨RX10, TX10, 37, tyX10, rfl, by decide, rfl, rfl, uw_10, tyX10_ok, nmX10, by decide +kernel, rfl, (fun _ => ⟨rfl, wd_956⟩), (fun h => nomatch h)⟩
theorem wd_957 : Cond.fieldLink "StrideWatchModel" 23 "StrideWatchModel" "step" "[J" ∈ wT := wT_in (tk_4 (List.mem_of_getElem? (i := 237) rfl)) rfl
theorem fl_10_23 : FL "StrideWatchModel" 23 10 6 (.array .long) true false := ⟨RX10, TX10, 37, tyX10, rfl, by decide, rfl, rfl, uw_10, tyX10_ok, nmX10, by decide +kernel, rfl, (fun _ => ⟨rfl, wd_957⟩), (fun h => nomatch h)⟩
theorem wd_958 : Cond.fieldLink "StrideWatchModel" 26 "StrideWatchModel" "got" "[I" ∈ wT := wT_in (tk_4 (List.mem_of_getElem? (i := 238) rfl)) rfl
theorem fl_10_26 : FL "StrideWatchModel" 26 10 7 (.array .int) true false := ⟨RX10, TX10, 37, tyX10, rfl, by decide, rfl, rfl, uw_10, tyX10_ok, nmX10, by decide +kernel, rfl, (fun _ => ⟨rfl, wd_958⟩), (fun h => nomatch h)⟩
theorem wd_959 : Cond.fieldLink "StrideWatchModel" 29 "StrideWatchModel" "changed" "[Z" ∈ wT := wT_in (tk_4 (List.mem_of_getElem? (i := 239) rfl)) rfl
theorem fl_10_29 : FL "StrideWatchModel" 29 10 8 (.array .boolean) true false := ⟨RX10, TX10, 37, tyX10, rfl, by decide, rfl, rfl, uw_10, tyX10_ok, nmX10, by decide +kernel, rfl, (fun _ => ⟨rfl, wd_959⟩), (fun h => nomatch h)⟩
theorem wd_960 : Cond.fieldLink "StrideWatchModel" 33 "StrideWatchModel" "record" "[I" ∈ wT := wT_in (tk_5 (List.mem_of_getElem? (i := 0) rfl)) rfl
theorem fl_10_33 : FL "StrideWatchModel" 33 10 9 (.array .int) true false := ⟨RX10, TX10, 37, tyX10, rfl, by decide, rfl, rfl, uw_10, tyX10_ok, nmX10, by decide +kernel, rfl, (fun _ => ⟨rfl, wd_960⟩), (fun h => nomatch h)⟩
theorem wd_961 : Cond.fieldLink "StrideWatchModel" 36 "StrideWatchModel" "recordX" "[I" ∈ wT := wT_in (tk_5 (List.mem_of_getElem? (i := 1) rfl)) rfl
theorem fl_10_36 : FL "StrideWatchModel" 36 10 10 (.array .int) true false := ⟨RX10, TX10, 37, tyX10, rfl, by decide, rfl, rfl, uw_10, tyX10_ok, nmX10, by decide +kernel, rfl, (fun _ => ⟨rfl, wd_961⟩), (fun h => nomatch h)⟩
theorem wd_962 : Cond.fieldLink "StrideWatchModel" 39 "StrideWatchModel" "recordY" "[I" ∈ wT := wT_in (tk_5 (List.mem_of_getElem? (i := 2) rfl)) rfl
theorem fl_10_39 : FL "StrideWatchModel" 39 10 11 (.array .int) true false := ⟨RX10, TX10, 37, tyX10, rfl, by decide, rfl, rfl, uw_10, tyX10_ok, nmX10, by decide +kernel, rfl, (fun _ => ⟨rfl, wd_962⟩), (fun h => nomatch h)⟩
theorem wd_963 : Cond.fieldLink "StrideWatchModel" 42 "StrideWatchModel" "recordC" "[J" ∈ wT := wT_in (tk_5 (List.mem_of_getElem? (i := 3) rfl)) rfl
theorem fl_10_42 : FL "StrideWatchModel" 42 10 12 (.array .long) true false := ⟨RX10, TX10, 37, tyX10, rfl, by decide, rfl, rfl, uw_10, tyX10_ok, nmX10, by decide +kernel, rfl, (fun _ => ⟨rfl, wd_963⟩), (fun h => nomatch h)⟩
theorem wd_964 : Cond.fieldLink "StrideWatchModel" 58 "StrideWatchModel" "isLooked" "Z" ∈ wT := wT_in (tk_5 (List.mem_of_getElem? (i := 4) rfl)) rfl
theorem fl_10_58 : FL "StrideWatchModel" 58 10 13 .boolean false false := ⟨RX10, TX10, 37, tyX10, rfl, by decide, rfl, rfl, uw_10, tyX10_ok, nmX10, by decide +kernel, rfl, (fun _ => ⟨rfl, wd_964⟩), (fun h => nomatch h)⟩
theorem wd_965 : Cond.fieldLink "StrideWatchModel" 81 "StrideWatchModel" "at" "I" ∈ wT := wT_in (tk_5 (List.mem_of_getElem? (i := 5) rfl)) rfl
theorem fl_10_81 : FL "StrideWatchModel" 81 10 14 .int false false := ⟨RX10, TX10, 37, tyX10, rfl, by decide, rfl, rfl, uw_10, tyX10_ok, nmX10, by decide +kernel, rfl, (fun _ => ⟨rfl, wd_965⟩), (fun h => nomatch h)⟩
theorem wd_966 : Cond.fieldLink "StrideWatchModel" 107 "StrideWatchModel" "op" "I" ∈ wT := wT_in (tk_5 (List.mem_of_getElem? (i := 6) rfl)) rfl
theorem fl_10_107 : FL "StrideWatchModel" 107 10 15 .int false false := ⟨RX10, TX10, 37, tyX10, rfl, by decide, rfl, rfl, uw_10, tyX10_ok, nmX10, by decide +kernel, rfl, (fun _ => ⟨rfl, wd_966⟩), (fun h => nomatch h)⟩
theorem wd_967 : Cond.fieldLink "StrideWatchModel" 127 "StrideWatchModel" "wide" "I" ∈ wT := wT_in (tk_5 (List.mem_of_getElem? (i := 7) rfl)) rfl
theorem fl_10_127 : FL "StrideWatchModel" 127 10 16 .int false false := ⟨RX10, TX10, 37, tyX10, rfl, by decide, rfl, rfl, uw_10, tyX10_ok, nmX10, by decide +kernel, rfl, (fun _ => ⟨rfl, wd_967⟩), (fun h => nomatch h)⟩
theorem wd_968 : Cond.fieldLink "StrideWatchModel" 110 "StrideWatchModel" "gets" "I" ∈ wT := wT_in (tk_5 (List.mem_of_getElem? (i := 8) rfl)) rfl
theorem fl_10_110 : FL "StrideWatchModel" 110 10 17 .int false false := ⟨RX10, TX10, 37, tyX10, rfl, by decide, rfl, rfl, uw_10, tyX10_ok, nmX10, by decide +kernel, rfl, (fun _ => ⟨rfl, wd_968⟩), (fun h => nomatch h)⟩
theorem wd_969 : Cond.fieldLink "StrideWatchModel" 113 "StrideWatchModel" "other" "I" ∈ wT := wT_in (tk_5 (List.mem_of_getElem? (i := 9) rfl)) rfl
theorem fl_10_113 : FL "StrideWatchModel" 113 10 18 .int false false := ⟨RX10, TX10, 37, tyX10, rfl, by decide, rfl, rfl, uw_10, tyX10_ok, nmX10, by decide +kernel, rfl, (fun _ => ⟨rfl, wd_969⟩), (fun h => nomatch h)⟩
theorem wd_970 : Cond.fieldLink "StrideWatchModel" 120 "StrideWatchModel" "detail" "I" ∈ wT := wT_in (tk_5 (List.mem_of_getElem? (i := 10) rfl)) rfl
theorem fl_10_120 : FL "StrideWatchModel" 120 10 19 .int false false := ⟨RX10, TX10, 37, tyX10, rfl, by decide, rfl, rfl, uw_10, tyX10_ok, nmX10, by decide +kernel, rfl, (fun _ => ⟨rfl, wd_970⟩), (fun h => nomatch h)⟩
theorem wd_971 : Cond.fieldLink "StrideWatchModel" 116 "StrideWatchModel" "constant" "J" ∈ wT := wT_in (tk_5 (List.mem_of_getElem? (i := 11) rfl)) rfl
theorem fl_10_116 : FL "StrideWatchModel" 116 10 20 .long false false := ⟨RX10, TX10, 37, tyX10, rfl, by decide, rfl, rfl, uw_10, tyX10_ok, nmX10, by decide +kernel, rfl, (fun _ => ⟨rfl, wd_971⟩), (fun h => nomatch h)⟩
theorem wd_972 : Cond.fieldLink "StrideWatchModel" 134 "StrideWatchModel" "length" "I" ∈ wT := wT_in (tk_5 (List.mem_of_getElem? (i := 12) rfl)) rfl
theorem fl_10_134 : FL "StrideWatchModel" 134 10 21 .int false false := ⟨RX10, TX10, 37, tyX10, rfl, by decide, rfl, rfl, uw_10, tyX10_ok, nmX10, by decide +kernel, rfl, (fun _ => ⟨rfl, wd_972⟩), (fun h => nomatch h)⟩
theorem wd_973 : Cond.fieldLink "StrideWatchModel" 84 "StrideWatchModel" "isBad" "Z" ∈ wT := wT_in (tk_5 (List.mem_of_getElem? (i := 13) rfl)) rfl
theorem fl_10_84 : FL "StrideWatchModel" 84 10 22 .boolean false false := ⟨RX10, TX10, 37, tyX10, rfl, by decide, rfl, rfl, uw_10, tyX10_ok, nmX10, by decide +kernel, rfl, (fun _ => ⟨rfl, wd_973⟩), (fun h => nomatch h)⟩
theorem wd_974 : Cond.fieldLink "StrideWatchModel" 62 "StrideWatchModel" "isStarted" "Z" ∈ wT := wT_in (tk_5 (List.mem_of_getElem? (i := 14) rfl)) rfl
theorem fl_10_62 : FL "StrideWatchModel" 62 10 23 .boolean false false := ⟨RX10, TX10, 37, tyX10, rfl, by decide, rfl, rfl, uw_10, tyX10_ok, nmX10, by decide +kernel, rfl, (fun _ => ⟨rfl, wd_974⟩), (fun h => nomatch h)⟩
theorem wd_975 : Cond.fieldLink "StrideWatchModel" 45 "StrideWatchModel" "here" "I" ∈ wT := wT_in (tk_5 (List.mem_of_getElem? (i := 15) rfl)) rfl
theorem fl_10_45 : FL "StrideWatchModel" 45 10 24 .int false false := ⟨RX10, TX10, 37, tyX10, rfl, by decide, rfl, rfl, uw_10, tyX10_ok, nmX10, by decide +kernel, rfl, (fun _ => ⟨rfl, wd_975⟩), (fun h => nomatch h)⟩
theorem wd_976 : Cond.fieldLink "StrideWatchModel" 49 "StrideWatchModel" "setTo" "[J" ∈ wT := wT_in (tk_5 (List.mem_of_getElem? (i := 16) rfl)) rfl
theorem fl_10_49 : FL "StrideWatchModel" 49 10 25 (.array .long) true false := ⟨RX10, TX10, 37, tyX10, rfl, by decide, rfl, rfl, uw_10, tyX10_ok, nmX10, by decide +kernel, rfl, (fun _ => ⟨rfl, wd_976⟩), (fun h => nomatch h)⟩
theorem wd_977 : Cond.fieldLink "StrideWatchModel" 52 "StrideWatchModel" "value" "[J" ∈ wT := wT_in (tk_5 (List.mem_of_getElem? (i := 17) rfl)) rfl
theorem fl_10_52 : FL "StrideWatchModel" 52 10 26 (.array .long) true false := ⟨RX10, TX10, 37, tyX10, rfl, by decide, rfl, rfl, uw_10, tyX10_ok, nmX10, by decide +kernel, rfl, (fun _ => ⟨rfl, wd_977⟩), (fun h => nomatch h)⟩
theorem wd_978 : Cond.fieldLink "StrideWatchModel" 316 "StrideWatchModel" "isUnknown" "Z" ∈ wT := wT_in (tk_5 (List.mem_of_getElem? (i := 18) rfl)) rfl
theorem fl_10_316 : FL "StrideWatchModel" 316 10 27 .boolean false false := ⟨RX10, TX10, 37, tyX10, rfl, by decide, rfl, rfl, uw_10, tyX10_ok, nmX10, by decide +kernel, rfl, (fun _ => ⟨rfl, wd_978⟩), (fun h => nomatch h)⟩
theorem wd_979 : Cond.fieldLink "StrideWatchModel" 319 "StrideWatchModel" "flagZ" "Z" ∈ wT := wT_in (tk_5 (List.mem_of_getElem? (i := 19) rfl)) rfl
theorem fl_10_319 : FL "StrideWatchModel" 319 10 28 .boolean false false := ⟨RX10, TX10, 37, tyX10, rfl, by decide, rfl, rfl, uw_10, tyX10_ok, nmX10, by decide +kernel, rfl, (fun _ => ⟨rfl, wd_979⟩), (fun h => nomatch h)⟩
theorem wd_980 : Cond.fieldLink "StrideWatchModel" 322 "StrideWatchModel" "flagS" "Z" ∈ wT := wT_in (tk_5 (List.mem_of_getElem? (i := 20) rfl)) rfl
theorem fl_10_322 : FL "StrideWatchModel" 322 10 29 .boolean false false := ⟨RX10, TX10, 37, tyX10, rfl, by decide, rfl, rfl, uw_10, tyX10_ok, nmX10, by decide +kernel, rfl, (fun _ => ⟨rfl, wd_980⟩), (fun h => nomatch h)⟩
theorem wd_981 : Cond.fieldLink "StrideWatchModel" 325 "StrideWatchModel" "flagC" "Z" ∈ wT := wT_in (tk_5 (List.mem_of_getElem? (i := 21) rfl)) rfl
theorem fl_10_325 : FL "StrideWatchModel" 325 10 30 .boolean false false := ⟨RX10, TX10, 37, tyX10, rfl, by decide, rfl, rfl, uw_10, tyX10_ok, nmX10, by decide +kernel, rfl, (fun _ => ⟨rfl, wd_981⟩), (fun h => nomatch h)⟩
theorem wd_982 : Cond.fieldLink "StrideWatchModel" 328 "StrideWatchModel" "flagO" "Z" ∈ wT := wT_in (tk_5 (List.mem_of_getElem? (i := 22) rfl)) rfl
theorem fl_10_328 : FL "StrideWatchModel" 328 10 31 .boolean false false := ⟨RX10, TX10, 37, tyX10, rfl, by decide, rfl, rfl, uw_10, tyX10_ok, nmX10, by decide +kernel, rfl, (fun _ => ⟨rfl, wd_982⟩), (fun h => nomatch h)⟩
theorem wd_983 : Cond.fieldLink "StrideWatchModel" 97 "StrideWatchModel" "reg" "I" ∈ wT := wT_in (tk_5 (List.mem_of_getElem? (i := 23) rfl)) rfl
theorem fl_10_97 : FL "StrideWatchModel" 97 10 32 .int false false := ⟨RX10, TX10, 37, tyX10, rfl, by decide, rfl, rfl, uw_10, tyX10_ok, nmX10, by decide +kernel, rfl, (fun _ => ⟨rfl, wd_983⟩), (fun h => nomatch h)⟩
theorem wd_984 : Cond.fieldLink "StrideWatchModel" 100 "StrideWatchModel" "rm" "I" ∈ wT := wT_in (tk_5 (List.mem_of_getElem? (i := 24) rfl)) rfl
theorem fl_10_100 : FL "StrideWatchModel" 100 10 33 .int false false := ⟨RX10, TX10, 37, tyX10, rfl, by decide, rfl, rfl, uw_10, tyX10_ok, nmX10, by decide +kernel, rfl, (fun _ => ⟨rfl, wd_984⟩), (fun h => nomatch h)⟩
theorem wd_985 : Cond.fieldLink "StrideWatchModel" 94 "StrideWatchModel" "three" "I" ∈ wT := wT_in (tk_5 (List.mem_of_getElem? (i := 25) rfl)) rfl
theorem fl_10_94 : FL "StrideWatchModel" 94 10 34 .int false false := ⟨RX10, TX10, 37, tyX10, rfl, by decide, rfl, rfl, uw_10, tyX10_ok, nmX10, by decide +kernel, rfl, (fun _ => ⟨rfl, wd_985⟩), (fun h => nomatch h)⟩
theorem wd_986 : Cond.fieldLink "StrideWatchModel" 91 "StrideWatchModel" "mod" "I" ∈ wT := wT_in (tk_5 (List.mem_of_getElem? (i := 26) rfl)) rfl
theorem fl_10_91 : FL "StrideWatchModel" 91 10 35 .int false false := ⟨RX10, TX10, 37, tyX10, rfl, by decide, rfl, rfl, uw_10, tyX10_ok, nmX10, by decide +kernel, rfl, (fun _ => ⟨rfl, wd_986⟩), (fun h => nomatch h)⟩
theorem wd_987 : Cond.fieldLink "StrideWatchModel" 250 "StrideWatchModel" "isDead" "Z" ∈ wT := wT_in (tk_5 (List.mem_of_getElem? (i := 27) rfl)) rfl
theorem fl_10_250 : FL "StrideWatchModel" 250 10 36 .boolean false false := ⟨RX10, TX10, 37, tyX10, rfl, by decide, rfl, rfl, uw_10, tyX10_ok, nmX10, by decide +kernel, rfl, (fun _ => ⟨rfl, wd_987⟩), (fun h => nomatch h)⟩
theorem wl_36 : Cond.fieldLinkNest "StrideWatch$Instruction" 116 "StrideWatch$Code" "bytes" "[I" "StrideWatch" ∈ lw_tbl := tk_1 (List.mem_of_getElem? (i := 36) rfl)
theorem fl_3_116 : FL "StrideWatch$Instruction" 116 1 0 (.array .int) true true := ⟨RX1, TX1, 2, tyX1, rfl, by decide, rfl, rfl, uw_1, tyX1_ok, nmX1, by decide +kernel, rfl, (fun h => nomatch h), (fun _ => ⟨"StrideWatch", wl_36⟩)⟩
theorem wl_38 : Cond.fieldLinkNest "StrideWatch" 55 "StrideWatch$Code" "count" "I" "StrideWatch" ∈ lw_tbl := tk_1 (List.mem_of_getElem? (i := 38) rfl)
theorem fl_9_55 : FL "StrideWatch" 55 1 1 .int false true := ⟨RX1, TX1, 2, tyX1, rfl, by decide, rfl, rfl, uw_1, tyX1_ok, nmX1, by decide +kernel, rfl, (fun h => nomatch h), (fun _ => ⟨"StrideWatch", wl_38⟩)⟩
theorem wl_39 : Cond.fieldLinkNest "StrideWatch$Looking" 92 "StrideWatch$Code" "count" "I" "StrideWatch" ∈ lw_tbl := tk_1 (List.mem_of_getElem? (i := 39) rfl)
theorem fl_4_92 : FL "StrideWatch$Looking" 92 1 1 .int false true := ⟨RX1, TX1, 2, tyX1, rfl, by decide, rfl, rfl, uw_1, tyX1_ok, nmX1, by decide +kernel, rfl, (fun h => nomatch h), (fun _ => ⟨"StrideWatch", wl_39⟩)⟩
theorem wl_40 : Cond.fieldLinkNest "StrideWatch$Instruction" 111 "StrideWatch$Code" "count" "I" "StrideWatch" ∈ lw_tbl := tk_1 (List.mem_of_getElem? (i := 40) rfl)
theorem fl_3_111 : FL "StrideWatch$Instruction" 111 1 1 .int false true := ⟨RX1, TX1, 2, tyX1, rfl, by decide, rfl, rfl, uw_1, tyX1_ok, nmX1, by decide +kernel, rfl, (fun h => nomatch h), (fun _ => ⟨"StrideWatch", wl_40⟩)⟩
theorem wl_61 : Cond.fieldLinkNest "StrideWatch$Run" 54 "StrideWatch$Instruction" "length" "I" "StrideWatch" ∈ lw_tbl := tk_1 (List.mem_of_getElem? (i := 61) rfl)
theorem fl_6_54 : FL "StrideWatch$Run" 54 3 7 .int false true := ⟨RX3, TX3, 14, tyX3, rfl, by decide, rfl, rfl, uw_3, tyX3_ok, nmX3, by decide +kernel, rfl, (fun h => nomatch h), (fun _ => ⟨"StrideWatch", wl_61⟩)⟩
theorem wl_62 : Cond.fieldLinkNest "StrideWatch$Looking" 124 "StrideWatch$Instruction" "length" "I" "StrideWatch" ∈ lw_tbl := tk_1 (List.mem_of_getElem? (i := 62) rfl)
theorem fl_4_124 : FL "StrideWatch$Looking" 124 3 7 .int false true := ⟨RX3, TX3, 14, tyX3, rfl, by decide, rfl, rfl, uw_3, tyX3_ok, nmX3, by decide +kernel, rfl, (fun h => nomatch h), (fun _ => ⟨"StrideWatch", wl_62⟩)⟩
theorem wl_63 : Cond.fieldLinkNest "StrideWatch$Effect" 24 "StrideWatch$Instruction" "operation" "I" "StrideWatch" ∈ lw_tbl := tk_1 (List.mem_of_getElem? (i := 63) rfl)
theorem fl_2_24 : FL "StrideWatch$Effect" 24 3 8 .int false true := ⟨RX3, TX3, 14, tyX3, rfl, by decide, rfl, rfl, uw_3, tyX3_ok, nmX3, by decide +kernel, rfl, (fun h => nomatch h), (fun _ => ⟨"StrideWatch", wl_63⟩)⟩
theorem wl_65 : Cond.fieldLinkNest "StrideWatch$Run" 57 "StrideWatch$Instruction" "operation" "I" "StrideWatch" ∈ lw_tbl := tk_1 (List.mem_of_getElem? (i := 65) rfl)
theorem fl_6_57 : FL "StrideWatch$Run" 57 3 8 .int false true := ⟨RX3, TX3, 14, tyX3, rfl, by decide, rfl, rfl, uw_3, tyX3_ok, nmX3, by decide +kernel, rfl, (fun h => nomatch h), (fun _ => ⟨"StrideWatch", wl_65⟩)⟩
theorem wl_66 : Cond.fieldLinkNest "StrideWatch$Looking" 110 "StrideWatch$Instruction" "operation" "I" "StrideWatch" ∈ lw_tbl := tk_1 (List.mem_of_getElem? (i := 66) rfl)
theorem fl_4_110 : FL "StrideWatch$Looking" 110 3 8 .int false true := ⟨RX3, TX3, 14, tyX3, rfl, by decide, rfl, rfl, uw_3, tyX3_ok, nmX3, by decide +kernel, rfl, (fun h => nomatch h), (fun _ => ⟨"StrideWatch", wl_66⟩)⟩
theorem wl_68 : Cond.fieldLinkNest "StrideWatch$Effect" 73 "StrideWatch$Instruction" "width" "I" "StrideWatch" ∈ lw_tbl := tk_1 (List.mem_of_getElem? (i := 68) rfl)
theorem fl_2_73 : FL "StrideWatch$Effect" 73 3 9 .int false true := ⟨RX3, TX3, 14, tyX3, rfl, by decide, rfl, rfl, uw_3, tyX3_ok, nmX3, by decide +kernel, rfl, (fun h => nomatch h), (fun _ => ⟨"StrideWatch", wl_68⟩)⟩
theorem wl_69 : Cond.fieldLinkNest "StrideWatch$Run" 127 "StrideWatch$Instruction" "width" "I" "StrideWatch" ∈ lw_tbl := tk_1 (List.mem_of_getElem? (i := 69) rfl)
theorem fl_6_127 : FL "StrideWatch$Run" 127 3 9 .int false true := ⟨RX3, TX3, 14, tyX3, rfl, by decide, rfl, rfl, uw_3, tyX3_ok, nmX3, by decide +kernel, rfl, (fun h => nomatch h), (fun _ => ⟨"StrideWatch", wl_69⟩)⟩
theorem wl_70 : Cond.fieldLinkNest "StrideWatch$Effect" 41 "StrideWatch$Instruction" "target" "I" "StrideWatch" ∈ lw_tbl := tk_1 (List.mem_of_getElem? (i := 70) rfl)
theorem fl_2_41 : FL "StrideWatch$Effect" 41 3 10 .int false true := ⟨RX3, TX3, 14, tyX3, rfl, by decide, rfl, rfl, uw_3, tyX3_ok, nmX3, by decide +kernel, rfl, (fun h => nomatch h), (fun _ => ⟨"StrideWatch", wl_70⟩)⟩
theorem wl_72 : Cond.fieldLinkNest "StrideWatch$Run" 91 "StrideWatch$Instruction" "target" "I" "StrideWatch" ∈ lw_tbl := tk_1 (List.mem_of_getElem? (i := 72) rfl)
theorem fl_6_91 : FL "StrideWatch$Run" 91 3 10 .int false true := ⟨RX3, TX3, 14, tyX3, rfl, by decide, rfl, rfl, uw_3, tyX3_ok, nmX3, by decide +kernel, rfl, (fun h => nomatch h), (fun _ => ⟨"StrideWatch", wl_72⟩)⟩
theorem wl_73 : Cond.fieldLinkNest "StrideWatch$Effect" 56 "StrideWatch$Instruction" "source" "I" "StrideWatch" ∈ lw_tbl := tk_1 (List.mem_of_getElem? (i := 73) rfl)
theorem fl_2_56 : FL "StrideWatch$Effect" 56 3 11 .int false true := ⟨RX3, TX3, 14, tyX3, rfl, by decide, rfl, rfl, uw_3, tyX3_ok, nmX3, by decide +kernel, rfl, (fun h => nomatch h), (fun _ => ⟨"StrideWatch", wl_73⟩)⟩
theorem wl_75 : Cond.fieldLinkNest "StrideWatch$Run" 102 "StrideWatch$Instruction" "source" "I" "StrideWatch" ∈ lw_tbl := tk_1 (List.mem_of_getElem? (i := 75) rfl)
theorem fl_6_102 : FL "StrideWatch$Run" 102 3 11 .int false true := ⟨RX3, TX3, 14, tyX3, rfl, by decide, rfl, rfl, uw_3, tyX3_ok, nmX3, by decide +kernel, rfl, (fun h => nomatch h), (fun _ => ⟨"StrideWatch", wl_75⟩)⟩
theorem wl_77 : Cond.fieldLinkNest "StrideWatch$Effect" 63 "StrideWatch$Instruction" "detail" "I" "StrideWatch" ∈ lw_tbl := tk_1 (List.mem_of_getElem? (i := 77) rfl)
theorem fl_2_63 : FL "StrideWatch$Effect" 63 3 12 .int false true := ⟨RX3, TX3, 14, tyX3, rfl, by decide, rfl, rfl, uw_3, tyX3_ok, nmX3, by decide +kernel, rfl, (fun h => nomatch h), (fun _ => ⟨"StrideWatch", wl_77⟩)⟩
theorem wl_78 : Cond.fieldLinkNest "StrideWatch$Run" 64 "StrideWatch$Instruction" "detail" "I" "StrideWatch" ∈ lw_tbl := tk_1 (List.mem_of_getElem? (i := 78) rfl)
theorem fl_6_64 : FL "StrideWatch$Run" 64 3 12 .int false true := ⟨RX3, TX3, 14, tyX3, rfl, by decide, rfl, rfl, uw_3, tyX3_ok, nmX3, by decide +kernel, rfl, (fun h => nomatch h), (fun _ => ⟨"StrideWatch", wl_78⟩)⟩
theorem wl_79 : Cond.fieldLinkNest "StrideWatch$Looking" 117 "StrideWatch$Instruction" "detail" "I" "StrideWatch" ∈ lw_tbl := tk_1 (List.mem_of_getElem? (i := 79) rfl)
theorem fl_4_117 : FL "StrideWatch$Looking" 117 3 12 .int false true := ⟨RX3, TX3, 14, tyX3, rfl, by decide, rfl, rfl, uw_3, tyX3_ok, nmX3, by decide +kernel, rfl, (fun h => nomatch h), (fun _ => ⟨"StrideWatch", wl_79⟩)⟩
theorem wl_80 : Cond.fieldLinkNest "StrideWatch$Effect" 59 "StrideWatch$Instruction" "number" "J" "StrideWatch" ∈ lw_tbl := tk_1 (List.mem_of_getElem? (i := 80) rfl)
theorem fl_2_59 : FL "StrideWatch$Effect" 59 3 13 .long false true := ⟨RX3, TX3, 14, tyX3, rfl, by decide, rfl, rfl, uw_3, tyX3_ok, nmX3, by decide +kernel, rfl, (fun h => nomatch h), (fun _ => ⟨"StrideWatch", wl_80⟩)⟩
theorem wl_82 : Cond.fieldLinkNest "StrideWatch$Run" 60 "StrideWatch$Instruction" "number" "J" "StrideWatch" ∈ lw_tbl := tk_1 (List.mem_of_getElem? (i := 82) rfl)
theorem fl_6_60 : FL "StrideWatch$Run" 60 3 13 .long false true := ⟨RX3, TX3, 14, tyX3, rfl, by decide, rfl, rfl, uw_3, tyX3_ok, nmX3, by decide +kernel, rfl, (fun h => nomatch h), (fun _ => ⟨"StrideWatch", wl_82⟩)⟩
theorem wl_83 : Cond.fieldLinkNest "StrideWatch" 107 "StrideWatch$Instruction" "number" "J" "StrideWatch" ∈ lw_tbl := tk_1 (List.mem_of_getElem? (i := 83) rfl)
theorem fl_9_107 : FL "StrideWatch" 107 3 13 .long false true := ⟨RX3, TX3, 14, tyX3, rfl, by decide, rfl, rfl, uw_3, tyX3_ok, nmX3, by decide +kernel, rfl, (fun h => nomatch h), (fun _ => ⟨"StrideWatch", wl_83⟩)⟩
theorem wl_84 : Cond.fieldLinkNest "StrideWatch$Looking" 127 "StrideWatch$Instruction" "number" "J" "StrideWatch" ∈ lw_tbl := tk_1 (List.mem_of_getElem? (i := 84) rfl)
theorem fl_4_127 : FL "StrideWatch$Looking" 127 3 13 .long false true := ⟨RX3, TX3, 14, tyX3, rfl, by decide, rfl, rfl, uw_3, tyX3_ok, nmX3, by decide +kernel, rfl, (fun h => nomatch h), (fun _ => ⟨"StrideWatch", wl_84⟩)⟩
theorem wl_125 : Cond.fieldLinkNest "StrideWatch$Branch" 21 "StrideWatch$State" "record" "I" "StrideWatch" ∈ lw_tbl := tk_1 (List.mem_of_getElem? (i := 125) rfl)
theorem fl_0_21 : FL "StrideWatch$Branch" 21 8 3 .int false true := ⟨RX8, TX8, 7, tyX8, rfl, by decide, rfl, rfl, uw_8, tyX8_ok, nmX8, by decide +kernel, rfl, (fun h => nomatch h), (fun _ => ⟨"StrideWatch", wl_125⟩)⟩
theorem wl_126 : Cond.fieldLinkNest "StrideWatch$Looking" 166 "StrideWatch$State" "record" "I" "StrideWatch" ∈ lw_tbl := tk_1 (List.mem_of_getElem? (i := 126) rfl)
theorem fl_4_166 : FL "StrideWatch$Looking" 166 8 3 .int false true := ⟨RX8, TX8, 7, tyX8, rfl, by decide, rfl, rfl, uw_8, tyX8_ok, nmX8, by decide +kernel, rfl, (fun h => nomatch h), (fun _ => ⟨"StrideWatch", wl_126⟩)⟩
theorem wl_128 : Cond.fieldLinkNest "StrideWatch$Branch" 27 "StrideWatch$State" "x" "I" "StrideWatch" ∈ lw_tbl := tk_1 (List.mem_of_getElem? (i := 128) rfl)
theorem fl_0_27 : FL "StrideWatch$Branch" 27 8 4 .int false true := ⟨RX8, TX8, 7, tyX8, rfl, by decide, rfl, rfl, uw_8, tyX8_ok, nmX8, by decide +kernel, rfl, (fun h => nomatch h), (fun _ => ⟨"StrideWatch", wl_128⟩)⟩
theorem wl_129 : Cond.fieldLinkNest "StrideWatch$Effect" 86 "StrideWatch$State" "x" "I" "StrideWatch" ∈ lw_tbl := tk_1 (List.mem_of_getElem? (i := 129) rfl)
theorem fl_2_86 : FL "StrideWatch$Effect" 86 8 4 .int false true := ⟨RX8, TX8, 7, tyX8, rfl, by decide, rfl, rfl, uw_8, tyX8_ok, nmX8, by decide +kernel, rfl, (fun h => nomatch h), (fun _ => ⟨"StrideWatch", wl_129⟩)⟩
theorem wl_131 : Cond.fieldLinkNest "StrideWatch$Branch" 33 "StrideWatch$State" "y" "I" "StrideWatch" ∈ lw_tbl := tk_1 (List.mem_of_getElem? (i := 131) rfl)
theorem fl_0_33 : FL "StrideWatch$Branch" 33 8 5 .int false true := ⟨RX8, TX8, 7, tyX8, rfl, by decide, rfl, rfl, uw_8, tyX8_ok, nmX8, by decide +kernel, rfl, (fun h => nomatch h), (fun _ => ⟨"StrideWatch", wl_131⟩)⟩
theorem wl_132 : Cond.fieldLinkNest "StrideWatch$Effect" 89 "StrideWatch$State" "y" "I" "StrideWatch" ∈ lw_tbl := tk_1 (List.mem_of_getElem? (i := 132) rfl)
theorem fl_2_89 : FL "StrideWatch$Effect" 89 8 5 .int false true := ⟨RX8, TX8, 7, tyX8, rfl, by decide, rfl, rfl, uw_8, tyX8_ok, nmX8, by decide +kernel, rfl, (fun h => nomatch h), (fun _ => ⟨"StrideWatch", wl_132⟩)⟩
theorem wl_133 : Cond.fieldLinkNest "StrideWatch$Branch" 35 "StrideWatch$State" "number" "J" "StrideWatch" ∈ lw_tbl := tk_1 (List.mem_of_getElem? (i := 133) rfl)
theorem fl_0_35 : FL "StrideWatch$Branch" 35 8 6 .long false true := ⟨RX8, TX8, 7, tyX8, rfl, by decide, rfl, rfl, uw_8, tyX8_ok, nmX8, by decide +kernel, rfl, (fun h => nomatch h), (fun _ => ⟨"StrideWatch", wl_133⟩)⟩
theorem wl_173 : Cond.fieldLinkNest "StrideWatch$State" 39 "StrideWatch$Span" "low" "J" "StrideWatch" ∈ lw_tbl := tk_1 (List.mem_of_getElem? (i := 173) rfl)
theorem fl_8_39 : FL "StrideWatch$State" 39 7 0 .long false true := ⟨RX7, TX7, 3, tyX7, rfl, by decide, rfl, rfl, uw_7, tyX7_ok, nmX7, by decide +kernel, rfl, (fun h => nomatch h), (fun _ => ⟨"StrideWatch", wl_173⟩)⟩
theorem wl_174 : Cond.fieldLinkNest "StrideWatch$Branch" 84 "StrideWatch$Span" "low" "J" "StrideWatch" ∈ lw_tbl := tk_1 (List.mem_of_getElem? (i := 174) rfl)
theorem fl_0_84 : FL "StrideWatch$Branch" 84 7 0 .long false true := ⟨RX7, TX7, 3, tyX7, rfl, by decide, rfl, rfl, uw_7, tyX7_ok, nmX7, by decide +kernel, rfl, (fun h => nomatch h), (fun _ => ⟨"StrideWatch", wl_174⟩)⟩
theorem wl_176 : Cond.fieldLinkNest "StrideWatch" 126 "StrideWatch$Span" "low" "J" "StrideWatch" ∈ lw_tbl := tk_1 (List.mem_of_getElem? (i := 176) rfl)
theorem fl_9_126 : FL "StrideWatch" 126 7 0 .long false true := ⟨RX7, TX7, 3, tyX7, rfl, by decide, rfl, rfl, uw_7, tyX7_ok, nmX7, by decide +kernel, rfl, (fun h => nomatch h), (fun _ => ⟨"StrideWatch", wl_176⟩)⟩
theorem wl_177 : Cond.fieldLinkNest "StrideWatch$Looking" 157 "StrideWatch$Span" "low" "J" "StrideWatch" ∈ lw_tbl := tk_1 (List.mem_of_getElem? (i := 177) rfl)
theorem fl_4_157 : FL "StrideWatch$Looking" 157 7 0 .long false true := ⟨RX7, TX7, 3, tyX7, rfl, by decide, rfl, rfl, uw_7, tyX7_ok, nmX7, by decide +kernel, rfl, (fun h => nomatch h), (fun _ => ⟨"StrideWatch", wl_177⟩)⟩
theorem wl_178 : Cond.fieldLinkNest "StrideWatch$State" 43 "StrideWatch$Span" "high" "J" "StrideWatch" ∈ lw_tbl := tk_1 (List.mem_of_getElem? (i := 178) rfl)
theorem fl_8_43 : FL "StrideWatch$State" 43 7 1 .long false true := ⟨RX7, TX7, 3, tyX7, rfl, by decide, rfl, rfl, uw_7, tyX7_ok, nmX7, by decide +kernel, rfl, (fun h => nomatch h), (fun _ => ⟨"StrideWatch", wl_178⟩)⟩
theorem wl_179 : Cond.fieldLinkNest "StrideWatch$Branch" 87 "StrideWatch$Span" "high" "J" "StrideWatch" ∈ lw_tbl := tk_1 (List.mem_of_getElem? (i := 179) rfl)
theorem fl_0_87 : FL "StrideWatch$Branch" 87 7 1 .long false true := ⟨RX7, TX7, 3, tyX7, rfl, by decide, rfl, rfl, uw_7, tyX7_ok, nmX7, by decide +kernel, rfl, (fun h => nomatch h), (fun _ => ⟨"StrideWatch", wl_179⟩)⟩
theorem wl_181 : Cond.fieldLinkNest "StrideWatch" 129 "StrideWatch$Span" "high" "J" "StrideWatch" ∈ lw_tbl := tk_1 (List.mem_of_getElem? (i := 181) rfl)
theorem fl_9_129 : FL "StrideWatch" 129 7 1 .long false true := ⟨RX7, TX7, 3, tyX7, rfl, by decide, rfl, rfl, uw_7, tyX7_ok, nmX7, by decide +kernel, rfl, (fun h => nomatch h), (fun _ => ⟨"StrideWatch", wl_181⟩)⟩
theorem wl_182 : Cond.fieldLinkNest "StrideWatch$Looking" 160 "StrideWatch$Span" "high" "J" "StrideWatch" ∈ lw_tbl := tk_1 (List.mem_of_getElem? (i := 182) rfl)
theorem fl_4_160 : FL "StrideWatch$Looking" 160 7 1 .long false true := ⟨RX7, TX7, 3, tyX7, rfl, by decide, rfl, rfl, uw_7, tyX7_ok, nmX7, by decide +kernel, rfl, (fun h => nomatch h), (fun _ => ⟨"StrideWatch", wl_182⟩)⟩
theorem wl_184 : Cond.fieldLinkNest "StrideWatch$State" 46 "StrideWatch$Span" "step" "J" "StrideWatch" ∈ lw_tbl := tk_1 (List.mem_of_getElem? (i := 184) rfl)
theorem fl_8_46 : FL "StrideWatch$State" 46 7 2 .long false true := ⟨RX7, TX7, 3, tyX7, rfl, by decide, rfl, rfl, uw_7, tyX7_ok, nmX7, by decide +kernel, rfl, (fun h => nomatch h), (fun _ => ⟨"StrideWatch", wl_184⟩)⟩
theorem wl_185 : Cond.fieldLinkNest "StrideWatch" 132 "StrideWatch$Span" "step" "J" "StrideWatch" ∈ lw_tbl := tk_1 (List.mem_of_getElem? (i := 185) rfl)
theorem fl_9_132 : FL "StrideWatch" 132 7 2 .long false true := ⟨RX7, TX7, 3, tyX7, rfl, by decide, rfl, rfl, uw_7, tyX7_ok, nmX7, by decide +kernel, rfl, (fun h => nomatch h), (fun _ => ⟨"StrideWatch", wl_185⟩)⟩
theorem wl_186 : Cond.fieldLinkNest "StrideWatch$Looking" 163 "StrideWatch$Span" "step" "J" "StrideWatch" ∈ lw_tbl := tk_1 (List.mem_of_getElem? (i := 186) rfl)
theorem fl_4_163 : FL "StrideWatch$Looking" 163 7 2 .long false true := ⟨RX7, TX7, 3, tyX7, rfl, by decide, rfl, rfl, uw_7, tyX7_ok, nmX7, by decide +kernel, rfl, (fun h => nomatch h), (fun _ => ⟨"StrideWatch", wl_186⟩)⟩
theorem wl_260 : Cond.fieldLinkNest "StrideWatch" 148 "StrideWatch$Run" "where" "I" "StrideWatch" ∈ lw_tbl := tk_2 (List.mem_of_getElem? (i := 20) rfl)
theorem fl_9_148 : FL "StrideWatch" 148 6 4 .int false true := ⟨RX6, TX6, 10, tyX6, rfl, by decide, rfl, rfl, uw_6, tyX6_ok, nmX6, by decide +kernel, rfl, (fun h => nomatch h), (fun _ => ⟨"StrideWatch", wl_260⟩)⟩
theorem wl_352 : Cond.fieldLinkNest "StrideWatch$Looking" 74 "StrideWatch$Point" "state" "LStrideWatch$State;" "StrideWatch" ∈ lw_tbl := tk_2 (List.mem_of_getElem? (i := 112) rfl)
theorem fl_4_74 : FL "StrideWatch$Looking" 74 5 0 (.object "StrideWatch$State") true true := ⟨RX5, TX5, 3, tyX5, rfl, by decide, rfl, rfl, uw_5, tyX5_ok, nmX5, by decide +kernel, rfl, (fun h => nomatch h), (fun _ => ⟨"StrideWatch", wl_352⟩)⟩
theorem wl_353 : Cond.fieldLinkNest "StrideWatch$Looking" 59 "StrideWatch$Point" "got" "I" "StrideWatch" ∈ lw_tbl := tk_2 (List.mem_of_getElem? (i := 113) rfl)
theorem fl_4_59 : FL "StrideWatch$Looking" 59 5 1 .int false true := ⟨RX5, TX5, 3, tyX5, rfl, by decide, rfl, rfl, uw_5, tyX5_ok, nmX5, by decide +kernel, rfl, (fun h => nomatch h), (fun _ => ⟨"StrideWatch", wl_353⟩)⟩
theorem wl_354 : Cond.fieldLinkNest "StrideWatch$Looking" 63 "StrideWatch$Point" "waiting" "Z" "StrideWatch" ∈ lw_tbl := tk_2 (List.mem_of_getElem? (i := 114) rfl)
theorem fl_4_63 : FL "StrideWatch$Looking" 63 5 2 .boolean false true := ⟨RX5, TX5, 3, tyX5, rfl, by decide, rfl, rfl, uw_5, tyX5_ok, nmX5, by decide +kernel, rfl, (fun h => nomatch h), (fun _ => ⟨"StrideWatch", wl_354⟩)⟩
theorem wd_21 : Cond.classLink "StrideWatchLaw" 8 "StrideWatch" ∈ wT := wT_in (tk_1 (List.mem_of_getElem? (i := 21) rfl)) rfl
theorem wd_22 : Cond.instantiable "StrideWatch" 5 ∈ wT := wT_in (tk_1 (List.mem_of_getElem? (i := 22) rfl)) rfl
theorem wd_1 : Cond.initialized "StrideWatch" ∈ wT := wT_in (tk_1 (List.mem_of_getElem? (i := 1) rfl)) rfl
theorem nl_L_8 : NL "StrideWatchLaw" 8 9 := ⟨RX9, TX9, 5, tyX9, rfl, rfl, uw_9, tyX9_ok, by decide +kernel, wd_21, wd_22, wd_1⟩
theorem wd_29 : Cond.classLink "StrideWatch" 7 "StrideWatch$Code" ∈ wT := wT_in (tk_1 (List.mem_of_getElem? (i := 29) rfl)) rfl
theorem wd_30 : Cond.instantiable "StrideWatch$Code" 2 ∈ wT := wT_in (tk_1 (List.mem_of_getElem? (i := 30) rfl)) rfl
theorem wd_2 : Cond.initialized "StrideWatch$Code" ∈ wT := wT_in (tk_1 (List.mem_of_getElem? (i := 2) rfl)) rfl
theorem nl_9_7 : NL "StrideWatch" 7 1 := ⟨RX1, TX1, 2, tyX1, rfl, rfl, uw_1, tyX1_ok, by decide +kernel, wd_29, wd_30, wd_2⟩
theorem wd_47 : Cond.classLink "StrideWatch" 16 "StrideWatch$Instruction" ∈ wT := wT_in (tk_1 (List.mem_of_getElem? (i := 47) rfl)) rfl
theorem wd_48 : Cond.instantiable "StrideWatch$Instruction" 14 ∈ wT := wT_in (tk_1 (List.mem_of_getElem? (i := 48) rfl)) rfl
theorem wd_3 : Cond.initialized "StrideWatch$Instruction" ∈ wT := wT_in (tk_1 (List.mem_of_getElem? (i := 3) rfl)) rfl
theorem nl_9_16 : NL "StrideWatch" 16 3 := ⟨RX3, TX3, 14, tyX3, rfl, rfl, uw_3, tyX3_ok, by decide +kernel, wd_47, wd_48, wd_3⟩
theorem wd_114 : Cond.classLink "StrideWatch" 25 "StrideWatch$State" ∈ wT := wT_in (tk_1 (List.mem_of_getElem? (i := 114) rfl)) rfl
theorem wd_115 : Cond.instantiable "StrideWatch$State" 7 ∈ wT := wT_in (tk_1 (List.mem_of_getElem? (i := 115) rfl)) rfl
theorem wd_4 : Cond.initialized "StrideWatch$State" ∈ wT := wT_in (tk_1 (List.mem_of_getElem? (i := 4) rfl)) rfl
theorem nl_9_25 : NL "StrideWatch" 25 8 := ⟨RX8, TX8, 7, tyX8, rfl, rfl, uw_8, tyX8_ok, by decide +kernel, wd_114, wd_115, wd_4⟩
theorem wd_151 : Cond.classLink "StrideWatch" 32 "StrideWatch$Looking" ∈ wT := wT_in (tk_1 (List.mem_of_getElem? (i := 151) rfl)) rfl
theorem wd_152 : Cond.instantiable "StrideWatch$Looking" 9 ∈ wT := wT_in (tk_1 (List.mem_of_getElem? (i := 152) rfl)) rfl
theorem wd_5 : Cond.initialized "StrideWatch$Looking" ∈ wT := wT_in (tk_1 (List.mem_of_getElem? (i := 5) rfl)) rfl
theorem nl_9_32 : NL "StrideWatch" 32 4 := ⟨RX4, TX4, 9, tyX4, rfl, rfl, uw_4, tyX4_ok, by decide +kernel, wd_151, wd_152, wd_5⟩
theorem wd_157 : Cond.classLink "StrideWatch$Looking" 9 "StrideWatch$Point" ∈ wT := wT_in (tk_1 (List.mem_of_getElem? (i := 157) rfl)) rfl
theorem wd_344 : Cond.instantiable "StrideWatch$Point" 3 ∈ wT := wT_in (tk_2 (List.mem_of_getElem? (i := 104) rfl)) rfl
theorem wd_18 : Cond.initialized "StrideWatch$Point" ∈ wT := wT_in (tk_1 (List.mem_of_getElem? (i := 18) rfl)) rfl
theorem nl_4_9 : NL "StrideWatch$Looking" 9 5 := ⟨RX5, TX5, 3, tyX5, rfl, rfl, uw_5, tyX5_ok, by decide +kernel, wd_157, wd_344, wd_18⟩
theorem wd_159 : Cond.classLink "StrideWatch$Looking" 17 "StrideWatch$State" ∈ wT := wT_in (tk_1 (List.mem_of_getElem? (i := 159) rfl)) rfl
theorem nl_4_17 : NL "StrideWatch$Looking" 17 8 := ⟨RX8, TX8, 7, tyX8, rfl, rfl, uw_8, tyX8_ok, by decide +kernel, wd_159, wd_115, wd_4⟩
theorem wd_161 : Cond.classLink "StrideWatch$Looking" 24 "StrideWatch$Effect" ∈ wT := wT_in (tk_1 (List.mem_of_getElem? (i := 161) rfl)) rfl
theorem wd_162 : Cond.instantiable "StrideWatch$Effect" 3 ∈ wT := wT_in (tk_1 (List.mem_of_getElem? (i := 162) rfl)) rfl
theorem wd_6 : Cond.initialized "StrideWatch$Effect" ∈ wT := wT_in (tk_1 (List.mem_of_getElem? (i := 6) rfl)) rfl
theorem nl_4_24 : NL "StrideWatch$Looking" 24 2 := ⟨RX2, TX2, 3, tyX2, rfl, rfl, uw_2, tyX2_ok, by decide +kernel, wd_161, wd_162, wd_6⟩
theorem wd_167 : Cond.classLink "StrideWatch$Effect" 9 "StrideWatch$Span" ∈ wT := wT_in (tk_1 (List.mem_of_getElem? (i := 167) rfl)) rfl
theorem wd_168 : Cond.instantiable "StrideWatch$Span" 3 ∈ wT := wT_in (tk_1 (List.mem_of_getElem? (i := 168) rfl)) rfl
theorem wd_7 : Cond.initialized "StrideWatch$Span" ∈ wT := wT_in (tk_1 (List.mem_of_getElem? (i := 7) rfl)) rfl
theorem nl_2_9 : NL "StrideWatch$Effect" 9 7 := ⟨RX7, TX7, 3, tyX7, rfl, rfl, uw_7, tyX7_ok, by decide +kernel, wd_167, wd_168, wd_7⟩
theorem wd_204 : Cond.classLink "StrideWatch$Looking" 31 "StrideWatch$Branch" ∈ wT := wT_in (tk_1 (List.mem_of_getElem? (i := 204) rfl)) rfl
theorem wd_205 : Cond.instantiable "StrideWatch$Branch" 2 ∈ wT := wT_in (tk_1 (List.mem_of_getElem? (i := 205) rfl)) rfl
theorem wd_8 : Cond.initialized "StrideWatch$Branch" ∈ wT := wT_in (tk_1 (List.mem_of_getElem? (i := 8) rfl)) rfl
theorem nl_4_31 : NL "StrideWatch$Looking" 31 0 := ⟨RX0, TX0, 2, tyX0, rfl, rfl, uw_0, tyX0_ok, by decide +kernel, wd_204, wd_205, wd_8⟩
theorem wd_210 : Cond.classLink "StrideWatch$Branch" 11 "StrideWatch$Span" ∈ wT := wT_in (tk_1 (List.mem_of_getElem? (i := 210) rfl)) rfl
theorem nl_0_11 : NL "StrideWatch$Branch" 11 7 := ⟨RX7, TX7, 3, tyX7, rfl, rfl, uw_7, tyX7_ok, by decide +kernel, wd_210, wd_168, wd_7⟩
theorem wd_219 : Cond.classLink "StrideWatch$Looking" 38 "StrideWatch$Span" ∈ wT := wT_in (tk_1 (List.mem_of_getElem? (i := 219) rfl)) rfl
theorem nl_4_38 : NL "StrideWatch$Looking" 38 7 := ⟨RX7, TX7, 3, tyX7, rfl, rfl, uw_7, tyX7_ok, by decide +kernel, wd_219, wd_168, wd_7⟩
theorem wd_249 : Cond.classLink "StrideWatch" 41 "StrideWatch$Run" ∈ wT := wT_in (tk_2 (List.mem_of_getElem? (i := 9) rfl)) rfl
theorem wd_250 : Cond.instantiable "StrideWatch$Run" 10 ∈ wT := wT_in (tk_2 (List.mem_of_getElem? (i := 10) rfl)) rfl
theorem wd_9 : Cond.initialized "StrideWatch$Run" ∈ wT := wT_in (tk_1 (List.mem_of_getElem? (i := 9) rfl)) rfl
theorem nl_9_41 : NL "StrideWatch" 41 6 := ⟨RX6, TX6, 10, tyX6, rfl, rfl, uw_6, tyX6_ok, by decide +kernel, wd_249, wd_250, wd_9⟩
theorem wd_349 : Cond.classLink "StrideWatch$Point" 7 "StrideWatch$State" ∈ wT := wT_in (tk_2 (List.mem_of_getElem? (i := 109) rfl)) rfl
theorem nl_5_7 : NL "StrideWatch$Point" 7 8 := ⟨RX8, TX8, 7, tyX8, rfl, rfl, uw_8, tyX8_ok, by decide +kernel, wd_349, wd_115, wd_4⟩
theorem wd_691 : Cond.classLink "StrideWatchLaw" 13 "java/lang/IllegalArgumentException" ∈ wT := wT_in (tk_3 (List.mem_of_getElem? (i := 211) rfl)) rfl
theorem wd_692 : Cond.classLink "StrideWatchLaw" 15 "java/lang/IllegalStateException" ∈ wT := wT_in (tk_3 (List.mem_of_getElem? (i := 212) rfl)) rfl
theorem wd_697 : Cond.classLink "StrideWatch" 48 "java/lang/IllegalArgumentException" ∈ wT := wT_in (tk_3 (List.mem_of_getElem? (i := 217) rfl)) rfl
theorem wd_764 : Cond.classLink "StrideWatch" 59 "java/lang/IllegalStateException" ∈ wT := wT_in (tk_4 (List.mem_of_getElem? (i := 44) rfl)) rfl
theorem wd_945 : Cond.classLink "StrideWatchLaw" 53 "StrideWatchModel" ∈ wT := wT_in (tk_4 (List.mem_of_getElem? (i := 225) rfl)) rfl
theorem wd_946 : Cond.instantiable "StrideWatchModel" 37 ∈ wT := wT_in (tk_4 (List.mem_of_getElem? (i := 226) rfl)) rfl
theorem wd_10 : Cond.initialized "StrideWatchModel" ∈ wT := wT_in (tk_1 (List.mem_of_getElem? (i := 10) rfl)) rfl
theorem nl_L_53 : NL "StrideWatchLaw" 53 10 := ⟨RX10, TX10, 37, tyX10, rfl, rfl, uw_10, tyX10_ok, by decide +kernel, wd_945, wd_946, wd_10⟩
theorem wd_208 : Cond.code yX0_init cX0_init 1 none ∈ wT := wT_in (tk_1 (List.mem_of_getElem? (i := 208) rfl)) rfl
theorem mk_X0_init : MK M_X0_init 0 := ⟨wd_208, wd_8, ⟨by decide, by decide⟩, by decide +kernel, by decide +kernel, rfl⟩
theorem wd_612 : Cond.code yX0_narrow cX0_narrow 6 (some .boolean) ∈ wT := wT_in (tk_3 (List.mem_of_getElem? (i := 132) rfl)) rfl
theorem mk_X0_narrow : MK M_X0_narrow 3 := ⟨wd_612, wd_8, ⟨by decide, by decide⟩, by decide +kernel, by decide +kernel, rfl⟩
theorem wd_645 : Cond.code yX0_narrowCompared cX0_narrowCompared 7 none ∈ wT := wT_in (tk_3 (List.mem_of_getElem? (i := 165) rfl)) rfl
theorem mk_X0_narrowCompared : MK M_X0_narrowCompared 2 := ⟨wd_645, wd_8, ⟨by decide, by decide⟩, by decide +kernel, by decide +kernel, rfl⟩
theorem wd_618 : Cond.code yX0_becomeEqual cX0_becomeEqual 5 none ∈ wT := wT_in (tk_3 (List.mem_of_getElem? (i := 138) rfl)) rfl
theorem mk_X0_becomeEqual : MK M_X0_becomeEqual 0 := ⟨wd_618, wd_8, ⟨by decide, by decide⟩, by decide +kernel, by decide +kernel, rfl⟩
theorem wd_636 : Cond.code yX0_becomeUnequal cX0_becomeUnequal 4 none ∈ wT := wT_in (tk_3 (List.mem_of_getElem? (i := 156) rfl)) rfl
theorem mk_X0_becomeUnequal : MK M_X0_becomeUnequal 0 := ⟨wd_636, wd_8, ⟨by decide, by decide⟩, by decide +kernel, by decide +kernel, rfl⟩
theorem wd_648 : Cond.code yX0_order cX0_order 7 none ∈ wT := wT_in (tk_3 (List.mem_of_getElem? (i := 168) rfl)) rfl
theorem mk_X0_order : MK M_X0_order 3 := ⟨wd_648, wd_8, ⟨by decide, by decide⟩, by decide +kernel, by decide +kernel, rfl⟩
theorem wd_653 : Cond.code yX0_orderUnsigned cX0_orderUnsigned 7 none ∈ wT := wT_in (tk_3 (List.mem_of_getElem? (i := 173) rfl)) rfl
theorem mk_X0_orderUnsigned : MK M_X0_orderUnsigned 3 := ⟨wd_653, wd_8, ⟨by decide, by decide⟩, by decide +kernel, by decide +kernel, rfl⟩
theorem wd_33 : Cond.code yX1_init cX1_init 1 none ∈ wT := wT_in (tk_1 (List.mem_of_getElem? (i := 33) rfl)) rfl
theorem mk_X1_init : MK M_X1_init 0 := ⟨wd_33, wd_2, ⟨by decide, by decide⟩, by decide +kernel, by decide +kernel, rfl⟩
theorem wd_786 : Cond.code yX1_append cX1_append 4 none ∈ wT := wT_in (tk_4 (List.mem_of_getElem? (i := 66) rfl)) rfl
theorem mk_X1_append : MK M_X1_append 2 := ⟨wd_786, wd_2, ⟨by decide, by decide⟩, by decide +kernel, by decide +kernel, rfl⟩
theorem wd_342 : Cond.code yX1_holds cX1_holds 3 (some .boolean) ∈ wT := wT_in (tk_2 (List.mem_of_getElem? (i := 102) rfl)) rfl
theorem mk_X1_holds : MK M_X1_holds 1 := ⟨wd_342, wd_2, ⟨by decide, by decide⟩, by decide +kernel, by decide +kernel, rfl⟩
theorem wd_165 : Cond.code yX2_init cX2_init 1 none ∈ wT := wT_in (tk_1 (List.mem_of_getElem? (i := 165) rfl)) rfl
theorem mk_X2_init : MK M_X2_init 0 := ⟨wd_165, wd_6, ⟨by decide, by decide⟩, by decide +kernel, by decide +kernel, rfl⟩
theorem wd_509 : Cond.code yX2_apply cX2_apply 4 none ∈ wT := wT_in (tk_3 (List.mem_of_getElem? (i := 29) rfl)) rfl
theorem mk_X2_apply : MK M_X2_apply 2 := ⟨wd_509, wd_6, ⟨by decide, by decide⟩, by decide +kernel, by decide +kernel, rfl⟩
theorem wd_513 : Cond.code yX2_loadOperands cX2_loadOperands 5 none ∈ wT := wT_in (tk_3 (List.mem_of_getElem? (i := 33) rfl)) rfl
theorem mk_X2_loadOperands : MK M_X2_loadOperands 2 := ⟨wd_513, wd_6, ⟨by decide, by decide⟩, by decide +kernel, by decide +kernel, rfl⟩
theorem wd_519 : Cond.code yX2_fitOperands cX2_fitOperands 3 none ∈ wT := wT_in (tk_3 (List.mem_of_getElem? (i := 39) rfl)) rfl
theorem mk_X2_fitOperands : MK M_X2_fitOperands 1 := ⟨wd_519, wd_6, ⟨by decide, by decide⟩, by decide +kernel, by decide +kernel, rfl⟩
theorem wd_542 : Cond.code yX2_computeResult cX2_computeResult 4 none ∈ wT := wT_in (tk_3 (List.mem_of_getElem? (i := 62) rfl)) rfl
theorem mk_X2_computeResult : MK M_X2_computeResult 1 := ⟨wd_542, wd_6, ⟨by decide, by decide⟩, by decide +kernel, by decide +kernel, rfl⟩
theorem wd_606 : Cond.code yX2_noteRecord cX2_noteRecord 6 none ∈ wT := wT_in (tk_3 (List.mem_of_getElem? (i := 126) rfl)) rfl
theorem mk_X2_noteRecord : MK M_X2_noteRecord 2 := ⟨wd_606, wd_6, ⟨by decide, by decide⟩, by decide +kernel, by decide +kernel, rfl⟩
theorem wd_51 : Cond.code yX3_init cX3_init 2 none ∈ wT := wT_in (tk_1 (List.mem_of_getElem? (i := 51) rfl)) rfl
theorem mk_X3_init : MK M_X3_init 1 := ⟨wd_51, wd_3, ⟨by decide, by decide⟩, by decide +kernel, by decide +kernel, rfl⟩
theorem wd_441 : Cond.code yX3_readFrom cX3_readFrom 4 none ∈ wT := wT_in (tk_2 (List.mem_of_getElem? (i := 201) rfl)) rfl
theorem mk_X3_readFrom : MK M_X3_readFrom 1 := ⟨wd_441, wd_3, ⟨by decide, by decide⟩, by decide +kernel, by decide +kernel, rfl⟩
theorem wd_830 : Cond.code yX3_tell cX3_tell 2 (some .int) ∈ wT := wT_in (tk_4 (List.mem_of_getElem? (i := 110) rfl)) rfl
theorem mk_X3_tell : MK M_X3_tell 1 := ⟨wd_830, wd_3, ⟨by decide, by decide⟩, by decide +kernel, by decide +kernel, rfl⟩
theorem wd_445 : Cond.code yX3_becomePlain cX3_becomePlain 2 none ∈ wT := wT_in (tk_2 (List.mem_of_getElem? (i := 205) rfl)) rfl
theorem mk_X3_becomePlain : MK M_X3_becomePlain 1 := ⟨wd_445, wd_3, ⟨by decide, by decide⟩, by decide +kernel, by decide +kernel, rfl⟩
theorem wd_501 : Cond.code yX3_isFrameChanged cX3_isFrameChanged 1 (some .boolean) ∈ wT := wT_in (tk_3 (List.mem_of_getElem? (i := 21) rfl)) rfl
theorem mk_X3_isFrameChanged : MK M_X3_isFrameChanged 0 := ⟨wd_501, wd_3, ⟨by decide, by decide⟩, by decide +kernel, by decide +kernel, rfl⟩
theorem wd_505 : Cond.code yX3_isCarryArithmetic cX3_isCarryArithmetic 1 (some .boolean) ∈ wT := wT_in (tk_3 (List.mem_of_getElem? (i := 25) rfl)) rfl
theorem mk_X3_isCarryArithmetic : MK M_X3_isCarryArithmetic 0 := ⟨wd_505, wd_3, ⟨by decide, by decide⟩, by decide +kernel, by decide +kernel, rfl⟩
theorem wd_473 : Cond.code yX3_readOther cX3_readOther 2 none ∈ wT := wT_in (tk_2 (List.mem_of_getElem? (i := 233) rfl)) rfl
theorem mk_X3_readOther : MK M_X3_readOther 1 := ⟨wd_473, wd_3, ⟨by decide, by decide⟩, by decide +kernel, by decide +kernel, rfl⟩
theorem wd_453 : Cond.code yX3_readPair cX3_readPair 3 none ∈ wT := wT_in (tk_2 (List.mem_of_getElem? (i := 213) rfl)) rfl
theorem mk_X3_readPair : MK M_X3_readPair 2 := ⟨wd_453, wd_3, ⟨by decide, by decide⟩, by decide +kernel, by decide +kernel, rfl⟩
theorem wd_477 : Cond.code yX3_readSignExtension cX3_readSignExtension 1 none ∈ wT := wT_in (tk_2 (List.mem_of_getElem? (i := 237) rfl)) rfl
theorem mk_X3_readSignExtension : MK M_X3_readSignExtension 0 := ⟨wd_477, wd_3, ⟨by decide, by decide⟩, by decide +kernel, by decide +kernel, rfl⟩
theorem wd_481 : Cond.code yX3_readArithmeticWithConstant cX3_readArithmeticWithConstant 2 none ∈ wT := wT_in (tk_3 (List.mem_of_getElem? (i := 1) rfl)) rfl
theorem mk_X3_readArithmeticWithConstant : MK M_X3_readArithmeticWithConstant 1 := ⟨wd_481, wd_3, ⟨by decide, by decide⟩, by decide +kernel, by decide +kernel, rfl⟩
theorem wd_485 : Cond.code yX3_readShift cX3_readShift 1 none ∈ wT := wT_in (tk_3 (List.mem_of_getElem? (i := 5) rfl)) rfl
theorem mk_X3_readShift : MK M_X3_readShift 0 := ⟨wd_485, wd_3, ⟨by decide, by decide⟩, by decide +kernel, by decide +kernel, rfl⟩
theorem wd_489 : Cond.code yX3_readMoveToPlace cX3_readMoveToPlace 1 none ∈ wT := wT_in (tk_3 (List.mem_of_getElem? (i := 9) rfl)) rfl
theorem mk_X3_readMoveToPlace : MK M_X3_readMoveToPlace 0 := ⟨wd_489, wd_3, ⟨by decide, by decide⟩, by decide +kernel, by decide +kernel, rfl⟩
theorem wd_469 : Cond.code yX3_readMoveToRegister cX3_readMoveToRegister 2 none ∈ wT := wT_in (tk_2 (List.mem_of_getElem? (i := 229) rfl)) rfl
theorem mk_X3_readMoveToRegister : MK M_X3_readMoveToRegister 1 := ⟨wd_469, wd_3, ⟨by decide, by decide⟩, by decide +kernel, by decide +kernel, rfl⟩
theorem wd_493 : Cond.code yX3_readTestNotNeg cX3_readTestNotNeg 1 none ∈ wT := wT_in (tk_3 (List.mem_of_getElem? (i := 13) rfl)) rfl
theorem mk_X3_readTestNotNeg : MK M_X3_readTestNotNeg 0 := ⟨wd_493, wd_3, ⟨by decide, by decide⟩, by decide +kernel, by decide +kernel, rfl⟩
theorem wd_497 : Cond.code yX3_readIncDec cX3_readIncDec 1 none ∈ wT := wT_in (tk_3 (List.mem_of_getElem? (i := 17) rfl)) rfl
theorem mk_X3_readIncDec : MK M_X3_readIncDec 0 := ⟨wd_497, wd_3, ⟨by decide, by decide⟩, by decide +kernel, by decide +kernel, rfl⟩
theorem wd_461 : Cond.code yX3_readJump cX3_readJump 6 none ∈ wT := wT_in (tk_2 (List.mem_of_getElem? (i := 221) rfl)) rfl
theorem mk_X3_readJump : MK M_X3_readJump 3 := ⟨wd_461, wd_3, ⟨by decide, by decide⟩, by decide +kernel, by decide +kernel, rfl⟩
theorem wd_457 : Cond.code yX3_readPlace cX3_readPlace 5 none ∈ wT := wT_in (tk_2 (List.mem_of_getElem? (i := 217) rfl)) rfl
theorem mk_X3_readPlace : MK M_X3_readPlace 0 := ⟨wd_457, wd_3, ⟨by decide, by decide⟩, by decide +kernel, by decide +kernel, rfl⟩
theorem wd_465 : Cond.code yX3_readNumber cX3_readNumber 5 (some .long) ∈ wT := wT_in (tk_2 (List.mem_of_getElem? (i := 225) rfl)) rfl
theorem mk_X3_readNumber : MK M_X3_readNumber 1 := ⟨wd_465, wd_3, ⟨by decide, by decide⟩, by decide +kernel, by decide +kernel, rfl⟩
theorem wd_449 : Cond.code yX3_nextByte cX3_nextByte 2 (some .int) ∈ wT := wT_in (tk_2 (List.mem_of_getElem? (i := 209) rfl)) rfl
theorem mk_X3_nextByte : MK M_X3_nextByte 0 := ⟨wd_449, wd_3, ⟨by decide, by decide⟩, by decide +kernel, by decide +kernel, rfl⟩
theorem wd_155 : Cond.code yX4_init cX4_init 3 none ∈ wT := wT_in (tk_1 (List.mem_of_getElem? (i := 155) rfl)) rfl
theorem mk_X4_init : MK M_X4_init 2 := ⟨wd_155, wd_5, ⟨by decide, by decide⟩, by decide +kernel, by decide +kernel, rfl⟩
theorem wd_314 : Cond.code yX4_forget cX4_forget 3 none ∈ wT := wT_in (tk_2 (List.mem_of_getElem? (i := 74) rfl)) rfl
theorem mk_X4_forget : MK M_X4_forget 0 := ⟨wd_314, wd_5, ⟨by decide, by decide⟩, by decide +kernel, by decide +kernel, rfl⟩
theorem wd_669 : Cond.code yX4_timesGot cX4_timesGot 3 (some .int) ∈ wT := wT_in (tk_3 (List.mem_of_getElem? (i := 189) rfl)) rfl
theorem mk_X4_timesGot : MK M_X4_timesGot 1 := ⟨wd_669, wd_5, ⟨by decide, by decide⟩, by decide +kernel, by decide +kernel, rfl⟩
theorem wd_850 : Cond.code yX4_spanOf cX4_spanOf 4 (some (.object "StrideWatch$Span")) ∈ wT := wT_in (tk_4 (List.mem_of_getElem? (i := 130) rfl)) rfl
theorem mk_X4_spanOf : MK M_X4_spanOf 2 := ⟨wd_850, wd_5, ⟨by decide, by decide⟩, by decide +kernel, by decide +kernel, rfl⟩
theorem wd_322 : Cond.code yX4_search cX4_search 5 (some .int) ∈ wT := wT_in (tk_2 (List.mem_of_getElem? (i := 82) rfl)) rfl
theorem mk_X4_search : MK M_X4_search 1 := ⟨wd_322, wd_5, ⟨by decide, by decide⟩, by decide +kernel, by decide +kernel, rfl⟩
theorem wd_433 : Cond.code yX4_pointIfMade cX4_pointIfMade 2 (some (.object "StrideWatch$Point")) ∈ wT := wT_in (tk_2 (List.mem_of_getElem? (i := 193) rfl)) rfl
theorem mk_X4_pointIfMade : MK M_X4_pointIfMade 1 := ⟨wd_433, wd_5, ⟨by decide, by decide⟩, by decide +kernel, by decide +kernel, rfl⟩
theorem wd_429 : Cond.code yX4_isWaiting cX4_isWaiting 3 (some .boolean) ∈ wT := wT_in (tk_2 (List.mem_of_getElem? (i := 189) rfl)) rfl
theorem mk_X4_isWaiting : MK M_X4_isWaiting 1 := ⟨wd_429, wd_5, ⟨by decide, by decide⟩, by decide +kernel, by decide +kernel, rfl⟩
theorem wd_437 : Cond.code yX4_goThrough cX4_goThrough 4 none ∈ wT := wT_in (tk_2 (List.mem_of_getElem? (i := 197) rfl)) rfl
theorem mk_X4_goThrough : MK M_X4_goThrough 1 := ⟨wd_437, wd_5, ⟨by decide, by decide⟩, by decide +kernel, by decide +kernel, rfl⟩
theorem wd_338 : Cond.code yX4_arrive cX4_arrive 7 none ∈ wT := wT_in (tk_2 (List.mem_of_getElem? (i := 98) rfl)) rfl
theorem mk_X4_arrive : MK M_X4_arrive 2 := ⟨wd_338, wd_5, ⟨by decide, by decide⟩, by decide +kernel, by decide +kernel, rfl⟩
theorem wd_365 : Cond.code yX4_absorb cX4_absorb 5 (some .boolean) ∈ wT := wT_in (tk_2 (List.mem_of_getElem? (i := 125) rfl)) rfl
theorem mk_X4_absorb : MK M_X4_absorb 2 := ⟨wd_365, wd_5, ⟨by decide, by decide⟩, by decide +kernel, by decide +kernel, rfl⟩
theorem wd_347 : Cond.code yX5_init cX5_init 1 none ∈ wT := wT_in (tk_2 (List.mem_of_getElem? (i := 107) rfl)) rfl
theorem mk_X5_init : MK M_X5_init 0 := ⟨wd_347, wd_18, ⟨by decide, by decide⟩, by decide +kernel, by decide +kernel, rfl⟩
theorem wd_253 : Cond.code yX6_init cX6_init 3 none ∈ wT := wT_in (tk_2 (List.mem_of_getElem? (i := 13) rfl)) rfl
theorem mk_X6_init : MK M_X6_init 2 := ⟨wd_253, wd_9, ⟨by decide, by decide⟩, by decide +kernel, by decide +kernel, rfl⟩
theorem wd_873 : Cond.code yX6_prepare cX6_prepare 4 none ∈ wT := wT_in (tk_4 (List.mem_of_getElem? (i := 153) rfl)) rfl
theorem mk_X6_prepare : MK M_X6_prepare 2 := ⟨wd_873, wd_9, ⟨by decide, by decide⟩, by decide +kernel, by decide +kernel, rfl⟩
theorem wd_677 : Cond.code yX6_begin cX6_begin 1 none ∈ wT := wT_in (tk_3 (List.mem_of_getElem? (i := 197) rfl)) rfl
theorem mk_X6_begin : MK M_X6_begin 0 := ⟨wd_677, wd_9, ⟨by decide, by decide⟩, by decide +kernel, by decide +kernel, rfl⟩
theorem wd_900 : Cond.code yX6_read cX6_read 2 (some .long) ∈ wT := wT_in (tk_4 (List.mem_of_getElem? (i := 180) rfl)) rfl
theorem mk_X6_read : MK M_X6_read 1 := ⟨wd_900, wd_9, ⟨by decide, by decide⟩, by decide +kernel, by decide +kernel, rfl⟩
theorem wd_887 : Cond.code yX6_doNext cX6_doNext 2 (some .int) ∈ wT := wT_in (tk_4 (List.mem_of_getElem? (i := 167) rfl)) rfl
theorem mk_X6_doNext : MK M_X6_doNext 0 := ⟨wd_887, wd_9, ⟨by decide, by decide⟩, by decide +kernel, by decide +kernel, rfl⟩
theorem wd_682 : Cond.code yX6_moveTo cX6_moveTo 3 none ∈ wT := wT_in (tk_3 (List.mem_of_getElem? (i := 202) rfl)) rfl
theorem mk_X6_moveTo : MK M_X6_moveTo 1 := ⟨wd_682, wd_9, ⟨by decide, by decide⟩, by decide +kernel, by decide +kernel, rfl⟩
theorem wd_892 : Cond.code yX6_isSo cX6_isSo 3 (some .boolean) ∈ wT := wT_in (tk_4 (List.mem_of_getElem? (i := 172) rfl)) rfl
theorem mk_X6_isSo : MK M_X6_isSo 1 := ⟨wd_892, wd_9, ⟨by decide, by decide⟩, by decide +kernel, by decide +kernel, rfl⟩
theorem wd_896 : Cond.code yX6_compute cX6_compute 6 none ∈ wT := wT_in (tk_4 (List.mem_of_getElem? (i := 176) rfl)) rfl
theorem mk_X6_compute : MK M_X6_compute 0 := ⟨wd_896, wd_9, ⟨by decide, by decide⟩, by decide +kernel, by decide +kernel, rfl⟩
theorem wd_904 : Cond.code yX6_atWidth cX6_atWidth 3 (some .long) ∈ wT := wT_in (tk_4 (List.mem_of_getElem? (i := 184) rfl)) rfl
theorem mk_X6_atWidth : MK M_X6_atWidth 1 := ⟨wd_904, wd_9, ⟨by decide, by decide⟩, by decide +kernel, by decide +kernel, rfl⟩
theorem wd_922 : Cond.code yX6_write cX6_write 4 none ∈ wT := wT_in (tk_4 (List.mem_of_getElem? (i := 202) rfl)) rfl
theorem mk_X6_write : MK M_X6_write 1 := ⟨wd_922, wd_9, ⟨by decide, by decide⟩, by decide +kernel, by decide +kernel, rfl⟩
theorem wd_908 : Cond.code yX6_sum cX6_sum 7 (some .long) ∈ wT := wT_in (tk_4 (List.mem_of_getElem? (i := 188) rfl)) rfl
theorem mk_X6_sum : MK M_X6_sum 2 := ⟨wd_908, wd_9, ⟨by decide, by decide⟩, by decide +kernel, by decide +kernel, rfl⟩
theorem wd_927 : Cond.code yX6_difference cX6_difference 7 (some .long) ∈ wT := wT_in (tk_4 (List.mem_of_getElem? (i := 207) rfl)) rfl
theorem mk_X6_difference : MK M_X6_difference 2 := ⟨wd_927, wd_9, ⟨by decide, by decide⟩, by decide +kernel, by decide +kernel, rfl⟩
theorem wd_931 : Cond.code yX6_nextTo cX6_nextTo 7 (some .long) ∈ wT := wT_in (tk_4 (List.mem_of_getElem? (i := 211) rfl)) rfl
theorem mk_X6_nextTo : MK M_X6_nextTo 2 := ⟨wd_931, wd_9, ⟨by decide, by decide⟩, by decide +kernel, by decide +kernel, rfl⟩
theorem wd_912 : Cond.code yX6_noteBits cX6_noteBits 5 (some .long) ∈ wT := wT_in (tk_4 (List.mem_of_getElem? (i := 192) rfl)) rfl
theorem mk_X6_noteBits : MK M_X6_noteBits 1 := ⟨wd_912, wd_9, ⟨by decide, by decide⟩, by decide +kernel, by decide +kernel, rfl⟩
theorem wd_936 : Cond.code yX6_shifted cX6_shifted 4 (some .long) ∈ wT := wT_in (tk_4 (List.mem_of_getElem? (i := 216) rfl)) rfl
theorem mk_X6_shifted : MK M_X6_shifted 1 := ⟨wd_936, wd_9, ⟨by decide, by decide⟩, by decide +kernel, by decide +kernel, rfl⟩
theorem wd_171 : Cond.code yX7_init cX7_init 1 none ∈ wT := wT_in (tk_1 (List.mem_of_getElem? (i := 171) rfl)) rfl
theorem mk_X7_init : MK M_X7_init 0 := ⟨wd_171, wd_7, ⟨by decide, by decide⟩, by decide +kernel, by decide +kernel, rfl⟩
theorem wd_801 : Cond.code yX7_isTriple cX7_isTriple 6 (some .boolean) ∈ wT := wT_in (tk_4 (List.mem_of_getElem? (i := 81) rfl)) rfl
theorem mk_X7_isTriple : MK M_X7_isTriple 3 := ⟨wd_801, wd_7, ⟨by decide, by decide⟩, by decide +kernel, by decide +kernel, rfl⟩
theorem wd_389 : Cond.code yX7_isAny cX7_isAny 1 (some .boolean) ∈ wT := wT_in (tk_2 (List.mem_of_getElem? (i := 149) rfl)) rfl
theorem mk_X7_isAny : MK M_X7_isAny 0 := ⟨wd_389, wd_7, ⟨by decide, by decide⟩, by decide +kernel, by decide +kernel, rfl⟩
theorem wd_660 : Cond.code yX7_isNone cX7_isNone 1 (some .boolean) ∈ wT := wT_in (tk_3 (List.mem_of_getElem? (i := 180) rfl)) rfl
theorem mk_X7_isNone : MK M_X7_isNone 0 := ⟨wd_660, wd_7, ⟨by decide, by decide⟩, by decide +kernel, by decide +kernel, rfl⟩
theorem wd_532 : Cond.code yX7_isSingle cX7_isSingle 1 (some .boolean) ∈ wT := wT_in (tk_3 (List.mem_of_getElem? (i := 52) rfl)) rfl
theorem mk_X7_isSingle : MK M_X7_isSingle 0 := ⟨wd_532, wd_7, ⟨by decide, by decide⟩, by decide +kernel, by decide +kernel, rfl⟩
theorem wd_563 : Cond.code yX7_isNatural cX7_isNatural 1 (some .boolean) ∈ wT := wT_in (tk_3 (List.mem_of_getElem? (i := 83) rfl)) rfl
theorem mk_X7_isNatural : MK M_X7_isNatural 0 := ⟨wd_563, wd_7, ⟨by decide, by decide⟩, by decide +kernel, by decide +kernel, rfl⟩
theorem wd_862 : Cond.code yX7_holds cX7_holds 3 (some .boolean) ∈ wT := wT_in (tk_4 (List.mem_of_getElem? (i := 142) rfl)) rfl
theorem mk_X7_holds : MK M_X7_holds 1 := ⟨wd_862, wd_7, ⟨by decide, by decide⟩, by decide +kernel, by decide +kernel, rfl⟩
theorem wd_403 : Cond.code yX7_become cX7_become 8 none ∈ wT := wT_in (tk_2 (List.mem_of_getElem? (i := 163) rfl)) rfl
theorem mk_X7_become : MK M_X7_become 3 := ⟨wd_403, wd_7, ⟨by decide, by decide⟩, by decide +kernel, by decide +kernel, rfl⟩
theorem wd_380 : Cond.code yX7_becomeAny cX7_becomeAny 1 none ∈ wT := wT_in (tk_2 (List.mem_of_getElem? (i := 140) rfl)) rfl
theorem mk_X7_becomeAny : MK M_X7_becomeAny 0 := ⟨wd_380, wd_7, ⟨by decide, by decide⟩, by decide +kernel, by decide +kernel, rfl⟩
theorem wd_628 : Cond.code yX7_becomeNone cX7_becomeNone 1 none ∈ wT := wT_in (tk_3 (List.mem_of_getElem? (i := 148) rfl)) rfl
theorem mk_X7_becomeNone : MK M_X7_becomeNone 0 := ⟨wd_628, wd_7, ⟨by decide, by decide⟩, by decide +kernel, by decide +kernel, rfl⟩
theorem wd_601 : Cond.code yX7_copyFrom cX7_copyFrom 2 none ∈ wT := wT_in (tk_3 (List.mem_of_getElem? (i := 121) rfl)) rfl
theorem mk_X7_copyFrom : MK M_X7_copyFrom 1 := ⟨wd_601, wd_7, ⟨by decide, by decide⟩, by decide +kernel, by decide +kernel, rfl⟩
theorem wd_385 : Cond.code yX7_join cX7_join 5 none ∈ wT := wT_in (tk_2 (List.mem_of_getElem? (i := 145) rfl)) rfl
theorem mk_X7_join : MK M_X7_join 2 := ⟨wd_385, wd_7, ⟨by decide, by decide⟩, by decide +kernel, by decide +kernel, rfl⟩
theorem wd_409 : Cond.code yX7_stretchFrom cX7_stretchFrom 2 none ∈ wT := wT_in (tk_2 (List.mem_of_getElem? (i := 169) rfl)) rfl
theorem mk_X7_stretchFrom : MK M_X7_stretchFrom 1 := ⟨wd_409, wd_7, ⟨by decide, by decide⟩, by decide +kernel, by decide +kernel, rfl⟩
theorem wd_624 : Cond.code yX7_cut cX7_cut 9 none ∈ wT := wT_in (tk_3 (List.mem_of_getElem? (i := 144) rfl)) rfl
theorem mk_X7_cut : MK M_X7_cut 2 := ⟨wd_624, wd_7, ⟨by decide, by decide⟩, by decide +kernel, by decide +kernel, rfl⟩
theorem wd_641 : Cond.code yX7_drop cX7_drop 3 none ∈ wT := wT_in (tk_3 (List.mem_of_getElem? (i := 161) rfl)) rfl
theorem mk_X7_drop : MK M_X7_drop 1 := ⟨wd_641, wd_7, ⟨by decide, by decide⟩, by decide +kernel, by decide +kernel, rfl⟩
theorem wd_547 : Cond.code yX7_operate cX7_operate 5 none ∈ wT := wT_in (tk_3 (List.mem_of_getElem? (i := 67) rfl)) rfl
theorem mk_X7_operate : MK M_X7_operate 4 := ⟨wd_547, wd_7, ⟨by decide, by decide⟩, by decide +kernel, by decide +kernel, rfl⟩
theorem wd_527 : Cond.code yX7_takeLowHalf cX7_takeLowHalf 5 none ∈ wT := wT_in (tk_3 (List.mem_of_getElem? (i := 47) rfl)) rfl
theorem mk_X7_takeLowHalf : MK M_X7_takeLowHalf 0 := ⟨wd_527, wd_7, ⟨by decide, by decide⟩, by decide +kernel, by decide +kernel, rfl⟩
theorem wd_523 : Cond.code yX7_takeSignedHalf cX7_takeSignedHalf 5 none ∈ wT := wT_in (tk_3 (List.mem_of_getElem? (i := 43) rfl)) rfl
theorem mk_X7_takeSignedHalf : MK M_X7_takeSignedHalf 0 := ⟨wd_523, wd_7, ⟨by decide, by decide⟩, by decide +kernel, by decide +kernel, rfl⟩
theorem wd_551 : Cond.code yX7_add cX7_add 3 none ∈ wT := wT_in (tk_3 (List.mem_of_getElem? (i := 71) rfl)) rfl
theorem mk_X7_add : MK M_X7_add 2 := ⟨wd_551, wd_7, ⟨by decide, by decide⟩, by decide +kernel, by decide +kernel, rfl⟩
theorem wd_555 : Cond.code yX7_subtract cX7_subtract 3 none ∈ wT := wT_in (tk_3 (List.mem_of_getElem? (i := 75) rfl)) rfl
theorem mk_X7_subtract : MK M_X7_subtract 2 := ⟨wd_555, wd_7, ⟨by decide, by decide⟩, by decide +kernel, by decide +kernel, rfl⟩
theorem wd_583 : Cond.code yX7_subtractFrom cX7_subtractFrom 4 none ∈ wT := wT_in (tk_3 (List.mem_of_getElem? (i := 103) rfl)) rfl
theorem mk_X7_subtractFrom : MK M_X7_subtractFrom 2 := ⟨wd_583, wd_7, ⟨by decide, by decide⟩, by decide +kernel, by decide +kernel, rfl⟩
theorem wd_559 : Cond.code yX7_and cX7_and 6 none ∈ wT := wT_in (tk_3 (List.mem_of_getElem? (i := 79) rfl)) rfl
theorem mk_X7_and : MK M_X7_and 2 := ⟨wd_559, wd_7, ⟨by decide, by decide⟩, by decide +kernel, by decide +kernel, rfl⟩
theorem wd_567 : Cond.code yX7_mix cX7_mix 6 none ∈ wT := wT_in (tk_3 (List.mem_of_getElem? (i := 87) rfl)) rfl
theorem mk_X7_mix : MK M_X7_mix 3 := ⟨wd_567, wd_7, ⟨by decide, by decide⟩, by decide +kernel, by decide +kernel, rfl⟩
theorem wd_597 : Cond.code yX7_shiftRight cX7_shiftRight 6 none ∈ wT := wT_in (tk_3 (List.mem_of_getElem? (i := 117) rfl)) rfl
theorem mk_X7_shiftRight : MK M_X7_shiftRight 2 := ⟨wd_597, wd_7, ⟨by decide, by decide⟩, by decide +kernel, by decide +kernel, rfl⟩
theorem wd_587 : Cond.code yX7_multiply cX7_multiply 17 none ∈ wT := wT_in (tk_3 (List.mem_of_getElem? (i := 107) rfl)) rfl
theorem mk_X7_multiply : MK M_X7_multiply 2 := ⟨wd_587, wd_7, ⟨by decide, by decide⟩, by decide +kernel, by decide +kernel, rfl⟩
theorem wd_591 : Cond.code yX7_isFactor cX7_isFactor 1 (some .boolean) ∈ wT := wT_in (tk_3 (List.mem_of_getElem? (i := 111) rfl)) rfl
theorem mk_X7_isFactor : MK M_X7_isFactor 0 := ⟨wd_591, wd_7, ⟨by decide, by decide⟩, by decide +kernel, by decide +kernel, rfl⟩
theorem wd_393 : Cond.code yX7_gcd cX7_gcd 11 (some .long) ∈ wT := wT_in (tk_2 (List.mem_of_getElem? (i := 153) rfl)) rfl
theorem mk_X7_gcd : MK M_X7_gcd 2 := ⟨wd_393, wd_7, ⟨by decide, by decide⟩, by decide +kernel, by decide +kernel, rfl⟩
theorem wd_118 : Cond.code yX8_init cX8_init 2 none ∈ wT := wT_in (tk_1 (List.mem_of_getElem? (i := 118) rfl)) rfl
theorem mk_X8_init : MK M_X8_init 0 := ⟨wd_118, wd_4, ⟨by decide, by decide⟩, by decide +kernel, by decide +kernel, rfl⟩
theorem wd_417 : Cond.code yX8_keep cX8_keep 8 none ∈ wT := wT_in (tk_2 (List.mem_of_getElem? (i := 177) rfl)) rfl
theorem mk_X8_keep : MK M_X8_keep 4 := ⟨wd_417, wd_4, ⟨by decide, by decide⟩, by decide +kernel, by decide +kernel, rfl⟩
theorem wd_413 : Cond.code yX8_store cX8_store 3 none ∈ wT := wT_in (tk_2 (List.mem_of_getElem? (i := 173) rfl)) rfl
theorem mk_X8_store : MK M_X8_store 2 := ⟨wd_413, wd_4, ⟨by decide, by decide⟩, by decide +kernel, by decide +kernel, rfl⟩
theorem wd_373 : Cond.code yX8_load cX8_load 3 none ∈ wT := wT_in (tk_2 (List.mem_of_getElem? (i := 133) rfl)) rfl
theorem mk_X8_load : MK M_X8_load 2 := ⟨wd_373, wd_4, ⟨by decide, by decide⟩, by decide +kernel, by decide +kernel, rfl⟩
theorem wd_327 : Cond.code yX8_copyFrom cX8_copyFrom 2 none ∈ wT := wT_in (tk_2 (List.mem_of_getElem? (i := 87) rfl)) rfl
theorem mk_X8_copyFrom : MK M_X8_copyFrom 1 := ⟨wd_327, wd_4, ⟨by decide, by decide⟩, by decide +kernel, by decide +kernel, rfl⟩
theorem wd_334 : Cond.code yX8_setRecord cX8_setRecord 6 none ∈ wT := wT_in (tk_2 (List.mem_of_getElem? (i := 94) rfl)) rfl
theorem mk_X8_setRecord : MK M_X8_setRecord 4 := ⟨wd_334, wd_4, ⟨by decide, by decide⟩, by decide +kernel, by decide +kernel, rfl⟩
theorem wd_425 : Cond.code yX8_dropRecord cX8_dropRecord 1 none ∈ wT := wT_in (tk_2 (List.mem_of_getElem? (i := 185) rfl)) rfl
theorem mk_X8_dropRecord : MK M_X8_dropRecord 0 := ⟨wd_425, wd_4, ⟨by decide, by decide⟩, by decide +kernel, by decide +kernel, rfl⟩
theorem wd_421 : Cond.code yX8_isSameRecord cX8_isSameRecord 2 (some .boolean) ∈ wT := wT_in (tk_2 (List.mem_of_getElem? (i := 181) rfl)) rfl
theorem mk_X8_isSameRecord : MK M_X8_isSameRecord 1 := ⟨wd_421, wd_4, ⟨by decide, by decide⟩, by decide +kernel, by decide +kernel, rfl⟩
theorem wd_369 : Cond.code yX8_isSameSpan cX8_isSameSpan 3 (some .boolean) ∈ wT := wT_in (tk_2 (List.mem_of_getElem? (i := 129) rfl)) rfl
theorem mk_X8_isSameSpan : MK M_X8_isSameSpan 2 := ⟨wd_369, wd_4, ⟨by decide, by decide⟩, by decide +kernel, by decide +kernel, rfl⟩
theorem wd_25 : Cond.code yX9_init cX9_init 1 none ∈ wT := wT_in (tk_1 (List.mem_of_getElem? (i := 25) rfl)) rfl
theorem mk_X9_init : MK M_X9_init 0 := ⟨wd_25, wd_1, ⟨by decide, by decide⟩, by decide +kernel, by decide +kernel, rfl⟩
theorem wd_696 : Cond.code yX9_feed cX9_feed 6 (some .int) ∈ wT := wT_in (tk_3 (List.mem_of_getElem? (i := 216) rfl)) rfl
theorem mk_X9_feed : MK M_X9_feed 5 := ⟨wd_696, wd_1, ⟨by decide, by decide⟩, by decide +kernel, by decide +kernel, rfl⟩
theorem wd_306 : Cond.code yX9_erase cX9_erase 2 (some .int) ∈ wT := wT_in (tk_2 (List.mem_of_getElem? (i := 66) rfl)) rfl
theorem mk_X9_erase : MK M_X9_erase 0 := ⟨wd_306, wd_1, ⟨by decide, by decide⟩, by decide +kernel, by decide +kernel, rfl⟩
theorem wd_793 : Cond.code yX9_given cX9_given 8 none ∈ wT := wT_in (tk_4 (List.mem_of_getElem? (i := 73) rfl)) rfl
theorem mk_X9_given : MK M_X9_given 4 := ⟨wd_793, wd_1, ⟨by decide, by decide⟩, by decide +kernel, by decide +kernel, rfl⟩
theorem wd_810 : Cond.code yX9_any cX9_any 2 none ∈ wT := wT_in (tk_4 (List.mem_of_getElem? (i := 90) rfl)) rfl
theorem mk_X9_any : MK M_X9_any 1 := ⟨wd_810, wd_1, ⟨by decide, by decide⟩, by decide +kernel, by decide +kernel, rfl⟩
theorem wd_818 : Cond.code yX9_decode cX9_decode 3 (some .int) ∈ wT := wT_in (tk_4 (List.mem_of_getElem? (i := 98) rfl)) rfl
theorem mk_X9_decode : MK M_X9_decode 2 := ⟨wd_818, wd_1, ⟨by decide, by decide⟩, by decide +kernel, by decide +kernel, rfl⟩
theorem wd_837 : Cond.code yX9_constant cX9_constant 2 (some .long) ∈ wT := wT_in (tk_4 (List.mem_of_getElem? (i := 117) rfl)) rfl
theorem mk_X9_constant : MK M_X9_constant 1 := ⟨wd_837, wd_1, ⟨by decide, by decide⟩, by decide +kernel, by decide +kernel, rfl⟩
theorem wd_318 : Cond.code yX9_look cX9_look 1 (some .int) ∈ wT := wT_in (tk_2 (List.mem_of_getElem? (i := 78) rfl)) rfl
theorem mk_X9_look : MK M_X9_look 0 := ⟨wd_318, wd_1, ⟨by decide, by decide⟩, by decide +kernel, by decide +kernel, rfl⟩
theorem wd_665 : Cond.code yX9_reached cX9_reached 2 (some .int) ∈ wT := wT_in (tk_3 (List.mem_of_getElem? (i := 185) rfl)) rfl
theorem mk_X9_reached : MK M_X9_reached 1 := ⟨wd_665, wd_1, ⟨by decide, by decide⟩, by decide +kernel, by decide +kernel, rfl⟩
theorem wd_844 : Cond.code yX9_set cX9_set 5 (some .long) ∈ wT := wT_in (tk_4 (List.mem_of_getElem? (i := 124) rfl)) rfl
theorem mk_X9_set : MK M_X9_set 3 := ⟨wd_844, wd_1, ⟨by decide, by decide⟩, by decide +kernel, by decide +kernel, rfl⟩
theorem wd_858 : Cond.code yX9_has cX9_has 5 (some .boolean) ∈ wT := wT_in (tk_4 (List.mem_of_getElem? (i := 138) rfl)) rfl
theorem mk_X9_has : MK M_X9_has 3 := ⟨wd_858, wd_1, ⟨by decide, by decide⟩, by decide +kernel, by decide +kernel, rfl⟩
theorem wd_673 : Cond.code yX9_start cX9_start 1 none ∈ wT := wT_in (tk_3 (List.mem_of_getElem? (i := 193) rfl)) rfl
theorem mk_X9_start : MK M_X9_start 0 := ⟨wd_673, wd_1, ⟨by decide, by decide⟩, by decide +kernel, by decide +kernel, rfl⟩
theorem wd_869 : Cond.code yX9_put cX9_put 4 none ∈ wT := wT_in (tk_4 (List.mem_of_getElem? (i := 149) rfl)) rfl
theorem mk_X9_put : MK M_X9_put 2 := ⟨wd_869, wd_1, ⟨by decide, by decide⟩, by decide +kernel, by decide +kernel, rfl⟩
theorem wd_881 : Cond.code yX9_go cX9_go 4 (some .int) ∈ wT := wT_in (tk_4 (List.mem_of_getElem? (i := 161) rfl)) rfl
theorem mk_X9_go : MK M_X9_go 1 := ⟨wd_881, wd_1, ⟨by decide, by decide⟩, by decide +kernel, by decide +kernel, rfl⟩
theorem wd_687 : Cond.code yX9_at cX9_at 1 (some .int) ∈ wT := wT_in (tk_3 (List.mem_of_getElem? (i := 207) rfl)) rfl
theorem mk_X9_at : MK M_X9_at 0 := ⟨wd_687, wd_1, ⟨by decide, by decide⟩, by decide +kernel, by decide +kernel, rfl⟩
theorem wd_943 : Cond.code yX9_value cX9_value 2 (some .long) ∈ wT := wT_in (tk_4 (List.mem_of_getElem? (i := 223) rfl)) rfl
theorem mk_X9_value : MK M_X9_value 1 := ⟨wd_943, wd_1, ⟨by decide, by decide⟩, by decide +kernel, by decide +kernel, rfl⟩
theorem wd_310 : Cond.code yX9_forgetFindings cX9_forgetFindings 1 none ∈ wT := wT_in (tk_2 (List.mem_of_getElem? (i := 70) rfl)) rfl
theorem mk_X9_forgetFindings : MK M_X9_forgetFindings 0 := ⟨wd_310, wd_1, ⟨by decide, by decide⟩, by decide +kernel, by decide +kernel, rfl⟩
theorem wd_822 : Cond.code yX9_requireByte cX9_requireByte 2 none ∈ wT := wT_in (tk_4 (List.mem_of_getElem? (i := 102) rfl)) rfl
theorem mk_X9_requireByte : MK M_X9_requireByte 1 := ⟨wd_822, wd_1, ⟨by decide, by decide⟩, by decide +kernel, by decide +kernel, rfl⟩
theorem wd_796 : Cond.code yX9_requireLocation cX9_requireLocation 1 none ∈ wT := wT_in (tk_4 (List.mem_of_getElem? (i := 76) rfl)) rfl
theorem mk_X9_requireLocation : MK M_X9_requireLocation 1 := ⟨wd_796, wd_1, ⟨by decide, by decide⟩, by decide +kernel, by decide +kernel, rfl⟩
theorem wd_376 : Cond.code yX9_isLocation cX9_isLocation 1 (some .boolean) ∈ wT := wT_in (tk_2 (List.mem_of_getElem? (i := 136) rfl)) rfl
theorem mk_X9_isLocation : MK M_X9_isLocation 1 := ⟨wd_376, wd_1, ⟨by decide, by decide⟩, by decide +kernel, by decide +kernel, rfl⟩
theorem wd_949 : Cond.code yX10_init cX10_init 2 none ∈ wT := wT_in (tk_4 (List.mem_of_getElem? (i := 229) rfl)) rfl
theorem mk_X10_init : MK M_X10_init 0 := ⟨wd_949, wd_10, ⟨by decide, by decide⟩, by decide +kernel, by decide +kernel, rfl⟩
theorem wd_1067 : Cond.code yX10_thrown cX10_thrown 1 (some .int) ∈ wT := wT_in (tk_5 (List.mem_of_getElem? (i := 107) rfl)) rfl
theorem mk_X10_thrown : MK M_X10_thrown 0 := ⟨wd_1067, wd_10, ⟨by decide, by decide⟩, by decide +kernel, by decide +kernel, rfl⟩
theorem wd_1079 : Cond.code yX10_refused cX10_refused 2 (some .boolean) ∈ wT := wT_in (tk_5 (List.mem_of_getElem? (i := 119) rfl)) rfl
theorem mk_X10_refused : MK M_X10_refused 1 := ⟨wd_1079, wd_10, ⟨by decide, by decide⟩, by decide +kernel, by decide +kernel, rfl⟩
theorem wd_1075 : Cond.code yX10_isIn cX10_isIn 6 (some .boolean) ∈ wT := wT_in (tk_5 (List.mem_of_getElem? (i := 115) rfl)) rfl
theorem mk_X10_isIn : MK M_X10_isIn 3 := ⟨wd_1075, wd_10, ⟨by decide, by decide⟩, by decide +kernel, by decide +kernel, rfl⟩
theorem wd_1083 : Cond.code yX10_forget cX10_forget 2 none ∈ wT := wT_in (tk_5 (List.mem_of_getElem? (i := 123) rfl)) rfl
theorem mk_X10_forget : MK M_X10_forget 0 := ⟨wd_1083, wd_10, ⟨by decide, by decide⟩, by decide +kernel, by decide +kernel, rfl⟩
theorem wd_1071 : Cond.code yX10_feed cX10_feed 8 (some .int) ∈ wT := wT_in (tk_5 (List.mem_of_getElem? (i := 111) rfl)) rfl
theorem mk_X10_feed : MK M_X10_feed 5 := ⟨wd_1071, wd_10, ⟨by decide, by decide⟩, by decide +kernel, by decide +kernel, rfl⟩
theorem wd_1087 : Cond.code yX10_erase cX10_erase 2 (some .int) ∈ wT := wT_in (tk_5 (List.mem_of_getElem? (i := 127) rfl)) rfl
theorem mk_X10_erase : MK M_X10_erase 0 := ⟨wd_1087, wd_10, ⟨by decide, by decide⟩, by decide +kernel, by decide +kernel, rfl⟩
theorem wd_1104 : Cond.code yX10_next cX10_next 1 (some .int) ∈ wT := wT_in (tk_5 (List.mem_of_getElem? (i := 144) rfl)) rfl
theorem mk_X10_next : MK M_X10_next 0 := ⟨wd_1104, wd_10, ⟨by decide, by decide⟩, by decide +kernel, by decide +kernel, rfl⟩
theorem wd_1116 : Cond.code yX10_number cX10_number 5 (some .long) ∈ wT := wT_in (tk_5 (List.mem_of_getElem? (i := 156) rfl)) rfl
theorem mk_X10_number : MK M_X10_number 1 := ⟨wd_1116, wd_10, ⟨by decide, by decide⟩, by decide +kernel, by decide +kernel, rfl⟩
theorem wd_1112 : Cond.code yX10_readPlaces cX10_readPlaces 4 none ∈ wT := wT_in (tk_5 (List.mem_of_getElem? (i := 152) rfl)) rfl
theorem mk_X10_readPlaces : MK M_X10_readPlaces 1 := ⟨wd_1112, wd_10, ⟨by decide, by decide⟩, by decide +kernel, by decide +kernel, rfl⟩
theorem wd_1100 : Cond.code yX10_take cX10_take 4 none ∈ wT := wT_in (tk_5 (List.mem_of_getElem? (i := 140) rfl)) rfl
theorem mk_X10_take : MK M_X10_take 3 := ⟨wd_1100, wd_10, ⟨by decide, by decide⟩, by decide +kernel, by decide +kernel, rfl⟩
theorem wd_1119 : Cond.code yX10_isSimple cX10_isSimple 1 (some .boolean) ∈ wT := wT_in (tk_5 (List.mem_of_getElem? (i := 159) rfl)) rfl
theorem mk_X10_isSimple : MK M_X10_isSimple 1 := ⟨wd_1119, wd_10, ⟨by decide, by decide⟩, by decide +kernel, by decide +kernel, rfl⟩
theorem wd_1096 : Cond.code yX10_read cX10_read 5 (some .boolean) ∈ wT := wT_in (tk_5 (List.mem_of_getElem? (i := 136) rfl)) rfl
theorem mk_X10_read : MK M_X10_read 1 := ⟨wd_1096, wd_10, ⟨by decide, by decide⟩, by decide +kernel, by decide +kernel, rfl⟩
theorem wd_1108 : Cond.code yX10_readRest cX10_readRest 3 none ∈ wT := wT_in (tk_5 (List.mem_of_getElem? (i := 148) rfl)) rfl
theorem mk_X10_readRest : MK M_X10_readRest 2 := ⟨wd_1108, wd_10, ⟨by decide, by decide⟩, by decide +kernel, by decide +kernel, rfl⟩
theorem wd_1123 : Cond.code yX10_readTwo cX10_readTwo 3 none ∈ wT := wT_in (tk_5 (List.mem_of_getElem? (i := 163) rfl)) rfl
theorem mk_X10_readTwo : MK M_X10_readTwo 2 := ⟨wd_1123, wd_10, ⟨by decide, by decide⟩, by decide +kernel, by decide +kernel, rfl⟩
theorem wd_1127 : Cond.code yX10_readIf cX10_readIf 3 none ∈ wT := wT_in (tk_5 (List.mem_of_getElem? (i := 167) rfl)) rfl
theorem mk_X10_readIf : MK M_X10_readIf 2 := ⟨wd_1127, wd_10, ⟨by decide, by decide⟩, by decide +kernel, by decide +kernel, rfl⟩
theorem wd_1131 : Cond.code yX10_readJumps cX10_readJumps 2 none ∈ wT := wT_in (tk_5 (List.mem_of_getElem? (i := 171) rfl)) rfl
theorem mk_X10_readJumps : MK M_X10_readJumps 1 := ⟨wd_1131, wd_10, ⟨by decide, by decide⟩, by decide +kernel, by decide +kernel, rfl⟩
theorem wd_1091 : Cond.code yX10_decode cX10_decode 3 (some .int) ∈ wT := wT_in (tk_5 (List.mem_of_getElem? (i := 131) rfl)) rfl
theorem mk_X10_decode : MK M_X10_decode 2 := ⟨wd_1091, wd_10, ⟨by decide, by decide⟩, by decide +kernel, by decide +kernel, rfl⟩
theorem wd_1135 : Cond.code yX10_constant cX10_constant 2 (some .long) ∈ wT := wT_in (tk_5 (List.mem_of_getElem? (i := 175) rfl)) rfl
theorem mk_X10_constant : MK M_X10_constant 1 := ⟨wd_1135, wd_10, ⟨by decide, by decide⟩, by decide +kernel, by decide +kernel, rfl⟩
theorem wd_1190 : Cond.code yX10_gcd cX10_gcd 10 (some .long) ∈ wT := wT_in (tk_5 (List.mem_of_getElem? (i := 230) rfl)) rfl
theorem mk_X10_gcd : MK M_X10_gcd 2 := ⟨wd_1190, wd_10, ⟨by decide, by decide⟩, by decide +kernel, by decide +kernel, rfl⟩
theorem wd_1167 : Cond.code yX10_make cX10_make 10 none ∈ wT := wT_in (tk_5 (List.mem_of_getElem? (i := 207) rfl)) rfl
theorem mk_X10_make : MK M_X10_make 5 := ⟨wd_1167, wd_10, ⟨by decide, by decide⟩, by decide +kernel, by decide +kernel, rfl⟩
theorem wd_1143 : Cond.code yX10_copy cX10_copy 3 none ∈ wT := wT_in (tk_5 (List.mem_of_getElem? (i := 183) rfl)) rfl
theorem mk_X10_copy : MK M_X10_copy 2 := ⟨wd_1143, wd_10, ⟨by decide, by decide⟩, by decide +kernel, by decide +kernel, rfl⟩
theorem wd_1302 : Cond.code yX10_isSame cX10_isSame 3 (some .boolean) ∈ wT := wT_in (tk_6 (List.mem_of_getElem? (i := 102) rfl)) rfl
theorem mk_X10_isSame : MK M_X10_isSame 2 := ⟨wd_1302, wd_10, ⟨by decide, by decide⟩, by decide +kernel, by decide +kernel, rfl⟩
theorem wd_1185 : Cond.code yX10_isOne cX10_isOne 2 (some .boolean) ∈ wT := wT_in (tk_5 (List.mem_of_getElem? (i := 225) rfl)) rfl
theorem mk_X10_isOne : MK M_X10_isOne 1 := ⟨wd_1185, wd_10, ⟨by decide, by decide⟩, by decide +kernel, by decide +kernel, rfl⟩
theorem wd_1224 : Cond.code yX10_isNumber cX10_isNumber 4 (some .boolean) ∈ wT := wT_in (tk_6 (List.mem_of_getElem? (i := 24) rfl)) rfl
theorem mk_X10_isNumber : MK M_X10_isNumber 2 := ⟨wd_1224, wd_10, ⟨by decide, by decide⟩, by decide +kernel, by decide +kernel, rfl⟩
theorem wd_1163 : Cond.code yX10_one cX10_one 4 none ∈ wT := wT_in (tk_5 (List.mem_of_getElem? (i := 203) rfl)) rfl
theorem mk_X10_one : MK M_X10_one 2 := ⟨wd_1163, wd_10, ⟨by decide, by decide⟩, by decide +kernel, by decide +kernel, rfl⟩
theorem wd_1270 : Cond.code yX10_contains cX10_contains 4 (some .boolean) ∈ wT := wT_in (tk_6 (List.mem_of_getElem? (i := 70) rfl)) rfl
theorem mk_X10_contains : MK M_X10_contains 2 := ⟨wd_1270, wd_10, ⟨by decide, by decide⟩, by decide +kernel, by decide +kernel, rfl⟩
theorem wd_1203 : Cond.code yX10_isPlain cX10_isPlain 4 (some .boolean) ∈ wT := wT_in (tk_6 (List.mem_of_getElem? (i := 3) rfl)) rfl
theorem mk_X10_isPlain : MK M_X10_isPlain 3 := ⟨wd_1203, wd_10, ⟨by decide, by decide⟩, by decide +kernel, by decide +kernel, rfl⟩
theorem wd_1298 : Cond.code yX10_join cX10_join 8 none ∈ wT := wT_in (tk_6 (List.mem_of_getElem? (i := 98) rfl)) rfl
theorem mk_X10_join : MK M_X10_join 3 := ⟨wd_1298, wd_10, ⟨by decide, by decide⟩, by decide +kernel, by decide +kernel, rfl⟩
theorem wd_1294 : Cond.code yX10_widen cX10_widen 14 none ∈ wT := wT_in (tk_6 (List.mem_of_getElem? (i := 94) rfl)) rfl
theorem mk_X10_widen : MK M_X10_widen 3 := ⟨wd_1294, wd_10, ⟨by decide, by decide⟩, by decide +kernel, by decide +kernel, rfl⟩
theorem wd_1274 : Cond.code yX10_cut cX10_cut 15 none ∈ wT := wT_in (tk_6 (List.mem_of_getElem? (i := 74) rfl)) rfl
theorem mk_X10_cut : MK M_X10_cut 6 := ⟨wd_1274, wd_10, ⟨by decide, by decide⟩, by decide +kernel, by decide +kernel, rfl⟩
theorem wd_1199 : Cond.code yX10_add cX10_add 4 none ∈ wT := wT_in (tk_5 (List.mem_of_getElem? (i := 239) rfl)) rfl
theorem mk_X10_add : MK M_X10_add 3 := ⟨wd_1199, wd_10, ⟨by decide, by decide⟩, by decide +kernel, by decide +kernel, rfl⟩
theorem wd_1211 : Cond.code yX10_negate cX10_negate 3 none ∈ wT := wT_in (tk_6 (List.mem_of_getElem? (i := 11) rfl)) rfl
theorem mk_X10_negate : MK M_X10_negate 2 := ⟨wd_1211, wd_10, ⟨by decide, by decide⟩, by decide +kernel, by decide +kernel, rfl⟩
theorem wd_1207 : Cond.code yX10_subtract cX10_subtract 4 none ∈ wT := wT_in (tk_6 (List.mem_of_getElem? (i := 7) rfl)) rfl
theorem mk_X10_subtract : MK M_X10_subtract 3 := ⟨wd_1207, wd_10, ⟨by decide, by decide⟩, by decide +kernel, by decide +kernel, rfl⟩
theorem wd_1233 : Cond.code yX10_times cX10_times 20 none ∈ wT := wT_in (tk_6 (List.mem_of_getElem? (i := 33) rfl)) rfl
theorem mk_X10_times : MK M_X10_times 3 := ⟨wd_1233, wd_10, ⟨by decide, by decide⟩, by decide +kernel, by decide +kernel, rfl⟩
theorem wd_1220 : Cond.code yX10_and cX10_and 8 none ∈ wT := wT_in (tk_6 (List.mem_of_getElem? (i := 20) rfl)) rfl
theorem mk_X10_and : MK M_X10_and 3 := ⟨wd_1220, wd_10, ⟨by decide, by decide⟩, by decide +kernel, by decide +kernel, rfl⟩
theorem wd_1215 : Cond.code yX10_or cX10_or 11 none ∈ wT := wT_in (tk_6 (List.mem_of_getElem? (i := 15) rfl)) rfl
theorem mk_X10_or : MK M_X10_or 4 := ⟨wd_1215, wd_10, ⟨by decide, by decide⟩, by decide +kernel, by decide +kernel, rfl⟩
theorem wd_1242 : Cond.code yX10_shiftDown cX10_shiftDown 7 none ∈ wT := wT_in (tk_6 (List.mem_of_getElem? (i := 42) rfl)) rfl
theorem mk_X10_shiftDown : MK M_X10_shiftDown 3 := ⟨wd_1242, wd_10, ⟨by decide, by decide⟩, by decide +kernel, by decide +kernel, rfl⟩
theorem wd_1238 : Cond.code yX10_shiftZero cX10_shiftZero 4 none ∈ wT := wT_in (tk_6 (List.mem_of_getElem? (i := 38) rfl)) rfl
theorem mk_X10_shiftZero : MK M_X10_shiftZero 3 := ⟨wd_1238, wd_10, ⟨by decide, by decide⟩, by decide +kernel, by decide +kernel, rfl⟩
theorem wd_1181 : Cond.code yX10_lowPart cX10_lowPart 7 none ∈ wT := wT_in (tk_5 (List.mem_of_getElem? (i := 221) rfl)) rfl
theorem mk_X10_lowPart : MK M_X10_lowPart 2 := ⟨wd_1181, wd_10, ⟨by decide, by decide⟩, by decide +kernel, by decide +kernel, rfl⟩
theorem wd_1177 : Cond.code yX10_signed cX10_signed 9 none ∈ wT := wT_in (tk_5 (List.mem_of_getElem? (i := 217) rfl)) rfl
theorem mk_X10_signed : MK M_X10_signed 2 := ⟨wd_1177, wd_10, ⟨by decide, by decide⟩, by decide +kernel, by decide +kernel, rfl⟩
theorem wd_1159 : Cond.code yX10_operand cX10_operand 2 none ∈ wT := wT_in (tk_5 (List.mem_of_getElem? (i := 199) rfl)) rfl
theorem mk_X10_operand : MK M_X10_operand 1 := ⟨wd_1159, wd_10, ⟨by decide, by decide⟩, by decide +kernel, by decide +kernel, rfl⟩
theorem wd_1155 : Cond.code yX10_act cX10_act 5 none ∈ wT := wT_in (tk_5 (List.mem_of_getElem? (i := 195) rfl)) rfl
theorem mk_X10_act : MK M_X10_act 1 := ⟨wd_1155, wd_10, ⟨by decide, by decide⟩, by decide +kernel, by decide +kernel, rfl⟩
theorem wd_1173 : Cond.code yX10_narrowed cX10_narrowed 3 none ∈ wT := wT_in (tk_5 (List.mem_of_getElem? (i := 213) rfl)) rfl
theorem mk_X10_narrowed : MK M_X10_narrowed 2 := ⟨wd_1173, wd_10, ⟨by decide, by decide⟩, by decide +kernel, by decide +kernel, rfl⟩
theorem wd_1195 : Cond.code yX10_work cX10_work 1 none ∈ wT := wT_in (tk_5 (List.mem_of_getElem? (i := 235) rfl)) rfl
theorem mk_X10_work : MK M_X10_work 0 := ⟨wd_1195, wd_10, ⟨by decide, by decide⟩, by decide +kernel, by decide +kernel, rfl⟩
theorem wd_1229 : Cond.code yX10_workMore cX10_workMore 1 none ∈ wT := wT_in (tk_6 (List.mem_of_getElem? (i := 29) rfl)) rfl
theorem mk_X10_workMore : MK M_X10_workMore 0 := ⟨wd_1229, wd_10, ⟨by decide, by decide⟩, by decide +kernel, by decide +kernel, rfl⟩
theorem wd_1246 : Cond.code yX10_note cX10_note 2 none ∈ wT := wT_in (tk_6 (List.mem_of_getElem? (i := 46) rfl)) rfl
theorem mk_X10_note : MK M_X10_note 0 := ⟨wd_1246, wd_10, ⟨by decide, by decide⟩, by decide +kernel, by decide +kernel, rfl⟩
theorem wd_1306 : Cond.code yX10_isSameRecord cX10_isSameRecord 4 (some .boolean) ∈ wT := wT_in (tk_6 (List.mem_of_getElem? (i := 106) rfl)) rfl
theorem mk_X10_isSameRecord : MK M_X10_isSameRecord 2 := ⟨wd_1306, wd_10, ⟨by decide, by decide⟩, by decide +kernel, by decide +kernel, rfl⟩
theorem wd_1151 : Cond.code yX10_copyRecord cX10_copyRecord 3 none ∈ wT := wT_in (tk_5 (List.mem_of_getElem? (i := 191) rfl)) rfl
theorem mk_X10_copyRecord : MK M_X10_copyRecord 2 := ⟨wd_1151, wd_10, ⟨by decide, by decide⟩, by decide +kernel, by decide +kernel, rfl⟩
theorem wd_1278 : Cond.code yX10_lay cX10_lay 3 none ∈ wT := wT_in (tk_6 (List.mem_of_getElem? (i := 78) rfl)) rfl
theorem mk_X10_lay : MK M_X10_lay 2 := ⟨wd_1278, wd_10, ⟨by decide, by decide⟩, by decide +kernel, by decide +kernel, rfl⟩
theorem wd_1262 : Cond.code yX10_without cX10_without 5 none ∈ wT := wT_in (tk_6 (List.mem_of_getElem? (i := 62) rfl)) rfl
theorem mk_X10_without : MK M_X10_without 3 := ⟨wd_1262, wd_10, ⟨by decide, by decide⟩, by decide +kernel, by decide +kernel, rfl⟩
theorem wd_1266 : Cond.code yX10_only cX10_only 5 none ∈ wT := wT_in (tk_6 (List.mem_of_getElem? (i := 66) rfl)) rfl
theorem mk_X10_only : MK M_X10_only 3 := ⟨wd_1266, wd_10, ⟨by decide, by decide⟩, by decide +kernel, by decide +kernel, rfl⟩
theorem wd_1258 : Cond.code yX10_equal cX10_equal 4 none ∈ wT := wT_in (tk_6 (List.mem_of_getElem? (i := 58) rfl)) rfl
theorem mk_X10_equal : MK M_X10_equal 3 := ⟨wd_1258, wd_10, ⟨by decide, by decide⟩, by decide +kernel, by decide +kernel, rfl⟩
theorem wd_1282 : Cond.code yX10_below cX10_below 9 none ∈ wT := wT_in (tk_6 (List.mem_of_getElem? (i := 82) rfl)) rfl
theorem mk_X10_below : MK M_X10_below 4 := ⟨wd_1282, wd_10, ⟨by decide, by decide⟩, by decide +kernel, by decide +kernel, rfl⟩
theorem wd_1286 : Cond.code yX10_lower cX10_lower 9 none ∈ wT := wT_in (tk_6 (List.mem_of_getElem? (i := 86) rfl)) rfl
theorem mk_X10_lower : MK M_X10_lower 4 := ⟨wd_1286, wd_10, ⟨by decide, by decide⟩, by decide +kernel, by decide +kernel, rfl⟩
theorem wd_1254 : Cond.code yX10_compared cX10_compared 4 none ∈ wT := wT_in (tk_6 (List.mem_of_getElem? (i := 54) rfl)) rfl
theorem mk_X10_compared : MK M_X10_compared 3 := ⟨wd_1254, wd_10, ⟨by decide, by decide⟩, by decide +kernel, by decide +kernel, rfl⟩
theorem wd_1250 : Cond.code yX10_goAlong cX10_goAlong 5 (some .boolean) ∈ wT := wT_in (tk_6 (List.mem_of_getElem? (i := 50) rfl)) rfl
theorem mk_X10_goAlong : MK M_X10_goAlong 1 := ⟨wd_1250, wd_10, ⟨by decide, by decide⟩, by decide +kernel, by decide +kernel, rfl⟩
theorem wd_1290 : Cond.code yX10_arrive cX10_arrive 7 none ∈ wT := wT_in (tk_6 (List.mem_of_getElem? (i := 90) rfl)) rfl
theorem mk_X10_arrive : MK M_X10_arrive 2 := ⟨wd_1290, wd_10, ⟨by decide, by decide⟩, by decide +kernel, by decide +kernel, rfl⟩
theorem wd_1147 : Cond.code yX10_goThrough cX10_goThrough 6 none ∈ wT := wT_in (tk_5 (List.mem_of_getElem? (i := 187) rfl)) rfl
theorem mk_X10_goThrough : MK M_X10_goThrough 1 := ⟨wd_1147, wd_10, ⟨by decide, by decide⟩, by decide +kernel, by decide +kernel, rfl⟩
theorem wd_1139 : Cond.code yX10_look cX10_look 4 (some .int) ∈ wT := wT_in (tk_5 (List.mem_of_getElem? (i := 179) rfl)) rfl
theorem mk_X10_look : MK M_X10_look 0 := ⟨wd_1139, wd_10, ⟨by decide, by decide⟩, by decide +kernel, by decide +kernel, rfl⟩
theorem wd_1313 : Cond.code yX10_isPlace cX10_isPlace 1 (some .boolean) ∈ wT := wT_in (tk_6 (List.mem_of_getElem? (i := 113) rfl)) rfl
theorem mk_X10_isPlace : MK M_X10_isPlace 1 := ⟨wd_1313, wd_10, ⟨by decide, by decide⟩, by decide +kernel, by decide +kernel, rfl⟩
theorem wd_1310 : Cond.code yX10_given cX10_given 9 none ∈ wT := wT_in (tk_6 (List.mem_of_getElem? (i := 110) rfl)) rfl
theorem mk_X10_given : MK M_X10_given 4 := ⟨wd_1310, wd_10, ⟨by decide, by decide⟩, by decide +kernel, by decide +kernel, rfl⟩
theorem wd_1317 : Cond.code yX10_any cX10_any 2 none ∈ wT := wT_in (tk_6 (List.mem_of_getElem? (i := 117) rfl)) rfl
theorem mk_X10_any : MK M_X10_any 1 := ⟨wd_1317, wd_10, ⟨by decide, by decide⟩, by decide +kernel, by decide +kernel, rfl⟩
theorem wd_1325 : Cond.code yX10_isReached cX10_isReached 2 (some .boolean) ∈ wT := wT_in (tk_6 (List.mem_of_getElem? (i := 125) rfl)) rfl
theorem mk_X10_isReached : MK M_X10_isReached 1 := ⟨wd_1325, wd_10, ⟨by decide, by decide⟩, by decide +kernel, by decide +kernel, rfl⟩
theorem wd_1321 : Cond.code yX10_reached cX10_reached 2 (some .int) ∈ wT := wT_in (tk_6 (List.mem_of_getElem? (i := 121) rfl)) rfl
theorem mk_X10_reached : MK M_X10_reached 1 := ⟨wd_1321, wd_10, ⟨by decide, by decide⟩, by decide +kernel, by decide +kernel, rfl⟩
theorem wd_1329 : Cond.code yX10_set cX10_set 5 (some .long) ∈ wT := wT_in (tk_6 (List.mem_of_getElem? (i := 129) rfl)) rfl
theorem mk_X10_set : MK M_X10_set 3 := ⟨wd_1329, wd_10, ⟨by decide, by decide⟩, by decide +kernel, by decide +kernel, rfl⟩
theorem wd_1333 : Cond.code yX10_has cX10_has 5 (some .boolean) ∈ wT := wT_in (tk_6 (List.mem_of_getElem? (i := 133) rfl)) rfl
theorem mk_X10_has : MK M_X10_has 3 := ⟨wd_1333, wd_10, ⟨by decide, by decide⟩, by decide +kernel, by decide +kernel, rfl⟩
theorem wd_1337 : Cond.code yX10_start cX10_start 2 none ∈ wT := wT_in (tk_6 (List.mem_of_getElem? (i := 137) rfl)) rfl
theorem mk_X10_start : MK M_X10_start 0 := ⟨wd_1337, wd_10, ⟨by decide, by decide⟩, by decide +kernel, by decide +kernel, rfl⟩
theorem wd_1341 : Cond.code yX10_put cX10_put 4 none ∈ wT := wT_in (tk_6 (List.mem_of_getElem? (i := 141) rfl)) rfl
theorem mk_X10_put : MK M_X10_put 2 := ⟨wd_1341, wd_10, ⟨by decide, by decide⟩, by decide +kernel, by decide +kernel, rfl⟩
theorem wd_1358 : Cond.code yX10_cutDown cX10_cutDown 3 (some .long) ∈ wT := wT_in (tk_6 (List.mem_of_getElem? (i := 158) rfl)) rfl
theorem mk_X10_cutDown : MK M_X10_cutDown 1 := ⟨wd_1358, wd_10, ⟨by decide, by decide⟩, by decide +kernel, by decide +kernel, rfl⟩
theorem wd_1370 : Cond.code yX10_flags cX10_flags 5 none ∈ wT := wT_in (tk_6 (List.mem_of_getElem? (i := 170) rfl)) rfl
theorem mk_X10_flags : MK M_X10_flags 3 := ⟨wd_1370, wd_10, ⟨by decide, by decide⟩, by decide +kernel, by decide +kernel, rfl⟩
theorem wd_1365 : Cond.code yX10_isBelow cX10_isBelow 4 (some .boolean) ∈ wT := wT_in (tk_6 (List.mem_of_getElem? (i := 165) rfl)) rfl
theorem mk_X10_isBelow : MK M_X10_isBelow 2 := ⟨wd_1365, wd_10, ⟨by decide, by decide⟩, by decide +kernel, by decide +kernel, rfl⟩
theorem wd_1362 : Cond.code yX10_sum cX10_sum 7 (some .long) ∈ wT := wT_in (tk_6 (List.mem_of_getElem? (i := 162) rfl)) rfl
theorem mk_X10_sum : MK M_X10_sum 2 := ⟨wd_1362, wd_10, ⟨by decide, by decide⟩, by decide +kernel, by decide +kernel, rfl⟩
theorem wd_1374 : Cond.code yX10_difference cX10_difference 7 (some .long) ∈ wT := wT_in (tk_6 (List.mem_of_getElem? (i := 174) rfl)) rfl
theorem mk_X10_difference : MK M_X10_difference 2 := ⟨wd_1374, wd_10, ⟨by decide, by decide⟩, by decide +kernel, by decide +kernel, rfl⟩
theorem wd_1378 : Cond.code yX10_bits cX10_bits 3 (some .long) ∈ wT := wT_in (tk_6 (List.mem_of_getElem? (i := 178) rfl)) rfl
theorem mk_X10_bits : MK M_X10_bits 1 := ⟨wd_1378, wd_10, ⟨by decide, by decide⟩, by decide +kernel, by decide +kernel, rfl⟩
theorem wd_1382 : Cond.code yX10_count cX10_count 8 (some .long) ∈ wT := wT_in (tk_6 (List.mem_of_getElem? (i := 182) rfl)) rfl
theorem mk_X10_count : MK M_X10_count 2 := ⟨wd_1382, wd_10, ⟨by decide, by decide⟩, by decide +kernel, by decide +kernel, rfl⟩
theorem wd_1386 : Cond.code yX10_shifted cX10_shifted 5 (some .long) ∈ wT := wT_in (tk_6 (List.mem_of_getElem? (i := 186) rfl)) rfl
theorem mk_X10_shifted : MK M_X10_shifted 1 := ⟨wd_1386, wd_10, ⟨by decide, by decide⟩, by decide +kernel, by decide +kernel, rfl⟩
theorem wd_1354 : Cond.code yX10_run cX10_run 7 none ∈ wT := wT_in (tk_6 (List.mem_of_getElem? (i := 154) rfl)) rfl
theorem mk_X10_run : MK M_X10_run 0 := ⟨wd_1354, wd_10, ⟨by decide, by decide⟩, by decide +kernel, by decide +kernel, rfl⟩
theorem wd_1390 : Cond.code yX10_holds cX10_holds 3 (some .boolean) ∈ wT := wT_in (tk_6 (List.mem_of_getElem? (i := 190) rfl)) rfl
theorem mk_X10_holds : MK M_X10_holds 1 := ⟨wd_1390, wd_10, ⟨by decide, by decide⟩, by decide +kernel, by decide +kernel, rfl⟩
theorem wd_1350 : Cond.code yX10_oneMore cX10_oneMore 3 (some .int) ∈ wT := wT_in (tk_6 (List.mem_of_getElem? (i := 150) rfl)) rfl
theorem mk_X10_oneMore : MK M_X10_oneMore 0 := ⟨wd_1350, wd_10, ⟨by decide, by decide⟩, by decide +kernel, by decide +kernel, rfl⟩
theorem wd_1345 : Cond.code yX10_go cX10_go 4 (some .int) ∈ wT := wT_in (tk_6 (List.mem_of_getElem? (i := 145) rfl)) rfl
theorem mk_X10_go : MK M_X10_go 1 := ⟨wd_1345, wd_10, ⟨by decide, by decide⟩, by decide +kernel, by decide +kernel, rfl⟩
theorem wd_1394 : Cond.code yX10_at cX10_at 1 (some .int) ∈ wT := wT_in (tk_6 (List.mem_of_getElem? (i := 194) rfl)) rfl
theorem mk_X10_at : MK M_X10_at 0 := ⟨wd_1394, wd_10, ⟨by decide, by decide⟩, by decide +kernel, by decide +kernel, rfl⟩
theorem wd_1398 : Cond.code yX10_value cX10_value 2 (some .long) ∈ wT := wT_in (tk_6 (List.mem_of_getElem? (i := 198) rfl)) rfl
theorem mk_X10_value : MK M_X10_value 1 := ⟨wd_1398, wd_10, ⟨by decide, by decide⟩, by decide +kernel, by decide +kernel, rfl⟩
theorem wd_577 : Cond.code yJ6_numberOfLeadingZeros_0f7a4 cJ6_numberOfLeadingZeros_0f7a4 2 (some .int) ∈ wT := wT_in (tk_3 (List.mem_of_getElem? (i := 97) rfl)) rfl
theorem wd_20 : Cond.initialized "java/lang/Integer" ∈ wT := wT_in (tk_1 (List.mem_of_getElem? (i := 20) rfl)) rfl
theorem mk_J6_numberOfLeadingZeros_0f7a4 : MK M_J6_numberOfLeadingZeros_0f7a4 1 := ⟨wd_577, wd_20, ⟨by decide, by decide⟩, by decide +kernel, by decide +kernel, rfl⟩
theorem wd_918 : Cond.code yJ13_compare_74951 cJ13_compare_74951 4 (some .int) ∈ wT := wT_in (tk_4 (List.mem_of_getElem? (i := 198) rfl)) rfl
theorem wd_19 : Cond.initialized "java/lang/Long" ∈ wT := wT_in (tk_1 (List.mem_of_getElem? (i := 19) rfl)) rfl
theorem mk_J13_compare_74951 : MK M_J13_compare_74951 2 := ⟨wd_918, wd_19, ⟨by decide, by decide⟩, by decide +kernel, by decide +kernel, rfl⟩
theorem wd_915 : Cond.code yJ13_compareUnsigned_74951 cJ13_compareUnsigned_74951 4 (some .int) ∈ wT := wT_in (tk_4 (List.mem_of_getElem? (i := 195) rfl)) rfl
theorem mk_J13_compareUnsigned_74951 : MK M_J13_compareUnsigned_74951 2 := ⟨wd_915, wd_19, ⟨by decide, by decide⟩, by decide +kernel, by decide +kernel, rfl⟩
theorem wd_570 : Cond.code yJ13_highestOneBit_067f4 cJ13_highestOneBit_067f4 2 (some .long) ∈ wT := wT_in (tk_3 (List.mem_of_getElem? (i := 90) rfl)) rfl
theorem mk_J13_highestOneBit_067f4 : MK M_J13_highestOneBit_067f4 1 := ⟨wd_570, wd_19, ⟨by decide, by decide⟩, by decide +kernel, by decide +kernel, rfl⟩
theorem wd_536 : Cond.code yJ13_lowestOneBit_067f4 cJ13_lowestOneBit_067f4 2 (some .long) ∈ wT := wT_in (tk_3 (List.mem_of_getElem? (i := 56) rfl)) rfl
theorem mk_J13_lowestOneBit_067f4 : MK M_J13_lowestOneBit_067f4 1 := ⟨wd_536, wd_19, ⟨by decide, by decide⟩, by decide +kernel, by decide +kernel, rfl⟩
theorem wd_574 : Cond.code yJ13_numberOfLeadingZeros_95d88 cJ13_numberOfLeadingZeros_95d88 3 (some .int) ∈ wT := wT_in (tk_3 (List.mem_of_getElem? (i := 94) rfl)) rfl
theorem mk_J13_numberOfLeadingZeros_95d88 : MK M_J13_numberOfLeadingZeros_95d88 1 := ⟨wd_574, wd_19, ⟨by decide, by decide⟩, by decide +kernel, by decide +kernel, rfl⟩
theorem wd_632 : Cond.code yJ9_floorMod_f86c9 cJ9_floorMod_f86c9 6 (some .long) ∈ wT := wT_in (tk_3 (List.mem_of_getElem? (i := 152) rfl)) rfl
theorem wd_16 : Cond.initialized "java/lang/Math" ∈ wT := wT_in (tk_1 (List.mem_of_getElem? (i := 16) rfl)) rfl
theorem mk_J9_floorMod_f86c9 : MK M_J9_floorMod_f86c9 2 := ⟨wd_632, wd_16, ⟨by decide, by decide⟩, by decide +kernel, by decide +kernel, rfl⟩
theorem wd_399 : Cond.code yJ9_max_f86c9 cJ9_max_f86c9 4 (some .long) ∈ wT := wT_in (tk_2 (List.mem_of_getElem? (i := 159) rfl)) rfl
theorem mk_J9_max_f86c9 : MK M_J9_max_f86c9 2 := ⟨wd_399, wd_16, ⟨by decide, by decide⟩, by decide +kernel, by decide +kernel, rfl⟩
theorem wd_782 : Cond.code yJ9_min_7cf53 cJ9_min_7cf53 2 (some .int) ∈ wT := wT_in (tk_4 (List.mem_of_getElem? (i := 62) rfl)) rfl
theorem mk_J9_min_7cf53 : MK M_J9_min_7cf53 2 := ⟨wd_782, wd_16, ⟨by decide, by decide⟩, by decide +kernel, by decide +kernel, rfl⟩
theorem wd_396 : Cond.code yJ9_min_f86c9 cJ9_min_f86c9 4 (some .long) ∈ wT := wT_in (tk_2 (List.mem_of_getElem? (i := 156) rfl)) rfl
theorem mk_J9_min_f86c9 : MK M_J9_min_f86c9 2 := ⟨wd_396, wd_16, ⟨by decide, by decide⟩, by decide +kernel, by decide +kernel, rfl⟩
theorem wd_690 : Cond.codeWith yL_feed cL_feed 8 (some .int) [((0 : Nat), (16 : Nat), (19 : Nat), (13 : Nat)), ((0 : Nat), (16 : Nat), (23 : Nat), (15 : Nat))] ∈ wT := wT_in (tk_3 (List.mem_of_getElem? (i := 210) rfl)) rfl
theorem wd_0 : Cond.initialized "StrideWatchLaw" ∈ wT := wT_in (tk_1 (List.mem_of_getElem? (i := 0) rfl)) rfl
theorem mkw_L_feed : MKW M_L_feed 7 := ⟨wd_690, wd_0, ⟨by decide, by decide⟩, by decide +kernel, by decide +kernel, by decide⟩
theorem wd_789 : Cond.codeWith yL_given cL_given 9 (some .int) [((0 : Nat), (10 : Nat), (13 : Nat), (13 : Nat))] ∈ wT := wT_in (tk_4 (List.mem_of_getElem? (i := 69) rfl)) rfl
theorem mkw_L_given : MKW M_L_given 5 := ⟨wd_789, wd_0, ⟨by decide, by decide⟩, by decide +kernel, by decide +kernel, by decide⟩
theorem wd_806 : Cond.codeWith yL_any cL_any 3 (some .int) [((0 : Nat), (5 : Nat), (8 : Nat), (13 : Nat))] ∈ wT := wT_in (tk_4 (List.mem_of_getElem? (i := 86) rfl)) rfl
theorem mkw_L_any : MKW M_L_any 2 := ⟨wd_806, wd_0, ⟨by decide, by decide⟩, by decide +kernel, by decide +kernel, by decide⟩
theorem wd_814 : Cond.codeWith yL_decode cL_decode 5 (some .int) [((0 : Nat), (10 : Nat), (13 : Nat), (13 : Nat))] ∈ wT := wT_in (tk_4 (List.mem_of_getElem? (i := 94) rfl)) rfl
theorem mkw_L_decode : MKW M_L_decode 4 := ⟨wd_814, wd_0, ⟨by decide, by decide⟩, by decide +kernel, by decide +kernel, by decide⟩
theorem wd_833 : Cond.codeWith yL_constant cL_constant 4 (some .int) [((0 : Nat), (8 : Nat), (11 : Nat), (13 : Nat))] ∈ wT := wT_in (tk_4 (List.mem_of_getElem? (i := 113) rfl)) rfl
theorem mkw_L_constant : MKW M_L_constant 3 := ⟨wd_833, wd_0, ⟨by decide, by decide⟩, by decide +kernel, by decide +kernel, by decide⟩
theorem wd_840 : Cond.codeWith yL_set cL_set 6 (some .int) [((0 : Nat), (11 : Nat), (14 : Nat), (13 : Nat)), ((0 : Nat), (11 : Nat), (18 : Nat), (15 : Nat))] ∈ wT := wT_in (tk_4 (List.mem_of_getElem? (i := 120) rfl)) rfl
theorem mkw_L_set : MKW M_L_set 5 := ⟨wd_840, wd_0, ⟨by decide, by decide⟩, by decide +kernel, by decide +kernel, by decide⟩
theorem wd_854 : Cond.codeWith yL_has cL_has 7 (some .int) [((0 : Nat), (19 : Nat), (22 : Nat), (13 : Nat))] ∈ wT := wT_in (tk_4 (List.mem_of_getElem? (i := 134) rfl)) rfl
theorem mkw_L_has : MKW M_L_has 5 := ⟨wd_854, wd_0, ⟨by decide, by decide⟩, by decide +kernel, by decide +kernel, by decide⟩
theorem wd_865 : Cond.codeWith yL_put cL_put 5 (some .int) [((0 : Nat), (6 : Nat), (9 : Nat), (13 : Nat))] ∈ wT := wT_in (tk_4 (List.mem_of_getElem? (i := 145) rfl)) rfl
theorem mkw_L_put : MKW M_L_put 3 := ⟨wd_865, wd_0, ⟨by decide, by decide⟩, by decide +kernel, by decide +kernel, by decide⟩
theorem wd_877 : Cond.codeWith yL_go cL_go 4 (some .int) [((0 : Nat), (9 : Nat), (12 : Nat), (13 : Nat)), ((0 : Nat), (9 : Nat), (15 : Nat), (15 : Nat))] ∈ wT := wT_in (tk_4 (List.mem_of_getElem? (i := 157) rfl)) rfl
theorem mkw_L_go : MKW M_L_go 3 := ⟨wd_877, wd_0, ⟨by decide, by decide⟩, by decide +kernel, by decide +kernel, by decide⟩
theorem wd_939 : Cond.codeWith yL_value cL_value 4 (some .int) [((0 : Nat), (8 : Nat), (11 : Nat), (13 : Nat))] ∈ wT := wT_in (tk_4 (List.mem_of_getElem? (i := 219) rfl)) rfl
theorem mkw_L_value : MKW M_L_value 3 := ⟨wd_939, wd_0, ⟨by decide, by decide⟩, by decide +kernel, by decide +kernel, by decide⟩
theorem wd_209 : Cond.methodLink "StrideWatch$Branch" 5 Lib.objectInit ∈ wT := wT_in (tk_1 (List.mem_of_getElem? (i := 209) rfl)) rfl
theorem wd_27 : Cond.instanceMethod Lib.objectInit ∈ wT := wT_in (tk_1 (List.mem_of_getElem? (i := 27) rfl)) rfl
theorem wd_28 : Cond.code Lib.objectInit ⟨#[0xb1]⟩ 1 none ∈ wT := wT_in (tk_1 (List.mem_of_getElem? (i := 28) rfl)) rfl
theorem ca_X0_5 : Cond.methodLink "StrideWatch$Branch" 5 Lib.objectInit ∈ wT ∧ Cond.instanceMethod Lib.objectInit ∈ wT ∧ Cond.code Lib.objectInit ⟨#[0xb1]⟩ 1 none ∈ wT := ⟨wd_209, wd_27, wd_28⟩
theorem wl_211 : Cond.methodLinkNest "StrideWatch$Branch" 13 yX7_init "StrideWatch" ∈ lw_tbl := tk_1 (List.mem_of_getElem? (i := 211) rfl)
theorem wd_170 : Cond.instanceMethod yX7_init ∈ wT := wT_in (tk_1 (List.mem_of_getElem? (i := 170) rfl)) rfl
theorem ca_X0_13 : CIN "StrideWatch$Branch" 13 M_X7_init 0 := ⟨mk_X7_init, ⟨"StrideWatch", wl_211⟩, wd_170, rfl, rfl, by decide +kernel⟩
theorem wd_613 : Cond.methodLink "StrideWatch$Branch" 29 yX8_load ∈ wT := wT_in (tk_3 (List.mem_of_getElem? (i := 133) rfl)) rfl
theorem wd_371 : Cond.instanceMethod yX8_load ∈ wT := wT_in (tk_2 (List.mem_of_getElem? (i := 131) rfl)) rfl
theorem wd_372 : Cond.selects "StrideWatch$State" yX8_load yX8_load ∈ wT := wT_in (tk_2 (List.mem_of_getElem? (i := 132) rfl)) rfl
theorem ca_X0_29 : CV "StrideWatch$Branch" 29 M_X8_load 2 := ⟨mk_X8_load, wd_613, wd_371, wd_372⟩
theorem wd_614 : Cond.methodLink "StrideWatch$Branch" 39 yX7_become ∈ wT := wT_in (tk_3 (List.mem_of_getElem? (i := 134) rfl)) rfl
theorem wd_401 : Cond.instanceMethod yX7_become ∈ wT := wT_in (tk_2 (List.mem_of_getElem? (i := 161) rfl)) rfl
theorem wd_402 : Cond.selects "StrideWatch$Span" yX7_become yX7_become ∈ wT := wT_in (tk_2 (List.mem_of_getElem? (i := 162) rfl)) rfl
theorem ca_X0_39 : CV "StrideWatch$Branch" 39 M_X7_become 3 := ⟨mk_X7_become, wd_614, wd_401, wd_402⟩
theorem wd_615 : Cond.methodLink "StrideWatch$Branch" 43 yX0_becomeEqual ∈ wT := wT_in (tk_3 (List.mem_of_getElem? (i := 135) rfl)) rfl
theorem wd_617 : Cond.instanceMethod yX0_becomeEqual ∈ wT := wT_in (tk_3 (List.mem_of_getElem? (i := 137) rfl)) rfl
theorem ws_34 : Cond.selects "StrideWatch$Branch" yX0_becomeEqual yX0_becomeEqual ∈ wT := wT_in (List.mem_append_left _ (List.mem_map.mpr ⟨(yX0_becomeEqual, 2), pk_3 (List.mem_of_getElem? (i := 2) rfl), rfl⟩)) rfl
theorem ca_X0_43 : CV "StrideWatch$Branch" 43 M_X0_becomeEqual 0 := ⟨mk_X0_becomeEqual, wd_615, wd_617, ws_34⟩
theorem wd_633 : Cond.methodLink "StrideWatch$Branch" 46 yX0_becomeUnequal ∈ wT := wT_in (tk_3 (List.mem_of_getElem? (i := 153) rfl)) rfl
theorem wd_635 : Cond.instanceMethod yX0_becomeUnequal ∈ wT := wT_in (tk_3 (List.mem_of_getElem? (i := 155) rfl)) rfl
theorem ws_35 : Cond.selects "StrideWatch$Branch" yX0_becomeUnequal yX0_becomeUnequal ∈ wT := wT_in (List.mem_append_left _ (List.mem_map.mpr ⟨(yX0_becomeUnequal, 2), pk_3 (List.mem_of_getElem? (i := 3) rfl), rfl⟩)) rfl
theorem ca_X0_46 : CV "StrideWatch$Branch" 46 M_X0_becomeUnequal 0 := ⟨mk_X0_becomeUnequal, wd_633, wd_635, ws_35⟩
theorem wd_642 : Cond.methodLink "StrideWatch$Branch" 49 yX0_narrowCompared ∈ wT := wT_in (tk_3 (List.mem_of_getElem? (i := 162) rfl)) rfl
theorem wd_644 : Cond.instanceMethod yX0_narrowCompared ∈ wT := wT_in (tk_3 (List.mem_of_getElem? (i := 164) rfl)) rfl
theorem ws_36 : Cond.selects "StrideWatch$Branch" yX0_narrowCompared yX0_narrowCompared ∈ wT := wT_in (List.mem_append_left _ (List.mem_map.mpr ⟨(yX0_narrowCompared, 2), pk_3 (List.mem_of_getElem? (i := 4) rfl), rfl⟩)) rfl
theorem ca_X0_49 : CV "StrideWatch$Branch" 49 M_X0_narrowCompared 2 := ⟨mk_X0_narrowCompared, wd_642, wd_644, ws_36⟩
theorem wd_621 : Cond.methodLink "StrideWatch$Branch" 59 yX7_cut ∈ wT := wT_in (tk_3 (List.mem_of_getElem? (i := 141) rfl)) rfl
theorem wd_622 : Cond.instanceMethod yX7_cut ∈ wT := wT_in (tk_3 (List.mem_of_getElem? (i := 142) rfl)) rfl
theorem wd_623 : Cond.selects "StrideWatch$Span" yX7_cut yX7_cut ∈ wT := wT_in (tk_3 (List.mem_of_getElem? (i := 143) rfl)) rfl
theorem ca_X0_59 : CV "StrideWatch$Branch" 59 M_X7_cut 2 := ⟨mk_X7_cut, wd_621, wd_622, wd_623⟩
theorem wd_657 : Cond.methodLink "StrideWatch$Branch" 63 yX7_isNone ∈ wT := wT_in (tk_3 (List.mem_of_getElem? (i := 177) rfl)) rfl
theorem wd_658 : Cond.instanceMethod yX7_isNone ∈ wT := wT_in (tk_3 (List.mem_of_getElem? (i := 178) rfl)) rfl
theorem wd_659 : Cond.selects "StrideWatch$Span" yX7_isNone yX7_isNone ∈ wT := wT_in (tk_3 (List.mem_of_getElem? (i := 179) rfl)) rfl
theorem ca_X0_63 : CV "StrideWatch$Branch" 63 M_X7_isNone 0 := ⟨mk_X7_isNone, wd_657, wd_658, wd_659⟩
theorem wd_661 : Cond.methodLink "StrideWatch$Branch" 67 yX8_store ∈ wT := wT_in (tk_3 (List.mem_of_getElem? (i := 181) rfl)) rfl
theorem wd_411 : Cond.instanceMethod yX8_store ∈ wT := wT_in (tk_2 (List.mem_of_getElem? (i := 171) rfl)) rfl
theorem wd_412 : Cond.selects "StrideWatch$State" yX8_store yX8_store ∈ wT := wT_in (tk_2 (List.mem_of_getElem? (i := 172) rfl)) rfl
theorem ca_X0_67 : CV "StrideWatch$Branch" 67 M_X8_store 2 := ⟨mk_X8_store, wd_661, wd_411, wd_412⟩
theorem wd_646 : Cond.methodLink "StrideWatch$Branch" 70 yX0_order ∈ wT := wT_in (tk_3 (List.mem_of_getElem? (i := 166) rfl)) rfl
theorem wd_647 : Cond.static yX0_order ∈ wT := wT_in (tk_3 (List.mem_of_getElem? (i := 167) rfl)) rfl
theorem ca_X0_70 : CT "StrideWatch$Branch" 70 M_X0_order 3 := ⟨mk_X0_order, wd_646, wd_647⟩
theorem wd_651 : Cond.methodLink "StrideWatch$Branch" 74 yX0_orderUnsigned ∈ wT := wT_in (tk_3 (List.mem_of_getElem? (i := 171) rfl)) rfl
theorem wd_652 : Cond.static yX0_orderUnsigned ∈ wT := wT_in (tk_3 (List.mem_of_getElem? (i := 172) rfl)) rfl
theorem ca_X0_74 : CT "StrideWatch$Branch" 74 M_X0_orderUnsigned 3 := ⟨mk_X0_orderUnsigned, wd_651, wd_652⟩
theorem wd_619 : Cond.methodLink "StrideWatch$Branch" 77 yX7_isAny ∈ wT := wT_in (tk_3 (List.mem_of_getElem? (i := 139) rfl)) rfl
theorem wd_387 : Cond.instanceMethod yX7_isAny ∈ wT := wT_in (tk_2 (List.mem_of_getElem? (i := 147) rfl)) rfl
theorem wd_388 : Cond.selects "StrideWatch$Span" yX7_isAny yX7_isAny ∈ wT := wT_in (tk_2 (List.mem_of_getElem? (i := 148) rfl)) rfl
theorem ca_X0_77 : CV "StrideWatch$Branch" 77 M_X7_isAny 0 := ⟨mk_X7_isAny, wd_619, wd_387, wd_388⟩
theorem wd_620 : Cond.methodLink "StrideWatch$Branch" 80 yX7_copyFrom ∈ wT := wT_in (tk_3 (List.mem_of_getElem? (i := 140) rfl)) rfl
theorem wd_599 : Cond.instanceMethod yX7_copyFrom ∈ wT := wT_in (tk_3 (List.mem_of_getElem? (i := 119) rfl)) rfl
theorem wd_600 : Cond.selects "StrideWatch$Span" yX7_copyFrom yX7_copyFrom ∈ wT := wT_in (tk_3 (List.mem_of_getElem? (i := 120) rfl)) rfl
theorem ca_X0_80 : CV "StrideWatch$Branch" 80 M_X7_copyFrom 1 := ⟨mk_X7_copyFrom, wd_620, wd_599, wd_600⟩
theorem wd_637 : Cond.methodLink "StrideWatch$Branch" 90 yX7_isSingle ∈ wT := wT_in (tk_3 (List.mem_of_getElem? (i := 157) rfl)) rfl
theorem wd_530 : Cond.instanceMethod yX7_isSingle ∈ wT := wT_in (tk_3 (List.mem_of_getElem? (i := 50) rfl)) rfl
theorem wd_531 : Cond.selects "StrideWatch$Span" yX7_isSingle yX7_isSingle ∈ wT := wT_in (tk_3 (List.mem_of_getElem? (i := 51) rfl)) rfl
theorem ca_X0_90 : CV "StrideWatch$Branch" 90 M_X7_isSingle 0 := ⟨mk_X7_isSingle, wd_637, wd_530, wd_531⟩
theorem wd_638 : Cond.methodLink "StrideWatch$Branch" 93 yX7_drop ∈ wT := wT_in (tk_3 (List.mem_of_getElem? (i := 158) rfl)) rfl
theorem wd_639 : Cond.instanceMethod yX7_drop ∈ wT := wT_in (tk_3 (List.mem_of_getElem? (i := 159) rfl)) rfl
theorem wd_640 : Cond.selects "StrideWatch$Span" yX7_drop yX7_drop ∈ wT := wT_in (tk_3 (List.mem_of_getElem? (i := 160) rfl)) rfl
theorem ca_X0_93 : CV "StrideWatch$Branch" 93 M_X7_drop 1 := ⟨mk_X7_drop, wd_638, wd_639, wd_640⟩
theorem wd_654 : Cond.methodLink "StrideWatch$Branch" 97 yX7_isNatural ∈ wT := wT_in (tk_3 (List.mem_of_getElem? (i := 174) rfl)) rfl
theorem wd_561 : Cond.instanceMethod yX7_isNatural ∈ wT := wT_in (tk_3 (List.mem_of_getElem? (i := 81) rfl)) rfl
theorem wd_562 : Cond.selects "StrideWatch$Span" yX7_isNatural yX7_isNatural ∈ wT := wT_in (tk_3 (List.mem_of_getElem? (i := 82) rfl)) rfl
theorem ca_X0_97 : CV "StrideWatch$Branch" 97 M_X7_isNatural 0 := ⟨mk_X7_isNatural, wd_654, wd_561, wd_562⟩
theorem wd_655 : Cond.methodLink "StrideWatch$Branch" 100 yX7_becomeNone ∈ wT := wT_in (tk_3 (List.mem_of_getElem? (i := 175) rfl)) rfl
theorem wd_626 : Cond.instanceMethod yX7_becomeNone ∈ wT := wT_in (tk_3 (List.mem_of_getElem? (i := 146) rfl)) rfl
theorem wd_627 : Cond.selects "StrideWatch$Span" yX7_becomeNone yX7_becomeNone ∈ wT := wT_in (tk_3 (List.mem_of_getElem? (i := 147) rfl)) rfl
theorem ca_X0_100 : CV "StrideWatch$Branch" 100 M_X7_becomeNone 0 := ⟨mk_X7_becomeNone, wd_655, wd_626, wd_627⟩
theorem wd_34 : Cond.methodLink "StrideWatch$Code" 3 Lib.objectInit ∈ wT := wT_in (tk_1 (List.mem_of_getElem? (i := 34) rfl)) rfl
theorem ca_X1_3 : Cond.methodLink "StrideWatch$Code" 3 Lib.objectInit ∈ wT ∧ Cond.instanceMethod Lib.objectInit ∈ wT ∧ Cond.code Lib.objectInit ⟨#[0xb1]⟩ 1 none ∈ wT := ⟨wd_34, wd_27, wd_28⟩
theorem wd_166 : Cond.methodLink "StrideWatch$Effect" 3 Lib.objectInit ∈ wT := wT_in (tk_1 (List.mem_of_getElem? (i := 166) rfl)) rfl
theorem ca_X2_3 : Cond.methodLink "StrideWatch$Effect" 3 Lib.objectInit ∈ wT ∧ Cond.instanceMethod Lib.objectInit ∈ wT ∧ Cond.code Lib.objectInit ⟨#[0xb1]⟩ 1 none ∈ wT := ⟨wd_166, wd_27, wd_28⟩
theorem wl_169 : Cond.methodLinkNest "StrideWatch$Effect" 11 yX7_init "StrideWatch" ∈ lw_tbl := tk_1 (List.mem_of_getElem? (i := 169) rfl)
theorem ca_X2_11 : CIN "StrideWatch$Effect" 11 M_X7_init 0 := ⟨mk_X7_init, ⟨"StrideWatch", wl_169⟩, wd_170, rfl, rfl, by decide +kernel⟩
theorem wd_510 : Cond.methodLink "StrideWatch$Effect" 30 yX2_loadOperands ∈ wT := wT_in (tk_3 (List.mem_of_getElem? (i := 30) rfl)) rfl
theorem wd_512 : Cond.instanceMethod yX2_loadOperands ∈ wT := wT_in (tk_3 (List.mem_of_getElem? (i := 32) rfl)) rfl
theorem ws_22 : Cond.selects "StrideWatch$Effect" yX2_loadOperands yX2_loadOperands ∈ wT := wT_in (List.mem_append_left _ (List.mem_map.mpr ⟨(yX2_loadOperands, 3), pk_2 (List.mem_of_getElem? (i := 6) rfl), rfl⟩)) rfl
theorem ca_X2_30 : CV "StrideWatch$Effect" 30 M_X2_loadOperands 2 := ⟨mk_X2_loadOperands, wd_510, wd_512, ws_22⟩
theorem wd_516 : Cond.methodLink "StrideWatch$Effect" 34 yX2_fitOperands ∈ wT := wT_in (tk_3 (List.mem_of_getElem? (i := 36) rfl)) rfl
theorem wd_518 : Cond.instanceMethod yX2_fitOperands ∈ wT := wT_in (tk_3 (List.mem_of_getElem? (i := 38) rfl)) rfl
theorem ws_23 : Cond.selects "StrideWatch$Effect" yX2_fitOperands yX2_fitOperands ∈ wT := wT_in (List.mem_append_left _ (List.mem_map.mpr ⟨(yX2_fitOperands, 3), pk_2 (List.mem_of_getElem? (i := 7) rfl), rfl⟩)) rfl
theorem ca_X2_34 : CV "StrideWatch$Effect" 34 M_X2_fitOperands 1 := ⟨mk_X2_fitOperands, wd_516, wd_518, ws_23⟩
theorem wd_539 : Cond.methodLink "StrideWatch$Effect" 38 yX2_computeResult ∈ wT := wT_in (tk_3 (List.mem_of_getElem? (i := 59) rfl)) rfl
theorem wd_541 : Cond.instanceMethod yX2_computeResult ∈ wT := wT_in (tk_3 (List.mem_of_getElem? (i := 61) rfl)) rfl
theorem ws_24 : Cond.selects "StrideWatch$Effect" yX2_computeResult yX2_computeResult ∈ wT := wT_in (List.mem_append_left _ (List.mem_map.mpr ⟨(yX2_computeResult, 3), pk_2 (List.mem_of_getElem? (i := 8) rfl), rfl⟩)) rfl
theorem ca_X2_38 : CV "StrideWatch$Effect" 38 M_X2_computeResult 1 := ⟨mk_X2_computeResult, wd_539, wd_541, ws_24⟩
theorem wd_602 : Cond.methodLink "StrideWatch$Effect" 44 yX8_store ∈ wT := wT_in (tk_3 (List.mem_of_getElem? (i := 122) rfl)) rfl
theorem ca_X2_44 : CV "StrideWatch$Effect" 44 M_X8_store 2 := ⟨mk_X8_store, wd_602, wd_411, wd_412⟩
theorem wd_603 : Cond.methodLink "StrideWatch$Effect" 50 yX2_noteRecord ∈ wT := wT_in (tk_3 (List.mem_of_getElem? (i := 123) rfl)) rfl
theorem wd_605 : Cond.instanceMethod yX2_noteRecord ∈ wT := wT_in (tk_3 (List.mem_of_getElem? (i := 125) rfl)) rfl
theorem ws_33 : Cond.selects "StrideWatch$Effect" yX2_noteRecord yX2_noteRecord ∈ wT := wT_in (List.mem_append_left _ (List.mem_map.mpr ⟨(yX2_noteRecord, 3), pk_3 (List.mem_of_getElem? (i := 1) rfl), rfl⟩)) rfl
theorem ca_X2_50 : CV "StrideWatch$Effect" 50 M_X2_noteRecord 2 := ⟨mk_X2_noteRecord, wd_603, wd_605, ws_33⟩
theorem wd_514 : Cond.methodLink "StrideWatch$Effect" 53 yX8_load ∈ wT := wT_in (tk_3 (List.mem_of_getElem? (i := 34) rfl)) rfl
theorem ca_X2_53 : CV "StrideWatch$Effect" 53 M_X8_load 2 := ⟨mk_X8_load, wd_514, wd_371, wd_372⟩
theorem wd_515 : Cond.methodLink "StrideWatch$Effect" 66 yX7_become ∈ wT := wT_in (tk_3 (List.mem_of_getElem? (i := 35) rfl)) rfl
theorem ca_X2_66 : CV "StrideWatch$Effect" 66 M_X7_become 3 := ⟨mk_X7_become, wd_515, wd_401, wd_402⟩
theorem wd_520 : Cond.methodLink "StrideWatch$Effect" 70 yX7_takeSignedHalf ∈ wT := wT_in (tk_3 (List.mem_of_getElem? (i := 40) rfl)) rfl
theorem wd_521 : Cond.instanceMethod yX7_takeSignedHalf ∈ wT := wT_in (tk_3 (List.mem_of_getElem? (i := 41) rfl)) rfl
theorem wd_522 : Cond.selects "StrideWatch$Span" yX7_takeSignedHalf yX7_takeSignedHalf ∈ wT := wT_in (tk_3 (List.mem_of_getElem? (i := 42) rfl)) rfl
theorem ca_X2_70 : CV "StrideWatch$Effect" 70 M_X7_takeSignedHalf 0 := ⟨mk_X7_takeSignedHalf, wd_520, wd_521, wd_522⟩
theorem wd_538 : Cond.methodLink "StrideWatch$Effect" 76 yX7_takeLowHalf ∈ wT := wT_in (tk_3 (List.mem_of_getElem? (i := 58) rfl)) rfl
theorem wd_525 : Cond.instanceMethod yX7_takeLowHalf ∈ wT := wT_in (tk_3 (List.mem_of_getElem? (i := 45) rfl)) rfl
theorem wd_526 : Cond.selects "StrideWatch$Span" yX7_takeLowHalf yX7_takeLowHalf ∈ wT := wT_in (tk_3 (List.mem_of_getElem? (i := 46) rfl)) rfl
theorem ca_X2_76 : CV "StrideWatch$Effect" 76 M_X7_takeLowHalf 0 := ⟨mk_X7_takeLowHalf, wd_538, wd_525, wd_526⟩
theorem wd_543 : Cond.methodLink "StrideWatch$Effect" 79 yX7_becomeAny ∈ wT := wT_in (tk_3 (List.mem_of_getElem? (i := 63) rfl)) rfl
theorem wd_378 : Cond.instanceMethod yX7_becomeAny ∈ wT := wT_in (tk_2 (List.mem_of_getElem? (i := 138) rfl)) rfl
theorem wd_379 : Cond.selects "StrideWatch$Span" yX7_becomeAny yX7_becomeAny ∈ wT := wT_in (tk_2 (List.mem_of_getElem? (i := 139) rfl)) rfl
theorem ca_X2_79 : CV "StrideWatch$Effect" 79 M_X7_becomeAny 0 := ⟨mk_X7_becomeAny, wd_543, wd_378, wd_379⟩
theorem wd_544 : Cond.methodLink "StrideWatch$Effect" 82 yX7_operate ∈ wT := wT_in (tk_3 (List.mem_of_getElem? (i := 64) rfl)) rfl
theorem wd_545 : Cond.instanceMethod yX7_operate ∈ wT := wT_in (tk_3 (List.mem_of_getElem? (i := 65) rfl)) rfl
theorem wd_546 : Cond.selects "StrideWatch$Span" yX7_operate yX7_operate ∈ wT := wT_in (tk_3 (List.mem_of_getElem? (i := 66) rfl)) rfl
theorem ca_X2_82 : CV "StrideWatch$Effect" 82 M_X7_operate 4 := ⟨mk_X7_operate, wd_544, wd_545, wd_546⟩
theorem wd_607 : Cond.methodLink "StrideWatch$Effect" 92 yX8_dropRecord ∈ wT := wT_in (tk_3 (List.mem_of_getElem? (i := 127) rfl)) rfl
theorem wd_423 : Cond.instanceMethod yX8_dropRecord ∈ wT := wT_in (tk_2 (List.mem_of_getElem? (i := 183) rfl)) rfl
theorem wd_424 : Cond.selects "StrideWatch$State" yX8_dropRecord yX8_dropRecord ∈ wT := wT_in (tk_2 (List.mem_of_getElem? (i := 184) rfl)) rfl
theorem ca_X2_92 : CV "StrideWatch$Effect" 92 M_X8_dropRecord 0 := ⟨mk_X8_dropRecord, wd_607, wd_423, wd_424⟩
theorem wd_608 : Cond.methodLink "StrideWatch$Effect" 95 yX8_setRecord ∈ wT := wT_in (tk_3 (List.mem_of_getElem? (i := 128) rfl)) rfl
theorem wd_332 : Cond.instanceMethod yX8_setRecord ∈ wT := wT_in (tk_2 (List.mem_of_getElem? (i := 92) rfl)) rfl
theorem wd_333 : Cond.selects "StrideWatch$State" yX8_setRecord yX8_setRecord ∈ wT := wT_in (tk_2 (List.mem_of_getElem? (i := 93) rfl)) rfl
theorem ca_X2_95 : CV "StrideWatch$Effect" 95 M_X8_setRecord 4 := ⟨mk_X8_setRecord, wd_608, wd_332, wd_333⟩
theorem wd_52 : Cond.methodLink "StrideWatch$Instruction" 3 Lib.objectInit ∈ wT := wT_in (tk_1 (List.mem_of_getElem? (i := 52) rfl)) rfl
theorem ca_X3_3 : Cond.methodLink "StrideWatch$Instruction" 3 Lib.objectInit ∈ wT ∧ Cond.instanceMethod Lib.objectInit ∈ wT ∧ Cond.code Lib.objectInit ⟨#[0xb1]⟩ 1 none ∈ wT := ⟨wd_52, wd_27, wd_28⟩
theorem wd_442 : Cond.methodLink "StrideWatch$Instruction" 26 yX3_becomePlain ∈ wT := wT_in (tk_2 (List.mem_of_getElem? (i := 202) rfl)) rfl
theorem wd_444 : Cond.instanceMethod yX3_becomePlain ∈ wT := wT_in (tk_2 (List.mem_of_getElem? (i := 204) rfl)) rfl
theorem ws_6 : Cond.selects "StrideWatch$Instruction" yX3_becomePlain yX3_becomePlain ∈ wT := wT_in (List.mem_append_left _ (List.mem_map.mpr ⟨(yX3_becomePlain, 14), pk_1 (List.mem_of_getElem? (i := 6) rfl), rfl⟩)) rfl
theorem ca_X3_26 : CV "StrideWatch$Instruction" 26 M_X3_becomePlain 1 := ⟨mk_X3_becomePlain, wd_442, wd_444, ws_6⟩
theorem wd_446 : Cond.methodLink "StrideWatch$Instruction" 30 yX3_nextByte ∈ wT := wT_in (tk_2 (List.mem_of_getElem? (i := 206) rfl)) rfl
theorem wd_448 : Cond.instanceMethod yX3_nextByte ∈ wT := wT_in (tk_2 (List.mem_of_getElem? (i := 208) rfl)) rfl
theorem ws_7 : Cond.selects "StrideWatch$Instruction" yX3_nextByte yX3_nextByte ∈ wT := wT_in (List.mem_append_left _ (List.mem_map.mpr ⟨(yX3_nextByte, 14), pk_1 (List.mem_of_getElem? (i := 7) rfl), rfl⟩)) rfl
theorem ca_X3_30 : CV "StrideWatch$Instruction" 30 M_X3_nextByte 0 := ⟨mk_X3_nextByte, wd_446, wd_448, ws_7⟩
theorem wd_450 : Cond.methodLink "StrideWatch$Instruction" 37 yX3_readPair ∈ wT := wT_in (tk_2 (List.mem_of_getElem? (i := 210) rfl)) rfl
theorem wd_452 : Cond.instanceMethod yX3_readPair ∈ wT := wT_in (tk_2 (List.mem_of_getElem? (i := 212) rfl)) rfl
theorem ws_8 : Cond.selects "StrideWatch$Instruction" yX3_readPair yX3_readPair ∈ wT := wT_in (List.mem_append_left _ (List.mem_map.mpr ⟨(yX3_readPair, 14), pk_1 (List.mem_of_getElem? (i := 8) rfl), rfl⟩)) rfl
theorem ca_X3_37 : CV "StrideWatch$Instruction" 37 M_X3_readPair 2 := ⟨mk_X3_readPair, wd_450, wd_452, ws_8⟩
theorem wd_458 : Cond.methodLink "StrideWatch$Instruction" 41 yX3_readJump ∈ wT := wT_in (tk_2 (List.mem_of_getElem? (i := 218) rfl)) rfl
theorem wd_460 : Cond.instanceMethod yX3_readJump ∈ wT := wT_in (tk_2 (List.mem_of_getElem? (i := 220) rfl)) rfl
theorem ws_10 : Cond.selects "StrideWatch$Instruction" yX3_readJump yX3_readJump ∈ wT := wT_in (List.mem_append_left _ (List.mem_map.mpr ⟨(yX3_readJump, 14), pk_1 (List.mem_of_getElem? (i := 10) rfl), rfl⟩)) rfl
theorem ca_X3_41 : CV "StrideWatch$Instruction" 41 M_X3_readJump 3 := ⟨mk_X3_readJump, wd_458, wd_460, ws_10⟩
theorem wd_466 : Cond.methodLink "StrideWatch$Instruction" 45 yX3_readMoveToRegister ∈ wT := wT_in (tk_2 (List.mem_of_getElem? (i := 226) rfl)) rfl
theorem wd_468 : Cond.instanceMethod yX3_readMoveToRegister ∈ wT := wT_in (tk_2 (List.mem_of_getElem? (i := 228) rfl)) rfl
theorem ws_12 : Cond.selects "StrideWatch$Instruction" yX3_readMoveToRegister yX3_readMoveToRegister ∈ wT := wT_in (List.mem_append_left _ (List.mem_map.mpr ⟨(yX3_readMoveToRegister, 14), pk_1 (List.mem_of_getElem? (i := 12) rfl), rfl⟩)) rfl
theorem ca_X3_45 : CV "StrideWatch$Instruction" 45 M_X3_readMoveToRegister 1 := ⟨mk_X3_readMoveToRegister, wd_466, wd_468, ws_12⟩
theorem wd_470 : Cond.methodLink "StrideWatch$Instruction" 48 yX3_readOther ∈ wT := wT_in (tk_2 (List.mem_of_getElem? (i := 230) rfl)) rfl
theorem wd_472 : Cond.instanceMethod yX3_readOther ∈ wT := wT_in (tk_2 (List.mem_of_getElem? (i := 232) rfl)) rfl
theorem ws_13 : Cond.selects "StrideWatch$Instruction" yX3_readOther yX3_readOther ∈ wT := wT_in (List.mem_append_left _ (List.mem_map.mpr ⟨(yX3_readOther, 14), pk_1 (List.mem_of_getElem? (i := 13) rfl), rfl⟩)) rfl
theorem ca_X3_48 : CV "StrideWatch$Instruction" 48 M_X3_readOther 1 := ⟨mk_X3_readOther, wd_470, wd_472, ws_13⟩
theorem wd_498 : Cond.methodLink "StrideWatch$Instruction" 57 yX3_isFrameChanged ∈ wT := wT_in (tk_3 (List.mem_of_getElem? (i := 18) rfl)) rfl
theorem wd_500 : Cond.instanceMethod yX3_isFrameChanged ∈ wT := wT_in (tk_3 (List.mem_of_getElem? (i := 20) rfl)) rfl
theorem ws_20 : Cond.selects "StrideWatch$Instruction" yX3_isFrameChanged yX3_isFrameChanged ∈ wT := wT_in (List.mem_append_left _ (List.mem_map.mpr ⟨(yX3_isFrameChanged, 14), pk_2 (List.mem_of_getElem? (i := 4) rfl), rfl⟩)) rfl
theorem ca_X3_57 : CV "StrideWatch$Instruction" 57 M_X3_isFrameChanged 0 := ⟨mk_X3_isFrameChanged, wd_498, wd_500, ws_20⟩
theorem wd_502 : Cond.methodLink "StrideWatch$Instruction" 61 yX3_isCarryArithmetic ∈ wT := wT_in (tk_3 (List.mem_of_getElem? (i := 22) rfl)) rfl
theorem wd_504 : Cond.instanceMethod yX3_isCarryArithmetic ∈ wT := wT_in (tk_3 (List.mem_of_getElem? (i := 24) rfl)) rfl
theorem ws_21 : Cond.selects "StrideWatch$Instruction" yX3_isCarryArithmetic yX3_isCarryArithmetic ∈ wT := wT_in (List.mem_append_left _ (List.mem_map.mpr ⟨(yX3_isCarryArithmetic, 14), pk_2 (List.mem_of_getElem? (i := 5) rfl), rfl⟩)) rfl
theorem ca_X3_61 : CV "StrideWatch$Instruction" 61 M_X3_isCarryArithmetic 0 := ⟨mk_X3_isCarryArithmetic, wd_502, wd_504, ws_21⟩
theorem wd_474 : Cond.methodLink "StrideWatch$Instruction" 77 yX3_readSignExtension ∈ wT := wT_in (tk_2 (List.mem_of_getElem? (i := 234) rfl)) rfl
theorem wd_476 : Cond.instanceMethod yX3_readSignExtension ∈ wT := wT_in (tk_2 (List.mem_of_getElem? (i := 236) rfl)) rfl
theorem ws_14 : Cond.selects "StrideWatch$Instruction" yX3_readSignExtension yX3_readSignExtension ∈ wT := wT_in (List.mem_append_left _ (List.mem_map.mpr ⟨(yX3_readSignExtension, 14), pk_1 (List.mem_of_getElem? (i := 14) rfl), rfl⟩)) rfl
theorem ca_X3_77 : CV "StrideWatch$Instruction" 77 M_X3_readSignExtension 0 := ⟨mk_X3_readSignExtension, wd_474, wd_476, ws_14⟩
theorem wd_478 : Cond.methodLink "StrideWatch$Instruction" 80 yX3_readArithmeticWithConstant ∈ wT := wT_in (tk_2 (List.mem_of_getElem? (i := 238) rfl)) rfl
theorem wd_480 : Cond.instanceMethod yX3_readArithmeticWithConstant ∈ wT := wT_in (tk_3 (List.mem_of_getElem? (i := 0) rfl)) rfl
theorem ws_15 : Cond.selects "StrideWatch$Instruction" yX3_readArithmeticWithConstant yX3_readArithmeticWithConstant ∈ wT := wT_in (List.mem_append_left _ (List.mem_map.mpr ⟨(yX3_readArithmeticWithConstant, 14), pk_1 (List.mem_of_getElem? (i := 15) rfl), rfl⟩)) rfl
theorem ca_X3_80 : CV "StrideWatch$Instruction" 80 M_X3_readArithmeticWithConstant 1 := ⟨mk_X3_readArithmeticWithConstant, wd_478, wd_480, ws_15⟩
theorem wd_482 : Cond.methodLink "StrideWatch$Instruction" 83 yX3_readShift ∈ wT := wT_in (tk_3 (List.mem_of_getElem? (i := 2) rfl)) rfl
theorem wd_484 : Cond.instanceMethod yX3_readShift ∈ wT := wT_in (tk_3 (List.mem_of_getElem? (i := 4) rfl)) rfl
theorem ws_16 : Cond.selects "StrideWatch$Instruction" yX3_readShift yX3_readShift ∈ wT := wT_in (List.mem_append_left _ (List.mem_map.mpr ⟨(yX3_readShift, 14), pk_2 (List.mem_of_getElem? (i := 0) rfl), rfl⟩)) rfl
theorem ca_X3_83 : CV "StrideWatch$Instruction" 83 M_X3_readShift 0 := ⟨mk_X3_readShift, wd_482, wd_484, ws_16⟩
theorem wd_486 : Cond.methodLink "StrideWatch$Instruction" 86 yX3_readMoveToPlace ∈ wT := wT_in (tk_3 (List.mem_of_getElem? (i := 6) rfl)) rfl
theorem wd_488 : Cond.instanceMethod yX3_readMoveToPlace ∈ wT := wT_in (tk_3 (List.mem_of_getElem? (i := 8) rfl)) rfl
theorem ws_17 : Cond.selects "StrideWatch$Instruction" yX3_readMoveToPlace yX3_readMoveToPlace ∈ wT := wT_in (List.mem_append_left _ (List.mem_map.mpr ⟨(yX3_readMoveToPlace, 14), pk_2 (List.mem_of_getElem? (i := 1) rfl), rfl⟩)) rfl
theorem ca_X3_86 : CV "StrideWatch$Instruction" 86 M_X3_readMoveToPlace 0 := ⟨mk_X3_readMoveToPlace, wd_486, wd_488, ws_17⟩
theorem wd_490 : Cond.methodLink "StrideWatch$Instruction" 89 yX3_readTestNotNeg ∈ wT := wT_in (tk_3 (List.mem_of_getElem? (i := 10) rfl)) rfl
theorem wd_492 : Cond.instanceMethod yX3_readTestNotNeg ∈ wT := wT_in (tk_3 (List.mem_of_getElem? (i := 12) rfl)) rfl
theorem ws_18 : Cond.selects "StrideWatch$Instruction" yX3_readTestNotNeg yX3_readTestNotNeg ∈ wT := wT_in (List.mem_append_left _ (List.mem_map.mpr ⟨(yX3_readTestNotNeg, 14), pk_2 (List.mem_of_getElem? (i := 2) rfl), rfl⟩)) rfl
theorem ca_X3_89 : CV "StrideWatch$Instruction" 89 M_X3_readTestNotNeg 0 := ⟨mk_X3_readTestNotNeg, wd_490, wd_492, ws_18⟩
theorem wd_494 : Cond.methodLink "StrideWatch$Instruction" 92 yX3_readIncDec ∈ wT := wT_in (tk_3 (List.mem_of_getElem? (i := 14) rfl)) rfl
theorem wd_496 : Cond.instanceMethod yX3_readIncDec ∈ wT := wT_in (tk_3 (List.mem_of_getElem? (i := 16) rfl)) rfl
theorem ws_19 : Cond.selects "StrideWatch$Instruction" yX3_readIncDec yX3_readIncDec ∈ wT := wT_in (List.mem_append_left _ (List.mem_map.mpr ⟨(yX3_readIncDec, 14), pk_2 (List.mem_of_getElem? (i := 3) rfl), rfl⟩)) rfl
theorem ca_X3_92 : CV "StrideWatch$Instruction" 92 M_X3_readIncDec 0 := ⟨mk_X3_readIncDec, wd_494, wd_496, ws_19⟩
theorem wd_454 : Cond.methodLink "StrideWatch$Instruction" 95 yX3_readPlace ∈ wT := wT_in (tk_2 (List.mem_of_getElem? (i := 214) rfl)) rfl
theorem wd_456 : Cond.instanceMethod yX3_readPlace ∈ wT := wT_in (tk_2 (List.mem_of_getElem? (i := 216) rfl)) rfl
theorem ws_9 : Cond.selects "StrideWatch$Instruction" yX3_readPlace yX3_readPlace ∈ wT := wT_in (List.mem_append_left _ (List.mem_map.mpr ⟨(yX3_readPlace, 14), pk_1 (List.mem_of_getElem? (i := 9) rfl), rfl⟩)) rfl
theorem ca_X3_95 : CV "StrideWatch$Instruction" 95 M_X3_readPlace 0 := ⟨mk_X3_readPlace, wd_454, wd_456, ws_9⟩
theorem wd_462 : Cond.methodLink "StrideWatch$Instruction" 107 yX3_readNumber ∈ wT := wT_in (tk_2 (List.mem_of_getElem? (i := 222) rfl)) rfl
theorem wd_464 : Cond.instanceMethod yX3_readNumber ∈ wT := wT_in (tk_2 (List.mem_of_getElem? (i := 224) rfl)) rfl
theorem ws_11 : Cond.selects "StrideWatch$Instruction" yX3_readNumber yX3_readNumber ∈ wT := wT_in (List.mem_append_left _ (List.mem_map.mpr ⟨(yX3_readNumber, 14), pk_1 (List.mem_of_getElem? (i := 11) rfl), rfl⟩)) rfl
theorem ca_X3_107 : CV "StrideWatch$Instruction" 107 M_X3_readNumber 1 := ⟨mk_X3_readNumber, wd_462, wd_464, ws_11⟩
theorem wd_156 : Cond.methodLink "StrideWatch$Looking" 3 Lib.objectInit ∈ wT := wT_in (tk_1 (List.mem_of_getElem? (i := 156) rfl)) rfl
theorem ca_X4_3 : Cond.methodLink "StrideWatch$Looking" 3 Lib.objectInit ∈ wT ∧ Cond.instanceMethod Lib.objectInit ∈ wT ∧ Cond.code Lib.objectInit ⟨#[0xb1]⟩ 1 none ∈ wT := ⟨wd_156, wd_27, wd_28⟩
theorem wd_160 : Cond.methodLink "StrideWatch$Looking" 19 yX8_init ∈ wT := wT_in (tk_1 (List.mem_of_getElem? (i := 160) rfl)) rfl
theorem wd_117 : Cond.instanceMethod yX8_init ∈ wT := wT_in (tk_1 (List.mem_of_getElem? (i := 117) rfl)) rfl
theorem ca_X4_19 : CI "StrideWatch$Looking" 19 M_X8_init 0 := ⟨mk_X8_init, wd_160, wd_117, rfl, rfl, by decide +kernel⟩
theorem wl_163 : Cond.methodLinkNest "StrideWatch$Looking" 26 yX2_init "StrideWatch" ∈ lw_tbl := tk_1 (List.mem_of_getElem? (i := 163) rfl)
theorem wd_164 : Cond.instanceMethod yX2_init ∈ wT := wT_in (tk_1 (List.mem_of_getElem? (i := 164) rfl)) rfl
theorem ca_X4_26 : CIN "StrideWatch$Looking" 26 M_X2_init 0 := ⟨mk_X2_init, ⟨"StrideWatch", wl_163⟩, wd_164, rfl, rfl, by decide +kernel⟩
theorem wl_206 : Cond.methodLinkNest "StrideWatch$Looking" 33 yX0_init "StrideWatch" ∈ lw_tbl := tk_1 (List.mem_of_getElem? (i := 206) rfl)
theorem wd_207 : Cond.instanceMethod yX0_init ∈ wT := wT_in (tk_1 (List.mem_of_getElem? (i := 207) rfl)) rfl
theorem ca_X4_33 : CIN "StrideWatch$Looking" 33 M_X0_init 0 := ⟨mk_X0_init, ⟨"StrideWatch", wl_206⟩, wd_207, rfl, rfl, by decide +kernel⟩
theorem wl_220 : Cond.methodLinkNest "StrideWatch$Looking" 40 yX7_init "StrideWatch" ∈ lw_tbl := tk_1 (List.mem_of_getElem? (i := 220) rfl)
theorem ca_X4_40 : CIN "StrideWatch$Looking" 40 M_X7_init 0 := ⟨mk_X7_init, ⟨"StrideWatch", wl_220⟩, wd_170, rfl, rfl, by decide +kernel⟩
theorem wd_430 : Cond.methodLink "StrideWatch$Looking" 67 yX4_pointIfMade ∈ wT := wT_in (tk_2 (List.mem_of_getElem? (i := 190) rfl)) rfl
theorem wd_432 : Cond.instanceMethod yX4_pointIfMade ∈ wT := wT_in (tk_2 (List.mem_of_getElem? (i := 192) rfl)) rfl
theorem ws_4 : Cond.selects "StrideWatch$Looking" yX4_pointIfMade yX4_pointIfMade ∈ wT := wT_in (List.mem_append_left _ (List.mem_map.mpr ⟨(yX4_pointIfMade, 9), pk_1 (List.mem_of_getElem? (i := 4) rfl), rfl⟩)) rfl
theorem ca_X4_67 : CV "StrideWatch$Looking" 67 M_X4_pointIfMade 1 := ⟨mk_X4_pointIfMade, wd_430, wd_432, ws_4⟩
theorem wd_851 : Cond.methodLink "StrideWatch$Looking" 71 yX7_becomeNone ∈ wT := wT_in (tk_4 (List.mem_of_getElem? (i := 131) rfl)) rfl
theorem ca_X4_71 : CV "StrideWatch$Looking" 71 M_X7_becomeNone 0 := ⟨mk_X7_becomeNone, wd_851, wd_626, wd_627⟩
theorem wd_370 : Cond.methodLink "StrideWatch$Looking" 77 yX8_load ∈ wT := wT_in (tk_2 (List.mem_of_getElem? (i := 130) rfl)) rfl
theorem ca_X4_77 : CV "StrideWatch$Looking" 77 M_X8_load 2 := ⟨mk_X8_load, wd_370, wd_371, wd_372⟩
theorem wd_323 : Cond.methodLink "StrideWatch$Looking" 81 yX4_forget ∈ wT := wT_in (tk_2 (List.mem_of_getElem? (i := 83) rfl)) rfl
theorem wd_312 : Cond.instanceMethod yX4_forget ∈ wT := wT_in (tk_2 (List.mem_of_getElem? (i := 72) rfl)) rfl
theorem wd_313 : Cond.selects "StrideWatch$Looking" yX4_forget yX4_forget ∈ wT := wT_in (tk_2 (List.mem_of_getElem? (i := 73) rfl)) rfl
theorem ca_X4_81 : CV "StrideWatch$Looking" 81 M_X4_forget 0 := ⟨mk_X4_forget, wd_323, wd_312, wd_313⟩
theorem wd_324 : Cond.methodLink "StrideWatch$Looking" 84 yX8_copyFrom ∈ wT := wT_in (tk_2 (List.mem_of_getElem? (i := 84) rfl)) rfl
theorem wd_325 : Cond.instanceMethod yX8_copyFrom ∈ wT := wT_in (tk_2 (List.mem_of_getElem? (i := 85) rfl)) rfl
theorem wd_326 : Cond.selects "StrideWatch$State" yX8_copyFrom yX8_copyFrom ∈ wT := wT_in (tk_2 (List.mem_of_getElem? (i := 86) rfl)) rfl
theorem ca_X4_84 : CV "StrideWatch$Looking" 84 M_X8_copyFrom 1 := ⟨mk_X8_copyFrom, wd_324, wd_325, wd_326⟩
theorem wd_335 : Cond.methodLink "StrideWatch$Looking" 88 yX4_arrive ∈ wT := wT_in (tk_2 (List.mem_of_getElem? (i := 95) rfl)) rfl
theorem wd_337 : Cond.instanceMethod yX4_arrive ∈ wT := wT_in (tk_2 (List.mem_of_getElem? (i := 97) rfl)) rfl
theorem ws_1 : Cond.selects "StrideWatch$Looking" yX4_arrive yX4_arrive ∈ wT := wT_in (List.mem_append_left _ (List.mem_map.mpr ⟨(yX4_arrive, 9), pk_1 (List.mem_of_getElem? (i := 1) rfl), rfl⟩)) rfl
theorem ca_X4_88 : CV "StrideWatch$Looking" 88 M_X4_arrive 2 := ⟨mk_X4_arrive, wd_335, wd_337, ws_1⟩
theorem wd_426 : Cond.methodLink "StrideWatch$Looking" 97 yX4_isWaiting ∈ wT := wT_in (tk_2 (List.mem_of_getElem? (i := 186) rfl)) rfl
theorem wd_428 : Cond.instanceMethod yX4_isWaiting ∈ wT := wT_in (tk_2 (List.mem_of_getElem? (i := 188) rfl)) rfl
theorem ws_3 : Cond.selects "StrideWatch$Looking" yX4_isWaiting yX4_isWaiting ∈ wT := wT_in (List.mem_append_left _ (List.mem_map.mpr ⟨(yX4_isWaiting, 9), pk_1 (List.mem_of_getElem? (i := 3) rfl), rfl⟩)) rfl
theorem ca_X4_97 : CV "StrideWatch$Looking" 97 M_X4_isWaiting 1 := ⟨mk_X4_isWaiting, wd_426, wd_428, ws_3⟩
theorem wd_434 : Cond.methodLink "StrideWatch$Looking" 101 yX4_goThrough ∈ wT := wT_in (tk_2 (List.mem_of_getElem? (i := 194) rfl)) rfl
theorem wd_436 : Cond.instanceMethod yX4_goThrough ∈ wT := wT_in (tk_2 (List.mem_of_getElem? (i := 196) rfl)) rfl
theorem ws_5 : Cond.selects "StrideWatch$Looking" yX4_goThrough yX4_goThrough ∈ wT := wT_in (List.mem_append_left _ (List.mem_map.mpr ⟨(yX4_goThrough, 9), pk_1 (List.mem_of_getElem? (i := 5) rfl), rfl⟩)) rfl
theorem ca_X4_101 : CV "StrideWatch$Looking" 101 M_X4_goThrough 1 := ⟨mk_X4_goThrough, wd_434, wd_436, ws_5⟩
theorem wd_438 : Cond.methodLink "StrideWatch$Looking" 105 yX3_readFrom ∈ wT := wT_in (tk_2 (List.mem_of_getElem? (i := 198) rfl)) rfl
theorem wd_439 : Cond.instanceMethod yX3_readFrom ∈ wT := wT_in (tk_2 (List.mem_of_getElem? (i := 199) rfl)) rfl
theorem wd_440 : Cond.selects "StrideWatch$Instruction" yX3_readFrom yX3_readFrom ∈ wT := wT_in (tk_2 (List.mem_of_getElem? (i := 200) rfl)) rfl
theorem ca_X4_105 : CV "StrideWatch$Looking" 105 M_X3_readFrom 1 := ⟨mk_X3_readFrom, wd_438, wd_439, wd_440⟩
theorem wd_506 : Cond.methodLink "StrideWatch$Looking" 113 yX2_apply ∈ wT := wT_in (tk_3 (List.mem_of_getElem? (i := 26) rfl)) rfl
theorem wd_507 : Cond.instanceMethod yX2_apply ∈ wT := wT_in (tk_3 (List.mem_of_getElem? (i := 27) rfl)) rfl
theorem wd_508 : Cond.selects "StrideWatch$Effect" yX2_apply yX2_apply ∈ wT := wT_in (tk_3 (List.mem_of_getElem? (i := 28) rfl)) rfl
theorem ca_X4_113 : CV "StrideWatch$Looking" 113 M_X2_apply 2 := ⟨mk_X2_apply, wd_506, wd_507, wd_508⟩
theorem wd_609 : Cond.methodLink "StrideWatch$Looking" 120 yX0_narrow ∈ wT := wT_in (tk_3 (List.mem_of_getElem? (i := 129) rfl)) rfl
theorem wd_610 : Cond.instanceMethod yX0_narrow ∈ wT := wT_in (tk_3 (List.mem_of_getElem? (i := 130) rfl)) rfl
theorem wd_611 : Cond.selects "StrideWatch$Branch" yX0_narrow yX0_narrow ∈ wT := wT_in (tk_3 (List.mem_of_getElem? (i := 131) rfl)) rfl
theorem ca_X4_120 : CV "StrideWatch$Looking" 120 M_X0_narrow 3 := ⟨mk_X0_narrow, wd_609, wd_610, wd_611⟩
theorem wd_339 : Cond.methodLink "StrideWatch$Looking" 131 yX1_holds ∈ wT := wT_in (tk_2 (List.mem_of_getElem? (i := 99) rfl)) rfl
theorem wd_340 : Cond.instanceMethod yX1_holds ∈ wT := wT_in (tk_2 (List.mem_of_getElem? (i := 100) rfl)) rfl
theorem wd_341 : Cond.selects "StrideWatch$Code" yX1_holds yX1_holds ∈ wT := wT_in (tk_2 (List.mem_of_getElem? (i := 101) rfl)) rfl
theorem ca_X4_131 : CV "StrideWatch$Looking" 131 M_X1_holds 1 := ⟨mk_X1_holds, wd_339, wd_340, wd_341⟩
theorem wl_345 : Cond.methodLinkNest "StrideWatch$Looking" 137 yX5_init "StrideWatch" ∈ lw_tbl := tk_2 (List.mem_of_getElem? (i := 105) rfl)
theorem wd_346 : Cond.instanceMethod yX5_init ∈ wT := wT_in (tk_2 (List.mem_of_getElem? (i := 106) rfl)) rfl
theorem ca_X4_137 : CIN "StrideWatch$Looking" 137 M_X5_init 0 := ⟨mk_X5_init, ⟨"StrideWatch", wl_345⟩, wd_346, rfl, rfl, by decide +kernel⟩
theorem wd_362 : Cond.methodLink "StrideWatch$Looking" 138 yX4_absorb ∈ wT := wT_in (tk_2 (List.mem_of_getElem? (i := 122) rfl)) rfl
theorem wd_364 : Cond.instanceMethod yX4_absorb ∈ wT := wT_in (tk_2 (List.mem_of_getElem? (i := 124) rfl)) rfl
theorem ws_2 : Cond.selects "StrideWatch$Looking" yX4_absorb yX4_absorb ∈ wT := wT_in (List.mem_append_left _ (List.mem_map.mpr ⟨(yX4_absorb, 9), pk_1 (List.mem_of_getElem? (i := 2) rfl), rfl⟩)) rfl
theorem ca_X4_138 : CV "StrideWatch$Looking" 138 M_X4_absorb 2 := ⟨mk_X4_absorb, wd_362, wd_364, ws_2⟩
theorem wd_366 : Cond.methodLink "StrideWatch$Looking" 142 yX8_isSameSpan ∈ wT := wT_in (tk_2 (List.mem_of_getElem? (i := 126) rfl)) rfl
theorem wd_367 : Cond.instanceMethod yX8_isSameSpan ∈ wT := wT_in (tk_2 (List.mem_of_getElem? (i := 127) rfl)) rfl
theorem wd_368 : Cond.selects "StrideWatch$State" yX8_isSameSpan yX8_isSameSpan ∈ wT := wT_in (tk_2 (List.mem_of_getElem? (i := 128) rfl)) rfl
theorem ca_X4_142 : CV "StrideWatch$Looking" 142 M_X8_isSameSpan 2 := ⟨mk_X8_isSameSpan, wd_366, wd_367, wd_368⟩
theorem wd_382 : Cond.methodLink "StrideWatch$Looking" 146 yX7_join ∈ wT := wT_in (tk_2 (List.mem_of_getElem? (i := 142) rfl)) rfl
theorem wd_383 : Cond.instanceMethod yX7_join ∈ wT := wT_in (tk_2 (List.mem_of_getElem? (i := 143) rfl)) rfl
theorem wd_384 : Cond.selects "StrideWatch$Span" yX7_join yX7_join ∈ wT := wT_in (tk_2 (List.mem_of_getElem? (i := 144) rfl)) rfl
theorem ca_X4_146 : CV "StrideWatch$Looking" 146 M_X7_join 2 := ⟨mk_X7_join, wd_382, wd_383, wd_384⟩
theorem wd_406 : Cond.methodLink "StrideWatch$Looking" 150 yX7_stretchFrom ∈ wT := wT_in (tk_2 (List.mem_of_getElem? (i := 166) rfl)) rfl
theorem wd_407 : Cond.instanceMethod yX7_stretchFrom ∈ wT := wT_in (tk_2 (List.mem_of_getElem? (i := 167) rfl)) rfl
theorem wd_408 : Cond.selects "StrideWatch$Span" yX7_stretchFrom yX7_stretchFrom ∈ wT := wT_in (tk_2 (List.mem_of_getElem? (i := 168) rfl)) rfl
theorem ca_X4_150 : CV "StrideWatch$Looking" 150 M_X7_stretchFrom 1 := ⟨mk_X7_stretchFrom, wd_406, wd_407, wd_408⟩
theorem wd_410 : Cond.methodLink "StrideWatch$Looking" 154 yX8_store ∈ wT := wT_in (tk_2 (List.mem_of_getElem? (i := 170) rfl)) rfl
theorem ca_X4_154 : CV "StrideWatch$Looking" 154 M_X8_store 2 := ⟨mk_X8_store, wd_410, wd_411, wd_412⟩
theorem wd_418 : Cond.methodLink "StrideWatch$Looking" 169 yX8_isSameRecord ∈ wT := wT_in (tk_2 (List.mem_of_getElem? (i := 178) rfl)) rfl
theorem wd_419 : Cond.instanceMethod yX8_isSameRecord ∈ wT := wT_in (tk_2 (List.mem_of_getElem? (i := 179) rfl)) rfl
theorem wd_420 : Cond.selects "StrideWatch$State" yX8_isSameRecord yX8_isSameRecord ∈ wT := wT_in (tk_2 (List.mem_of_getElem? (i := 180) rfl)) rfl
theorem ca_X4_169 : CV "StrideWatch$Looking" 169 M_X8_isSameRecord 1 := ⟨mk_X8_isSameRecord, wd_418, wd_419, wd_420⟩
theorem wd_422 : Cond.methodLink "StrideWatch$Looking" 173 yX8_dropRecord ∈ wT := wT_in (tk_2 (List.mem_of_getElem? (i := 182) rfl)) rfl
theorem ca_X4_173 : CV "StrideWatch$Looking" 173 M_X8_dropRecord 0 := ⟨mk_X8_dropRecord, wd_422, wd_423, wd_424⟩
theorem wd_348 : Cond.methodLink "StrideWatch$Point" 1 Lib.objectInit ∈ wT := wT_in (tk_2 (List.mem_of_getElem? (i := 108) rfl)) rfl
theorem ca_X5_1 : Cond.methodLink "StrideWatch$Point" 1 Lib.objectInit ∈ wT ∧ Cond.instanceMethod Lib.objectInit ∈ wT ∧ Cond.code Lib.objectInit ⟨#[0xb1]⟩ 1 none ∈ wT := ⟨wd_348, wd_27, wd_28⟩
theorem wd_350 : Cond.methodLink "StrideWatch$Point" 9 yX8_init ∈ wT := wT_in (tk_2 (List.mem_of_getElem? (i := 110) rfl)) rfl
theorem ca_X5_9 : CI "StrideWatch$Point" 9 M_X8_init 0 := ⟨mk_X8_init, wd_350, wd_117, rfl, rfl, by decide +kernel⟩
theorem wd_254 : Cond.methodLink "StrideWatch$Run" 3 Lib.objectInit ∈ wT := wT_in (tk_2 (List.mem_of_getElem? (i := 14) rfl)) rfl
theorem ca_X6_3 : Cond.methodLink "StrideWatch$Run" 3 Lib.objectInit ∈ wT ∧ Cond.instanceMethod Lib.objectInit ∈ wT ∧ Cond.code Lib.objectInit ⟨#[0xb1]⟩ 1 none ∈ wT := ⟨wd_254, wd_27, wd_28⟩
theorem wl_874 : Cond.methodLinkNest "StrideWatch$Run" 30 yX9_isLocation "StrideWatch" ∈ lw_tbl := tk_4 (List.mem_of_getElem? (i := 154) rfl)
theorem wd_375 : Cond.static yX9_isLocation ∈ wT := wT_in (tk_2 (List.mem_of_getElem? (i := 135) rfl)) rfl
theorem ca_X6_30 : CTN "StrideWatch$Run" 30 M_X9_isLocation 1 := ⟨mk_X9_isLocation, ⟨"StrideWatch", wl_874⟩, wd_375, by decide +kernel⟩
theorem wd_678 : Cond.methodLink "StrideWatch$Run" 34 arraycopyName ∈ wT := wT_in (tk_3 (List.mem_of_getElem? (i := 198) rfl)) rfl
theorem wd_330 : Cond.native arraycopyName ∈ wT := wT_in (tk_2 (List.mem_of_getElem? (i := 90) rfl)) rfl
theorem wd_329 : Cond.static arraycopyName ∈ wT := wT_in (tk_2 (List.mem_of_getElem? (i := 89) rfl)) rfl
theorem wd_17 : Cond.initialized "java/lang/System" ∈ wT := wT_in (tk_1 (List.mem_of_getElem? (i := 17) rfl)) rfl
theorem ca_X6_34 : Cond.methodLink "StrideWatch$Run" 34 arraycopyName ∈ wT ∧ Cond.native arraycopyName ∈ wT ∧ Cond.static arraycopyName ∈ wT ∧ Cond.initialized "java/lang/System" ∈ wT := ⟨wd_678, wd_330, wd_329, wd_17⟩
theorem wd_679 : Cond.methodLink "StrideWatch$Run" 44 yX6_moveTo ∈ wT := wT_in (tk_3 (List.mem_of_getElem? (i := 199) rfl)) rfl
theorem wd_681 : Cond.instanceMethod yX6_moveTo ∈ wT := wT_in (tk_3 (List.mem_of_getElem? (i := 201) rfl)) rfl
theorem ws_37 : Cond.selects "StrideWatch$Run" yX6_moveTo yX6_moveTo ∈ wT := wT_in (List.mem_append_left _ (List.mem_map.mpr ⟨(yX6_moveTo, 10), pk_3 (List.mem_of_getElem? (i := 5) rfl), rfl⟩)) rfl
theorem ca_X6_44 : CV "StrideWatch$Run" 44 M_X6_moveTo 1 := ⟨mk_X6_moveTo, wd_679, wd_681, ws_37⟩
theorem wd_888 : Cond.methodLink "StrideWatch$Run" 48 yX3_readFrom ∈ wT := wT_in (tk_4 (List.mem_of_getElem? (i := 168) rfl)) rfl
theorem ca_X6_48 : CV "StrideWatch$Run" 48 M_X3_readFrom 1 := ⟨mk_X3_readFrom, wd_888, wd_439, wd_440⟩
theorem wd_889 : Cond.methodLink "StrideWatch$Run" 67 yX6_isSo ∈ wT := wT_in (tk_4 (List.mem_of_getElem? (i := 169) rfl)) rfl
theorem wd_891 : Cond.instanceMethod yX6_isSo ∈ wT := wT_in (tk_4 (List.mem_of_getElem? (i := 171) rfl)) rfl
theorem ws_40 : Cond.selects "StrideWatch$Run" yX6_isSo yX6_isSo ∈ wT := wT_in (List.mem_append_left _ (List.mem_map.mpr ⟨(yX6_isSo, 10), pk_3 (List.mem_of_getElem? (i := 8) rfl), rfl⟩)) rfl
theorem ca_X6_67 : CV "StrideWatch$Run" 67 M_X6_isSo 1 := ⟨mk_X6_isSo, wd_889, wd_891, ws_40⟩
theorem wd_893 : Cond.methodLink "StrideWatch$Run" 70 yX6_compute ∈ wT := wT_in (tk_4 (List.mem_of_getElem? (i := 173) rfl)) rfl
theorem wd_895 : Cond.instanceMethod yX6_compute ∈ wT := wT_in (tk_4 (List.mem_of_getElem? (i := 175) rfl)) rfl
theorem ws_41 : Cond.selects "StrideWatch$Run" yX6_compute yX6_compute ∈ wT := wT_in (List.mem_append_left _ (List.mem_map.mpr ⟨(yX6_compute, 10), pk_3 (List.mem_of_getElem? (i := 9) rfl), rfl⟩)) rfl
theorem ca_X6_70 : CV "StrideWatch$Run" 70 M_X6_compute 0 := ⟨mk_X6_compute, wd_893, wd_895, ws_41⟩
theorem wd_683 : Cond.methodLink "StrideWatch$Run" 73 yX1_holds ∈ wT := wT_in (tk_3 (List.mem_of_getElem? (i := 203) rfl)) rfl
theorem ca_X6_73 : CV "StrideWatch$Run" 73 M_X1_holds 1 := ⟨mk_X1_holds, wd_683, wd_340, wd_341⟩
theorem wd_897 : Cond.methodLink "StrideWatch$Run" 94 yX6_read ∈ wT := wT_in (tk_4 (List.mem_of_getElem? (i := 177) rfl)) rfl
theorem wd_898 : Cond.instanceMethod yX6_read ∈ wT := wT_in (tk_4 (List.mem_of_getElem? (i := 178) rfl)) rfl
theorem wd_899 : Cond.selects "StrideWatch$Run" yX6_read yX6_read ∈ wT := wT_in (tk_4 (List.mem_of_getElem? (i := 179) rfl)) rfl
theorem ca_X6_94 : CV "StrideWatch$Run" 94 M_X6_read 1 := ⟨mk_X6_read, wd_897, wd_898, wd_899⟩
theorem wd_901 : Cond.methodLink "StrideWatch$Run" 98 yX6_atWidth ∈ wT := wT_in (tk_4 (List.mem_of_getElem? (i := 181) rfl)) rfl
theorem wd_903 : Cond.instanceMethod yX6_atWidth ∈ wT := wT_in (tk_4 (List.mem_of_getElem? (i := 183) rfl)) rfl
theorem ws_42 : Cond.selects "StrideWatch$Run" yX6_atWidth yX6_atWidth ∈ wT := wT_in (List.mem_append_left _ (List.mem_map.mpr ⟨(yX6_atWidth, 10), pk_3 (List.mem_of_getElem? (i := 10) rfl), rfl⟩)) rfl
theorem ca_X6_98 : CV "StrideWatch$Run" 98 M_X6_atWidth 1 := ⟨mk_X6_atWidth, wd_901, wd_903, ws_42⟩
theorem wd_905 : Cond.methodLink "StrideWatch$Run" 105 yX6_sum ∈ wT := wT_in (tk_4 (List.mem_of_getElem? (i := 185) rfl)) rfl
theorem wd_907 : Cond.instanceMethod yX6_sum ∈ wT := wT_in (tk_4 (List.mem_of_getElem? (i := 187) rfl)) rfl
theorem ws_43 : Cond.selects "StrideWatch$Run" yX6_sum yX6_sum ∈ wT := wT_in (List.mem_append_left _ (List.mem_map.mpr ⟨(yX6_sum, 10), pk_3 (List.mem_of_getElem? (i := 11) rfl), rfl⟩)) rfl
theorem ca_X6_105 : CV "StrideWatch$Run" 105 M_X6_sum 2 := ⟨mk_X6_sum, wd_905, wd_907, ws_43⟩
theorem wd_919 : Cond.methodLink "StrideWatch$Run" 109 yX6_write ∈ wT := wT_in (tk_4 (List.mem_of_getElem? (i := 199) rfl)) rfl
theorem wd_921 : Cond.instanceMethod yX6_write ∈ wT := wT_in (tk_4 (List.mem_of_getElem? (i := 201) rfl)) rfl
theorem ws_45 : Cond.selects "StrideWatch$Run" yX6_write yX6_write ∈ wT := wT_in (List.mem_append_left _ (List.mem_map.mpr ⟨(yX6_write, 10), pk_3 (List.mem_of_getElem? (i := 13) rfl), rfl⟩)) rfl
theorem ca_X6_109 : CV "StrideWatch$Run" 109 M_X6_write 1 := ⟨mk_X6_write, wd_919, wd_921, ws_45⟩
theorem wd_924 : Cond.methodLink "StrideWatch$Run" 112 yX6_difference ∈ wT := wT_in (tk_4 (List.mem_of_getElem? (i := 204) rfl)) rfl
theorem wd_926 : Cond.instanceMethod yX6_difference ∈ wT := wT_in (tk_4 (List.mem_of_getElem? (i := 206) rfl)) rfl
theorem ws_46 : Cond.selects "StrideWatch$Run" yX6_difference yX6_difference ∈ wT := wT_in (List.mem_append_left _ (List.mem_map.mpr ⟨(yX6_difference, 10), pk_3 (List.mem_of_getElem? (i := 14) rfl), rfl⟩)) rfl
theorem ca_X6_112 : CV "StrideWatch$Run" 112 M_X6_difference 2 := ⟨mk_X6_difference, wd_924, wd_926, ws_46⟩
theorem wd_928 : Cond.methodLink "StrideWatch$Run" 115 yX6_nextTo ∈ wT := wT_in (tk_4 (List.mem_of_getElem? (i := 208) rfl)) rfl
theorem wd_930 : Cond.instanceMethod yX6_nextTo ∈ wT := wT_in (tk_4 (List.mem_of_getElem? (i := 210) rfl)) rfl
theorem ws_47 : Cond.selects "StrideWatch$Run" yX6_nextTo yX6_nextTo ∈ wT := wT_in (List.mem_append_left _ (List.mem_map.mpr ⟨(yX6_nextTo, 10), pk_3 (List.mem_of_getElem? (i := 15) rfl), rfl⟩)) rfl
theorem ca_X6_115 : CV "StrideWatch$Run" 115 M_X6_nextTo 2 := ⟨mk_X6_nextTo, wd_928, wd_930, ws_47⟩
theorem wd_909 : Cond.methodLink "StrideWatch$Run" 119 yX6_noteBits ∈ wT := wT_in (tk_4 (List.mem_of_getElem? (i := 189) rfl)) rfl
theorem wd_911 : Cond.instanceMethod yX6_noteBits ∈ wT := wT_in (tk_4 (List.mem_of_getElem? (i := 191) rfl)) rfl
theorem ws_44 : Cond.selects "StrideWatch$Run" yX6_noteBits yX6_noteBits ∈ wT := wT_in (List.mem_append_left _ (List.mem_map.mpr ⟨(yX6_noteBits, 10), pk_3 (List.mem_of_getElem? (i := 12) rfl), rfl⟩)) rfl
theorem ca_X6_119 : CV "StrideWatch$Run" 119 M_X6_noteBits 1 := ⟨mk_X6_noteBits, wd_909, wd_911, ws_44⟩
theorem wd_933 : Cond.methodLink "StrideWatch$Run" 124 yX6_shifted ∈ wT := wT_in (tk_4 (List.mem_of_getElem? (i := 213) rfl)) rfl
theorem wd_935 : Cond.instanceMethod yX6_shifted ∈ wT := wT_in (tk_4 (List.mem_of_getElem? (i := 215) rfl)) rfl
theorem ws_48 : Cond.selects "StrideWatch$Run" yX6_shifted yX6_shifted ∈ wT := wT_in (List.mem_append_left _ (List.mem_map.mpr ⟨(yX6_shifted, 10), pk_4 (List.mem_of_getElem? (i := 0) rfl), rfl⟩)) rfl
theorem ca_X6_124 : CV "StrideWatch$Run" 124 M_X6_shifted 1 := ⟨mk_X6_shifted, wd_933, wd_935, ws_48⟩
theorem wd_913 : Cond.methodLink "StrideWatch$Run" 132 yJ13_compareUnsigned_74951 ∈ wT := wT_in (tk_4 (List.mem_of_getElem? (i := 193) rfl)) rfl
theorem wd_914 : Cond.static yJ13_compareUnsigned_74951 ∈ wT := wT_in (tk_4 (List.mem_of_getElem? (i := 194) rfl)) rfl
theorem ca_X6_132 : CT "StrideWatch$Run" 132 M_J13_compareUnsigned_74951 2 := ⟨mk_J13_compareUnsigned_74951, wd_913, wd_914⟩
theorem wd_172 : Cond.methodLink "StrideWatch$Span" 3 Lib.objectInit ∈ wT := wT_in (tk_1 (List.mem_of_getElem? (i := 172) rfl)) rfl
theorem ca_X7_3 : Cond.methodLink "StrideWatch$Span" 3 Lib.objectInit ∈ wT ∧ Cond.instanceMethod Lib.objectInit ∈ wT ∧ Cond.code Lib.objectInit ⟨#[0xb1]⟩ 1 none ∈ wT := ⟨wd_172, wd_27, wd_28⟩
theorem wd_386 : Cond.methodLink "StrideWatch$Span" 29 yX7_isAny ∈ wT := wT_in (tk_2 (List.mem_of_getElem? (i := 146) rfl)) rfl
theorem ca_X7_29 : CV "StrideWatch$Span" 29 M_X7_isAny 0 := ⟨mk_X7_isAny, wd_386, wd_387, wd_388⟩
theorem wd_390 : Cond.methodLink "StrideWatch$Span" 33 yX7_becomeAny ∈ wT := wT_in (tk_2 (List.mem_of_getElem? (i := 150) rfl)) rfl
theorem ca_X7_33 : CV "StrideWatch$Span" 33 M_X7_becomeAny 0 := ⟨mk_X7_becomeAny, wd_390, wd_378, wd_379⟩
theorem wd_391 : Cond.methodLink "StrideWatch$Span" 36 yX7_gcd ∈ wT := wT_in (tk_2 (List.mem_of_getElem? (i := 151) rfl)) rfl
theorem wd_392 : Cond.static yX7_gcd ∈ wT := wT_in (tk_2 (List.mem_of_getElem? (i := 152) rfl)) rfl
theorem ca_X7_36 : CT "StrideWatch$Span" 36 M_X7_gcd 2 := ⟨mk_X7_gcd, wd_391, wd_392⟩
theorem wd_394 : Cond.methodLink "StrideWatch$Span" 40 yJ9_min_f86c9 ∈ wT := wT_in (tk_2 (List.mem_of_getElem? (i := 154) rfl)) rfl
theorem wd_395 : Cond.static yJ9_min_f86c9 ∈ wT := wT_in (tk_2 (List.mem_of_getElem? (i := 155) rfl)) rfl
theorem ca_X7_40 : CT "StrideWatch$Span" 40 M_J9_min_f86c9 2 := ⟨mk_J9_min_f86c9, wd_394, wd_395⟩
theorem wd_397 : Cond.methodLink "StrideWatch$Span" 45 yJ9_max_f86c9 ∈ wT := wT_in (tk_2 (List.mem_of_getElem? (i := 157) rfl)) rfl
theorem wd_398 : Cond.static yJ9_max_f86c9 ∈ wT := wT_in (tk_2 (List.mem_of_getElem? (i := 158) rfl)) rfl
theorem ca_X7_45 : CT "StrideWatch$Span" 45 M_J9_max_f86c9 2 := ⟨mk_J9_max_f86c9, wd_397, wd_398⟩
theorem wd_400 : Cond.methodLink "StrideWatch$Span" 48 yX7_become ∈ wT := wT_in (tk_2 (List.mem_of_getElem? (i := 160) rfl)) rfl
theorem ca_X7_48 : CV "StrideWatch$Span" 48 M_X7_become 3 := ⟨mk_X7_become, wd_400, wd_401, wd_402⟩
theorem wd_625 : Cond.methodLink "StrideWatch$Span" 52 yX7_becomeNone ∈ wT := wT_in (tk_3 (List.mem_of_getElem? (i := 145) rfl)) rfl
theorem ca_X7_52 : CV "StrideWatch$Span" 52 M_X7_becomeNone 0 := ⟨mk_X7_becomeNone, wd_625, wd_626, wd_627⟩
theorem wd_630 : Cond.methodLink "StrideWatch$Span" 55 yJ9_floorMod_f86c9 ∈ wT := wT_in (tk_3 (List.mem_of_getElem? (i := 150) rfl)) rfl
theorem wd_631 : Cond.static yJ9_floorMod_f86c9 ∈ wT := wT_in (tk_3 (List.mem_of_getElem? (i := 151) rfl)) rfl
theorem ca_X7_55 : CT "StrideWatch$Span" 55 M_J9_floorMod_f86c9 2 := ⟨mk_J9_floorMod_f86c9, wd_630, wd_631⟩
theorem wd_529 : Cond.methodLink "StrideWatch$Span" 58 yX7_isSingle ∈ wT := wT_in (tk_3 (List.mem_of_getElem? (i := 49) rfl)) rfl
theorem ca_X7_58 : CV "StrideWatch$Span" 58 M_X7_isSingle 0 := ⟨mk_X7_isSingle, wd_529, wd_530, wd_531⟩
theorem wd_548 : Cond.methodLink "StrideWatch$Span" 61 yX7_add ∈ wT := wT_in (tk_3 (List.mem_of_getElem? (i := 68) rfl)) rfl
theorem wd_550 : Cond.instanceMethod yX7_add ∈ wT := wT_in (tk_3 (List.mem_of_getElem? (i := 70) rfl)) rfl
theorem ws_25 : Cond.selects "StrideWatch$Span" yX7_add yX7_add ∈ wT := wT_in (List.mem_append_left _ (List.mem_map.mpr ⟨(yX7_add, 3), pk_2 (List.mem_of_getElem? (i := 9) rfl), rfl⟩)) rfl
theorem ca_X7_61 : CV "StrideWatch$Span" 61 M_X7_add 2 := ⟨mk_X7_add, wd_548, wd_550, ws_25⟩
theorem wd_552 : Cond.methodLink "StrideWatch$Span" 65 yX7_subtract ∈ wT := wT_in (tk_3 (List.mem_of_getElem? (i := 72) rfl)) rfl
theorem wd_554 : Cond.instanceMethod yX7_subtract ∈ wT := wT_in (tk_3 (List.mem_of_getElem? (i := 74) rfl)) rfl
theorem ws_26 : Cond.selects "StrideWatch$Span" yX7_subtract yX7_subtract ∈ wT := wT_in (List.mem_append_left _ (List.mem_map.mpr ⟨(yX7_subtract, 3), pk_2 (List.mem_of_getElem? (i := 10) rfl), rfl⟩)) rfl
theorem ca_X7_65 : CV "StrideWatch$Span" 65 M_X7_subtract 2 := ⟨mk_X7_subtract, wd_552, wd_554, ws_26⟩
theorem wd_556 : Cond.methodLink "StrideWatch$Span" 68 yX7_and ∈ wT := wT_in (tk_3 (List.mem_of_getElem? (i := 76) rfl)) rfl
theorem wd_558 : Cond.instanceMethod yX7_and ∈ wT := wT_in (tk_3 (List.mem_of_getElem? (i := 78) rfl)) rfl
theorem ws_27 : Cond.selects "StrideWatch$Span" yX7_and yX7_and ∈ wT := wT_in (List.mem_append_left _ (List.mem_map.mpr ⟨(yX7_and, 3), pk_2 (List.mem_of_getElem? (i := 11) rfl), rfl⟩)) rfl
theorem ca_X7_68 : CV "StrideWatch$Span" 68 M_X7_and 2 := ⟨mk_X7_and, wd_556, wd_558, ws_27⟩
theorem wd_564 : Cond.methodLink "StrideWatch$Span" 71 yX7_mix ∈ wT := wT_in (tk_3 (List.mem_of_getElem? (i := 84) rfl)) rfl
theorem wd_566 : Cond.instanceMethod yX7_mix ∈ wT := wT_in (tk_3 (List.mem_of_getElem? (i := 86) rfl)) rfl
theorem ws_28 : Cond.selects "StrideWatch$Span" yX7_mix yX7_mix ∈ wT := wT_in (List.mem_append_left _ (List.mem_map.mpr ⟨(yX7_mix, 3), pk_2 (List.mem_of_getElem? (i := 12) rfl), rfl⟩)) rfl
theorem ca_X7_71 : CV "StrideWatch$Span" 71 M_X7_mix 3 := ⟨mk_X7_mix, wd_564, wd_566, ws_28⟩
theorem wd_580 : Cond.methodLink "StrideWatch$Span" 75 yX7_subtractFrom ∈ wT := wT_in (tk_3 (List.mem_of_getElem? (i := 100) rfl)) rfl
theorem wd_582 : Cond.instanceMethod yX7_subtractFrom ∈ wT := wT_in (tk_3 (List.mem_of_getElem? (i := 102) rfl)) rfl
theorem ws_29 : Cond.selects "StrideWatch$Span" yX7_subtractFrom yX7_subtractFrom ∈ wT := wT_in (List.mem_append_left _ (List.mem_map.mpr ⟨(yX7_subtractFrom, 3), pk_2 (List.mem_of_getElem? (i := 13) rfl), rfl⟩)) rfl
theorem ca_X7_75 : CV "StrideWatch$Span" 75 M_X7_subtractFrom 2 := ⟨mk_X7_subtractFrom, wd_580, wd_582, ws_29⟩
theorem wd_584 : Cond.methodLink "StrideWatch$Span" 79 yX7_multiply ∈ wT := wT_in (tk_3 (List.mem_of_getElem? (i := 104) rfl)) rfl
theorem wd_586 : Cond.instanceMethod yX7_multiply ∈ wT := wT_in (tk_3 (List.mem_of_getElem? (i := 106) rfl)) rfl
theorem ws_30 : Cond.selects "StrideWatch$Span" yX7_multiply yX7_multiply ∈ wT := wT_in (List.mem_append_left _ (List.mem_map.mpr ⟨(yX7_multiply, 3), pk_2 (List.mem_of_getElem? (i := 14) rfl), rfl⟩)) rfl
theorem ca_X7_79 : CV "StrideWatch$Span" 79 M_X7_multiply 2 := ⟨mk_X7_multiply, wd_584, wd_586, ws_30⟩
theorem wd_594 : Cond.methodLink "StrideWatch$Span" 82 yX7_shiftRight ∈ wT := wT_in (tk_3 (List.mem_of_getElem? (i := 114) rfl)) rfl
theorem wd_596 : Cond.instanceMethod yX7_shiftRight ∈ wT := wT_in (tk_3 (List.mem_of_getElem? (i := 116) rfl)) rfl
theorem ws_32 : Cond.selects "StrideWatch$Span" yX7_shiftRight yX7_shiftRight ∈ wT := wT_in (List.mem_append_left _ (List.mem_map.mpr ⟨(yX7_shiftRight, 3), pk_3 (List.mem_of_getElem? (i := 0) rfl), rfl⟩)) rfl
theorem ca_X7_82 : CV "StrideWatch$Span" 82 M_X7_shiftRight 2 := ⟨mk_X7_shiftRight, wd_594, wd_596, ws_32⟩
theorem wd_560 : Cond.methodLink "StrideWatch$Span" 86 yX7_isNatural ∈ wT := wT_in (tk_3 (List.mem_of_getElem? (i := 80) rfl)) rfl
theorem ca_X7_86 : CV "StrideWatch$Span" 86 M_X7_isNatural 0 := ⟨mk_X7_isNatural, wd_560, wd_561, wd_562⟩
theorem wd_598 : Cond.methodLink "StrideWatch$Span" 89 yX7_copyFrom ∈ wT := wT_in (tk_3 (List.mem_of_getElem? (i := 118) rfl)) rfl
theorem ca_X7_89 : CV "StrideWatch$Span" 89 M_X7_copyFrom 1 := ⟨mk_X7_copyFrom, wd_598, wd_599, wd_600⟩
theorem wd_534 : Cond.methodLink "StrideWatch$Span" 97 yJ13_lowestOneBit_067f4 ∈ wT := wT_in (tk_3 (List.mem_of_getElem? (i := 54) rfl)) rfl
theorem wd_535 : Cond.static yJ13_lowestOneBit_067f4 ∈ wT := wT_in (tk_3 (List.mem_of_getElem? (i := 55) rfl)) rfl
theorem ca_X7_97 : CT "StrideWatch$Span" 97 M_J13_lowestOneBit_067f4 1 := ⟨mk_J13_lowestOneBit_067f4, wd_534, wd_535⟩
theorem wd_524 : Cond.methodLink "StrideWatch$Span" 103 yX7_takeLowHalf ∈ wT := wT_in (tk_3 (List.mem_of_getElem? (i := 44) rfl)) rfl
theorem ca_X7_103 : CV "StrideWatch$Span" 103 M_X7_takeLowHalf 0 := ⟨mk_X7_takeLowHalf, wd_524, wd_525, wd_526⟩
theorem wd_568 : Cond.methodLink "StrideWatch$Span" 108 yJ13_highestOneBit_067f4 ∈ wT := wT_in (tk_3 (List.mem_of_getElem? (i := 88) rfl)) rfl
theorem wd_569 : Cond.static yJ13_highestOneBit_067f4 ∈ wT := wT_in (tk_3 (List.mem_of_getElem? (i := 89) rfl)) rfl
theorem ca_X7_108 : CT "StrideWatch$Span" 108 M_J13_highestOneBit_067f4 1 := ⟨mk_J13_highestOneBit_067f4, wd_568, wd_569⟩
theorem wd_588 : Cond.methodLink "StrideWatch$Span" 113 yX7_isFactor ∈ wT := wT_in (tk_3 (List.mem_of_getElem? (i := 108) rfl)) rfl
theorem wd_590 : Cond.instanceMethod yX7_isFactor ∈ wT := wT_in (tk_3 (List.mem_of_getElem? (i := 110) rfl)) rfl
theorem ws_31 : Cond.selects "StrideWatch$Span" yX7_isFactor yX7_isFactor ∈ wT := wT_in (List.mem_append_left _ (List.mem_map.mpr ⟨(yX7_isFactor, 3), pk_2 (List.mem_of_getElem? (i := 15) rfl), rfl⟩)) rfl
theorem ca_X7_113 : CV "StrideWatch$Span" 113 M_X7_isFactor 0 := ⟨mk_X7_isFactor, wd_588, wd_590, ws_31⟩
theorem wd_119 : Cond.methodLink "StrideWatch$State" 3 Lib.objectInit ∈ wT := wT_in (tk_1 (List.mem_of_getElem? (i := 119) rfl)) rfl
theorem ca_X8_3 : Cond.methodLink "StrideWatch$State" 3 Lib.objectInit ∈ wT ∧ Cond.instanceMethod Lib.objectInit ∈ wT ∧ Cond.code Lib.objectInit ⟨#[0xb1]⟩ 1 none ∈ wT := ⟨wd_119, wd_27, wd_28⟩
theorem wl_374 : Cond.methodLinkNest "StrideWatch$State" 35 yX9_isLocation "StrideWatch" ∈ lw_tbl := tk_2 (List.mem_of_getElem? (i := 134) rfl)
theorem ca_X8_35 : CTN "StrideWatch$State" 35 M_X9_isLocation 1 := ⟨mk_X9_isLocation, ⟨"StrideWatch", wl_374⟩, wd_375, by decide +kernel⟩
theorem wd_414 : Cond.methodLink "StrideWatch$State" 49 yX8_keep ∈ wT := wT_in (tk_2 (List.mem_of_getElem? (i := 174) rfl)) rfl
theorem wd_415 : Cond.instanceMethod yX8_keep ∈ wT := wT_in (tk_2 (List.mem_of_getElem? (i := 175) rfl)) rfl
theorem wd_416 : Cond.selects "StrideWatch$State" yX8_keep yX8_keep ∈ wT := wT_in (tk_2 (List.mem_of_getElem? (i := 176) rfl)) rfl
theorem ca_X8_49 : CV "StrideWatch$State" 49 M_X8_keep 4 := ⟨mk_X8_keep, wd_414, wd_415, wd_416⟩
theorem wd_377 : Cond.methodLink "StrideWatch$State" 53 yX7_becomeAny ∈ wT := wT_in (tk_2 (List.mem_of_getElem? (i := 137) rfl)) rfl
theorem ca_X8_53 : CV "StrideWatch$State" 53 M_X7_becomeAny 0 := ⟨mk_X7_becomeAny, wd_377, wd_378, wd_379⟩
theorem wd_328 : Cond.methodLink "StrideWatch$State" 56 arraycopyName ∈ wT := wT_in (tk_2 (List.mem_of_getElem? (i := 88) rfl)) rfl
theorem ca_X8_56 : Cond.methodLink "StrideWatch$State" 56 arraycopyName ∈ wT ∧ Cond.native arraycopyName ∈ wT ∧ Cond.static arraycopyName ∈ wT ∧ Cond.initialized "java/lang/System" ∈ wT := ⟨wd_328, wd_330, wd_329, wd_17⟩
theorem wd_331 : Cond.methodLink "StrideWatch$State" 65 yX8_setRecord ∈ wT := wT_in (tk_2 (List.mem_of_getElem? (i := 91) rfl)) rfl
theorem ca_X8_65 : CV "StrideWatch$State" 65 M_X8_setRecord 4 := ⟨mk_X8_setRecord, wd_331, wd_332, wd_333⟩
theorem wd_26 : Cond.methodLink "StrideWatch" 1 Lib.objectInit ∈ wT := wT_in (tk_1 (List.mem_of_getElem? (i := 26) rfl)) rfl
theorem ca_X9_1 : Cond.methodLink "StrideWatch" 1 Lib.objectInit ∈ wT ∧ Cond.instanceMethod Lib.objectInit ∈ wT ∧ Cond.code Lib.objectInit ⟨#[0xb1]⟩ 1 none ∈ wT := ⟨wd_26, wd_27, wd_28⟩
theorem wl_31 : Cond.methodLinkNest "StrideWatch" 9 yX1_init "StrideWatch" ∈ lw_tbl := tk_1 (List.mem_of_getElem? (i := 31) rfl)
theorem wd_32 : Cond.instanceMethod yX1_init ∈ wT := wT_in (tk_1 (List.mem_of_getElem? (i := 32) rfl)) rfl
theorem ca_X9_9 : CIN "StrideWatch" 9 M_X1_init 0 := ⟨mk_X1_init, ⟨"StrideWatch", wl_31⟩, wd_32, rfl, rfl, by decide +kernel⟩
theorem wd_49 : Cond.methodLink "StrideWatch" 18 yX3_init ∈ wT := wT_in (tk_1 (List.mem_of_getElem? (i := 49) rfl)) rfl
theorem wd_50 : Cond.instanceMethod yX3_init ∈ wT := wT_in (tk_1 (List.mem_of_getElem? (i := 50) rfl)) rfl
theorem ca_X9_18 : CI "StrideWatch" 18 M_X3_init 1 := ⟨mk_X3_init, wd_49, wd_50, rfl, rfl, by decide +kernel⟩
theorem wd_116 : Cond.methodLink "StrideWatch" 27 yX8_init ∈ wT := wT_in (tk_1 (List.mem_of_getElem? (i := 116) rfl)) rfl
theorem ca_X9_27 : CI "StrideWatch" 27 M_X8_init 0 := ⟨mk_X8_init, wd_116, wd_117, rfl, rfl, by decide +kernel⟩
theorem wd_153 : Cond.methodLink "StrideWatch" 34 yX4_init ∈ wT := wT_in (tk_1 (List.mem_of_getElem? (i := 153) rfl)) rfl
theorem wd_154 : Cond.instanceMethod yX4_init ∈ wT := wT_in (tk_1 (List.mem_of_getElem? (i := 154) rfl)) rfl
theorem ca_X9_34 : CI "StrideWatch" 34 M_X4_init 2 := ⟨mk_X4_init, wd_153, wd_154, rfl, rfl, by decide +kernel⟩
theorem wd_251 : Cond.methodLink "StrideWatch" 43 yX6_init ∈ wT := wT_in (tk_2 (List.mem_of_getElem? (i := 11) rfl)) rfl
theorem wd_252 : Cond.instanceMethod yX6_init ∈ wT := wT_in (tk_2 (List.mem_of_getElem? (i := 12) rfl)) rfl
theorem ca_X9_43 : CI "StrideWatch" 43 M_X6_init 2 := ⟨mk_X6_init, wd_251, wd_252, rfl, rfl, by decide +kernel⟩
theorem wd_780 : Cond.methodLink "StrideWatch" 64 yJ9_min_7cf53 ∈ wT := wT_in (tk_4 (List.mem_of_getElem? (i := 60) rfl)) rfl
theorem wd_781 : Cond.static yJ9_min_7cf53 ∈ wT := wT_in (tk_4 (List.mem_of_getElem? (i := 61) rfl)) rfl
theorem ca_X9_64 : CT "StrideWatch" 64 M_J9_min_7cf53 2 := ⟨mk_J9_min_7cf53, wd_780, wd_781⟩
theorem wd_783 : Cond.methodLink "StrideWatch" 70 yX1_append ∈ wT := wT_in (tk_4 (List.mem_of_getElem? (i := 63) rfl)) rfl
theorem wd_784 : Cond.instanceMethod yX1_append ∈ wT := wT_in (tk_4 (List.mem_of_getElem? (i := 64) rfl)) rfl
theorem wd_785 : Cond.selects "StrideWatch$Code" yX1_append yX1_append ∈ wT := wT_in (tk_4 (List.mem_of_getElem? (i := 65) rfl)) rfl
theorem ca_X9_70 : CV "StrideWatch" 70 M_X1_append 2 := ⟨mk_X1_append, wd_783, wd_784, wd_785⟩
theorem wd_307 : Cond.methodLink "StrideWatch" 74 yX9_forgetFindings ∈ wT := wT_in (tk_2 (List.mem_of_getElem? (i := 67) rfl)) rfl
theorem wd_309 : Cond.instanceMethod yX9_forgetFindings ∈ wT := wT_in (tk_2 (List.mem_of_getElem? (i := 69) rfl)) rfl
theorem ws_0 : Cond.selects "StrideWatch" yX9_forgetFindings yX9_forgetFindings ∈ wT := wT_in (List.mem_append_left _ (List.mem_map.mpr ⟨(yX9_forgetFindings, 5), pk_1 (List.mem_of_getElem? (i := 0) rfl), rfl⟩)) rfl
theorem ca_X9_74 : CV "StrideWatch" 74 M_X9_forgetFindings 0 := ⟨mk_X9_forgetFindings, wd_307, wd_309, ws_0⟩
theorem wd_794 : Cond.methodLink "StrideWatch" 77 yX9_requireLocation ∈ wT := wT_in (tk_4 (List.mem_of_getElem? (i := 74) rfl)) rfl
theorem wd_795 : Cond.static yX9_requireLocation ∈ wT := wT_in (tk_4 (List.mem_of_getElem? (i := 75) rfl)) rfl
theorem ca_X9_77 : CT "StrideWatch" 77 M_X9_requireLocation 1 := ⟨mk_X9_requireLocation, wd_794, wd_795⟩
theorem wd_799 : Cond.methodLink "StrideWatch" 81 yX7_isTriple ∈ wT := wT_in (tk_4 (List.mem_of_getElem? (i := 79) rfl)) rfl
theorem wd_800 : Cond.static yX7_isTriple ∈ wT := wT_in (tk_4 (List.mem_of_getElem? (i := 80) rfl)) rfl
theorem ca_X9_81 : CT "StrideWatch" 81 M_X7_isTriple 3 := ⟨mk_X7_isTriple, wd_799, wd_800⟩
theorem wd_803 : Cond.methodLink "StrideWatch" 89 yX8_keep ∈ wT := wT_in (tk_4 (List.mem_of_getElem? (i := 83) rfl)) rfl
theorem ca_X9_89 : CV "StrideWatch" 89 M_X8_keep 4 := ⟨mk_X8_keep, wd_803, wd_415, wd_416⟩
theorem wd_819 : Cond.methodLink "StrideWatch" 95 yX9_requireByte ∈ wT := wT_in (tk_4 (List.mem_of_getElem? (i := 99) rfl)) rfl
theorem wd_821 : Cond.instanceMethod yX9_requireByte ∈ wT := wT_in (tk_4 (List.mem_of_getElem? (i := 101) rfl)) rfl
theorem ws_39 : Cond.selects "StrideWatch" yX9_requireByte yX9_requireByte ∈ wT := wT_in (List.mem_append_left _ (List.mem_map.mpr ⟨(yX9_requireByte, 5), pk_3 (List.mem_of_getElem? (i := 7) rfl), rfl⟩)) rfl
theorem ca_X9_95 : CV "StrideWatch" 95 M_X9_requireByte 1 := ⟨mk_X9_requireByte, wd_819, wd_821, ws_39⟩
theorem wd_826 : Cond.methodLink "StrideWatch" 100 yX3_readFrom ∈ wT := wT_in (tk_4 (List.mem_of_getElem? (i := 106) rfl)) rfl
theorem ca_X9_100 : CV "StrideWatch" 100 M_X3_readFrom 1 := ⟨mk_X3_readFrom, wd_826, wd_439, wd_440⟩
theorem wd_827 : Cond.methodLink "StrideWatch" 103 yX3_tell ∈ wT := wT_in (tk_4 (List.mem_of_getElem? (i := 107) rfl)) rfl
theorem wd_828 : Cond.instanceMethod yX3_tell ∈ wT := wT_in (tk_4 (List.mem_of_getElem? (i := 108) rfl)) rfl
theorem wd_829 : Cond.selects "StrideWatch$Instruction" yX3_tell yX3_tell ∈ wT := wT_in (tk_4 (List.mem_of_getElem? (i := 109) rfl)) rfl
theorem ca_X9_103 : CV "StrideWatch" 103 M_X3_tell 1 := ⟨mk_X3_tell, wd_827, wd_828, wd_829⟩
theorem wd_319 : Cond.methodLink "StrideWatch" 111 yX4_search ∈ wT := wT_in (tk_2 (List.mem_of_getElem? (i := 79) rfl)) rfl
theorem wd_320 : Cond.instanceMethod yX4_search ∈ wT := wT_in (tk_2 (List.mem_of_getElem? (i := 80) rfl)) rfl
theorem wd_321 : Cond.selects "StrideWatch$Looking" yX4_search yX4_search ∈ wT := wT_in (tk_2 (List.mem_of_getElem? (i := 81) rfl)) rfl
theorem ca_X9_111 : CV "StrideWatch" 111 M_X4_search 1 := ⟨mk_X4_search, wd_319, wd_320, wd_321⟩
theorem wd_666 : Cond.methodLink "StrideWatch" 115 yX4_timesGot ∈ wT := wT_in (tk_3 (List.mem_of_getElem? (i := 186) rfl)) rfl
theorem wd_667 : Cond.instanceMethod yX4_timesGot ∈ wT := wT_in (tk_3 (List.mem_of_getElem? (i := 187) rfl)) rfl
theorem wd_668 : Cond.selects "StrideWatch$Looking" yX4_timesGot yX4_timesGot ∈ wT := wT_in (tk_3 (List.mem_of_getElem? (i := 188) rfl)) rfl
theorem ca_X9_115 : CV "StrideWatch" 115 M_X4_timesGot 1 := ⟨mk_X4_timesGot, wd_666, wd_667, wd_668⟩
theorem wd_847 : Cond.methodLink "StrideWatch" 122 yX4_spanOf ∈ wT := wT_in (tk_4 (List.mem_of_getElem? (i := 127) rfl)) rfl
theorem wd_848 : Cond.instanceMethod yX4_spanOf ∈ wT := wT_in (tk_4 (List.mem_of_getElem? (i := 128) rfl)) rfl
theorem wd_849 : Cond.selects "StrideWatch$Looking" yX4_spanOf yX4_spanOf ∈ wT := wT_in (tk_4 (List.mem_of_getElem? (i := 129) rfl)) rfl
theorem ca_X9_122 : CV "StrideWatch" 122 M_X4_spanOf 2 := ⟨mk_X4_spanOf, wd_847, wd_848, wd_849⟩
theorem wd_859 : Cond.methodLink "StrideWatch" 135 yX7_holds ∈ wT := wT_in (tk_4 (List.mem_of_getElem? (i := 139) rfl)) rfl
theorem wd_860 : Cond.instanceMethod yX7_holds ∈ wT := wT_in (tk_4 (List.mem_of_getElem? (i := 140) rfl)) rfl
theorem wd_861 : Cond.selects "StrideWatch$Span" yX7_holds yX7_holds ∈ wT := wT_in (tk_4 (List.mem_of_getElem? (i := 141) rfl)) rfl
theorem ca_X9_135 : CV "StrideWatch" 135 M_X7_holds 1 := ⟨mk_X7_holds, wd_859, wd_860, wd_861⟩
theorem wd_674 : Cond.methodLink "StrideWatch" 139 yX6_begin ∈ wT := wT_in (tk_3 (List.mem_of_getElem? (i := 194) rfl)) rfl
theorem wd_675 : Cond.instanceMethod yX6_begin ∈ wT := wT_in (tk_3 (List.mem_of_getElem? (i := 195) rfl)) rfl
theorem wd_676 : Cond.selects "StrideWatch$Run" yX6_begin yX6_begin ∈ wT := wT_in (tk_3 (List.mem_of_getElem? (i := 196) rfl)) rfl
theorem ca_X9_139 : CV "StrideWatch" 139 M_X6_begin 0 := ⟨mk_X6_begin, wd_674, wd_675, wd_676⟩
theorem wd_870 : Cond.methodLink "StrideWatch" 142 yX6_prepare ∈ wT := wT_in (tk_4 (List.mem_of_getElem? (i := 150) rfl)) rfl
theorem wd_871 : Cond.instanceMethod yX6_prepare ∈ wT := wT_in (tk_4 (List.mem_of_getElem? (i := 151) rfl)) rfl
theorem wd_872 : Cond.selects "StrideWatch$Run" yX6_prepare yX6_prepare ∈ wT := wT_in (tk_4 (List.mem_of_getElem? (i := 152) rfl)) rfl
theorem ca_X9_142 : CV "StrideWatch" 142 M_X6_prepare 2 := ⟨mk_X6_prepare, wd_870, wd_871, wd_872⟩
theorem wd_884 : Cond.methodLink "StrideWatch" 153 yX6_doNext ∈ wT := wT_in (tk_4 (List.mem_of_getElem? (i := 164) rfl)) rfl
theorem wd_885 : Cond.instanceMethod yX6_doNext ∈ wT := wT_in (tk_4 (List.mem_of_getElem? (i := 165) rfl)) rfl
theorem wd_886 : Cond.selects "StrideWatch$Run" yX6_doNext yX6_doNext ∈ wT := wT_in (tk_4 (List.mem_of_getElem? (i := 166) rfl)) rfl
theorem ca_X9_153 : CV "StrideWatch" 153 M_X6_doNext 0 := ⟨mk_X6_doNext, wd_884, wd_885, wd_886⟩
theorem wd_944 : Cond.methodLink "StrideWatch" 157 yX6_read ∈ wT := wT_in (tk_4 (List.mem_of_getElem? (i := 224) rfl)) rfl
theorem ca_X9_157 : CV "StrideWatch" 157 M_X6_read 1 := ⟨mk_X6_read, wd_944, wd_898, wd_899⟩
theorem wd_311 : Cond.methodLink "StrideWatch" 161 yX4_forget ∈ wT := wT_in (tk_2 (List.mem_of_getElem? (i := 71) rfl)) rfl
theorem ca_X9_161 : CV "StrideWatch" 161 M_X4_forget 0 := ⟨mk_X4_forget, wd_311, wd_312, wd_313⟩
theorem wd_823 : Cond.methodLink "StrideWatch" 164 yX1_holds ∈ wT := wT_in (tk_4 (List.mem_of_getElem? (i := 103) rfl)) rfl
theorem ca_X9_164 : CV "StrideWatch" 164 M_X1_holds 1 := ⟨mk_X1_holds, wd_823, wd_340, wd_341⟩
theorem wd_797 : Cond.methodLink "StrideWatch" 167 yX9_isLocation ∈ wT := wT_in (tk_4 (List.mem_of_getElem? (i := 77) rfl)) rfl
theorem ca_X9_167 : CT "StrideWatch" 167 M_X9_isLocation 1 := ⟨mk_X9_isLocation, wd_797, wd_375⟩
theorem wd_950 : Cond.methodLink "StrideWatchModel" 1 Lib.objectInit ∈ wT := wT_in (tk_4 (List.mem_of_getElem? (i := 230) rfl)) rfl
theorem ca_X10_1 : Cond.methodLink "StrideWatchModel" 1 Lib.objectInit ∈ wT ∧ Cond.instanceMethod Lib.objectInit ∈ wT ∧ Cond.code Lib.objectInit ⟨#[0xb1]⟩ 1 none ∈ wT := ⟨wd_950, wd_27, wd_28⟩
theorem wd_1073 : Cond.methodLink "StrideWatchModel" 67 yX10_isIn ∈ wT := wT_in (tk_5 (List.mem_of_getElem? (i := 113) rfl)) rfl
theorem wd_1074 : Cond.static yX10_isIn ∈ wT := wT_in (tk_5 (List.mem_of_getElem? (i := 114) rfl)) rfl
theorem ca_X10_67 : CT "StrideWatchModel" 67 M_X10_isIn 3 := ⟨mk_X10_isIn, wd_1073, wd_1074⟩
theorem wd_1076 : Cond.methodLink "StrideWatchModel" 74 yX10_refused ∈ wT := wT_in (tk_5 (List.mem_of_getElem? (i := 116) rfl)) rfl
theorem wd_1078 : Cond.instanceMethod yX10_refused ∈ wT := wT_in (tk_5 (List.mem_of_getElem? (i := 118) rfl)) rfl
theorem ws_49 : Cond.selects "StrideWatchModel" yX10_refused yX10_refused ∈ wT := wT_in (List.mem_append_left _ (List.mem_map.mpr ⟨(yX10_refused, 37), pk_4 (List.mem_of_getElem? (i := 1) rfl), rfl⟩)) rfl
theorem ca_X10_74 : CV "StrideWatchModel" 74 M_X10_refused 1 := ⟨mk_X10_refused, wd_1076, wd_1078, ws_49⟩
theorem wd_1080 : Cond.methodLink "StrideWatchModel" 78 yX10_forget ∈ wT := wT_in (tk_5 (List.mem_of_getElem? (i := 120) rfl)) rfl
theorem wd_1082 : Cond.instanceMethod yX10_forget ∈ wT := wT_in (tk_5 (List.mem_of_getElem? (i := 122) rfl)) rfl
theorem ws_50 : Cond.selects "StrideWatchModel" yX10_forget yX10_forget ∈ wT := wT_in (List.mem_append_left _ (List.mem_map.mpr ⟨(yX10_forget, 37), pk_4 (List.mem_of_getElem? (i := 2) rfl), rfl⟩)) rfl
theorem ca_X10_78 : CV "StrideWatchModel" 78 M_X10_forget 0 := ⟨mk_X10_forget, wd_1080, wd_1082, ws_50⟩
theorem wd_1101 : Cond.methodLink "StrideWatchModel" 87 yX10_next ∈ wT := wT_in (tk_5 (List.mem_of_getElem? (i := 141) rfl)) rfl
theorem wd_1103 : Cond.instanceMethod yX10_next ∈ wT := wT_in (tk_5 (List.mem_of_getElem? (i := 143) rfl)) rfl
theorem ws_53 : Cond.selects "StrideWatchModel" yX10_next yX10_next ∈ wT := wT_in (List.mem_append_left _ (List.mem_map.mpr ⟨(yX10_next, 37), pk_4 (List.mem_of_getElem? (i := 5) rfl), rfl⟩)) rfl
theorem ca_X10_87 : CV "StrideWatchModel" 87 M_X10_next 0 := ⟨mk_X10_next, wd_1101, wd_1103, ws_53⟩
theorem wd_1113 : Cond.methodLink "StrideWatchModel" 103 yX10_number ∈ wT := wT_in (tk_5 (List.mem_of_getElem? (i := 153) rfl)) rfl
theorem wd_1115 : Cond.instanceMethod yX10_number ∈ wT := wT_in (tk_5 (List.mem_of_getElem? (i := 155) rfl)) rfl
theorem ws_56 : Cond.selects "StrideWatchModel" yX10_number yX10_number ∈ wT := wT_in (List.mem_append_left _ (List.mem_map.mpr ⟨(yX10_number, 37), pk_4 (List.mem_of_getElem? (i := 8) rfl), rfl⟩)) rfl
theorem ca_X10_103 : CV "StrideWatchModel" 103 M_X10_number 1 := ⟨mk_X10_number, wd_1113, wd_1115, ws_56⟩
theorem wd_1097 : Cond.methodLink "StrideWatchModel" 123 yX10_take ∈ wT := wT_in (tk_5 (List.mem_of_getElem? (i := 137) rfl)) rfl
theorem wd_1099 : Cond.instanceMethod yX10_take ∈ wT := wT_in (tk_5 (List.mem_of_getElem? (i := 139) rfl)) rfl
theorem ws_52 : Cond.selects "StrideWatchModel" yX10_take yX10_take ∈ wT := wT_in (List.mem_append_left _ (List.mem_map.mpr ⟨(yX10_take, 37), pk_4 (List.mem_of_getElem? (i := 4) rfl), rfl⟩)) rfl
theorem ca_X10_123 : CV "StrideWatchModel" 123 M_X10_take 3 := ⟨mk_X10_take, wd_1097, wd_1099, ws_52⟩
theorem wd_1105 : Cond.methodLink "StrideWatchModel" 130 yX10_readRest ∈ wT := wT_in (tk_5 (List.mem_of_getElem? (i := 145) rfl)) rfl
theorem wd_1107 : Cond.instanceMethod yX10_readRest ∈ wT := wT_in (tk_5 (List.mem_of_getElem? (i := 147) rfl)) rfl
theorem ws_54 : Cond.selects "StrideWatchModel" yX10_readRest yX10_readRest ∈ wT := wT_in (List.mem_append_left _ (List.mem_map.mpr ⟨(yX10_readRest, 37), pk_4 (List.mem_of_getElem? (i := 6) rfl), rfl⟩)) rfl
theorem ca_X10_130 : CV "StrideWatchModel" 130 M_X10_readRest 2 := ⟨mk_X10_readRest, wd_1105, wd_1107, ws_54⟩
theorem wd_1109 : Cond.methodLink "StrideWatchModel" 137 yX10_readPlaces ∈ wT := wT_in (tk_5 (List.mem_of_getElem? (i := 149) rfl)) rfl
theorem wd_1111 : Cond.instanceMethod yX10_readPlaces ∈ wT := wT_in (tk_5 (List.mem_of_getElem? (i := 151) rfl)) rfl
theorem ws_55 : Cond.selects "StrideWatchModel" yX10_readPlaces yX10_readPlaces ∈ wT := wT_in (List.mem_append_left _ (List.mem_map.mpr ⟨(yX10_readPlaces, 37), pk_4 (List.mem_of_getElem? (i := 7) rfl), rfl⟩)) rfl
theorem ca_X10_137 : CV "StrideWatchModel" 137 M_X10_readPlaces 1 := ⟨mk_X10_readPlaces, wd_1109, wd_1111, ws_55⟩
theorem wd_1117 : Cond.methodLink "StrideWatchModel" 141 yX10_isSimple ∈ wT := wT_in (tk_5 (List.mem_of_getElem? (i := 157) rfl)) rfl
theorem wd_1118 : Cond.static yX10_isSimple ∈ wT := wT_in (tk_5 (List.mem_of_getElem? (i := 158) rfl)) rfl
theorem ca_X10_141 : CT "StrideWatchModel" 141 M_X10_isSimple 1 := ⟨mk_X10_isSimple, wd_1117, wd_1118⟩
theorem wd_1120 : Cond.methodLink "StrideWatchModel" 144 yX10_readTwo ∈ wT := wT_in (tk_5 (List.mem_of_getElem? (i := 160) rfl)) rfl
theorem wd_1122 : Cond.instanceMethod yX10_readTwo ∈ wT := wT_in (tk_5 (List.mem_of_getElem? (i := 162) rfl)) rfl
theorem ws_57 : Cond.selects "StrideWatchModel" yX10_readTwo yX10_readTwo ∈ wT := wT_in (List.mem_append_left _ (List.mem_map.mpr ⟨(yX10_readTwo, 37), pk_4 (List.mem_of_getElem? (i := 9) rfl), rfl⟩)) rfl
theorem ca_X10_144 : CV "StrideWatchModel" 144 M_X10_readTwo 2 := ⟨mk_X10_readTwo, wd_1120, wd_1122, ws_57⟩
theorem wd_1128 : Cond.methodLink "StrideWatchModel" 147 yX10_readJumps ∈ wT := wT_in (tk_5 (List.mem_of_getElem? (i := 168) rfl)) rfl
theorem wd_1130 : Cond.instanceMethod yX10_readJumps ∈ wT := wT_in (tk_5 (List.mem_of_getElem? (i := 170) rfl)) rfl
theorem ws_59 : Cond.selects "StrideWatchModel" yX10_readJumps yX10_readJumps ∈ wT := wT_in (List.mem_append_left _ (List.mem_map.mpr ⟨(yX10_readJumps, 37), pk_4 (List.mem_of_getElem? (i := 11) rfl), rfl⟩)) rfl
theorem ca_X10_147 : CV "StrideWatchModel" 147 M_X10_readJumps 1 := ⟨mk_X10_readJumps, wd_1128, wd_1130, ws_59⟩
theorem wd_1124 : Cond.methodLink "StrideWatchModel" 150 yX10_readIf ∈ wT := wT_in (tk_5 (List.mem_of_getElem? (i := 164) rfl)) rfl
theorem wd_1126 : Cond.instanceMethod yX10_readIf ∈ wT := wT_in (tk_5 (List.mem_of_getElem? (i := 166) rfl)) rfl
theorem ws_58 : Cond.selects "StrideWatchModel" yX10_readIf yX10_readIf ∈ wT := wT_in (List.mem_append_left _ (List.mem_map.mpr ⟨(yX10_readIf, 37), pk_4 (List.mem_of_getElem? (i := 10) rfl), rfl⟩)) rfl
theorem ca_X10_150 : CV "StrideWatchModel" 150 M_X10_readIf 2 := ⟨mk_X10_readIf, wd_1124, wd_1126, ws_58⟩
theorem wd_1093 : Cond.methodLink "StrideWatchModel" 155 yX10_read ∈ wT := wT_in (tk_5 (List.mem_of_getElem? (i := 133) rfl)) rfl
theorem wd_1095 : Cond.instanceMethod yX10_read ∈ wT := wT_in (tk_5 (List.mem_of_getElem? (i := 135) rfl)) rfl
theorem ws_51 : Cond.selects "StrideWatchModel" yX10_read yX10_read ∈ wT := wT_in (List.mem_append_left _ (List.mem_map.mpr ⟨(yX10_read, 37), pk_4 (List.mem_of_getElem? (i := 3) rfl), rfl⟩)) rfl
theorem ca_X10_155 : CV "StrideWatchModel" 155 M_X10_read 1 := ⟨mk_X10_read, wd_1093, wd_1095, ws_51⟩
theorem wd_1182 : Cond.methodLink "StrideWatchModel" 162 yX10_isOne ∈ wT := wT_in (tk_5 (List.mem_of_getElem? (i := 222) rfl)) rfl
theorem wd_1184 : Cond.instanceMethod yX10_isOne ∈ wT := wT_in (tk_5 (List.mem_of_getElem? (i := 224) rfl)) rfl
theorem ws_70 : Cond.selects "StrideWatchModel" yX10_isOne yX10_isOne ∈ wT := wT_in (List.mem_append_left _ (List.mem_map.mpr ⟨(yX10_isOne, 37), pk_5 (List.mem_of_getElem? (i := 6) rfl), rfl⟩)) rfl
theorem ca_X10_162 : CV "StrideWatchModel" 162 M_X10_isOne 1 := ⟨mk_X10_isOne, wd_1182, wd_1184, ws_70⟩
theorem wd_1164 : Cond.methodLink "StrideWatchModel" 165 yX10_make ∈ wT := wT_in (tk_5 (List.mem_of_getElem? (i := 204) rfl)) rfl
theorem wd_1166 : Cond.instanceMethod yX10_make ∈ wT := wT_in (tk_5 (List.mem_of_getElem? (i := 206) rfl)) rfl
theorem ws_66 : Cond.selects "StrideWatchModel" yX10_make yX10_make ∈ wT := wT_in (List.mem_append_left _ (List.mem_map.mpr ⟨(yX10_make, 37), pk_5 (List.mem_of_getElem? (i := 2) rfl), rfl⟩)) rfl
theorem ca_X10_165 : CV "StrideWatchModel" 165 M_X10_make 5 := ⟨mk_X10_make, wd_1164, wd_1166, ws_66⟩
theorem wd_1140 : Cond.methodLink "StrideWatchModel" 169 yX10_copy ∈ wT := wT_in (tk_5 (List.mem_of_getElem? (i := 180) rfl)) rfl
theorem wd_1142 : Cond.instanceMethod yX10_copy ∈ wT := wT_in (tk_5 (List.mem_of_getElem? (i := 182) rfl)) rfl
theorem ws_60 : Cond.selects "StrideWatchModel" yX10_copy yX10_copy ∈ wT := wT_in (List.mem_append_left _ (List.mem_map.mpr ⟨(yX10_copy, 37), pk_4 (List.mem_of_getElem? (i := 12) rfl), rfl⟩)) rfl
theorem ca_X10_169 : CV "StrideWatchModel" 169 M_X10_copy 2 := ⟨mk_X10_copy, wd_1140, wd_1142, ws_60⟩
theorem wd_1188 : Cond.methodLink "StrideWatchModel" 172 yX10_gcd ∈ wT := wT_in (tk_5 (List.mem_of_getElem? (i := 228) rfl)) rfl
theorem wd_1189 : Cond.static yX10_gcd ∈ wT := wT_in (tk_5 (List.mem_of_getElem? (i := 229) rfl)) rfl
theorem ca_X10_172 : CT "StrideWatchModel" 172 M_X10_gcd 2 := ⟨mk_X10_gcd, wd_1188, wd_1189⟩
theorem wd_1295 : Cond.methodLink "StrideWatchModel" 176 yX10_join ∈ wT := wT_in (tk_6 (List.mem_of_getElem? (i := 95) rfl)) rfl
theorem wd_1297 : Cond.instanceMethod yX10_join ∈ wT := wT_in (tk_6 (List.mem_of_getElem? (i := 97) rfl)) rfl
theorem ws_96 : Cond.selects "StrideWatchModel" yX10_join yX10_join ∈ wT := wT_in (List.mem_append_left _ (List.mem_map.mpr ⟨(yX10_join, 37), pk_7 (List.mem_of_getElem? (i := 0) rfl), rfl⟩)) rfl
theorem ca_X10_176 : CV "StrideWatchModel" 176 M_X10_join 3 := ⟨mk_X10_join, wd_1295, wd_1297, ws_96⟩
theorem wd_1200 : Cond.methodLink "StrideWatchModel" 179 yX10_isPlain ∈ wT := wT_in (tk_6 (List.mem_of_getElem? (i := 0) rfl)) rfl
theorem wd_1202 : Cond.instanceMethod yX10_isPlain ∈ wT := wT_in (tk_6 (List.mem_of_getElem? (i := 2) rfl)) rfl
theorem ws_73 : Cond.selects "StrideWatchModel" yX10_isPlain yX10_isPlain ∈ wT := wT_in (List.mem_append_left _ (List.mem_map.mpr ⟨(yX10_isPlain, 37), pk_5 (List.mem_of_getElem? (i := 9) rfl), rfl⟩)) rfl
theorem ca_X10_179 : CV "StrideWatchModel" 179 M_X10_isPlain 3 := ⟨mk_X10_isPlain, wd_1200, wd_1202, ws_73⟩
theorem wd_1208 : Cond.methodLink "StrideWatchModel" 183 yX10_negate ∈ wT := wT_in (tk_6 (List.mem_of_getElem? (i := 8) rfl)) rfl
theorem wd_1210 : Cond.instanceMethod yX10_negate ∈ wT := wT_in (tk_6 (List.mem_of_getElem? (i := 10) rfl)) rfl
theorem ws_75 : Cond.selects "StrideWatchModel" yX10_negate yX10_negate ∈ wT := wT_in (List.mem_append_left _ (List.mem_map.mpr ⟨(yX10_negate, 37), pk_5 (List.mem_of_getElem? (i := 11) rfl), rfl⟩)) rfl
theorem ca_X10_183 : CV "StrideWatchModel" 183 M_X10_negate 2 := ⟨mk_X10_negate, wd_1208, wd_1210, ws_75⟩
theorem wd_1196 : Cond.methodLink "StrideWatchModel" 186 yX10_add ∈ wT := wT_in (tk_5 (List.mem_of_getElem? (i := 236) rfl)) rfl
theorem wd_1198 : Cond.instanceMethod yX10_add ∈ wT := wT_in (tk_5 (List.mem_of_getElem? (i := 238) rfl)) rfl
theorem ws_72 : Cond.selects "StrideWatchModel" yX10_add yX10_add ∈ wT := wT_in (List.mem_append_left _ (List.mem_map.mpr ⟨(yX10_add, 37), pk_5 (List.mem_of_getElem? (i := 8) rfl), rfl⟩)) rfl
theorem ca_X10_186 : CV "StrideWatchModel" 186 M_X10_add 3 := ⟨mk_X10_add, wd_1196, wd_1198, ws_72⟩
theorem wd_1221 : Cond.methodLink "StrideWatchModel" 189 yX10_isNumber ∈ wT := wT_in (tk_6 (List.mem_of_getElem? (i := 21) rfl)) rfl
theorem wd_1223 : Cond.instanceMethod yX10_isNumber ∈ wT := wT_in (tk_6 (List.mem_of_getElem? (i := 23) rfl)) rfl
theorem ws_78 : Cond.selects "StrideWatchModel" yX10_isNumber yX10_isNumber ∈ wT := wT_in (List.mem_append_left _ (List.mem_map.mpr ⟨(yX10_isNumber, 37), pk_5 (List.mem_of_getElem? (i := 14) rfl), rfl⟩)) rfl
theorem ca_X10_189 : CV "StrideWatchModel" 189 M_X10_isNumber 2 := ⟨mk_X10_isNumber, wd_1221, wd_1223, ws_78⟩
theorem wd_1160 : Cond.methodLink "StrideWatchModel" 193 yX10_one ∈ wT := wT_in (tk_5 (List.mem_of_getElem? (i := 200) rfl)) rfl
theorem wd_1162 : Cond.instanceMethod yX10_one ∈ wT := wT_in (tk_5 (List.mem_of_getElem? (i := 202) rfl)) rfl
theorem ws_65 : Cond.selects "StrideWatchModel" yX10_one yX10_one ∈ wT := wT_in (List.mem_append_left _ (List.mem_map.mpr ⟨(yX10_one, 37), pk_5 (List.mem_of_getElem? (i := 1) rfl), rfl⟩)) rfl
theorem ca_X10_193 : CV "StrideWatchModel" 193 M_X10_one 2 := ⟨mk_X10_one, wd_1160, wd_1162, ws_65⟩
theorem wd_1239 : Cond.methodLink "StrideWatchModel" 201 yX10_shiftDown ∈ wT := wT_in (tk_6 (List.mem_of_getElem? (i := 39) rfl)) rfl
theorem wd_1241 : Cond.instanceMethod yX10_shiftDown ∈ wT := wT_in (tk_6 (List.mem_of_getElem? (i := 41) rfl)) rfl
theorem ws_82 : Cond.selects "StrideWatchModel" yX10_shiftDown yX10_shiftDown ∈ wT := wT_in (List.mem_append_left _ (List.mem_map.mpr ⟨(yX10_shiftDown, 37), pk_6 (List.mem_of_getElem? (i := 2) rfl), rfl⟩)) rfl
theorem ca_X10_201 : CV "StrideWatchModel" 201 M_X10_shiftDown 3 := ⟨mk_X10_shiftDown, wd_1239, wd_1241, ws_82⟩
theorem wd_1178 : Cond.methodLink "StrideWatchModel" 210 yX10_lowPart ∈ wT := wT_in (tk_5 (List.mem_of_getElem? (i := 218) rfl)) rfl
theorem wd_1180 : Cond.instanceMethod yX10_lowPart ∈ wT := wT_in (tk_5 (List.mem_of_getElem? (i := 220) rfl)) rfl
theorem ws_69 : Cond.selects "StrideWatchModel" yX10_lowPart yX10_lowPart ∈ wT := wT_in (List.mem_append_left _ (List.mem_map.mpr ⟨(yX10_lowPart, 37), pk_5 (List.mem_of_getElem? (i := 5) rfl), rfl⟩)) rfl
theorem ca_X10_210 : CV "StrideWatchModel" 210 M_X10_lowPart 2 := ⟨mk_X10_lowPart, wd_1178, wd_1180, ws_69⟩
theorem wd_1156 : Cond.methodLink "StrideWatchModel" 215 yX10_operand ∈ wT := wT_in (tk_5 (List.mem_of_getElem? (i := 196) rfl)) rfl
theorem wd_1158 : Cond.instanceMethod yX10_operand ∈ wT := wT_in (tk_5 (List.mem_of_getElem? (i := 198) rfl)) rfl
theorem ws_64 : Cond.selects "StrideWatchModel" yX10_operand yX10_operand ∈ wT := wT_in (List.mem_append_left _ (List.mem_map.mpr ⟨(yX10_operand, 37), pk_5 (List.mem_of_getElem? (i := 0) rfl), rfl⟩)) rfl
theorem ca_X10_215 : CV "StrideWatchModel" 215 M_X10_operand 1 := ⟨mk_X10_operand, wd_1156, wd_1158, ws_64⟩
theorem wd_1170 : Cond.methodLink "StrideWatchModel" 218 yX10_narrowed ∈ wT := wT_in (tk_5 (List.mem_of_getElem? (i := 210) rfl)) rfl
theorem wd_1172 : Cond.instanceMethod yX10_narrowed ∈ wT := wT_in (tk_5 (List.mem_of_getElem? (i := 212) rfl)) rfl
theorem ws_67 : Cond.selects "StrideWatchModel" yX10_narrowed yX10_narrowed ∈ wT := wT_in (List.mem_append_left _ (List.mem_map.mpr ⟨(yX10_narrowed, 37), pk_5 (List.mem_of_getElem? (i := 3) rfl), rfl⟩)) rfl
theorem ca_X10_218 : CV "StrideWatchModel" 218 M_X10_narrowed 2 := ⟨mk_X10_narrowed, wd_1170, wd_1172, ws_67⟩
theorem wd_1192 : Cond.methodLink "StrideWatchModel" 222 yX10_work ∈ wT := wT_in (tk_5 (List.mem_of_getElem? (i := 232) rfl)) rfl
theorem wd_1194 : Cond.instanceMethod yX10_work ∈ wT := wT_in (tk_5 (List.mem_of_getElem? (i := 234) rfl)) rfl
theorem ws_71 : Cond.selects "StrideWatchModel" yX10_work yX10_work ∈ wT := wT_in (List.mem_append_left _ (List.mem_map.mpr ⟨(yX10_work, 37), pk_5 (List.mem_of_getElem? (i := 7) rfl), rfl⟩)) rfl
theorem ca_X10_222 : CV "StrideWatchModel" 222 M_X10_work 0 := ⟨mk_X10_work, wd_1192, wd_1194, ws_71⟩
theorem wd_1243 : Cond.methodLink "StrideWatchModel" 225 yX10_note ∈ wT := wT_in (tk_6 (List.mem_of_getElem? (i := 43) rfl)) rfl
theorem wd_1245 : Cond.instanceMethod yX10_note ∈ wT := wT_in (tk_6 (List.mem_of_getElem? (i := 45) rfl)) rfl
theorem ws_83 : Cond.selects "StrideWatchModel" yX10_note yX10_note ∈ wT := wT_in (List.mem_append_left _ (List.mem_map.mpr ⟨(yX10_note, 37), pk_6 (List.mem_of_getElem? (i := 3) rfl), rfl⟩)) rfl
theorem ca_X10_225 : CV "StrideWatchModel" 225 M_X10_note 0 := ⟨mk_X10_note, wd_1243, wd_1245, ws_83⟩
theorem wd_1174 : Cond.methodLink "StrideWatchModel" 228 yX10_signed ∈ wT := wT_in (tk_5 (List.mem_of_getElem? (i := 214) rfl)) rfl
theorem wd_1176 : Cond.instanceMethod yX10_signed ∈ wT := wT_in (tk_5 (List.mem_of_getElem? (i := 216) rfl)) rfl
theorem ws_68 : Cond.selects "StrideWatchModel" yX10_signed yX10_signed ∈ wT := wT_in (List.mem_append_left _ (List.mem_map.mpr ⟨(yX10_signed, 37), pk_5 (List.mem_of_getElem? (i := 4) rfl), rfl⟩)) rfl
theorem ca_X10_228 : CV "StrideWatchModel" 228 M_X10_signed 2 := ⟨mk_X10_signed, wd_1174, wd_1176, ws_68⟩
theorem wd_1204 : Cond.methodLink "StrideWatchModel" 231 yX10_subtract ∈ wT := wT_in (tk_6 (List.mem_of_getElem? (i := 4) rfl)) rfl
theorem wd_1206 : Cond.instanceMethod yX10_subtract ∈ wT := wT_in (tk_6 (List.mem_of_getElem? (i := 6) rfl)) rfl
theorem ws_74 : Cond.selects "StrideWatchModel" yX10_subtract yX10_subtract ∈ wT := wT_in (List.mem_append_left _ (List.mem_map.mpr ⟨(yX10_subtract, 37), pk_5 (List.mem_of_getElem? (i := 10) rfl), rfl⟩)) rfl
theorem ca_X10_231 : CV "StrideWatchModel" 231 M_X10_subtract 3 := ⟨mk_X10_subtract, wd_1204, wd_1206, ws_74⟩
theorem wd_1212 : Cond.methodLink "StrideWatchModel" 234 yX10_or ∈ wT := wT_in (tk_6 (List.mem_of_getElem? (i := 12) rfl)) rfl
theorem wd_1214 : Cond.instanceMethod yX10_or ∈ wT := wT_in (tk_6 (List.mem_of_getElem? (i := 14) rfl)) rfl
theorem ws_76 : Cond.selects "StrideWatchModel" yX10_or yX10_or ∈ wT := wT_in (List.mem_append_left _ (List.mem_map.mpr ⟨(yX10_or, 37), pk_5 (List.mem_of_getElem? (i := 12) rfl), rfl⟩)) rfl
theorem ca_X10_234 : CV "StrideWatchModel" 234 M_X10_or 4 := ⟨mk_X10_or, wd_1212, wd_1214, ws_76⟩
theorem wd_1217 : Cond.methodLink "StrideWatchModel" 238 yX10_and ∈ wT := wT_in (tk_6 (List.mem_of_getElem? (i := 17) rfl)) rfl
theorem wd_1219 : Cond.instanceMethod yX10_and ∈ wT := wT_in (tk_6 (List.mem_of_getElem? (i := 19) rfl)) rfl
theorem ws_77 : Cond.selects "StrideWatchModel" yX10_and yX10_and ∈ wT := wT_in (List.mem_append_left _ (List.mem_map.mpr ⟨(yX10_and, 37), pk_5 (List.mem_of_getElem? (i := 13) rfl), rfl⟩)) rfl
theorem ca_X10_238 : CV "StrideWatchModel" 238 M_X10_and 3 := ⟨mk_X10_and, wd_1217, wd_1219, ws_77⟩
theorem wd_1226 : Cond.methodLink "StrideWatchModel" 241 yX10_workMore ∈ wT := wT_in (tk_6 (List.mem_of_getElem? (i := 26) rfl)) rfl
theorem wd_1228 : Cond.instanceMethod yX10_workMore ∈ wT := wT_in (tk_6 (List.mem_of_getElem? (i := 28) rfl)) rfl
theorem ws_79 : Cond.selects "StrideWatchModel" yX10_workMore yX10_workMore ∈ wT := wT_in (List.mem_append_left _ (List.mem_map.mpr ⟨(yX10_workMore, 37), pk_5 (List.mem_of_getElem? (i := 15) rfl), rfl⟩)) rfl
theorem ca_X10_241 : CV "StrideWatchModel" 241 M_X10_workMore 0 := ⟨mk_X10_workMore, wd_1226, wd_1228, ws_79⟩
theorem wd_1230 : Cond.methodLink "StrideWatchModel" 244 yX10_times ∈ wT := wT_in (tk_6 (List.mem_of_getElem? (i := 30) rfl)) rfl
theorem wd_1232 : Cond.instanceMethod yX10_times ∈ wT := wT_in (tk_6 (List.mem_of_getElem? (i := 32) rfl)) rfl
theorem ws_80 : Cond.selects "StrideWatchModel" yX10_times yX10_times ∈ wT := wT_in (List.mem_append_left _ (List.mem_map.mpr ⟨(yX10_times, 37), pk_6 (List.mem_of_getElem? (i := 0) rfl), rfl⟩)) rfl
theorem ca_X10_244 : CV "StrideWatchModel" 244 M_X10_times 3 := ⟨mk_X10_times, wd_1230, wd_1232, ws_80⟩
theorem wd_1235 : Cond.methodLink "StrideWatchModel" 247 yX10_shiftZero ∈ wT := wT_in (tk_6 (List.mem_of_getElem? (i := 35) rfl)) rfl
theorem wd_1237 : Cond.instanceMethod yX10_shiftZero ∈ wT := wT_in (tk_6 (List.mem_of_getElem? (i := 37) rfl)) rfl
theorem ws_81 : Cond.selects "StrideWatchModel" yX10_shiftZero yX10_shiftZero ∈ wT := wT_in (List.mem_append_left _ (List.mem_map.mpr ⟨(yX10_shiftZero, 37), pk_6 (List.mem_of_getElem? (i := 1) rfl), rfl⟩)) rfl
theorem ca_X10_247 : CV "StrideWatchModel" 247 M_X10_shiftZero 3 := ⟨mk_X10_shiftZero, wd_1235, wd_1237, ws_81⟩
theorem wd_1267 : Cond.methodLink "StrideWatchModel" 253 yX10_contains ∈ wT := wT_in (tk_6 (List.mem_of_getElem? (i := 67) rfl)) rfl
theorem wd_1269 : Cond.instanceMethod yX10_contains ∈ wT := wT_in (tk_6 (List.mem_of_getElem? (i := 69) rfl)) rfl
theorem ws_89 : Cond.selects "StrideWatchModel" yX10_contains yX10_contains ∈ wT := wT_in (List.mem_append_left _ (List.mem_map.mpr ⟨(yX10_contains, 37), pk_6 (List.mem_of_getElem? (i := 9) rfl), rfl⟩)) rfl
theorem ca_X10_253 : CV "StrideWatchModel" 253 M_X10_contains 2 := ⟨mk_X10_contains, wd_1267, wd_1269, ws_89⟩
theorem wd_1259 : Cond.methodLink "StrideWatchModel" 256 yX10_without ∈ wT := wT_in (tk_6 (List.mem_of_getElem? (i := 59) rfl)) rfl
theorem wd_1261 : Cond.instanceMethod yX10_without ∈ wT := wT_in (tk_6 (List.mem_of_getElem? (i := 61) rfl)) rfl
theorem ws_87 : Cond.selects "StrideWatchModel" yX10_without yX10_without ∈ wT := wT_in (List.mem_append_left _ (List.mem_map.mpr ⟨(yX10_without, 37), pk_6 (List.mem_of_getElem? (i := 7) rfl), rfl⟩)) rfl
theorem ca_X10_256 : CV "StrideWatchModel" 256 M_X10_without 3 := ⟨mk_X10_without, wd_1259, wd_1261, ws_87⟩
theorem wd_1263 : Cond.methodLink "StrideWatchModel" 260 yX10_only ∈ wT := wT_in (tk_6 (List.mem_of_getElem? (i := 63) rfl)) rfl
theorem wd_1265 : Cond.instanceMethod yX10_only ∈ wT := wT_in (tk_6 (List.mem_of_getElem? (i := 65) rfl)) rfl
theorem ws_88 : Cond.selects "StrideWatchModel" yX10_only yX10_only ∈ wT := wT_in (List.mem_append_left _ (List.mem_map.mpr ⟨(yX10_only, 37), pk_6 (List.mem_of_getElem? (i := 8) rfl), rfl⟩)) rfl
theorem ca_X10_260 : CV "StrideWatchModel" 260 M_X10_only 3 := ⟨mk_X10_only, wd_1263, wd_1265, ws_88⟩
theorem wd_1271 : Cond.methodLink "StrideWatchModel" 263 yX10_cut ∈ wT := wT_in (tk_6 (List.mem_of_getElem? (i := 71) rfl)) rfl
theorem wd_1273 : Cond.instanceMethod yX10_cut ∈ wT := wT_in (tk_6 (List.mem_of_getElem? (i := 73) rfl)) rfl
theorem ws_90 : Cond.selects "StrideWatchModel" yX10_cut yX10_cut ∈ wT := wT_in (List.mem_append_left _ (List.mem_map.mpr ⟨(yX10_cut, 37), pk_6 (List.mem_of_getElem? (i := 10) rfl), rfl⟩)) rfl
theorem ca_X10_263 : CV "StrideWatchModel" 263 M_X10_cut 6 := ⟨mk_X10_cut, wd_1271, wd_1273, ws_90⟩
theorem wd_1275 : Cond.methodLink "StrideWatchModel" 267 yX10_lay ∈ wT := wT_in (tk_6 (List.mem_of_getElem? (i := 75) rfl)) rfl
theorem wd_1277 : Cond.instanceMethod yX10_lay ∈ wT := wT_in (tk_6 (List.mem_of_getElem? (i := 77) rfl)) rfl
theorem ws_91 : Cond.selects "StrideWatchModel" yX10_lay yX10_lay ∈ wT := wT_in (List.mem_append_left _ (List.mem_map.mpr ⟨(yX10_lay, 37), pk_6 (List.mem_of_getElem? (i := 11) rfl), rfl⟩)) rfl
theorem ca_X10_267 : CV "StrideWatchModel" 267 M_X10_lay 2 := ⟨mk_X10_lay, wd_1275, wd_1277, ws_91⟩
theorem wd_1255 : Cond.methodLink "StrideWatchModel" 270 yX10_equal ∈ wT := wT_in (tk_6 (List.mem_of_getElem? (i := 55) rfl)) rfl
theorem wd_1257 : Cond.instanceMethod yX10_equal ∈ wT := wT_in (tk_6 (List.mem_of_getElem? (i := 57) rfl)) rfl
theorem ws_86 : Cond.selects "StrideWatchModel" yX10_equal yX10_equal ∈ wT := wT_in (List.mem_append_left _ (List.mem_map.mpr ⟨(yX10_equal, 37), pk_6 (List.mem_of_getElem? (i := 6) rfl), rfl⟩)) rfl
theorem ca_X10_270 : CV "StrideWatchModel" 270 M_X10_equal 3 := ⟨mk_X10_equal, wd_1255, wd_1257, ws_86⟩
theorem wd_1279 : Cond.methodLink "StrideWatchModel" 274 yX10_below ∈ wT := wT_in (tk_6 (List.mem_of_getElem? (i := 79) rfl)) rfl
theorem wd_1281 : Cond.instanceMethod yX10_below ∈ wT := wT_in (tk_6 (List.mem_of_getElem? (i := 81) rfl)) rfl
theorem ws_92 : Cond.selects "StrideWatchModel" yX10_below yX10_below ∈ wT := wT_in (List.mem_append_left _ (List.mem_map.mpr ⟨(yX10_below, 37), pk_6 (List.mem_of_getElem? (i := 12) rfl), rfl⟩)) rfl
theorem ca_X10_274 : CV "StrideWatchModel" 274 M_X10_below 4 := ⟨mk_X10_below, wd_1279, wd_1281, ws_92⟩
theorem wd_1283 : Cond.methodLink "StrideWatchModel" 278 yX10_lower ∈ wT := wT_in (tk_6 (List.mem_of_getElem? (i := 83) rfl)) rfl
theorem wd_1285 : Cond.instanceMethod yX10_lower ∈ wT := wT_in (tk_6 (List.mem_of_getElem? (i := 85) rfl)) rfl
theorem ws_93 : Cond.selects "StrideWatchModel" yX10_lower yX10_lower ∈ wT := wT_in (List.mem_append_left _ (List.mem_map.mpr ⟨(yX10_lower, 37), pk_6 (List.mem_of_getElem? (i := 13) rfl), rfl⟩)) rfl
theorem ca_X10_278 : CV "StrideWatchModel" 278 M_X10_lower 4 := ⟨mk_X10_lower, wd_1283, wd_1285, ws_93⟩
theorem wd_1251 : Cond.methodLink "StrideWatchModel" 281 yX10_compared ∈ wT := wT_in (tk_6 (List.mem_of_getElem? (i := 51) rfl)) rfl
theorem wd_1253 : Cond.instanceMethod yX10_compared ∈ wT := wT_in (tk_6 (List.mem_of_getElem? (i := 53) rfl)) rfl
theorem ws_85 : Cond.selects "StrideWatchModel" yX10_compared yX10_compared ∈ wT := wT_in (List.mem_append_left _ (List.mem_map.mpr ⟨(yX10_compared, 37), pk_6 (List.mem_of_getElem? (i := 5) rfl), rfl⟩)) rfl
theorem ca_X10_281 : CV "StrideWatchModel" 281 M_X10_compared 3 := ⟨mk_X10_compared, wd_1251, wd_1253, ws_85⟩
theorem wd_1148 : Cond.methodLink "StrideWatchModel" 284 yX10_copyRecord ∈ wT := wT_in (tk_5 (List.mem_of_getElem? (i := 188) rfl)) rfl
theorem wd_1150 : Cond.instanceMethod yX10_copyRecord ∈ wT := wT_in (tk_5 (List.mem_of_getElem? (i := 190) rfl)) rfl
theorem ws_62 : Cond.selects "StrideWatchModel" yX10_copyRecord yX10_copyRecord ∈ wT := wT_in (List.mem_append_left _ (List.mem_map.mpr ⟨(yX10_copyRecord, 37), pk_4 (List.mem_of_getElem? (i := 14) rfl), rfl⟩)) rfl
theorem ca_X10_284 : CV "StrideWatchModel" 284 M_X10_copyRecord 2 := ⟨mk_X10_copyRecord, wd_1148, wd_1150, ws_62⟩
theorem wd_1291 : Cond.methodLink "StrideWatchModel" 287 yX10_widen ∈ wT := wT_in (tk_6 (List.mem_of_getElem? (i := 91) rfl)) rfl
theorem wd_1293 : Cond.instanceMethod yX10_widen ∈ wT := wT_in (tk_6 (List.mem_of_getElem? (i := 93) rfl)) rfl
theorem ws_95 : Cond.selects "StrideWatchModel" yX10_widen yX10_widen ∈ wT := wT_in (List.mem_append_left _ (List.mem_map.mpr ⟨(yX10_widen, 37), pk_6 (List.mem_of_getElem? (i := 15) rfl), rfl⟩)) rfl
theorem ca_X10_287 : CV "StrideWatchModel" 287 M_X10_widen 3 := ⟨mk_X10_widen, wd_1291, wd_1293, ws_95⟩
theorem wd_1299 : Cond.methodLink "StrideWatchModel" 290 yX10_isSame ∈ wT := wT_in (tk_6 (List.mem_of_getElem? (i := 99) rfl)) rfl
theorem wd_1301 : Cond.instanceMethod yX10_isSame ∈ wT := wT_in (tk_6 (List.mem_of_getElem? (i := 101) rfl)) rfl
theorem ws_97 : Cond.selects "StrideWatchModel" yX10_isSame yX10_isSame ∈ wT := wT_in (List.mem_append_left _ (List.mem_map.mpr ⟨(yX10_isSame, 37), pk_7 (List.mem_of_getElem? (i := 1) rfl), rfl⟩)) rfl
theorem ca_X10_290 : CV "StrideWatchModel" 290 M_X10_isSame 2 := ⟨mk_X10_isSame, wd_1299, wd_1301, ws_97⟩
theorem wd_1303 : Cond.methodLink "StrideWatchModel" 294 yX10_isSameRecord ∈ wT := wT_in (tk_6 (List.mem_of_getElem? (i := 103) rfl)) rfl
theorem wd_1305 : Cond.instanceMethod yX10_isSameRecord ∈ wT := wT_in (tk_6 (List.mem_of_getElem? (i := 105) rfl)) rfl
theorem ws_98 : Cond.selects "StrideWatchModel" yX10_isSameRecord yX10_isSameRecord ∈ wT := wT_in (List.mem_append_left _ (List.mem_map.mpr ⟨(yX10_isSameRecord, 37), pk_7 (List.mem_of_getElem? (i := 2) rfl), rfl⟩)) rfl
theorem ca_X10_294 : CV "StrideWatchModel" 294 M_X10_isSameRecord 2 := ⟨mk_X10_isSameRecord, wd_1303, wd_1305, ws_98⟩
theorem wd_1152 : Cond.methodLink "StrideWatchModel" 297 yX10_act ∈ wT := wT_in (tk_5 (List.mem_of_getElem? (i := 192) rfl)) rfl
theorem wd_1154 : Cond.instanceMethod yX10_act ∈ wT := wT_in (tk_5 (List.mem_of_getElem? (i := 194) rfl)) rfl
theorem ws_63 : Cond.selects "StrideWatchModel" yX10_act yX10_act ∈ wT := wT_in (List.mem_append_left _ (List.mem_map.mpr ⟨(yX10_act, 37), pk_4 (List.mem_of_getElem? (i := 15) rfl), rfl⟩)) rfl
theorem ca_X10_297 : CV "StrideWatchModel" 297 M_X10_act 1 := ⟨mk_X10_act, wd_1152, wd_1154, ws_63⟩
theorem wd_1247 : Cond.methodLink "StrideWatchModel" 300 yX10_goAlong ∈ wT := wT_in (tk_6 (List.mem_of_getElem? (i := 47) rfl)) rfl
theorem wd_1249 : Cond.instanceMethod yX10_goAlong ∈ wT := wT_in (tk_6 (List.mem_of_getElem? (i := 49) rfl)) rfl
theorem ws_84 : Cond.selects "StrideWatchModel" yX10_goAlong yX10_goAlong ∈ wT := wT_in (List.mem_append_left _ (List.mem_map.mpr ⟨(yX10_goAlong, 37), pk_6 (List.mem_of_getElem? (i := 4) rfl), rfl⟩)) rfl
theorem ca_X10_300 : CV "StrideWatchModel" 300 M_X10_goAlong 1 := ⟨mk_X10_goAlong, wd_1247, wd_1249, ws_84⟩
theorem wd_1287 : Cond.methodLink "StrideWatchModel" 303 yX10_arrive ∈ wT := wT_in (tk_6 (List.mem_of_getElem? (i := 87) rfl)) rfl
theorem wd_1289 : Cond.instanceMethod yX10_arrive ∈ wT := wT_in (tk_6 (List.mem_of_getElem? (i := 89) rfl)) rfl
theorem ws_94 : Cond.selects "StrideWatchModel" yX10_arrive yX10_arrive ∈ wT := wT_in (List.mem_append_left _ (List.mem_map.mpr ⟨(yX10_arrive, 37), pk_6 (List.mem_of_getElem? (i := 14) rfl), rfl⟩)) rfl
theorem ca_X10_303 : CV "StrideWatchModel" 303 M_X10_arrive 2 := ⟨mk_X10_arrive, wd_1287, wd_1289, ws_94⟩
theorem wd_1144 : Cond.methodLink "StrideWatchModel" 307 yX10_goThrough ∈ wT := wT_in (tk_5 (List.mem_of_getElem? (i := 184) rfl)) rfl
theorem wd_1146 : Cond.instanceMethod yX10_goThrough ∈ wT := wT_in (tk_5 (List.mem_of_getElem? (i := 186) rfl)) rfl
theorem ws_61 : Cond.selects "StrideWatchModel" yX10_goThrough yX10_goThrough ∈ wT := wT_in (List.mem_append_left _ (List.mem_map.mpr ⟨(yX10_goThrough, 37), pk_4 (List.mem_of_getElem? (i := 13) rfl), rfl⟩)) rfl
theorem ca_X10_307 : CV "StrideWatchModel" 307 M_X10_goThrough 1 := ⟨mk_X10_goThrough, wd_1144, wd_1146, ws_61⟩
theorem wd_1311 : Cond.methodLink "StrideWatchModel" 310 yX10_isPlace ∈ wT := wT_in (tk_6 (List.mem_of_getElem? (i := 111) rfl)) rfl
theorem wd_1312 : Cond.static yX10_isPlace ∈ wT := wT_in (tk_6 (List.mem_of_getElem? (i := 112) rfl)) rfl
theorem ca_X10_310 : CT "StrideWatchModel" 310 M_X10_isPlace 1 := ⟨mk_X10_isPlace, wd_1311, wd_1312⟩
theorem wd_1322 : Cond.methodLink "StrideWatchModel" 313 yX10_isReached ∈ wT := wT_in (tk_6 (List.mem_of_getElem? (i := 122) rfl)) rfl
theorem wd_1324 : Cond.instanceMethod yX10_isReached ∈ wT := wT_in (tk_6 (List.mem_of_getElem? (i := 124) rfl)) rfl
theorem ws_99 : Cond.selects "StrideWatchModel" yX10_isReached yX10_isReached ∈ wT := wT_in (List.mem_append_left _ (List.mem_map.mpr ⟨(yX10_isReached, 37), pk_7 (List.mem_of_getElem? (i := 3) rfl), rfl⟩)) rfl
theorem ca_X10_313 : CV "StrideWatchModel" 313 M_X10_isReached 1 := ⟨mk_X10_isReached, wd_1322, wd_1324, ws_99⟩
theorem wd_1355 : Cond.methodLink "StrideWatchModel" 333 yX10_cutDown ∈ wT := wT_in (tk_6 (List.mem_of_getElem? (i := 155) rfl)) rfl
theorem wd_1357 : Cond.instanceMethod yX10_cutDown ∈ wT := wT_in (tk_6 (List.mem_of_getElem? (i := 157) rfl)) rfl
theorem ws_102 : Cond.selects "StrideWatchModel" yX10_cutDown yX10_cutDown ∈ wT := wT_in (List.mem_append_left _ (List.mem_map.mpr ⟨(yX10_cutDown, 37), pk_7 (List.mem_of_getElem? (i := 6) rfl), rfl⟩)) rfl
theorem ca_X10_333 : CV "StrideWatchModel" 333 M_X10_cutDown 1 := ⟨mk_X10_cutDown, wd_1355, wd_1357, ws_102⟩
theorem wd_1363 : Cond.methodLink "StrideWatchModel" 337 yX10_isBelow ∈ wT := wT_in (tk_6 (List.mem_of_getElem? (i := 163) rfl)) rfl
theorem wd_1364 : Cond.static yX10_isBelow ∈ wT := wT_in (tk_6 (List.mem_of_getElem? (i := 164) rfl)) rfl
theorem ca_X10_337 : CT "StrideWatchModel" 337 M_X10_isBelow 2 := ⟨mk_X10_isBelow, wd_1363, wd_1364⟩
theorem wd_1367 : Cond.methodLink "StrideWatchModel" 341 yX10_flags ∈ wT := wT_in (tk_6 (List.mem_of_getElem? (i := 167) rfl)) rfl
theorem wd_1369 : Cond.instanceMethod yX10_flags ∈ wT := wT_in (tk_6 (List.mem_of_getElem? (i := 169) rfl)) rfl
theorem ws_104 : Cond.selects "StrideWatchModel" yX10_flags yX10_flags ∈ wT := wT_in (List.mem_append_left _ (List.mem_map.mpr ⟨(yX10_flags, 37), pk_7 (List.mem_of_getElem? (i := 8) rfl), rfl⟩)) rfl
theorem ca_X10_341 : CV "StrideWatchModel" 341 M_X10_flags 3 := ⟨mk_X10_flags, wd_1367, wd_1369, ws_104⟩
theorem wd_1359 : Cond.methodLink "StrideWatchModel" 345 yX10_sum ∈ wT := wT_in (tk_6 (List.mem_of_getElem? (i := 159) rfl)) rfl
theorem wd_1361 : Cond.instanceMethod yX10_sum ∈ wT := wT_in (tk_6 (List.mem_of_getElem? (i := 161) rfl)) rfl
theorem ws_103 : Cond.selects "StrideWatchModel" yX10_sum yX10_sum ∈ wT := wT_in (List.mem_append_left _ (List.mem_map.mpr ⟨(yX10_sum, 37), pk_7 (List.mem_of_getElem? (i := 7) rfl), rfl⟩)) rfl
theorem ca_X10_345 : CV "StrideWatchModel" 345 M_X10_sum 2 := ⟨mk_X10_sum, wd_1359, wd_1361, ws_103⟩
theorem wd_1371 : Cond.methodLink "StrideWatchModel" 348 yX10_difference ∈ wT := wT_in (tk_6 (List.mem_of_getElem? (i := 171) rfl)) rfl
theorem wd_1373 : Cond.instanceMethod yX10_difference ∈ wT := wT_in (tk_6 (List.mem_of_getElem? (i := 173) rfl)) rfl
theorem ws_105 : Cond.selects "StrideWatchModel" yX10_difference yX10_difference ∈ wT := wT_in (List.mem_append_left _ (List.mem_map.mpr ⟨(yX10_difference, 37), pk_7 (List.mem_of_getElem? (i := 9) rfl), rfl⟩)) rfl
theorem ca_X10_348 : CV "StrideWatchModel" 348 M_X10_difference 2 := ⟨mk_X10_difference, wd_1371, wd_1373, ws_105⟩
theorem wd_1375 : Cond.methodLink "StrideWatchModel" 351 yX10_bits ∈ wT := wT_in (tk_6 (List.mem_of_getElem? (i := 175) rfl)) rfl
theorem wd_1377 : Cond.instanceMethod yX10_bits ∈ wT := wT_in (tk_6 (List.mem_of_getElem? (i := 177) rfl)) rfl
theorem ws_106 : Cond.selects "StrideWatchModel" yX10_bits yX10_bits ∈ wT := wT_in (List.mem_append_left _ (List.mem_map.mpr ⟨(yX10_bits, 37), pk_7 (List.mem_of_getElem? (i := 10) rfl), rfl⟩)) rfl
theorem ca_X10_351 : CV "StrideWatchModel" 351 M_X10_bits 1 := ⟨mk_X10_bits, wd_1375, wd_1377, ws_106⟩
theorem wd_1379 : Cond.methodLink "StrideWatchModel" 354 yX10_count ∈ wT := wT_in (tk_6 (List.mem_of_getElem? (i := 179) rfl)) rfl
theorem wd_1381 : Cond.instanceMethod yX10_count ∈ wT := wT_in (tk_6 (List.mem_of_getElem? (i := 181) rfl)) rfl
theorem ws_107 : Cond.selects "StrideWatchModel" yX10_count yX10_count ∈ wT := wT_in (List.mem_append_left _ (List.mem_map.mpr ⟨(yX10_count, 37), pk_7 (List.mem_of_getElem? (i := 11) rfl), rfl⟩)) rfl
theorem ca_X10_354 : CV "StrideWatchModel" 354 M_X10_count 2 := ⟨mk_X10_count, wd_1379, wd_1381, ws_107⟩
theorem wd_1383 : Cond.methodLink "StrideWatchModel" 357 yX10_shifted ∈ wT := wT_in (tk_6 (List.mem_of_getElem? (i := 183) rfl)) rfl
theorem wd_1385 : Cond.instanceMethod yX10_shifted ∈ wT := wT_in (tk_6 (List.mem_of_getElem? (i := 185) rfl)) rfl
theorem ws_108 : Cond.selects "StrideWatchModel" yX10_shifted yX10_shifted ∈ wT := wT_in (List.mem_append_left _ (List.mem_map.mpr ⟨(yX10_shifted, 37), pk_7 (List.mem_of_getElem? (i := 12) rfl), rfl⟩)) rfl
theorem ca_X10_357 : CV "StrideWatchModel" 357 M_X10_shifted 1 := ⟨mk_X10_shifted, wd_1383, wd_1385, ws_108⟩
theorem wd_1351 : Cond.methodLink "StrideWatchModel" 360 yX10_run ∈ wT := wT_in (tk_6 (List.mem_of_getElem? (i := 151) rfl)) rfl
theorem wd_1353 : Cond.instanceMethod yX10_run ∈ wT := wT_in (tk_6 (List.mem_of_getElem? (i := 153) rfl)) rfl
theorem ws_101 : Cond.selects "StrideWatchModel" yX10_run yX10_run ∈ wT := wT_in (List.mem_append_left _ (List.mem_map.mpr ⟨(yX10_run, 37), pk_7 (List.mem_of_getElem? (i := 5) rfl), rfl⟩)) rfl
theorem ca_X10_360 : CV "StrideWatchModel" 360 M_X10_run 0 := ⟨mk_X10_run, wd_1351, wd_1353, ws_101⟩
theorem wd_1387 : Cond.methodLink "StrideWatchModel" 363 yX10_holds ∈ wT := wT_in (tk_6 (List.mem_of_getElem? (i := 187) rfl)) rfl
theorem wd_1389 : Cond.instanceMethod yX10_holds ∈ wT := wT_in (tk_6 (List.mem_of_getElem? (i := 189) rfl)) rfl
theorem ws_109 : Cond.selects "StrideWatchModel" yX10_holds yX10_holds ∈ wT := wT_in (List.mem_append_left _ (List.mem_map.mpr ⟨(yX10_holds, 37), pk_7 (List.mem_of_getElem? (i := 13) rfl), rfl⟩)) rfl
theorem ca_X10_363 : CV "StrideWatchModel" 363 M_X10_holds 1 := ⟨mk_X10_holds, wd_1387, wd_1389, ws_109⟩
theorem wd_1347 : Cond.methodLink "StrideWatchModel" 368 yX10_oneMore ∈ wT := wT_in (tk_6 (List.mem_of_getElem? (i := 147) rfl)) rfl
theorem wd_1349 : Cond.instanceMethod yX10_oneMore ∈ wT := wT_in (tk_6 (List.mem_of_getElem? (i := 149) rfl)) rfl
theorem ws_100 : Cond.selects "StrideWatchModel" yX10_oneMore yX10_oneMore ∈ wT := wT_in (List.mem_append_left _ (List.mem_map.mpr ⟨(yX10_oneMore, 37), pk_7 (List.mem_of_getElem? (i := 4) rfl), rfl⟩)) rfl
theorem ca_X10_368 : CV "StrideWatchModel" 368 M_X10_oneMore 0 := ⟨mk_X10_oneMore, wd_1347, wd_1349, ws_100⟩
theorem wd_916 : Cond.methodLink "java/lang/Long" 302 yJ13_compare_74951 ∈ wT := wT_in (tk_4 (List.mem_of_getElem? (i := 196) rfl)) rfl
theorem wd_917 : Cond.static yJ13_compare_74951 ∈ wT := wT_in (tk_4 (List.mem_of_getElem? (i := 197) rfl)) rfl
theorem ca_J13_302 : CT "java/lang/Long" 302 M_J13_compare_74951 2 := ⟨mk_J13_compare_74951, wd_916, wd_917⟩
theorem wd_572 : Cond.methodLink "java/lang/Long" 98 yJ13_numberOfLeadingZeros_95d88 ∈ wT := wT_in (tk_3 (List.mem_of_getElem? (i := 92) rfl)) rfl
theorem wd_573 : Cond.static yJ13_numberOfLeadingZeros_95d88 ∈ wT := wT_in (tk_3 (List.mem_of_getElem? (i := 93) rfl)) rfl
theorem ca_J13_98 : CT "java/lang/Long" 98 M_J13_numberOfLeadingZeros_95d88 1 := ⟨mk_J13_numberOfLeadingZeros_95d88, wd_572, wd_573⟩
theorem wd_575 : Cond.methodLink "java/lang/Long" 308 yJ6_numberOfLeadingZeros_0f7a4 ∈ wT := wT_in (tk_3 (List.mem_of_getElem? (i := 95) rfl)) rfl
theorem wd_576 : Cond.static yJ6_numberOfLeadingZeros_0f7a4 ∈ wT := wT_in (tk_3 (List.mem_of_getElem? (i := 96) rfl)) rfl
theorem ca_J13_308 : CT "java/lang/Long" 308 M_J6_numberOfLeadingZeros_0f7a4 1 := ⟨mk_J6_numberOfLeadingZeros_0f7a4, wd_575, wd_576⟩
theorem wd_693 : Cond.methodLink "StrideWatchLaw" 7 yX9_feed ∈ wT := wT_in (tk_3 (List.mem_of_getElem? (i := 213) rfl)) rfl
theorem wd_694 : Cond.instanceMethod yX9_feed ∈ wT := wT_in (tk_3 (List.mem_of_getElem? (i := 214) rfl)) rfl
theorem wd_695 : Cond.selects "StrideWatch" yX9_feed yX9_feed ∈ wT := wT_in (tk_3 (List.mem_of_getElem? (i := 215) rfl)) rfl
theorem ca_L_7 : CV "StrideWatchLaw" 7 M_X9_feed 5 := ⟨mk_X9_feed, wd_693, wd_694, wd_695⟩
theorem wd_790 : Cond.methodLink "StrideWatchLaw" 17 yX9_given ∈ wT := wT_in (tk_4 (List.mem_of_getElem? (i := 70) rfl)) rfl
theorem wd_791 : Cond.instanceMethod yX9_given ∈ wT := wT_in (tk_4 (List.mem_of_getElem? (i := 71) rfl)) rfl
theorem wd_792 : Cond.selects "StrideWatch" yX9_given yX9_given ∈ wT := wT_in (tk_4 (List.mem_of_getElem? (i := 72) rfl)) rfl
theorem ca_L_17 : CV "StrideWatchLaw" 17 M_X9_given 4 := ⟨mk_X9_given, wd_790, wd_791, wd_792⟩
theorem wd_807 : Cond.methodLink "StrideWatchLaw" 21 yX9_any ∈ wT := wT_in (tk_4 (List.mem_of_getElem? (i := 87) rfl)) rfl
theorem wd_808 : Cond.instanceMethod yX9_any ∈ wT := wT_in (tk_4 (List.mem_of_getElem? (i := 88) rfl)) rfl
theorem wd_809 : Cond.selects "StrideWatch" yX9_any yX9_any ∈ wT := wT_in (tk_4 (List.mem_of_getElem? (i := 89) rfl)) rfl
theorem ca_L_21 : CV "StrideWatchLaw" 21 M_X9_any 1 := ⟨mk_X9_any, wd_807, wd_808, wd_809⟩
theorem wd_815 : Cond.methodLink "StrideWatchLaw" 25 yX9_decode ∈ wT := wT_in (tk_4 (List.mem_of_getElem? (i := 95) rfl)) rfl
theorem wd_816 : Cond.instanceMethod yX9_decode ∈ wT := wT_in (tk_4 (List.mem_of_getElem? (i := 96) rfl)) rfl
theorem wd_817 : Cond.selects "StrideWatch" yX9_decode yX9_decode ∈ wT := wT_in (tk_4 (List.mem_of_getElem? (i := 97) rfl)) rfl
theorem ca_L_25 : CV "StrideWatchLaw" 25 M_X9_decode 2 := ⟨mk_X9_decode, wd_815, wd_816, wd_817⟩
theorem wd_834 : Cond.methodLink "StrideWatchLaw" 29 yX9_constant ∈ wT := wT_in (tk_4 (List.mem_of_getElem? (i := 114) rfl)) rfl
theorem wd_835 : Cond.instanceMethod yX9_constant ∈ wT := wT_in (tk_4 (List.mem_of_getElem? (i := 115) rfl)) rfl
theorem wd_836 : Cond.selects "StrideWatch" yX9_constant yX9_constant ∈ wT := wT_in (tk_4 (List.mem_of_getElem? (i := 116) rfl)) rfl
theorem ca_L_29 : CV "StrideWatchLaw" 29 M_X9_constant 1 := ⟨mk_X9_constant, wd_834, wd_835, wd_836⟩
theorem wd_841 : Cond.methodLink "StrideWatchLaw" 33 yX9_set ∈ wT := wT_in (tk_4 (List.mem_of_getElem? (i := 121) rfl)) rfl
theorem wd_842 : Cond.instanceMethod yX9_set ∈ wT := wT_in (tk_4 (List.mem_of_getElem? (i := 122) rfl)) rfl
theorem wd_843 : Cond.selects "StrideWatch" yX9_set yX9_set ∈ wT := wT_in (tk_4 (List.mem_of_getElem? (i := 123) rfl)) rfl
theorem ca_L_33 : CV "StrideWatchLaw" 33 M_X9_set 3 := ⟨mk_X9_set, wd_841, wd_842, wd_843⟩
theorem wd_855 : Cond.methodLink "StrideWatchLaw" 37 yX9_has ∈ wT := wT_in (tk_4 (List.mem_of_getElem? (i := 135) rfl)) rfl
theorem wd_856 : Cond.instanceMethod yX9_has ∈ wT := wT_in (tk_4 (List.mem_of_getElem? (i := 136) rfl)) rfl
theorem wd_857 : Cond.selects "StrideWatch" yX9_has yX9_has ∈ wT := wT_in (tk_4 (List.mem_of_getElem? (i := 137) rfl)) rfl
theorem ca_L_37 : CV "StrideWatchLaw" 37 M_X9_has 3 := ⟨mk_X9_has, wd_855, wd_856, wd_857⟩
theorem wd_866 : Cond.methodLink "StrideWatchLaw" 41 yX9_put ∈ wT := wT_in (tk_4 (List.mem_of_getElem? (i := 146) rfl)) rfl
theorem wd_867 : Cond.instanceMethod yX9_put ∈ wT := wT_in (tk_4 (List.mem_of_getElem? (i := 147) rfl)) rfl
theorem wd_868 : Cond.selects "StrideWatch" yX9_put yX9_put ∈ wT := wT_in (tk_4 (List.mem_of_getElem? (i := 148) rfl)) rfl
theorem ca_L_41 : CV "StrideWatchLaw" 41 M_X9_put 2 := ⟨mk_X9_put, wd_866, wd_867, wd_868⟩
theorem wd_878 : Cond.methodLink "StrideWatchLaw" 45 yX9_go ∈ wT := wT_in (tk_4 (List.mem_of_getElem? (i := 158) rfl)) rfl
theorem wd_879 : Cond.instanceMethod yX9_go ∈ wT := wT_in (tk_4 (List.mem_of_getElem? (i := 159) rfl)) rfl
theorem wd_880 : Cond.selects "StrideWatch" yX9_go yX9_go ∈ wT := wT_in (tk_4 (List.mem_of_getElem? (i := 160) rfl)) rfl
theorem ca_L_45 : CV "StrideWatchLaw" 45 M_X9_go 1 := ⟨mk_X9_go, wd_878, wd_879, wd_880⟩
theorem wd_940 : Cond.methodLink "StrideWatchLaw" 49 yX9_value ∈ wT := wT_in (tk_4 (List.mem_of_getElem? (i := 220) rfl)) rfl
theorem wd_941 : Cond.instanceMethod yX9_value ∈ wT := wT_in (tk_4 (List.mem_of_getElem? (i := 221) rfl)) rfl
theorem wd_942 : Cond.selects "StrideWatch" yX9_value yX9_value ∈ wT := wT_in (tk_4 (List.mem_of_getElem? (i := 222) rfl)) rfl
theorem ca_L_49 : CV "StrideWatchLaw" 49 M_X9_value 1 := ⟨mk_X9_value, wd_940, wd_941, wd_942⟩
theorem wd_23 : Cond.methodLink "StrideWatchLaw" 52 yX9_init ∈ wT := wT_in (tk_1 (List.mem_of_getElem? (i := 23) rfl)) rfl
theorem wd_24 : Cond.instanceMethod yX9_init ∈ wT := wT_in (tk_1 (List.mem_of_getElem? (i := 24) rfl)) rfl
theorem ca_L_52 : CI "StrideWatchLaw" 52 M_X9_init 0 := ⟨mk_X9_init, wd_23, wd_24, rfl, rfl, by decide +kernel⟩
theorem wd_947 : Cond.methodLink "StrideWatchLaw" 55 yX10_init ∈ wT := wT_in (tk_4 (List.mem_of_getElem? (i := 227) rfl)) rfl
theorem wd_948 : Cond.instanceMethod yX10_init ∈ wT := wT_in (tk_4 (List.mem_of_getElem? (i := 228) rfl)) rfl
theorem ca_L_55 : CI "StrideWatchLaw" 55 M_X10_init 0 := ⟨mk_X10_init, wd_947, wd_948, rfl, rfl, by decide +kernel⟩
theorem wd_688 : Cond.methodLink "StrideWatchLaw" 56 yL_feed ∈ wT := wT_in (tk_3 (List.mem_of_getElem? (i := 208) rfl)) rfl
theorem wd_689 : Cond.static yL_feed ∈ wT := wT_in (tk_3 (List.mem_of_getElem? (i := 209) rfl)) rfl
theorem ca_L_56 : CTW "StrideWatchLaw" 56 M_L_feed 7 := ⟨mkw_L_feed, wd_688, wd_689⟩
theorem wd_1068 : Cond.methodLink "StrideWatchLaw" 61 yX10_feed ∈ wT := wT_in (tk_5 (List.mem_of_getElem? (i := 108) rfl)) rfl
theorem wd_1069 : Cond.instanceMethod yX10_feed ∈ wT := wT_in (tk_5 (List.mem_of_getElem? (i := 109) rfl)) rfl
theorem wd_1070 : Cond.selects "StrideWatchModel" yX10_feed yX10_feed ∈ wT := wT_in (tk_5 (List.mem_of_getElem? (i := 110) rfl)) rfl
theorem ca_L_61 : CV "StrideWatchLaw" 61 M_X10_feed 5 := ⟨mk_X10_feed, wd_1068, wd_1069, wd_1070⟩
theorem wd_303 : Cond.methodLink "StrideWatchLaw" 62 yX9_erase ∈ wT := wT_in (tk_2 (List.mem_of_getElem? (i := 63) rfl)) rfl
theorem wd_304 : Cond.instanceMethod yX9_erase ∈ wT := wT_in (tk_2 (List.mem_of_getElem? (i := 64) rfl)) rfl
theorem wd_305 : Cond.selects "StrideWatch" yX9_erase yX9_erase ∈ wT := wT_in (tk_2 (List.mem_of_getElem? (i := 65) rfl)) rfl
theorem ca_L_62 : CV "StrideWatchLaw" 62 M_X9_erase 0 := ⟨mk_X9_erase, wd_303, wd_304, wd_305⟩
theorem wd_1084 : Cond.methodLink "StrideWatchLaw" 66 yX10_erase ∈ wT := wT_in (tk_5 (List.mem_of_getElem? (i := 124) rfl)) rfl
theorem wd_1085 : Cond.instanceMethod yX10_erase ∈ wT := wT_in (tk_5 (List.mem_of_getElem? (i := 125) rfl)) rfl
theorem wd_1086 : Cond.selects "StrideWatchModel" yX10_erase yX10_erase ∈ wT := wT_in (tk_5 (List.mem_of_getElem? (i := 126) rfl)) rfl
theorem ca_L_66 : CV "StrideWatchLaw" 66 M_X10_erase 0 := ⟨mk_X10_erase, wd_1084, wd_1085, wd_1086⟩
theorem wd_787 : Cond.methodLink "StrideWatchLaw" 69 yL_given ∈ wT := wT_in (tk_4 (List.mem_of_getElem? (i := 67) rfl)) rfl
theorem wd_788 : Cond.static yL_given ∈ wT := wT_in (tk_4 (List.mem_of_getElem? (i := 68) rfl)) rfl
theorem ca_L_69 : CTW "StrideWatchLaw" 69 M_L_given 5 := ⟨mkw_L_given, wd_787, wd_788⟩
theorem wd_1307 : Cond.methodLink "StrideWatchLaw" 72 yX10_given ∈ wT := wT_in (tk_6 (List.mem_of_getElem? (i := 107) rfl)) rfl
theorem wd_1308 : Cond.instanceMethod yX10_given ∈ wT := wT_in (tk_6 (List.mem_of_getElem? (i := 108) rfl)) rfl
theorem wd_1309 : Cond.selects "StrideWatchModel" yX10_given yX10_given ∈ wT := wT_in (tk_6 (List.mem_of_getElem? (i := 109) rfl)) rfl
theorem ca_L_72 : CV "StrideWatchLaw" 72 M_X10_given 4 := ⟨mk_X10_given, wd_1307, wd_1308, wd_1309⟩
theorem wd_804 : Cond.methodLink "StrideWatchLaw" 73 yL_any ∈ wT := wT_in (tk_4 (List.mem_of_getElem? (i := 84) rfl)) rfl
theorem wd_805 : Cond.static yL_any ∈ wT := wT_in (tk_4 (List.mem_of_getElem? (i := 85) rfl)) rfl
theorem ca_L_73 : CTW "StrideWatchLaw" 73 M_L_any 2 := ⟨mkw_L_any, wd_804, wd_805⟩
theorem wd_1314 : Cond.methodLink "StrideWatchLaw" 76 yX10_any ∈ wT := wT_in (tk_6 (List.mem_of_getElem? (i := 114) rfl)) rfl
theorem wd_1315 : Cond.instanceMethod yX10_any ∈ wT := wT_in (tk_6 (List.mem_of_getElem? (i := 115) rfl)) rfl
theorem wd_1316 : Cond.selects "StrideWatchModel" yX10_any yX10_any ∈ wT := wT_in (tk_6 (List.mem_of_getElem? (i := 116) rfl)) rfl
theorem ca_L_76 : CV "StrideWatchLaw" 76 M_X10_any 1 := ⟨mk_X10_any, wd_1314, wd_1315, wd_1316⟩
theorem wd_812 : Cond.methodLink "StrideWatchLaw" 77 yL_decode ∈ wT := wT_in (tk_4 (List.mem_of_getElem? (i := 92) rfl)) rfl
theorem wd_813 : Cond.static yL_decode ∈ wT := wT_in (tk_4 (List.mem_of_getElem? (i := 93) rfl)) rfl
theorem ca_L_77 : CTW "StrideWatchLaw" 77 M_L_decode 4 := ⟨mkw_L_decode, wd_812, wd_813⟩
theorem wd_1088 : Cond.methodLink "StrideWatchLaw" 80 yX10_decode ∈ wT := wT_in (tk_5 (List.mem_of_getElem? (i := 128) rfl)) rfl
theorem wd_1089 : Cond.instanceMethod yX10_decode ∈ wT := wT_in (tk_5 (List.mem_of_getElem? (i := 129) rfl)) rfl
theorem wd_1090 : Cond.selects "StrideWatchModel" yX10_decode yX10_decode ∈ wT := wT_in (tk_5 (List.mem_of_getElem? (i := 130) rfl)) rfl
theorem ca_L_80 : CV "StrideWatchLaw" 80 M_X10_decode 2 := ⟨mk_X10_decode, wd_1088, wd_1089, wd_1090⟩
theorem wd_831 : Cond.methodLink "StrideWatchLaw" 81 yL_constant ∈ wT := wT_in (tk_4 (List.mem_of_getElem? (i := 111) rfl)) rfl
theorem wd_832 : Cond.static yL_constant ∈ wT := wT_in (tk_4 (List.mem_of_getElem? (i := 112) rfl)) rfl
theorem ca_L_81 : CTW "StrideWatchLaw" 81 M_L_constant 3 := ⟨mkw_L_constant, wd_831, wd_832⟩
theorem wd_1132 : Cond.methodLink "StrideWatchLaw" 84 yX10_constant ∈ wT := wT_in (tk_5 (List.mem_of_getElem? (i := 172) rfl)) rfl
theorem wd_1133 : Cond.instanceMethod yX10_constant ∈ wT := wT_in (tk_5 (List.mem_of_getElem? (i := 173) rfl)) rfl
theorem wd_1134 : Cond.selects "StrideWatchModel" yX10_constant yX10_constant ∈ wT := wT_in (tk_5 (List.mem_of_getElem? (i := 174) rfl)) rfl
theorem ca_L_84 : CV "StrideWatchLaw" 84 M_X10_constant 1 := ⟨mk_X10_constant, wd_1132, wd_1133, wd_1134⟩
theorem wd_315 : Cond.methodLink "StrideWatchLaw" 85 yX9_look ∈ wT := wT_in (tk_2 (List.mem_of_getElem? (i := 75) rfl)) rfl
theorem wd_316 : Cond.instanceMethod yX9_look ∈ wT := wT_in (tk_2 (List.mem_of_getElem? (i := 76) rfl)) rfl
theorem wd_317 : Cond.selects "StrideWatch" yX9_look yX9_look ∈ wT := wT_in (tk_2 (List.mem_of_getElem? (i := 77) rfl)) rfl
theorem ca_L_85 : CV "StrideWatchLaw" 85 M_X9_look 0 := ⟨mk_X9_look, wd_315, wd_316, wd_317⟩
theorem wd_1136 : Cond.methodLink "StrideWatchLaw" 88 yX10_look ∈ wT := wT_in (tk_5 (List.mem_of_getElem? (i := 176) rfl)) rfl
theorem wd_1137 : Cond.instanceMethod yX10_look ∈ wT := wT_in (tk_5 (List.mem_of_getElem? (i := 177) rfl)) rfl
theorem wd_1138 : Cond.selects "StrideWatchModel" yX10_look yX10_look ∈ wT := wT_in (tk_5 (List.mem_of_getElem? (i := 178) rfl)) rfl
theorem ca_L_88 : CV "StrideWatchLaw" 88 M_X10_look 0 := ⟨mk_X10_look, wd_1136, wd_1137, wd_1138⟩
theorem wd_662 : Cond.methodLink "StrideWatchLaw" 89 yX9_reached ∈ wT := wT_in (tk_3 (List.mem_of_getElem? (i := 182) rfl)) rfl
theorem wd_663 : Cond.instanceMethod yX9_reached ∈ wT := wT_in (tk_3 (List.mem_of_getElem? (i := 183) rfl)) rfl
theorem wd_664 : Cond.selects "StrideWatch" yX9_reached yX9_reached ∈ wT := wT_in (tk_3 (List.mem_of_getElem? (i := 184) rfl)) rfl
theorem ca_L_89 : CV "StrideWatchLaw" 89 M_X9_reached 1 := ⟨mk_X9_reached, wd_662, wd_663, wd_664⟩
theorem wd_1318 : Cond.methodLink "StrideWatchLaw" 92 yX10_reached ∈ wT := wT_in (tk_6 (List.mem_of_getElem? (i := 118) rfl)) rfl
theorem wd_1319 : Cond.instanceMethod yX10_reached ∈ wT := wT_in (tk_6 (List.mem_of_getElem? (i := 119) rfl)) rfl
theorem wd_1320 : Cond.selects "StrideWatchModel" yX10_reached yX10_reached ∈ wT := wT_in (tk_6 (List.mem_of_getElem? (i := 120) rfl)) rfl
theorem ca_L_92 : CV "StrideWatchLaw" 92 M_X10_reached 1 := ⟨mk_X10_reached, wd_1318, wd_1319, wd_1320⟩
theorem wd_838 : Cond.methodLink "StrideWatchLaw" 93 yL_set ∈ wT := wT_in (tk_4 (List.mem_of_getElem? (i := 118) rfl)) rfl
theorem wd_839 : Cond.static yL_set ∈ wT := wT_in (tk_4 (List.mem_of_getElem? (i := 119) rfl)) rfl
theorem ca_L_93 : CTW "StrideWatchLaw" 93 M_L_set 5 := ⟨mkw_L_set, wd_838, wd_839⟩
theorem wd_1326 : Cond.methodLink "StrideWatchLaw" 96 yX10_set ∈ wT := wT_in (tk_6 (List.mem_of_getElem? (i := 126) rfl)) rfl
theorem wd_1327 : Cond.instanceMethod yX10_set ∈ wT := wT_in (tk_6 (List.mem_of_getElem? (i := 127) rfl)) rfl
theorem wd_1328 : Cond.selects "StrideWatchModel" yX10_set yX10_set ∈ wT := wT_in (tk_6 (List.mem_of_getElem? (i := 128) rfl)) rfl
theorem ca_L_96 : CV "StrideWatchLaw" 96 M_X10_set 3 := ⟨mk_X10_set, wd_1326, wd_1327, wd_1328⟩
theorem wd_852 : Cond.methodLink "StrideWatchLaw" 97 yL_has ∈ wT := wT_in (tk_4 (List.mem_of_getElem? (i := 132) rfl)) rfl
theorem wd_853 : Cond.static yL_has ∈ wT := wT_in (tk_4 (List.mem_of_getElem? (i := 133) rfl)) rfl
theorem ca_L_97 : CTW "StrideWatchLaw" 97 M_L_has 5 := ⟨mkw_L_has, wd_852, wd_853⟩
theorem wd_1330 : Cond.methodLink "StrideWatchLaw" 100 yX10_has ∈ wT := wT_in (tk_6 (List.mem_of_getElem? (i := 130) rfl)) rfl
theorem wd_1331 : Cond.instanceMethod yX10_has ∈ wT := wT_in (tk_6 (List.mem_of_getElem? (i := 131) rfl)) rfl
theorem wd_1332 : Cond.selects "StrideWatchModel" yX10_has yX10_has ∈ wT := wT_in (tk_6 (List.mem_of_getElem? (i := 132) rfl)) rfl
theorem ca_L_100 : CV "StrideWatchLaw" 100 M_X10_has 3 := ⟨mk_X10_has, wd_1330, wd_1331, wd_1332⟩
theorem wd_1064 : Cond.methodLink "StrideWatchLaw" 101 yX10_thrown ∈ wT := wT_in (tk_5 (List.mem_of_getElem? (i := 104) rfl)) rfl
theorem wd_1065 : Cond.instanceMethod yX10_thrown ∈ wT := wT_in (tk_5 (List.mem_of_getElem? (i := 105) rfl)) rfl
theorem wd_1066 : Cond.selects "StrideWatchModel" yX10_thrown yX10_thrown ∈ wT := wT_in (tk_5 (List.mem_of_getElem? (i := 106) rfl)) rfl
theorem ca_L_101 : CV "StrideWatchLaw" 101 M_X10_thrown 0 := ⟨mk_X10_thrown, wd_1064, wd_1065, wd_1066⟩
theorem wd_670 : Cond.methodLink "StrideWatchLaw" 104 yX9_start ∈ wT := wT_in (tk_3 (List.mem_of_getElem? (i := 190) rfl)) rfl
theorem wd_671 : Cond.instanceMethod yX9_start ∈ wT := wT_in (tk_3 (List.mem_of_getElem? (i := 191) rfl)) rfl
theorem wd_672 : Cond.selects "StrideWatch" yX9_start yX9_start ∈ wT := wT_in (tk_3 (List.mem_of_getElem? (i := 192) rfl)) rfl
theorem ca_L_104 : CV "StrideWatchLaw" 104 M_X9_start 0 := ⟨mk_X9_start, wd_670, wd_671, wd_672⟩
theorem wd_1334 : Cond.methodLink "StrideWatchLaw" 107 yX10_start ∈ wT := wT_in (tk_6 (List.mem_of_getElem? (i := 134) rfl)) rfl
theorem wd_1335 : Cond.instanceMethod yX10_start ∈ wT := wT_in (tk_6 (List.mem_of_getElem? (i := 135) rfl)) rfl
theorem wd_1336 : Cond.selects "StrideWatchModel" yX10_start yX10_start ∈ wT := wT_in (tk_6 (List.mem_of_getElem? (i := 136) rfl)) rfl
theorem ca_L_107 : CV "StrideWatchLaw" 107 M_X10_start 0 := ⟨mk_X10_start, wd_1334, wd_1335, wd_1336⟩
theorem wd_863 : Cond.methodLink "StrideWatchLaw" 108 yL_put ∈ wT := wT_in (tk_4 (List.mem_of_getElem? (i := 143) rfl)) rfl
theorem wd_864 : Cond.static yL_put ∈ wT := wT_in (tk_4 (List.mem_of_getElem? (i := 144) rfl)) rfl
theorem ca_L_108 : CTW "StrideWatchLaw" 108 M_L_put 3 := ⟨mkw_L_put, wd_863, wd_864⟩
theorem wd_1338 : Cond.methodLink "StrideWatchLaw" 111 yX10_put ∈ wT := wT_in (tk_6 (List.mem_of_getElem? (i := 138) rfl)) rfl
theorem wd_1339 : Cond.instanceMethod yX10_put ∈ wT := wT_in (tk_6 (List.mem_of_getElem? (i := 139) rfl)) rfl
theorem wd_1340 : Cond.selects "StrideWatchModel" yX10_put yX10_put ∈ wT := wT_in (tk_6 (List.mem_of_getElem? (i := 140) rfl)) rfl
theorem ca_L_111 : CV "StrideWatchLaw" 111 M_X10_put 2 := ⟨mk_X10_put, wd_1338, wd_1339, wd_1340⟩
theorem wd_875 : Cond.methodLink "StrideWatchLaw" 112 yL_go ∈ wT := wT_in (tk_4 (List.mem_of_getElem? (i := 155) rfl)) rfl
theorem wd_876 : Cond.static yL_go ∈ wT := wT_in (tk_4 (List.mem_of_getElem? (i := 156) rfl)) rfl
theorem ca_L_112 : CTW "StrideWatchLaw" 112 M_L_go 3 := ⟨mkw_L_go, wd_875, wd_876⟩
theorem wd_1342 : Cond.methodLink "StrideWatchLaw" 114 yX10_go ∈ wT := wT_in (tk_6 (List.mem_of_getElem? (i := 142) rfl)) rfl
theorem wd_1343 : Cond.instanceMethod yX10_go ∈ wT := wT_in (tk_6 (List.mem_of_getElem? (i := 143) rfl)) rfl
theorem wd_1344 : Cond.selects "StrideWatchModel" yX10_go yX10_go ∈ wT := wT_in (tk_6 (List.mem_of_getElem? (i := 144) rfl)) rfl
theorem ca_L_114 : CV "StrideWatchLaw" 114 M_X10_go 1 := ⟨mk_X10_go, wd_1342, wd_1343, wd_1344⟩
theorem wd_684 : Cond.methodLink "StrideWatchLaw" 115 yX9_at ∈ wT := wT_in (tk_3 (List.mem_of_getElem? (i := 204) rfl)) rfl
theorem wd_685 : Cond.instanceMethod yX9_at ∈ wT := wT_in (tk_3 (List.mem_of_getElem? (i := 205) rfl)) rfl
theorem wd_686 : Cond.selects "StrideWatch" yX9_at yX9_at ∈ wT := wT_in (tk_3 (List.mem_of_getElem? (i := 206) rfl)) rfl
theorem ca_L_115 : CV "StrideWatchLaw" 115 M_X9_at 0 := ⟨mk_X9_at, wd_684, wd_685, wd_686⟩
theorem wd_1391 : Cond.methodLink "StrideWatchLaw" 118 yX10_at ∈ wT := wT_in (tk_6 (List.mem_of_getElem? (i := 191) rfl)) rfl
theorem wd_1392 : Cond.instanceMethod yX10_at ∈ wT := wT_in (tk_6 (List.mem_of_getElem? (i := 192) rfl)) rfl
theorem wd_1393 : Cond.selects "StrideWatchModel" yX10_at yX10_at ∈ wT := wT_in (tk_6 (List.mem_of_getElem? (i := 193) rfl)) rfl
theorem ca_L_118 : CV "StrideWatchLaw" 118 M_X10_at 0 := ⟨mk_X10_at, wd_1391, wd_1392, wd_1393⟩
theorem wd_937 : Cond.methodLink "StrideWatchLaw" 119 yL_value ∈ wT := wT_in (tk_4 (List.mem_of_getElem? (i := 217) rfl)) rfl
theorem wd_938 : Cond.static yL_value ∈ wT := wT_in (tk_4 (List.mem_of_getElem? (i := 218) rfl)) rfl
theorem ca_L_119 : CTW "StrideWatchLaw" 119 M_L_value 3 := ⟨mkw_L_value, wd_937, wd_938⟩
theorem wd_1395 : Cond.methodLink "StrideWatchLaw" 121 yX10_value ∈ wT := wT_in (tk_6 (List.mem_of_getElem? (i := 195) rfl)) rfl
theorem wd_1396 : Cond.instanceMethod yX10_value ∈ wT := wT_in (tk_6 (List.mem_of_getElem? (i := 196) rfl)) rfl
theorem wd_1397 : Cond.selects "StrideWatchModel" yX10_value yX10_value ∈ wT := wT_in (tk_6 (List.mem_of_getElem? (i := 197) rfl)) rfl
theorem ca_L_121 : CV "StrideWatchLaw" 121 M_X10_value 1 := ⟨mk_X10_value, wd_1395, wd_1396, wd_1397⟩
theorem wd_120 : Cond.constantLong "StrideWatch$State" 33 (-1) ∈ wT := wT_in (tk_1 (List.mem_of_getElem? (i := 120) rfl)) rfl
theorem kl_8_33 : Cond.constantLong "StrideWatch$State" 33 (-1) ∈ wT := wd_120
theorem wd_343 : Cond.constantLong "StrideWatch$Looking" 135 (200) ∈ wT := wT_in (tk_2 (List.mem_of_getElem? (i := 103) rfl)) rfl
theorem kl_4_135 : Cond.constantLong "StrideWatch$Looking" 135 (200) ∈ wT := wd_343
theorem wd_381 : Cond.constantLong "StrideWatch$Span" 19 (-1) ∈ wT := wT_in (tk_2 (List.mem_of_getElem? (i := 141) rfl)) rfl
theorem kl_7_19 : Cond.constantLong "StrideWatch$Span" 19 (-1) ∈ wT := wd_381
theorem wd_404 : Cond.constantLong "StrideWatch$Span" 11 (-2305843009213693952) ∈ wT := wT_in (tk_2 (List.mem_of_getElem? (i := 164) rfl)) rfl
theorem kl_7_11 : Cond.constantLong "StrideWatch$Span" 11 (-2305843009213693952) ∈ wT := wd_404
theorem wd_405 : Cond.constantLong "StrideWatch$Span" 13 (2305843009213693952) ∈ wT := wT_in (tk_2 (List.mem_of_getElem? (i := 165) rfl)) rfl
theorem kl_7_13 : Cond.constantLong "StrideWatch$Span" 13 (2305843009213693952) ∈ wT := wd_405
theorem wd_528 : Cond.constantLong "StrideWatch$Span" 93 (4294967295) ∈ wT := wT_in (tk_3 (List.mem_of_getElem? (i := 48) rfl)) rfl
theorem kl_7_93 : Cond.constantLong "StrideWatch$Span" 93 (4294967295) ∈ wT := wd_528
theorem wd_533 : Cond.constantLong "StrideWatch$Span" 95 (4294967296) ∈ wT := wT_in (tk_3 (List.mem_of_getElem? (i := 53) rfl)) rfl
theorem kl_7_95 : Cond.constantLong "StrideWatch$Span" 95 (4294967296) ∈ wT := wd_533
theorem wd_537 : Cond.constantLong "StrideWatch$Span" 106 (2147483648) ∈ wT := wT_in (tk_3 (List.mem_of_getElem? (i := 57) rfl)) rfl
theorem kl_7_106 : Cond.constantLong "StrideWatch$Span" 106 (2147483648) ∈ wT := wd_537
theorem wd_579 : Cond.constantLong "StrideWatch$Span" 111 (2) ∈ wT := wT_in (tk_3 (List.mem_of_getElem? (i := 99) rfl)) rfl
theorem kl_7_111 : Cond.constantLong "StrideWatch$Span" 111 (2) ∈ wT := wd_579
theorem wd_592 : Cond.constantLong "StrideWatch$Span" 116 (-1073741824) ∈ wT := wT_in (tk_3 (List.mem_of_getElem? (i := 112) rfl)) rfl
theorem kl_7_116 : Cond.constantLong "StrideWatch$Span" 116 (-1073741824) ∈ wT := wd_592
theorem wd_593 : Cond.constantLong "StrideWatch$Span" 118 (1073741824) ∈ wT := wT_in (tk_3 (List.mem_of_getElem? (i := 113) rfl)) rfl
theorem kl_7_118 : Cond.constantLong "StrideWatch$Span" 118 (1073741824) ∈ wT := wd_593
theorem wd_629 : Cond.constantLong "StrideWatch$Span" 21 (-2) ∈ wT := wT_in (tk_3 (List.mem_of_getElem? (i := 149) rfl)) rfl
theorem kl_7_21 : Cond.constantLong "StrideWatch$Span" 21 (-2) ∈ wT := wd_629
theorem wd_649 : Cond.constantLong "StrideWatch$Branch" 53 (-9223372036854775808) ∈ wT := wT_in (tk_3 (List.mem_of_getElem? (i := 169) rfl)) rfl
theorem kl_0_53 : Cond.constantLong "StrideWatch$Branch" 53 (-9223372036854775808) ∈ wT := wd_649
theorem wd_650 : Cond.constantLong "StrideWatch$Branch" 57 (9223372036854775807) ∈ wT := wT_in (tk_3 (List.mem_of_getElem? (i := 170) rfl)) rfl
theorem kl_0_57 : Cond.constantLong "StrideWatch$Branch" 57 (9223372036854775807) ∈ wT := wd_650
theorem wd_656 : Cond.constantLong "StrideWatch$Branch" 55 (-1) ∈ wT := wT_in (tk_3 (List.mem_of_getElem? (i := 176) rfl)) rfl
theorem kl_0_55 : Cond.constantLong "StrideWatch$Branch" 55 (-1) ∈ wT := wd_656
theorem wd_811 : Cond.constantLong "StrideWatch" 93 (-1) ∈ wT := wT_in (tk_4 (List.mem_of_getElem? (i := 91) rfl)) rfl
theorem kl_9_93 : Cond.constantLong "StrideWatch" 93 (-1) ∈ wT := wd_811
theorem wd_923 : Cond.constantLong "StrideWatch$Run" 130 (4294967295) ∈ wT := wT_in (tk_4 (List.mem_of_getElem? (i := 203) rfl)) rfl
theorem kl_6_130 : Cond.constantLong "StrideWatch$Run" 130 (4294967295) ∈ wT := wd_923
theorem wd_932 : Cond.constantLong "StrideWatch$Run" 122 (-1) ∈ wT := wT_in (tk_4 (List.mem_of_getElem? (i := 212) rfl)) rfl
theorem kl_6_122 : Cond.constantLong "StrideWatch$Run" 122 (-1) ∈ wT := wd_932
theorem wd_1072 : Cond.constantLong "StrideWatchModel" 65 (16) ∈ wT := wT_in (tk_5 (List.mem_of_getElem? (i := 112) rfl)) rfl
theorem kl_10_65 : Cond.constantLong "StrideWatchModel" 65 (16) ∈ wT := wd_1072
theorem wd_1092 : Cond.constantLong "StrideWatchModel" 153 (5) ∈ wT := wT_in (tk_5 (List.mem_of_getElem? (i := 132) rfl)) rfl
theorem kl_10_153 : Cond.constantLong "StrideWatchModel" 153 (5) ∈ wT := wd_1092
theorem wd_1168 : Cond.constantLong "StrideWatchModel" 158 (-2305843009213693952) ∈ wT := wT_in (tk_5 (List.mem_of_getElem? (i := 208) rfl)) rfl
theorem kl_10_158 : Cond.constantLong "StrideWatchModel" 158 (-2305843009213693952) ∈ wT := wd_1168
theorem wd_1169 : Cond.constantLong "StrideWatchModel" 160 (2305843009213693952) ∈ wT := wT_in (tk_5 (List.mem_of_getElem? (i := 209) rfl)) rfl
theorem kl_10_160 : Cond.constantLong "StrideWatchModel" 160 (2305843009213693952) ∈ wT := wd_1169
theorem wd_1186 : Cond.constantLong "StrideWatchModel" 206 (4294967295) ∈ wT := wT_in (tk_5 (List.mem_of_getElem? (i := 226) rfl)) rfl
theorem kl_10_206 : Cond.constantLong "StrideWatchModel" 206 (4294967295) ∈ wT := wd_1186
theorem wd_1187 : Cond.constantLong "StrideWatchModel" 208 (4294967296) ∈ wT := wT_in (tk_5 (List.mem_of_getElem? (i := 227) rfl)) rfl
theorem kl_10_208 : Cond.constantLong "StrideWatchModel" 208 (4294967296) ∈ wT := wd_1187
theorem wd_1191 : Cond.constantLong "StrideWatchModel" 213 (2147483648) ∈ wT := wT_in (tk_5 (List.mem_of_getElem? (i := 231) rfl)) rfl
theorem kl_10_213 : Cond.constantLong "StrideWatchModel" 213 (2147483648) ∈ wT := wd_1191
theorem wd_1216 : Cond.constantLong "StrideWatchModel" 199 (2) ∈ wT := wT_in (tk_6 (List.mem_of_getElem? (i := 16) rfl)) rfl
theorem kl_10_199 : Cond.constantLong "StrideWatchModel" 199 (2) ∈ wT := wd_1216
theorem wd_1225 : Cond.constantLong "StrideWatchModel" 204 (-1) ∈ wT := wT_in (tk_6 (List.mem_of_getElem? (i := 25) rfl)) rfl
theorem kl_10_204 : Cond.constantLong "StrideWatchModel" 204 (-1) ∈ wT := wd_1225
theorem wd_1234 : Cond.constantLong "StrideWatchModel" 197 (1073741824) ∈ wT := wT_in (tk_6 (List.mem_of_getElem? (i := 34) rfl)) rfl
theorem kl_10_197 : Cond.constantLong "StrideWatchModel" 197 (1073741824) ∈ wT := wd_1234
theorem wd_1346 : Cond.constantLong "StrideWatchModel" 366 (1000) ∈ wT := wT_in (tk_6 (List.mem_of_getElem? (i := 146) rfl)) rfl
theorem kl_10_366 : Cond.constantLong "StrideWatchModel" 366 (1000) ∈ wT := wd_1346
theorem wd_1366 : Cond.constantLong "StrideWatchModel" 331 (-9223372036854775808) ∈ wT := wT_in (tk_6 (List.mem_of_getElem? (i := 166) rfl)) rfl
theorem kl_10_331 : Cond.constantLong "StrideWatchModel" 331 (-9223372036854775808) ∈ wT := wd_1366
theorem wd_578 : Cond.constant "java/lang/Integer" 264 (65536) ∈ wT := wT_in (tk_3 (List.mem_of_getElem? (i := 98) rfl)) rfl
theorem ki_J6_264 : Cond.constant "java/lang/Integer" 264 (65536) ∈ wT := wd_578
theorem wd_14 : Cond.initialized "java/lang/IllegalArgumentException" ∈ wT := wT_in (tk_1 (List.mem_of_getElem? (i := 14) rfl)) rfl
theorem wl_737 : Cond.stringRef "StrideWatch" 50 "many is not 0 .. 16" ∈ lw_tbl := tk_4 (List.mem_of_getElem? (i := 17) rfl)
theorem at1_0 : ∀ w ∈ vx_atS "StrideWatch" 52 "java/lang/IllegalArgumentException" ["java/lang/RuntimeException", "java/lang/Exception"], goodWord w = true ∨ isC w = true := by decide +kernel
theorem at2_0 : ∀ w ∈ vx_atS "StrideWatch" 52 "java/lang/IllegalArgumentException" ["java/lang/RuntimeException", "java/lang/Exception"], w ∈ lw_tbl := by decide +kernel
theorem at_0 : ∀ w ∈ vx_atS "StrideWatch" 52 "java/lang/IllegalArgumentException" ["java/lang/RuntimeException", "java/lang/Exception"], w ∈ wT ∨ isC w = true ∧ w ∈ lw_tbl := fun w h => (at1_0 w h).elim (fun g => Or.inl (wT_in (at2_0 w h) g)) (fun g => Or.inr ⟨g, at2_0 w h⟩)
theorem th_X9_feed_10 : TH M_X9_feed 10 "java/lang/IllegalArgumentException" := ⟨48, 50, 52, "many is not 0 .. 16", dX9_feed_10, dX9_feed_13, dX9_feed_14, dX9_feed_16, dX9_feed_19, by decide +kernel, wd_697, wd_14, wl_737, at_0, by decide +kernel, rfl, by decide, by decide⟩
theorem wd_15 : Cond.initialized "java/lang/IllegalStateException" ∈ wT := wT_in (tk_1 (List.mem_of_getElem? (i := 15) rfl)) rfl
theorem wl_773 : Cond.stringRef "StrideWatch" 61 "there would be more than 200 bytes" ∈ lw_tbl := tk_4 (List.mem_of_getElem? (i := 53) rfl)
theorem at1_1 : ∀ w ∈ vx_atS "StrideWatch" 63 "java/lang/IllegalStateException" ["java/lang/RuntimeException", "java/lang/Exception"], goodWord w = true ∨ isC w = true := by decide +kernel
theorem at2_1 : ∀ w ∈ vx_atS "StrideWatch" 63 "java/lang/IllegalStateException" ["java/lang/RuntimeException", "java/lang/Exception"], w ∈ lw_tbl := by decide +kernel
theorem at_1 : ∀ w ∈ vx_atS "StrideWatch" 63 "java/lang/IllegalStateException" ["java/lang/RuntimeException", "java/lang/Exception"], w ∈ wT ∨ isC w = true ∧ w ∈ lw_tbl := fun w h => (at1_1 w h).elim (fun g => Or.inl (wT_in (at2_1 w h) g)) (fun g => Or.inr ⟨g, at2_1 w h⟩)
theorem th_X9_feed_35 : TH M_X9_feed 35 "java/lang/IllegalStateException" := ⟨59, 61, 63, "there would be more than 200 bytes", dX9_feed_35, dX9_feed_38, dX9_feed_39, dX9_feed_41, dX9_feed_44, by decide +kernel, wd_764, wd_15, wl_773, at_1, by decide +kernel, rfl, by decide, by decide⟩
theorem wl_802 : Cond.stringRef "StrideWatch" 87 "low, high, step are no set" ∈ lw_tbl := tk_4 (List.mem_of_getElem? (i := 82) rfl)
theorem th_X9_given_15 : TH M_X9_given 15 "java/lang/IllegalArgumentException" := ⟨48, 87, 52, "low, high, step are no set", dX9_given_15, dX9_given_18, dX9_given_19, dX9_given_21, dX9_given_24, by decide +kernel, wd_697, wd_14, wl_802, at_0, by decide +kernel, rfl, by decide, by decide⟩
theorem wl_825 : Cond.stringRef "StrideWatch" 98 "what is not 0 .. 5" ∈ lw_tbl := tk_4 (List.mem_of_getElem? (i := 105) rfl)
theorem th_X9_decode_14 : TH M_X9_decode 14 "java/lang/IllegalArgumentException" := ⟨48, 98, 52, "what is not 0 .. 5", dX9_decode_14, dX9_decode_17, dX9_decode_18, dX9_decode_20, dX9_decode_23, by decide +kernel, wd_697, wd_14, wl_825, at_0, by decide +kernel, rfl, by decide, by decide⟩
theorem wl_845 : Cond.stringRef "StrideWatch" 118 "what is not 0 .. 2" ∈ lw_tbl := tk_4 (List.mem_of_getElem? (i := 125) rfl)
theorem th_X9_set_13 : TH M_X9_set 13 "java/lang/IllegalArgumentException" := ⟨48, 118, 52, "what is not 0 .. 2", dX9_set_13, dX9_set_16, dX9_set_17, dX9_set_19, dX9_set_22, by decide +kernel, wd_697, wd_14, wl_845, at_0, by decide +kernel, rfl, by decide, by decide⟩
theorem wl_846 : Cond.stringRef "StrideWatch" 120 "nothing came to it" ∈ lw_tbl := tk_4 (List.mem_of_getElem? (i := 126) rfl)
theorem th_X9_set_34 : TH M_X9_set 34 "java/lang/IllegalStateException" := ⟨59, 120, 63, "nothing came to it", dX9_set_34, dX9_set_37, dX9_set_38, dX9_set_40, dX9_set_43, by decide +kernel, wd_764, wd_15, wl_846, at_1, by decide +kernel, rfl, by decide, by decide⟩
theorem wl_882 : Cond.stringRef "StrideWatch" 146 "many is not 1 .. 1000" ∈ lw_tbl := tk_4 (List.mem_of_getElem? (i := 162) rfl)
theorem th_X9_go_12 : TH M_X9_go 12 "java/lang/IllegalArgumentException" := ⟨48, 146, 52, "many is not 1 .. 1000", dX9_go_12, dX9_go_15, dX9_go_16, dX9_go_18, dX9_go_21, by decide +kernel, wd_697, wd_14, wl_882, at_0, by decide +kernel, rfl, by decide, by decide⟩
theorem wl_883 : Cond.stringRef "StrideWatch" 151 "no run is started" ∈ lw_tbl := tk_4 (List.mem_of_getElem? (i := 163) rfl)
theorem th_X9_go_33 : TH M_X9_go 33 "java/lang/IllegalStateException" := ⟨59, 151, 63, "no run is started", dX9_go_33, dX9_go_36, dX9_go_37, dX9_go_39, dX9_go_42, by decide +kernel, wd_764, wd_15, wl_883, at_1, by decide +kernel, rfl, by decide, by decide⟩
theorem wl_824 : Cond.stringRef "StrideWatch" 165 "there is no such byte" ∈ lw_tbl := tk_4 (List.mem_of_getElem? (i := 104) rfl)
theorem th_X9_requireByte_12 : TH M_X9_requireByte 12 "java/lang/IllegalArgumentException" := ⟨48, 165, 52, "there is no such byte", dX9_requireByte_12, dX9_requireByte_15, dX9_requireByte_16, dX9_requireByte_18, dX9_requireByte_21, by decide +kernel, wd_697, wd_14, wl_824, at_0, by decide +kernel, rfl, by decide, by decide⟩
theorem wl_798 : Cond.stringRef "StrideWatch" 171 "there is no such location" ∈ lw_tbl := tk_4 (List.mem_of_getElem? (i := 78) rfl)
theorem th_X9_requireLocation_7 : TH M_X9_requireLocation 7 "java/lang/IllegalArgumentException" := ⟨48, 171, 52, "there is no such location", dX9_requireLocation_7, dX9_requireLocation_10, dX9_requireLocation_11, dX9_requireLocation_13, dX9_requireLocation_16, by decide +kernel, wd_697, wd_14, wl_798, at_0, by decide +kernel, rfl, by decide, by decide⟩
theorem wd_46 : Cond.arrayClass .int ∈ wT := wT_in (tk_1 (List.mem_of_getElem? (i := 46) rfl)) rfl
theorem ka_int : Cond.arrayClass .int ∈ wT := wd_46
theorem wd_150 : Cond.arrayClass .long ∈ wT := wT_in (tk_1 (List.mem_of_getElem? (i := 150) rfl)) rfl
theorem ka_long : Cond.arrayClass .long ∈ wT := wd_150
theorem wd_763 : Cond.arrayClass .byte ∈ wT := wT_in (tk_4 (List.mem_of_getElem? (i := 43) rfl)) rfl
theorem ka_byte : Cond.arrayClass .byte ∈ wT := wd_763
theorem wd_1063 : Cond.arrayClass .boolean ∈ wT := wT_in (tk_5 (List.mem_of_getElem? (i := 103) rfl)) rfl
theorem ka_boolean : Cond.arrayClass .boolean ∈ wT := wd_1063
