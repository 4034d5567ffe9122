theorem kl_J13_168 : Cond.constantLong "java/lang/Long" 168 (-9223372036854775808) ∈ wT := wT_in (tk_3 (List.mem_of_getElem? (i := 91) rfl)) rfl
theorem kl_L_67 : Cond.constantLong "StrideWatchLaw" 67 (4294967295) ∈ wT := wT_in (tk_6 (List.mem_of_getElem? (i := 199) rfl)) rfl
