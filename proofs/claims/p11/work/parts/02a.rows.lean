theorem dX0_init_0 : decode cX0_init 0 = .ok (.aload_n 0, 1) := by decide +kernel
theorem dX0_init_1 : decode cX0_init 1 = .ok (.invokespecial 5, 3) := by decide +kernel
theorem dX0_init_4 : decode cX0_init 4 = .ok (.aload_n 0, 1) := by decide +kernel
theorem dX0_init_5 : decode cX0_init 5 = .ok (.new 11, 3) := by decide +kernel
theorem dX0_init_8 : decode cX0_init 8 = .ok (.dup, 1) := by decide +kernel
theorem dX0_init_9 : decode cX0_init 9 = .ok (.invokespecial 13, 3) := by decide +kernel
theorem dX0_init_12 : decode cX0_init 12 = .ok (.putfield 14, 3) := by decide +kernel
theorem dX0_init_15 : decode cX0_init 15 = .ok (.aload_n 0, 1) := by decide +kernel
theorem dX0_init_16 : decode cX0_init 16 = .ok (.new 11, 3) := by decide +kernel
theorem dX0_init_19 : decode cX0_init 19 = .ok (.dup, 1) := by decide +kernel
theorem dX0_init_20 : decode cX0_init 20 = .ok (.invokespecial 13, 3) := by decide +kernel
theorem dX0_init_23 : decode cX0_init 23 = .ok (.putfield 18, 3) := by decide +kernel
theorem dX0_init_26 : decode cX0_init 26 = .ok (.return_, 1) := by decide +kernel
theorem dX0_narrow_0 : decode cX0_narrow 0 = .ok (.aload_n 1, 1) := by decide +kernel
theorem dX0_narrow_1 : decode cX0_narrow 1 = .ok (.getfield 21, 3) := by decide +kernel
theorem dX0_narrow_4 : decode cX0_narrow 4 = .ok (.ifCond .ne 5, 3) := by decide +kernel
theorem dX0_narrow_7 : decode cX0_narrow 7 = .ok (.iconst 1, 1) := by decide +kernel
theorem dX0_narrow_8 : decode cX0_narrow 8 = .ok (.ireturn, 1) := by decide +kernel
theorem dX0_narrow_9 : decode cX0_narrow 9 = .ok (.aload_n 1, 1) := by decide +kernel
theorem dX0_narrow_10 : decode cX0_narrow 10 = .ok (.aload_n 1, 1) := by decide +kernel
theorem dX0_narrow_11 : decode cX0_narrow 11 = .ok (.getfield 27, 3) := by decide +kernel
theorem dX0_narrow_14 : decode cX0_narrow 14 = .ok (.aload_n 0, 1) := by decide +kernel
theorem dX0_narrow_15 : decode cX0_narrow 15 = .ok (.getfield 14, 3) := by decide +kernel
theorem dX0_narrow_18 : decode cX0_narrow 18 = .ok (.invokevirtual 29, 3) := by decide +kernel
theorem dX0_narrow_21 : decode cX0_narrow 21 = .ok (.aload_n 1, 1) := by decide +kernel
theorem dX0_narrow_22 : decode cX0_narrow 22 = .ok (.getfield 33, 3) := by decide +kernel
theorem dX0_narrow_25 : decode cX0_narrow 25 = .ok (.iconst (-1), 1) := by decide +kernel
theorem dX0_narrow_26 : decode cX0_narrow 26 = .ok (.if_icmp .eq 18, 3) := by decide +kernel
theorem dX0_narrow_29 : decode cX0_narrow 29 = .ok (.aload_n 1, 1) := by decide +kernel
theorem dX0_narrow_30 : decode cX0_narrow 30 = .ok (.aload_n 1, 1) := by decide +kernel
theorem dX0_narrow_31 : decode cX0_narrow 31 = .ok (.getfield 33, 3) := by decide +kernel
theorem dX0_narrow_34 : decode cX0_narrow 34 = .ok (.aload_n 0, 1) := by decide +kernel
theorem dX0_narrow_35 : decode cX0_narrow 35 = .ok (.getfield 18, 3) := by decide +kernel
theorem dX0_narrow_38 : decode cX0_narrow 38 = .ok (.invokevirtual 29, 3) := by decide +kernel
theorem dX0_narrow_41 : decode cX0_narrow 41 = .ok (.goto 19, 3) := by decide +kernel
theorem dX0_narrow_44 : decode cX0_narrow 44 = .ok (.aload_n 0, 1) := by decide +kernel
theorem dX0_narrow_45 : decode cX0_narrow 45 = .ok (.getfield 18, 3) := by decide +kernel
theorem dX0_narrow_48 : decode cX0_narrow 48 = .ok (.aload_n 1, 1) := by decide +kernel
theorem dX0_narrow_49 : decode cX0_narrow 49 = .ok (.getfield 35, 3) := by decide +kernel
theorem dX0_narrow_52 : decode cX0_narrow 52 = .ok (.aload_n 1, 1) := by decide +kernel
theorem dX0_narrow_53 : decode cX0_narrow 53 = .ok (.getfield 35, 3) := by decide +kernel
theorem dX0_narrow_56 : decode cX0_narrow 56 = .ok (.lconst 0, 1) := by decide +kernel
theorem dX0_narrow_57 : decode cX0_narrow 57 = .ok (.invokevirtual 39, 3) := by decide +kernel
theorem dX0_narrow_60 : decode cX0_narrow 60 = .ok (.iload_n 3, 1) := by decide +kernel
theorem dX0_narrow_61 : decode cX0_narrow 61 = .ok (.iload_n 2, 1) := by decide +kernel
theorem dX0_narrow_62 : decode cX0_narrow 62 = .ok (.iconst 1, 1) := by decide +kernel
theorem dX0_narrow_63 : decode cX0_narrow 63 = .ok (.iand, 1) := by decide +kernel
theorem dX0_narrow_64 : decode cX0_narrow 64 = .ok (.ifCond .ne 7, 3) := by decide +kernel
theorem dX0_narrow_67 : decode cX0_narrow 67 = .ok (.iconst 1, 1) := by decide +kernel
theorem dX0_narrow_68 : decode cX0_narrow 68 = .ok (.goto 4, 3) := by decide +kernel
theorem dX0_narrow_71 : decode cX0_narrow 71 = .ok (.iconst 0, 1) := by decide +kernel
theorem dX0_narrow_72 : decode cX0_narrow 72 = .ok (.if_icmp .ne 7, 3) := by decide +kernel
theorem dX0_narrow_75 : decode cX0_narrow 75 = .ok (.iconst 1, 1) := by decide +kernel
theorem dX0_narrow_76 : decode cX0_narrow 76 = .ok (.goto 4, 3) := by decide +kernel
theorem dX0_narrow_79 : decode cX0_narrow 79 = .ok (.iconst 0, 1) := by decide +kernel
theorem dX0_narrow_80 : decode cX0_narrow 80 = .ok (.istore 4, 2) := by decide +kernel
theorem dX0_narrow_82 : decode cX0_narrow 82 = .ok (.iload_n 2, 1) := by decide +kernel
theorem dX0_narrow_83 : decode cX0_narrow 83 = .ok (.bipush 14, 2) := by decide +kernel
theorem dX0_narrow_85 : decode cX0_narrow 85 = .ok (.iand, 1) := by decide +kernel
theorem dX0_narrow_86 : decode cX0_narrow 86 = .ok (.istore 5, 2) := by decide +kernel
theorem dX0_narrow_88 : decode cX0_narrow 88 = .ok (.iload 5, 2) := by decide +kernel
theorem dX0_narrow_90 : decode cX0_narrow 90 = .ok (.iconst 4, 1) := by decide +kernel
theorem dX0_narrow_91 : decode cX0_narrow 91 = .ok (.if_icmp .ne 22, 3) := by decide +kernel
theorem dX0_narrow_94 : decode cX0_narrow 94 = .ok (.iload 4, 2) := by decide +kernel
theorem dX0_narrow_96 : decode cX0_narrow 96 = .ok (.ifCond .eq 10, 3) := by decide +kernel
theorem dX0_narrow_99 : decode cX0_narrow 99 = .ok (.aload_n 0, 1) := by decide +kernel
theorem dX0_narrow_100 : decode cX0_narrow 100 = .ok (.invokevirtual 43, 3) := by decide +kernel
theorem dX0_narrow_103 : decode cX0_narrow 103 = .ok (.goto 69, 3) := by decide +kernel
theorem dX0_narrow_106 : decode cX0_narrow 106 = .ok (.aload_n 0, 1) := by decide +kernel
theorem dX0_narrow_107 : decode cX0_narrow 107 = .ok (.invokevirtual 46, 3) := by decide +kernel
theorem dX0_narrow_110 : decode cX0_narrow 110 = .ok (.goto 62, 3) := by decide +kernel
theorem dX0_narrow_113 : decode cX0_narrow 113 = .ok (.aload_n 1, 1) := by decide +kernel
theorem dX0_narrow_114 : decode cX0_narrow 114 = .ok (.getfield 21, 3) := by decide +kernel
theorem dX0_narrow_117 : decode cX0_narrow 117 = .ok (.iconst 1, 1) := by decide +kernel
theorem dX0_narrow_118 : decode cX0_narrow 118 = .ok (.if_icmp .ne 14, 3) := by decide +kernel
theorem dX0_narrow_121 : decode cX0_narrow 121 = .ok (.aload_n 0, 1) := by decide +kernel
theorem dX0_narrow_122 : decode cX0_narrow 122 = .ok (.iload 5, 2) := by decide +kernel
theorem dX0_narrow_124 : decode cX0_narrow 124 = .ok (.iload 4, 2) := by decide +kernel
theorem dX0_narrow_126 : decode cX0_narrow 126 = .ok (.invokevirtual 49, 3) := by decide +kernel
theorem dX0_narrow_129 : decode cX0_narrow 129 = .ok (.goto 43, 3) := by decide +kernel
theorem dX0_narrow_132 : decode cX0_narrow 132 = .ok (.iload 5, 2) := by decide +kernel
theorem dX0_narrow_134 : decode cX0_narrow 134 = .ok (.bipush 8, 2) := by decide +kernel
theorem dX0_narrow_136 : decode cX0_narrow 136 = .ok (.if_icmp .ne 36, 3) := by decide +kernel
theorem dX0_narrow_139 : decode cX0_narrow 139 = .ok (.aload_n 0, 1) := by decide +kernel
theorem dX0_narrow_140 : decode cX0_narrow 140 = .ok (.getfield 14, 3) := by decide +kernel
theorem dX0_narrow_143 : decode cX0_narrow 143 = .ok (.iload 4, 2) := by decide +kernel
theorem dX0_narrow_145 : decode cX0_narrow 145 = .ok (.ifCond .eq 9, 3) := by decide +kernel
theorem dX0_narrow_148 : decode cX0_narrow 148 = .ok (.ldc2_w 53, 3) := by decide +kernel
theorem dX0_narrow_151 : decode cX0_narrow 151 = .ok (.goto 4, 3) := by decide +kernel
theorem dX0_narrow_154 : decode cX0_narrow 154 = .ok (.lconst 0, 1) := by decide +kernel
theorem dX0_narrow_155 : decode cX0_narrow 155 = .ok (.iload 4, 2) := by decide +kernel
theorem dX0_narrow_157 : decode cX0_narrow 157 = .ok (.ifCond .eq 9, 3) := by decide +kernel
theorem dX0_narrow_160 : decode cX0_narrow 160 = .ok (.ldc2_w 55, 3) := by decide +kernel
theorem dX0_narrow_163 : decode cX0_narrow 163 = .ok (.goto 6, 3) := by decide +kernel
theorem dX0_narrow_166 : decode cX0_narrow 166 = .ok (.ldc2_w 57, 3) := by decide +kernel
theorem dX0_narrow_169 : decode cX0_narrow 169 = .ok (.invokevirtual 59, 3) := by decide +kernel
theorem dX0_narrow_172 : decode cX0_narrow 172 = .ok (.aload_n 0, 1) := by decide +kernel
theorem dX0_narrow_173 : decode cX0_narrow 173 = .ok (.getfield 14, 3) := by decide +kernel
theorem dX0_narrow_176 : decode cX0_narrow 176 = .ok (.invokevirtual 63, 3) := by decide +kernel
theorem dX0_narrow_179 : decode cX0_narrow 179 = .ok (.ifCond .ne 13, 3) := by decide +kernel
theorem dX0_narrow_182 : decode cX0_narrow 182 = .ok (.aload_n 0, 1) := by decide +kernel
theorem dX0_narrow_183 : decode cX0_narrow 183 = .ok (.getfield 18, 3) := by decide +kernel
theorem dX0_narrow_186 : decode cX0_narrow 186 = .ok (.invokevirtual 63, 3) := by decide +kernel
theorem dX0_narrow_189 : decode cX0_narrow 189 = .ok (.ifCond .eq 5, 3) := by decide +kernel
theorem dX0_narrow_192 : decode cX0_narrow 192 = .ok (.iconst 0, 1) := by decide +kernel
theorem dX0_narrow_193 : decode cX0_narrow 193 = .ok (.ireturn, 1) := by decide +kernel
theorem dX0_narrow_194 : decode cX0_narrow 194 = .ok (.aload_n 1, 1) := by decide +kernel
theorem dX0_narrow_195 : decode cX0_narrow 195 = .ok (.aload_n 1, 1) := by decide +kernel
theorem dX0_narrow_196 : decode cX0_narrow 196 = .ok (.getfield 27, 3) := by decide +kernel
theorem dX0_narrow_199 : decode cX0_narrow 199 = .ok (.aload_n 0, 1) := by decide +kernel
theorem dX0_narrow_200 : decode cX0_narrow 200 = .ok (.getfield 14, 3) := by decide +kernel
theorem dX0_narrow_203 : decode cX0_narrow 203 = .ok (.invokevirtual 67, 3) := by decide +kernel
theorem dX0_narrow_206 : decode cX0_narrow 206 = .ok (.aload_n 1, 1) := by decide +kernel
theorem dX0_narrow_207 : decode cX0_narrow 207 = .ok (.aload_n 1, 1) := by decide +kernel
theorem dX0_narrow_208 : decode cX0_narrow 208 = .ok (.getfield 33, 3) := by decide +kernel
theorem dX0_narrow_211 : decode cX0_narrow 211 = .ok (.aload_n 0, 1) := by decide +kernel
theorem dX0_narrow_212 : decode cX0_narrow 212 = .ok (.getfield 18, 3) := by decide +kernel
theorem dX0_narrow_215 : decode cX0_narrow 215 = .ok (.invokevirtual 67, 3) := by decide +kernel
theorem dX0_narrow_218 : decode cX0_narrow 218 = .ok (.iconst 1, 1) := by decide +kernel
theorem dX0_narrow_219 : decode cX0_narrow 219 = .ok (.ireturn, 1) := by decide +kernel
theorem dX0_narrowCompared_0 : decode cX0_narrowCompared 0 = .ok (.iload_n 2, 1) := by decide +kernel
theorem dX0_narrowCompared_1 : decode cX0_narrowCompared 1 = .ok (.ifCond .eq 10, 3) := by decide +kernel
theorem dX0_narrowCompared_4 : decode cX0_narrowCompared 4 = .ok (.aload_n 0, 1) := by decide +kernel
theorem dX0_narrowCompared_5 : decode cX0_narrowCompared 5 = .ok (.getfield 14, 3) := by decide +kernel
theorem dX0_narrowCompared_8 : decode cX0_narrowCompared 8 = .ok (.goto 7, 3) := by decide +kernel
theorem dX0_narrowCompared_11 : decode cX0_narrowCompared 11 = .ok (.aload_n 0, 1) := by decide +kernel
theorem dX0_narrowCompared_12 : decode cX0_narrowCompared 12 = .ok (.getfield 18, 3) := by decide +kernel
theorem dX0_narrowCompared_15 : decode cX0_narrowCompared 15 = .ok (.astore_n 3, 1) := by decide +kernel
theorem dX0_narrowCompared_16 : decode cX0_narrowCompared 16 = .ok (.iload_n 2, 1) := by decide +kernel
theorem dX0_narrowCompared_17 : decode cX0_narrowCompared 17 = .ok (.ifCond .eq 10, 3) := by decide +kernel
theorem dX0_narrowCompared_20 : decode cX0_narrowCompared 20 = .ok (.aload_n 0, 1) := by decide +kernel
theorem dX0_narrowCompared_21 : decode cX0_narrowCompared 21 = .ok (.getfield 18, 3) := by decide +kernel
theorem dX0_narrowCompared_24 : decode cX0_narrowCompared 24 = .ok (.goto 7, 3) := by decide +kernel
theorem dX0_narrowCompared_27 : decode cX0_narrowCompared 27 = .ok (.aload_n 0, 1) := by decide +kernel
theorem dX0_narrowCompared_28 : decode cX0_narrowCompared 28 = .ok (.getfield 14, 3) := by decide +kernel
theorem dX0_narrowCompared_31 : decode cX0_narrowCompared 31 = .ok (.astore 4, 2) := by decide +kernel
theorem dX0_narrowCompared_33 : decode cX0_narrowCompared 33 = .ok (.iload_n 2, 1) := by decide +kernel
theorem dX0_narrowCompared_34 : decode cX0_narrowCompared 34 = .ok (.iload_n 1, 1) := by decide +kernel
theorem dX0_narrowCompared_35 : decode cX0_narrowCompared 35 = .ok (.bipush 12, 2) := by decide +kernel
theorem dX0_narrowCompared_37 : decode cX0_narrowCompared 37 = .ok (.if_icmp .eq 8, 3) := by decide +kernel
theorem dX0_narrowCompared_40 : decode cX0_narrowCompared 40 = .ok (.iload_n 1, 1) := by decide +kernel
theorem dX0_narrowCompared_41 : decode cX0_narrowCompared 41 = .ok (.iconst 2, 1) := by decide +kernel
theorem dX0_narrowCompared_42 : decode cX0_narrowCompared 42 = .ok (.if_icmp .ne 7, 3) := by decide +kernel
theorem dX0_narrowCompared_45 : decode cX0_narrowCompared 45 = .ok (.iconst 1, 1) := by decide +kernel
theorem dX0_narrowCompared_46 : decode cX0_narrowCompared 46 = .ok (.goto 4, 3) := by decide +kernel
theorem dX0_narrowCompared_49 : decode cX0_narrowCompared 49 = .ok (.iconst 0, 1) := by decide +kernel
theorem dX0_narrowCompared_50 : decode cX0_narrowCompared 50 = .ok (.if_icmp .ne 7, 3) := by decide +kernel
theorem dX0_narrowCompared_53 : decode cX0_narrowCompared 53 = .ok (.iconst 1, 1) := by decide +kernel
theorem dX0_narrowCompared_54 : decode cX0_narrowCompared 54 = .ok (.goto 4, 3) := by decide +kernel
theorem dX0_narrowCompared_57 : decode cX0_narrowCompared 57 = .ok (.iconst 0, 1) := by decide +kernel
theorem dX0_narrowCompared_58 : decode cX0_narrowCompared 58 = .ok (.istore 5, 2) := by decide +kernel
theorem dX0_narrowCompared_60 : decode cX0_narrowCompared 60 = .ok (.iload 5, 2) := by decide +kernel
theorem dX0_narrowCompared_62 : decode cX0_narrowCompared 62 = .ok (.ifCond .eq 7, 3) := by decide +kernel
theorem dX0_narrowCompared_65 : decode cX0_narrowCompared 65 = .ok (.iconst 1, 1) := by decide +kernel
theorem dX0_narrowCompared_66 : decode cX0_narrowCompared 66 = .ok (.goto 4, 3) := by decide +kernel
theorem dX0_narrowCompared_69 : decode cX0_narrowCompared 69 = .ok (.iconst 0, 1) := by decide +kernel
theorem dX0_narrowCompared_70 : decode cX0_narrowCompared 70 = .ok (.istore 6, 2) := by decide +kernel
theorem dX0_narrowCompared_72 : decode cX0_narrowCompared 72 = .ok (.iload_n 1, 1) := by decide +kernel
theorem dX0_narrowCompared_73 : decode cX0_narrowCompared 73 = .ok (.bipush 12, 2) := by decide +kernel
theorem dX0_narrowCompared_75 : decode cX0_narrowCompared 75 = .ok (.if_icmp .eq 9, 3) := by decide +kernel
theorem dX0_narrowCompared_78 : decode cX0_narrowCompared 78 = .ok (.iload_n 1, 1) := by decide +kernel
theorem dX0_narrowCompared_79 : decode cX0_narrowCompared 79 = .ok (.bipush 14, 2) := by decide +kernel
theorem dX0_narrowCompared_81 : decode cX0_narrowCompared 81 = .ok (.if_icmp .ne 14, 3) := by decide +kernel
theorem dX0_narrowCompared_84 : decode cX0_narrowCompared 84 = .ok (.aload_n 3, 1) := by decide +kernel
theorem dX0_narrowCompared_85 : decode cX0_narrowCompared 85 = .ok (.aload 4, 2) := by decide +kernel
theorem dX0_narrowCompared_87 : decode cX0_narrowCompared 87 = .ok (.iload 6, 2) := by decide +kernel
theorem dX0_narrowCompared_89 : decode cX0_narrowCompared 89 = .ok (.invokestatic 70, 3) := by decide +kernel
theorem dX0_narrowCompared_92 : decode cX0_narrowCompared 92 = .ok (.goto 22, 3) := by decide +kernel
theorem dX0_narrowCompared_95 : decode cX0_narrowCompared 95 = .ok (.iload_n 1, 1) := by decide +kernel
theorem dX0_narrowCompared_96 : decode cX0_narrowCompared 96 = .ok (.iconst 2, 1) := by decide +kernel
theorem dX0_narrowCompared_97 : decode cX0_narrowCompared 97 = .ok (.if_icmp .eq 9, 3) := by decide +kernel
theorem dX0_narrowCompared_100 : decode cX0_narrowCompared 100 = .ok (.iload_n 1, 1) := by decide +kernel
theorem dX0_narrowCompared_101 : decode cX0_narrowCompared 101 = .ok (.bipush 6, 2) := by decide +kernel
theorem dX0_narrowCompared_103 : decode cX0_narrowCompared 103 = .ok (.if_icmp .ne 11, 3) := by decide +kernel
theorem dX0_narrowCompared_106 : decode cX0_narrowCompared 106 = .ok (.aload_n 3, 1) := by decide +kernel
theorem dX0_narrowCompared_107 : decode cX0_narrowCompared 107 = .ok (.aload 4, 2) := by decide +kernel
theorem dX0_narrowCompared_109 : decode cX0_narrowCompared 109 = .ok (.iload 6, 2) := by decide +kernel
theorem dX0_narrowCompared_111 : decode cX0_narrowCompared 111 = .ok (.invokestatic 74, 3) := by decide +kernel
theorem dX0_narrowCompared_114 : decode cX0_narrowCompared 114 = .ok (.return_, 1) := by decide +kernel
theorem dX0_becomeEqual_0 : decode cX0_becomeEqual 0 = .ok (.aload_n 0, 1) := by decide +kernel
theorem dX0_becomeEqual_1 : decode cX0_becomeEqual 1 = .ok (.getfield 14, 3) := by decide +kernel
theorem dX0_becomeEqual_4 : decode cX0_becomeEqual 4 = .ok (.invokevirtual 77, 3) := by decide +kernel
theorem dX0_becomeEqual_7 : decode cX0_becomeEqual 7 = .ok (.ifCond .eq 17, 3) := by decide +kernel
theorem dX0_becomeEqual_10 : decode cX0_becomeEqual 10 = .ok (.aload_n 0, 1) := by decide +kernel
theorem dX0_becomeEqual_11 : decode cX0_becomeEqual 11 = .ok (.getfield 14, 3) := by decide +kernel
theorem dX0_becomeEqual_14 : decode cX0_becomeEqual 14 = .ok (.aload_n 0, 1) := by decide +kernel
theorem dX0_becomeEqual_15 : decode cX0_becomeEqual 15 = .ok (.getfield 18, 3) := by decide +kernel
theorem dX0_becomeEqual_18 : decode cX0_becomeEqual 18 = .ok (.invokevirtual 80, 3) := by decide +kernel
theorem dX0_becomeEqual_21 : decode cX0_becomeEqual 21 = .ok (.goto 73, 3) := by decide +kernel
theorem dX0_becomeEqual_24 : decode cX0_becomeEqual 24 = .ok (.aload_n 0, 1) := by decide +kernel
theorem dX0_becomeEqual_25 : decode cX0_becomeEqual 25 = .ok (.getfield 18, 3) := by decide +kernel
theorem dX0_becomeEqual_28 : decode cX0_becomeEqual 28 = .ok (.invokevirtual 77, 3) := by decide +kernel
theorem dX0_becomeEqual_31 : decode cX0_becomeEqual 31 = .ok (.ifCond .eq 17, 3) := by decide +kernel
theorem dX0_becomeEqual_34 : decode cX0_becomeEqual 34 = .ok (.aload_n 0, 1) := by decide +kernel
theorem dX0_becomeEqual_35 : decode cX0_becomeEqual 35 = .ok (.getfield 18, 3) := by decide +kernel
theorem dX0_becomeEqual_38 : decode cX0_becomeEqual 38 = .ok (.aload_n 0, 1) := by decide +kernel
theorem dX0_becomeEqual_39 : decode cX0_becomeEqual 39 = .ok (.getfield 14, 3) := by decide +kernel
theorem dX0_becomeEqual_42 : decode cX0_becomeEqual 42 = .ok (.invokevirtual 80, 3) := by decide +kernel
theorem dX0_becomeEqual_45 : decode cX0_becomeEqual 45 = .ok (.goto 49, 3) := by decide +kernel
theorem dX0_becomeEqual_48 : decode cX0_becomeEqual 48 = .ok (.aload_n 0, 1) := by decide +kernel
theorem dX0_becomeEqual_49 : decode cX0_becomeEqual 49 = .ok (.getfield 14, 3) := by decide +kernel
theorem dX0_becomeEqual_52 : decode cX0_becomeEqual 52 = .ok (.getfield 84, 3) := by decide +kernel
theorem dX0_becomeEqual_55 : decode cX0_becomeEqual 55 = .ok (.lstore_n 1, 1) := by decide +kernel
theorem dX0_becomeEqual_56 : decode cX0_becomeEqual 56 = .ok (.aload_n 0, 1) := by decide +kernel
theorem dX0_becomeEqual_57 : decode cX0_becomeEqual 57 = .ok (.getfield 14, 3) := by decide +kernel
theorem dX0_becomeEqual_60 : decode cX0_becomeEqual 60 = .ok (.getfield 87, 3) := by decide +kernel
theorem dX0_becomeEqual_63 : decode cX0_becomeEqual 63 = .ok (.lstore_n 3, 1) := by decide +kernel
theorem dX0_becomeEqual_64 : decode cX0_becomeEqual 64 = .ok (.aload_n 0, 1) := by decide +kernel
theorem dX0_becomeEqual_65 : decode cX0_becomeEqual 65 = .ok (.getfield 14, 3) := by decide +kernel
theorem dX0_becomeEqual_68 : decode cX0_becomeEqual 68 = .ok (.aload_n 0, 1) := by decide +kernel
theorem dX0_becomeEqual_69 : decode cX0_becomeEqual 69 = .ok (.getfield 18, 3) := by decide +kernel
theorem dX0_becomeEqual_72 : decode cX0_becomeEqual 72 = .ok (.getfield 84, 3) := by decide +kernel
theorem dX0_becomeEqual_75 : decode cX0_becomeEqual 75 = .ok (.aload_n 0, 1) := by decide +kernel
theorem dX0_becomeEqual_76 : decode cX0_becomeEqual 76 = .ok (.getfield 18, 3) := by decide +kernel
theorem dX0_becomeEqual_79 : decode cX0_becomeEqual 79 = .ok (.getfield 87, 3) := by decide +kernel
theorem dX0_becomeEqual_82 : decode cX0_becomeEqual 82 = .ok (.invokevirtual 59, 3) := by decide +kernel
theorem dX0_becomeEqual_85 : decode cX0_becomeEqual 85 = .ok (.aload_n 0, 1) := by decide +kernel
theorem dX0_becomeEqual_86 : decode cX0_becomeEqual 86 = .ok (.getfield 18, 3) := by decide +kernel
theorem dX0_becomeEqual_89 : decode cX0_becomeEqual 89 = .ok (.lload_n 1, 1) := by decide +kernel
theorem dX0_becomeEqual_90 : decode cX0_becomeEqual 90 = .ok (.lload_n 3, 1) := by decide +kernel
theorem dX0_becomeEqual_91 : decode cX0_becomeEqual 91 = .ok (.invokevirtual 59, 3) := by decide +kernel
theorem dX0_becomeEqual_94 : decode cX0_becomeEqual 94 = .ok (.return_, 1) := by decide +kernel
theorem dX0_becomeUnequal_0 : decode cX0_becomeUnequal 0 = .ok (.aload_n 0, 1) := by decide +kernel
theorem dX0_becomeUnequal_1 : decode cX0_becomeUnequal 1 = .ok (.getfield 14, 3) := by decide +kernel
theorem dX0_becomeUnequal_4 : decode cX0_becomeUnequal 4 = .ok (.invokevirtual 90, 3) := by decide +kernel
theorem dX0_becomeUnequal_7 : decode cX0_becomeUnequal 7 = .ok (.istore_n 1, 1) := by decide +kernel
theorem dX0_becomeUnequal_8 : decode cX0_becomeUnequal 8 = .ok (.aload_n 0, 1) := by decide +kernel
theorem dX0_becomeUnequal_9 : decode cX0_becomeUnequal 9 = .ok (.getfield 14, 3) := by decide +kernel
theorem dX0_becomeUnequal_12 : decode cX0_becomeUnequal 12 = .ok (.getfield 84, 3) := by decide +kernel
theorem dX0_becomeUnequal_15 : decode cX0_becomeUnequal 15 = .ok (.lstore_n 2, 1) := by decide +kernel
theorem dX0_becomeUnequal_16 : decode cX0_becomeUnequal 16 = .ok (.aload_n 0, 1) := by decide +kernel
theorem dX0_becomeUnequal_17 : decode cX0_becomeUnequal 17 = .ok (.getfield 18, 3) := by decide +kernel
theorem dX0_becomeUnequal_20 : decode cX0_becomeUnequal 20 = .ok (.invokevirtual 90, 3) := by decide +kernel
theorem dX0_becomeUnequal_23 : decode cX0_becomeUnequal 23 = .ok (.ifCond .eq 17, 3) := by decide +kernel
theorem dX0_becomeUnequal_26 : decode cX0_becomeUnequal 26 = .ok (.aload_n 0, 1) := by decide +kernel
theorem dX0_becomeUnequal_27 : decode cX0_becomeUnequal 27 = .ok (.getfield 14, 3) := by decide +kernel
theorem dX0_becomeUnequal_30 : decode cX0_becomeUnequal 30 = .ok (.aload_n 0, 1) := by decide +kernel
theorem dX0_becomeUnequal_31 : decode cX0_becomeUnequal 31 = .ok (.getfield 18, 3) := by decide +kernel
theorem dX0_becomeUnequal_34 : decode cX0_becomeUnequal 34 = .ok (.getfield 84, 3) := by decide +kernel
theorem dX0_becomeUnequal_37 : decode cX0_becomeUnequal 37 = .ok (.invokevirtual 93, 3) := by decide +kernel
theorem dX0_becomeUnequal_40 : decode cX0_becomeUnequal 40 = .ok (.iload_n 1, 1) := by decide +kernel
theorem dX0_becomeUnequal_41 : decode cX0_becomeUnequal 41 = .ok (.ifCond .eq 11, 3) := by decide +kernel
theorem dX0_becomeUnequal_44 : decode cX0_becomeUnequal 44 = .ok (.aload_n 0, 1) := by decide +kernel
theorem dX0_becomeUnequal_45 : decode cX0_becomeUnequal 45 = .ok (.getfield 18, 3) := by decide +kernel
theorem dX0_becomeUnequal_48 : decode cX0_becomeUnequal 48 = .ok (.lload_n 2, 1) := by decide +kernel
theorem dX0_becomeUnequal_49 : decode cX0_becomeUnequal 49 = .ok (.invokevirtual 93, 3) := by decide +kernel
theorem dX0_becomeUnequal_52 : decode cX0_becomeUnequal 52 = .ok (.return_, 1) := by decide +kernel
theorem dX0_order_0 : decode cX0_order 0 = .ok (.aload_n 0, 1) := by decide +kernel
theorem dX0_order_1 : decode cX0_order 1 = .ok (.invokevirtual 77, 3) := by decide +kernel
theorem dX0_order_4 : decode cX0_order 4 = .ok (.ifCond .eq 9, 3) := by decide +kernel
theorem dX0_order_7 : decode cX0_order 7 = .ok (.ldc2_w 53, 3) := by decide +kernel
theorem dX0_order_10 : decode cX0_order 10 = .ok (.goto 10, 3) := by decide +kernel
theorem dX0_order_13 : decode cX0_order 13 = .ok (.aload_n 0, 1) := by decide +kernel
theorem dX0_order_14 : decode cX0_order 14 = .ok (.getfield 84, 3) := by decide +kernel
theorem dX0_order_17 : decode cX0_order 17 = .ok (.iload_n 2, 1) := by decide +kernel
theorem dX0_order_18 : decode cX0_order 18 = .ok (.i2l, 1) := by decide +kernel
theorem dX0_order_19 : decode cX0_order 19 = .ok (.ladd, 1) := by decide +kernel
theorem dX0_order_20 : decode cX0_order 20 = .ok (.lstore_n 3, 1) := by decide +kernel
theorem dX0_order_21 : decode cX0_order 21 = .ok (.aload_n 1, 1) := by decide +kernel
theorem dX0_order_22 : decode cX0_order 22 = .ok (.invokevirtual 77, 3) := by decide +kernel
theorem dX0_order_25 : decode cX0_order 25 = .ok (.ifCond .eq 9, 3) := by decide +kernel
theorem dX0_order_28 : decode cX0_order 28 = .ok (.ldc2_w 57, 3) := by decide +kernel
theorem dX0_order_31 : decode cX0_order 31 = .ok (.goto 10, 3) := by decide +kernel
theorem dX0_order_34 : decode cX0_order 34 = .ok (.aload_n 1, 1) := by decide +kernel
theorem dX0_order_35 : decode cX0_order 35 = .ok (.getfield 87, 3) := by decide +kernel
theorem dX0_order_38 : decode cX0_order 38 = .ok (.iload_n 2, 1) := by decide +kernel
theorem dX0_order_39 : decode cX0_order 39 = .ok (.i2l, 1) := by decide +kernel
theorem dX0_order_40 : decode cX0_order 40 = .ok (.lsub, 1) := by decide +kernel
theorem dX0_order_41 : decode cX0_order 41 = .ok (.lstore 5, 2) := by decide +kernel
theorem dX0_order_43 : decode cX0_order 43 = .ok (.aload_n 0, 1) := by decide +kernel
theorem dX0_order_44 : decode cX0_order 44 = .ok (.ldc2_w 53, 3) := by decide +kernel
theorem dX0_order_47 : decode cX0_order 47 = .ok (.lload 5, 2) := by decide +kernel
theorem dX0_order_49 : decode cX0_order 49 = .ok (.invokevirtual 59, 3) := by decide +kernel
theorem dX0_order_52 : decode cX0_order 52 = .ok (.aload_n 1, 1) := by decide +kernel
theorem dX0_order_53 : decode cX0_order 53 = .ok (.lload_n 3, 1) := by decide +kernel
theorem dX0_order_54 : decode cX0_order 54 = .ok (.ldc2_w 57, 3) := by decide +kernel
theorem dX0_order_57 : decode cX0_order 57 = .ok (.invokevirtual 59, 3) := by decide +kernel
theorem dX0_order_60 : decode cX0_order 60 = .ok (.return_, 1) := by decide +kernel
theorem dX0_orderUnsigned_0 : decode cX0_orderUnsigned 0 = .ok (.aload_n 1, 1) := by decide +kernel
theorem dX0_orderUnsigned_1 : decode cX0_orderUnsigned 1 = .ok (.invokevirtual 97, 3) := by decide +kernel
theorem dX0_orderUnsigned_4 : decode cX0_orderUnsigned 4 = .ok (.ifCond .ne 4, 3) := by decide +kernel
theorem dX0_orderUnsigned_7 : decode cX0_orderUnsigned 7 = .ok (.return_, 1) := by decide +kernel
theorem dX0_orderUnsigned_8 : decode cX0_orderUnsigned 8 = .ok (.aload_n 0, 1) := by decide +kernel
theorem dX0_orderUnsigned_9 : decode cX0_orderUnsigned 9 = .ok (.invokevirtual 97, 3) := by decide +kernel
theorem dX0_orderUnsigned_12 : decode cX0_orderUnsigned 12 = .ok (.ifCond .eq 13, 3) := by decide +kernel
theorem dX0_orderUnsigned_15 : decode cX0_orderUnsigned 15 = .ok (.aload_n 0, 1) := by decide +kernel
theorem dX0_orderUnsigned_16 : decode cX0_orderUnsigned 16 = .ok (.getfield 84, 3) := by decide +kernel
theorem dX0_orderUnsigned_19 : decode cX0_orderUnsigned 19 = .ok (.iload_n 2, 1) := by decide +kernel
theorem dX0_orderUnsigned_20 : decode cX0_orderUnsigned 20 = .ok (.i2l, 1) := by decide +kernel
theorem dX0_orderUnsigned_21 : decode cX0_orderUnsigned 21 = .ok (.ladd, 1) := by decide +kernel
theorem dX0_orderUnsigned_22 : decode cX0_orderUnsigned 22 = .ok (.goto 6, 3) := by decide +kernel
theorem dX0_orderUnsigned_25 : decode cX0_orderUnsigned 25 = .ok (.ldc2_w 53, 3) := by decide +kernel
theorem dX0_orderUnsigned_28 : decode cX0_orderUnsigned 28 = .ok (.lstore_n 3, 1) := by decide +kernel
theorem dX0_orderUnsigned_29 : decode cX0_orderUnsigned 29 = .ok (.aload_n 1, 1) := by decide +kernel
theorem dX0_orderUnsigned_30 : decode cX0_orderUnsigned 30 = .ok (.getfield 87, 3) := by decide +kernel
theorem dX0_orderUnsigned_33 : decode cX0_orderUnsigned 33 = .ok (.iload_n 2, 1) := by decide +kernel
theorem dX0_orderUnsigned_34 : decode cX0_orderUnsigned 34 = .ok (.i2l, 1) := by decide +kernel
theorem dX0_orderUnsigned_35 : decode cX0_orderUnsigned 35 = .ok (.lsub, 1) := by decide +kernel
theorem dX0_orderUnsigned_36 : decode cX0_orderUnsigned 36 = .ok (.lstore 5, 2) := by decide +kernel
theorem dX0_orderUnsigned_38 : decode cX0_orderUnsigned 38 = .ok (.aload_n 0, 1) := by decide +kernel
theorem dX0_orderUnsigned_39 : decode cX0_orderUnsigned 39 = .ok (.invokevirtual 77, 3) := by decide +kernel
theorem dX0_orderUnsigned_42 : decode cX0_orderUnsigned 42 = .ok (.ifCond .ne 13, 3) := by decide +kernel
theorem dX0_orderUnsigned_45 : decode cX0_orderUnsigned 45 = .ok (.aload_n 0, 1) := by decide +kernel
theorem dX0_orderUnsigned_46 : decode cX0_orderUnsigned 46 = .ok (.lconst 0, 1) := by decide +kernel
theorem dX0_orderUnsigned_47 : decode cX0_orderUnsigned 47 = .ok (.lload 5, 2) := by decide +kernel
theorem dX0_orderUnsigned_49 : decode cX0_orderUnsigned 49 = .ok (.invokevirtual 59, 3) := by decide +kernel
theorem dX0_orderUnsigned_52 : decode cX0_orderUnsigned 52 = .ok (.goto 25, 3) := by decide +kernel
theorem dX0_orderUnsigned_55 : decode cX0_orderUnsigned 55 = .ok (.lload 5, 2) := by decide +kernel
theorem dX0_orderUnsigned_57 : decode cX0_orderUnsigned 57 = .ok (.lconst 0, 1) := by decide +kernel
theorem dX0_orderUnsigned_58 : decode cX0_orderUnsigned 58 = .ok (.lcmp, 1) := by decide +kernel
theorem dX0_orderUnsigned_59 : decode cX0_orderUnsigned 59 = .ok (.ifCond .ge 10, 3) := by decide +kernel
theorem dX0_orderUnsigned_62 : decode cX0_orderUnsigned 62 = .ok (.aload_n 0, 1) := by decide +kernel
theorem dX0_orderUnsigned_63 : decode cX0_orderUnsigned 63 = .ok (.invokevirtual 100, 3) := by decide +kernel
theorem dX0_orderUnsigned_66 : decode cX0_orderUnsigned 66 = .ok (.goto 11, 3) := by decide +kernel
theorem dX0_orderUnsigned_69 : decode cX0_orderUnsigned 69 = .ok (.aload_n 0, 1) := by decide +kernel
theorem dX0_orderUnsigned_70 : decode cX0_orderUnsigned 70 = .ok (.lconst 0, 1) := by decide +kernel
theorem dX0_orderUnsigned_71 : decode cX0_orderUnsigned 71 = .ok (.lload 5, 2) := by decide +kernel
theorem dX0_orderUnsigned_73 : decode cX0_orderUnsigned 73 = .ok (.lconst 1, 1) := by decide +kernel
theorem dX0_orderUnsigned_74 : decode cX0_orderUnsigned 74 = .ok (.invokevirtual 39, 3) := by decide +kernel
theorem dX0_orderUnsigned_77 : decode cX0_orderUnsigned 77 = .ok (.aload_n 1, 1) := by decide +kernel
theorem dX0_orderUnsigned_78 : decode cX0_orderUnsigned 78 = .ok (.lload_n 3, 1) := by decide +kernel
theorem dX0_orderUnsigned_79 : decode cX0_orderUnsigned 79 = .ok (.ldc2_w 57, 3) := by decide +kernel
theorem dX0_orderUnsigned_82 : decode cX0_orderUnsigned 82 = .ok (.invokevirtual 59, 3) := by decide +kernel
theorem dX0_orderUnsigned_85 : decode cX0_orderUnsigned 85 = .ok (.return_, 1) := by decide +kernel
theorem dX1_init_0 : decode cX1_init 0 = .ok (.aload_n 0, 1) := by decide +kernel
theorem dX1_init_1 : decode cX1_init 1 = .ok (.invokespecial 3, 3) := by decide +kernel
theorem dX1_init_4 : decode cX1_init 4 = .ok (.aload_n 0, 1) := by decide +kernel
theorem dX1_init_5 : decode cX1_init 5 = .ok (.sipush 200, 3) := by decide +kernel
theorem dX1_init_8 : decode cX1_init 8 = .ok (.newarray .int, 2) := by decide +kernel
theorem dX1_init_10 : decode cX1_init 10 = .ok (.putfield 9, 3) := by decide +kernel
theorem dX1_init_13 : decode cX1_init 13 = .ok (.return_, 1) := by decide +kernel
theorem dX1_append_0 : decode cX1_append 0 = .ok (.iconst 0, 1) := by decide +kernel
theorem dX1_append_1 : decode cX1_append 1 = .ok (.istore_n 3, 1) := by decide +kernel
theorem dX1_append_2 : decode cX1_append 2 = .ok (.iload_n 3, 1) := by decide +kernel
theorem dX1_append_3 : decode cX1_append 3 = .ok (.iload_n 1, 1) := by decide +kernel
theorem dX1_append_4 : decode cX1_append 4 = .ok (.if_icmp .ge 51, 3) := by decide +kernel
theorem dX1_append_7 : decode cX1_append 7 = .ok (.aload_n 0, 1) := by decide +kernel
theorem dX1_append_8 : decode cX1_append 8 = .ok (.getfield 15, 3) := by decide +kernel
theorem dX1_append_11 : decode cX1_append 11 = .ok (.sipush 200, 3) := by decide +kernel
theorem dX1_append_14 : decode cX1_append 14 = .ok (.if_icmp .ge 41, 3) := by decide +kernel
theorem dX1_append_17 : decode cX1_append 17 = .ok (.aload_n 0, 1) := by decide +kernel
theorem dX1_append_18 : decode cX1_append 18 = .ok (.getfield 9, 3) := by decide +kernel
theorem dX1_append_21 : decode cX1_append 21 = .ok (.aload_n 0, 1) := by decide +kernel
theorem dX1_append_22 : decode cX1_append 22 = .ok (.getfield 15, 3) := by decide +kernel
theorem dX1_append_25 : decode cX1_append 25 = .ok (.iload_n 2, 1) := by decide +kernel
theorem dX1_append_26 : decode cX1_append 26 = .ok (.bipush 24, 2) := by decide +kernel
theorem dX1_append_28 : decode cX1_append 28 = .ok (.bipush 8, 2) := by decide +kernel
theorem dX1_append_30 : decode cX1_append 30 = .ok (.iload_n 3, 1) := by decide +kernel
theorem dX1_append_31 : decode cX1_append 31 = .ok (.imul, 1) := by decide +kernel
theorem dX1_append_32 : decode cX1_append 32 = .ok (.isub, 1) := by decide +kernel
theorem dX1_append_33 : decode cX1_append 33 = .ok (.iushr, 1) := by decide +kernel
theorem dX1_append_34 : decode cX1_append 34 = .ok (.sipush 255, 3) := by decide +kernel
theorem dX1_append_37 : decode cX1_append 37 = .ok (.iand, 1) := by decide +kernel
theorem dX1_append_38 : decode cX1_append 38 = .ok (.iastore, 1) := by decide +kernel
theorem dX1_append_39 : decode cX1_append 39 = .ok (.aload_n 0, 1) := by decide +kernel
theorem dX1_append_40 : decode cX1_append 40 = .ok (.dup, 1) := by decide +kernel
theorem dX1_append_41 : decode cX1_append 41 = .ok (.getfield 15, 3) := by decide +kernel
theorem dX1_append_44 : decode cX1_append 44 = .ok (.iconst 1, 1) := by decide +kernel
theorem dX1_append_45 : decode cX1_append 45 = .ok (.iadd, 1) := by decide +kernel
theorem dX1_append_46 : decode cX1_append 46 = .ok (.putfield 15, 3) := by decide +kernel
theorem dX1_append_49 : decode cX1_append 49 = .ok (.iinc 3 1, 3) := by decide +kernel
theorem dX1_append_52 : decode cX1_append 52 = .ok (.goto (-50), 3) := by decide +kernel
theorem dX1_append_55 : decode cX1_append 55 = .ok (.return_, 1) := by decide +kernel
theorem dX1_holds_0 : decode cX1_holds 0 = .ok (.lload_n 1, 1) := by decide +kernel
theorem dX1_holds_1 : decode cX1_holds 1 = .ok (.lconst 0, 1) := by decide +kernel
theorem dX1_holds_2 : decode cX1_holds 2 = .ok (.lcmp, 1) := by decide +kernel
theorem dX1_holds_3 : decode cX1_holds 3 = .ok (.ifCond .lt 17, 3) := by decide +kernel
theorem dX1_holds_6 : decode cX1_holds 6 = .ok (.lload_n 1, 1) := by decide +kernel
theorem dX1_holds_7 : decode cX1_holds 7 = .ok (.aload_n 0, 1) := by decide +kernel
theorem dX1_holds_8 : decode cX1_holds 8 = .ok (.getfield 15, 3) := by decide +kernel
theorem dX1_holds_11 : decode cX1_holds 11 = .ok (.i2l, 1) := by decide +kernel
theorem dX1_holds_12 : decode cX1_holds 12 = .ok (.lcmp, 1) := by decide +kernel
theorem dX1_holds_13 : decode cX1_holds 13 = .ok (.ifCond .ge 7, 3) := by decide +kernel
theorem dX1_holds_16 : decode cX1_holds 16 = .ok (.iconst 1, 1) := by decide +kernel
theorem dX1_holds_17 : decode cX1_holds 17 = .ok (.goto 4, 3) := by decide +kernel
theorem dX1_holds_20 : decode cX1_holds 20 = .ok (.iconst 0, 1) := by decide +kernel
theorem dX1_holds_21 : decode cX1_holds 21 = .ok (.ireturn, 1) := by decide +kernel
theorem dX2_init_0 : decode cX2_init 0 = .ok (.aload_n 0, 1) := by decide +kernel
theorem dX2_init_1 : decode cX2_init 1 = .ok (.invokespecial 3, 3) := by decide +kernel
theorem dX2_init_4 : decode cX2_init 4 = .ok (.aload_n 0, 1) := by decide +kernel
theorem dX2_init_5 : decode cX2_init 5 = .ok (.new 9, 3) := by decide +kernel
theorem dX2_init_8 : decode cX2_init 8 = .ok (.dup, 1) := by decide +kernel
theorem dX2_init_9 : decode cX2_init 9 = .ok (.invokespecial 11, 3) := by decide +kernel
theorem dX2_init_12 : decode cX2_init 12 = .ok (.putfield 12, 3) := by decide +kernel
theorem dX2_init_15 : decode cX2_init 15 = .ok (.aload_n 0, 1) := by decide +kernel
theorem dX2_init_16 : decode cX2_init 16 = .ok (.new 9, 3) := by decide +kernel
theorem dX2_init_19 : decode cX2_init 19 = .ok (.dup, 1) := by decide +kernel
theorem dX2_init_20 : decode cX2_init 20 = .ok (.invokespecial 11, 3) := by decide +kernel
theorem dX2_init_23 : decode cX2_init 23 = .ok (.putfield 18, 3) := by decide +kernel
theorem dX2_init_26 : decode cX2_init 26 = .ok (.aload_n 0, 1) := by decide +kernel
theorem dX2_init_27 : decode cX2_init 27 = .ok (.new 9, 3) := by decide +kernel
theorem dX2_init_30 : decode cX2_init 30 = .ok (.dup, 1) := by decide +kernel
theorem dX2_init_31 : decode cX2_init 31 = .ok (.invokespecial 11, 3) := by decide +kernel
theorem dX2_init_34 : decode cX2_init 34 = .ok (.putfield 21, 3) := by decide +kernel
theorem dX2_init_37 : decode cX2_init 37 = .ok (.return_, 1) := by decide +kernel
theorem dX2_apply_0 : decode cX2_apply 0 = .ok (.aload_n 1, 1) := by decide +kernel
theorem dX2_apply_1 : decode cX2_apply 1 = .ok (.getfield 24, 3) := by decide +kernel
theorem dX2_apply_4 : decode cX2_apply 4 = .ok (.istore_n 3, 1) := by decide +kernel
theorem dX2_apply_5 : decode cX2_apply 5 = .ok (.iload_n 3, 1) := by decide +kernel
theorem dX2_apply_6 : decode cX2_apply 6 = .ok (.bipush 19, 2) := by decide +kernel
theorem dX2_apply_8 : decode cX2_apply 8 = .ok (.if_icmp .lt 4, 3) := by decide +kernel
theorem dX2_apply_11 : decode cX2_apply 11 = .ok (.return_, 1) := by decide +kernel
theorem dX2_apply_12 : decode cX2_apply 12 = .ok (.iload_n 3, 1) := by decide +kernel
theorem dX2_apply_13 : decode cX2_apply 13 = .ok (.bipush 7, 2) := by decide +kernel
theorem dX2_apply_15 : decode cX2_apply 15 = .ok (.if_icmp .eq 37, 3) := by decide +kernel
theorem dX2_apply_18 : decode cX2_apply 18 = .ok (.iload_n 3, 1) := by decide +kernel
theorem dX2_apply_19 : decode cX2_apply 19 = .ok (.bipush 8, 2) := by decide +kernel
theorem dX2_apply_21 : decode cX2_apply 21 = .ok (.if_icmp .eq 31, 3) := by decide +kernel
theorem dX2_apply_24 : decode cX2_apply 24 = .ok (.aload_n 0, 1) := by decide +kernel
theorem dX2_apply_25 : decode cX2_apply 25 = .ok (.aload_n 1, 1) := by decide +kernel
theorem dX2_apply_26 : decode cX2_apply 26 = .ok (.aload_n 2, 1) := by decide +kernel
theorem dX2_apply_27 : decode cX2_apply 27 = .ok (.invokevirtual 30, 3) := by decide +kernel
theorem dX2_apply_30 : decode cX2_apply 30 = .ok (.aload_n 0, 1) := by decide +kernel
theorem dX2_apply_31 : decode cX2_apply 31 = .ok (.aload_n 1, 1) := by decide +kernel
theorem dX2_apply_32 : decode cX2_apply 32 = .ok (.invokevirtual 34, 3) := by decide +kernel
theorem dX2_apply_35 : decode cX2_apply 35 = .ok (.aload_n 0, 1) := by decide +kernel
theorem dX2_apply_36 : decode cX2_apply 36 = .ok (.aload_n 1, 1) := by decide +kernel
theorem dX2_apply_37 : decode cX2_apply 37 = .ok (.invokevirtual 38, 3) := by decide +kernel
theorem dX2_apply_40 : decode cX2_apply 40 = .ok (.aload_n 2, 1) := by decide +kernel
theorem dX2_apply_41 : decode cX2_apply 41 = .ok (.aload_n 1, 1) := by decide +kernel
theorem dX2_apply_42 : decode cX2_apply 42 = .ok (.getfield 41, 3) := by decide +kernel
theorem dX2_apply_45 : decode cX2_apply 45 = .ok (.aload_n 0, 1) := by decide +kernel
theorem dX2_apply_46 : decode cX2_apply 46 = .ok (.getfield 21, 3) := by decide +kernel
theorem dX2_apply_49 : decode cX2_apply 49 = .ok (.invokevirtual 44, 3) := by decide +kernel
theorem dX2_apply_52 : decode cX2_apply 52 = .ok (.aload_n 0, 1) := by decide +kernel
theorem dX2_apply_53 : decode cX2_apply 53 = .ok (.aload_n 1, 1) := by decide +kernel
theorem dX2_apply_54 : decode cX2_apply 54 = .ok (.aload_n 2, 1) := by decide +kernel
theorem dX2_apply_55 : decode cX2_apply 55 = .ok (.invokevirtual 50, 3) := by decide +kernel
theorem dX2_apply_58 : decode cX2_apply 58 = .ok (.return_, 1) := by decide +kernel
theorem dX2_loadOperands_0 : decode cX2_loadOperands 0 = .ok (.aload_n 2, 1) := by decide +kernel
theorem dX2_loadOperands_1 : decode cX2_loadOperands 1 = .ok (.aload_n 1, 1) := by decide +kernel
theorem dX2_loadOperands_2 : decode cX2_loadOperands 2 = .ok (.getfield 41, 3) := by decide +kernel
theorem dX2_loadOperands_5 : decode cX2_loadOperands 5 = .ok (.aload_n 0, 1) := by decide +kernel
theorem dX2_loadOperands_6 : decode cX2_loadOperands 6 = .ok (.getfield 12, 3) := by decide +kernel
theorem dX2_loadOperands_9 : decode cX2_loadOperands 9 = .ok (.invokevirtual 53, 3) := by decide +kernel
theorem dX2_loadOperands_12 : decode cX2_loadOperands 12 = .ok (.aload_n 1, 1) := by decide +kernel
theorem dX2_loadOperands_13 : decode cX2_loadOperands 13 = .ok (.getfield 56, 3) := by decide +kernel
theorem dX2_loadOperands_16 : decode cX2_loadOperands 16 = .ok (.iconst (-1), 1) := by decide +kernel
theorem dX2_loadOperands_17 : decode cX2_loadOperands 17 = .ok (.if_icmp .eq 16, 3) := by decide +kernel
theorem dX2_loadOperands_20 : decode cX2_loadOperands 20 = .ok (.aload_n 2, 1) := by decide +kernel
theorem dX2_loadOperands_21 : decode cX2_loadOperands 21 = .ok (.aload_n 1, 1) := by decide +kernel
theorem dX2_loadOperands_22 : decode cX2_loadOperands 22 = .ok (.getfield 56, 3) := by decide +kernel
theorem dX2_loadOperands_25 : decode cX2_loadOperands 25 = .ok (.aload_n 0, 1) := by decide +kernel
theorem dX2_loadOperands_26 : decode cX2_loadOperands 26 = .ok (.getfield 18, 3) := by decide +kernel
theorem dX2_loadOperands_29 : decode cX2_loadOperands 29 = .ok (.invokevirtual 53, 3) := by decide +kernel
theorem dX2_loadOperands_32 : decode cX2_loadOperands 32 = .ok (.return_, 1) := by decide +kernel
theorem dX2_loadOperands_33 : decode cX2_loadOperands 33 = .ok (.aload_n 1, 1) := by decide +kernel
theorem dX2_loadOperands_34 : decode cX2_loadOperands 34 = .ok (.getfield 59, 3) := by decide +kernel
theorem dX2_loadOperands_37 : decode cX2_loadOperands 37 = .ok (.lstore_n 3, 1) := by decide +kernel
theorem dX2_loadOperands_38 : decode cX2_loadOperands 38 = .ok (.aload_n 1, 1) := by decide +kernel
theorem dX2_loadOperands_39 : decode cX2_loadOperands 39 = .ok (.getfield 24, 3) := by decide +kernel
theorem dX2_loadOperands_42 : decode cX2_loadOperands 42 = .ok (.bipush 11, 2) := by decide +kernel
theorem dX2_loadOperands_44 : decode cX2_loadOperands 44 = .ok (.if_icmp .eq 12, 3) := by decide +kernel
theorem dX2_loadOperands_47 : decode cX2_loadOperands 47 = .ok (.aload_n 1, 1) := by decide +kernel
theorem dX2_loadOperands_48 : decode cX2_loadOperands 48 = .ok (.getfield 24, 3) := by decide +kernel
theorem dX2_loadOperands_51 : decode cX2_loadOperands 51 = .ok (.bipush 12, 2) := by decide +kernel
theorem dX2_loadOperands_53 : decode cX2_loadOperands 53 = .ok (.if_icmp .ne 8, 3) := by decide +kernel
theorem dX2_loadOperands_56 : decode cX2_loadOperands 56 = .ok (.lconst 1, 1) := by decide +kernel
theorem dX2_loadOperands_57 : decode cX2_loadOperands 57 = .ok (.lstore_n 3, 1) := by decide +kernel
theorem dX2_loadOperands_58 : decode cX2_loadOperands 58 = .ok (.goto 19, 3) := by decide +kernel
theorem dX2_loadOperands_61 : decode cX2_loadOperands 61 = .ok (.aload_n 1, 1) := by decide +kernel
theorem dX2_loadOperands_62 : decode cX2_loadOperands 62 = .ok (.getfield 24, 3) := by decide +kernel
theorem dX2_loadOperands_65 : decode cX2_loadOperands 65 = .ok (.bipush 14, 2) := by decide +kernel
theorem dX2_loadOperands_67 : decode cX2_loadOperands 67 = .ok (.if_icmp .ne 10, 3) := by decide +kernel
theorem dX2_loadOperands_70 : decode cX2_loadOperands 70 = .ok (.lconst 1, 1) := by decide +kernel
theorem dX2_loadOperands_71 : decode cX2_loadOperands 71 = .ok (.aload_n 1, 1) := by decide +kernel
theorem dX2_loadOperands_72 : decode cX2_loadOperands 72 = .ok (.getfield 63, 3) := by decide +kernel
theorem dX2_loadOperands_75 : decode cX2_loadOperands 75 = .ok (.lshl, 1) := by decide +kernel
theorem dX2_loadOperands_76 : decode cX2_loadOperands 76 = .ok (.lstore_n 3, 1) := by decide +kernel
theorem dX2_loadOperands_77 : decode cX2_loadOperands 77 = .ok (.aload_n 0, 1) := by decide +kernel
theorem dX2_loadOperands_78 : decode cX2_loadOperands 78 = .ok (.getfield 18, 3) := by decide +kernel
theorem dX2_loadOperands_81 : decode cX2_loadOperands 81 = .ok (.lload_n 3, 1) := by decide +kernel
theorem dX2_loadOperands_82 : decode cX2_loadOperands 82 = .ok (.lload_n 3, 1) := by decide +kernel
theorem dX2_loadOperands_83 : decode cX2_loadOperands 83 = .ok (.lconst 0, 1) := by decide +kernel
theorem dX2_loadOperands_84 : decode cX2_loadOperands 84 = .ok (.invokevirtual 66, 3) := by decide +kernel
theorem dX2_loadOperands_87 : decode cX2_loadOperands 87 = .ok (.return_, 1) := by decide +kernel
theorem dX2_fitOperands_0 : decode cX2_fitOperands 0 = .ok (.aload_n 1, 1) := by decide +kernel
theorem dX2_fitOperands_1 : decode cX2_fitOperands 1 = .ok (.getfield 24, 3) := by decide +kernel
theorem dX2_fitOperands_4 : decode cX2_fitOperands 4 = .ok (.istore_n 2, 1) := by decide +kernel
theorem dX2_fitOperands_5 : decode cX2_fitOperands 5 = .ok (.iload_n 2, 1) := by decide +kernel
theorem dX2_fitOperands_6 : decode cX2_fitOperands 6 = .ok (.bipush 18, 2) := by decide +kernel
theorem dX2_fitOperands_8 : decode cX2_fitOperands 8 = .ok (.if_icmp .ne 10, 3) := by decide +kernel
theorem dX2_fitOperands_11 : decode cX2_fitOperands 11 = .ok (.aload_n 0, 1) := by decide +kernel
theorem dX2_fitOperands_12 : decode cX2_fitOperands 12 = .ok (.getfield 18, 3) := by decide +kernel
theorem dX2_fitOperands_15 : decode cX2_fitOperands 15 = .ok (.invokevirtual 70, 3) := by decide +kernel
theorem dX2_fitOperands_18 : decode cX2_fitOperands 18 = .ok (.aload_n 1, 1) := by decide +kernel
theorem dX2_fitOperands_19 : decode cX2_fitOperands 19 = .ok (.getfield 73, 3) := by decide +kernel
theorem dX2_fitOperands_22 : decode cX2_fitOperands 22 = .ok (.bipush 64, 2) := by decide +kernel
theorem dX2_fitOperands_24 : decode cX2_fitOperands 24 = .ok (.if_icmp .ne 4, 3) := by decide +kernel
theorem dX2_fitOperands_27 : decode cX2_fitOperands 27 = .ok (.return_, 1) := by decide +kernel
theorem dX2_fitOperands_28 : decode cX2_fitOperands 28 = .ok (.iload_n 2, 1) := by decide +kernel
theorem dX2_fitOperands_29 : decode cX2_fitOperands 29 = .ok (.bipush 17, 2) := by decide +kernel
theorem dX2_fitOperands_31 : decode cX2_fitOperands 31 = .ok (.if_icmp .eq 9, 3) := by decide +kernel
theorem dX2_fitOperands_34 : decode cX2_fitOperands 34 = .ok (.iload_n 2, 1) := by decide +kernel
theorem dX2_fitOperands_35 : decode cX2_fitOperands 35 = .ok (.bipush 16, 2) := by decide +kernel
theorem dX2_fitOperands_37 : decode cX2_fitOperands 37 = .ok (.if_icmp .ne 20, 3) := by decide +kernel
theorem dX2_fitOperands_40 : decode cX2_fitOperands 40 = .ok (.aload_n 0, 1) := by decide +kernel
theorem dX2_fitOperands_41 : decode cX2_fitOperands 41 = .ok (.getfield 12, 3) := by decide +kernel
theorem dX2_fitOperands_44 : decode cX2_fitOperands 44 = .ok (.invokevirtual 70, 3) := by decide +kernel
theorem dX2_fitOperands_47 : decode cX2_fitOperands 47 = .ok (.aload_n 0, 1) := by decide +kernel
theorem dX2_fitOperands_48 : decode cX2_fitOperands 48 = .ok (.getfield 18, 3) := by decide +kernel
theorem dX2_fitOperands_51 : decode cX2_fitOperands 51 = .ok (.invokevirtual 70, 3) := by decide +kernel
theorem dX2_fitOperands_54 : decode cX2_fitOperands 54 = .ok (.goto 17, 3) := by decide +kernel
theorem dX2_fitOperands_57 : decode cX2_fitOperands 57 = .ok (.aload_n 0, 1) := by decide +kernel
theorem dX2_fitOperands_58 : decode cX2_fitOperands 58 = .ok (.getfield 12, 3) := by decide +kernel
theorem dX2_fitOperands_61 : decode cX2_fitOperands 61 = .ok (.invokevirtual 76, 3) := by decide +kernel
theorem dX2_fitOperands_64 : decode cX2_fitOperands 64 = .ok (.aload_n 0, 1) := by decide +kernel
theorem dX2_fitOperands_65 : decode cX2_fitOperands 65 = .ok (.getfield 18, 3) := by decide +kernel
theorem dX2_fitOperands_68 : decode cX2_fitOperands 68 = .ok (.invokevirtual 76, 3) := by decide +kernel
theorem dX2_fitOperands_71 : decode cX2_fitOperands 71 = .ok (.return_, 1) := by decide +kernel
theorem dX2_computeResult_0 : decode cX2_computeResult 0 = .ok (.aload_n 1, 1) := by decide +kernel
theorem dX2_computeResult_1 : decode cX2_computeResult 1 = .ok (.getfield 24, 3) := by decide +kernel
theorem dX2_computeResult_4 : decode cX2_computeResult 4 = .ok (.istore_n 2, 1) := by decide +kernel
theorem dX2_computeResult_5 : decode cX2_computeResult 5 = .ok (.aload_n 1, 1) := by decide +kernel
theorem dX2_computeResult_6 : decode cX2_computeResult 6 = .ok (.getfield 41, 3) := by decide +kernel
theorem dX2_computeResult_9 : decode cX2_computeResult 9 = .ok (.aload_n 1, 1) := by decide +kernel
theorem dX2_computeResult_10 : decode cX2_computeResult 10 = .ok (.getfield 56, 3) := by decide +kernel
theorem dX2_computeResult_13 : decode cX2_computeResult 13 = .ok (.if_icmp .ne 7, 3) := by decide +kernel
theorem dX2_computeResult_16 : decode cX2_computeResult 16 = .ok (.iconst 1, 1) := by decide +kernel
theorem dX2_computeResult_17 : decode cX2_computeResult 17 = .ok (.goto 4, 3) := by decide +kernel
theorem dX2_computeResult_20 : decode cX2_computeResult 20 = .ok (.iconst 0, 1) := by decide +kernel
theorem dX2_computeResult_21 : decode cX2_computeResult 21 = .ok (.istore_n 3, 1) := by decide +kernel
theorem dX2_computeResult_22 : decode cX2_computeResult 22 = .ok (.iload_n 3, 1) := by decide +kernel
theorem dX2_computeResult_23 : decode cX2_computeResult 23 = .ok (.ifCond .eq 27, 3) := by decide +kernel
theorem dX2_computeResult_26 : decode cX2_computeResult 26 = .ok (.iload_n 2, 1) := by decide +kernel
theorem dX2_computeResult_27 : decode cX2_computeResult 27 = .ok (.bipush 6, 2) := by decide +kernel
theorem dX2_computeResult_29 : decode cX2_computeResult 29 = .ok (.if_icmp .eq 8, 3) := by decide +kernel
theorem dX2_computeResult_32 : decode cX2_computeResult 32 = .ok (.iload_n 2, 1) := by decide +kernel
theorem dX2_computeResult_33 : decode cX2_computeResult 33 = .ok (.iconst 5, 1) := by decide +kernel
theorem dX2_computeResult_34 : decode cX2_computeResult 34 = .ok (.if_icmp .ne 16, 3) := by decide +kernel
theorem dX2_computeResult_37 : decode cX2_computeResult 37 = .ok (.aload_n 0, 1) := by decide +kernel
theorem dX2_computeResult_38 : decode cX2_computeResult 38 = .ok (.getfield 21, 3) := by decide +kernel
theorem dX2_computeResult_41 : decode cX2_computeResult 41 = .ok (.lconst 0, 1) := by decide +kernel
theorem dX2_computeResult_42 : decode cX2_computeResult 42 = .ok (.lconst 0, 1) := by decide +kernel
theorem dX2_computeResult_43 : decode cX2_computeResult 43 = .ok (.lconst 0, 1) := by decide +kernel
theorem dX2_computeResult_44 : decode cX2_computeResult 44 = .ok (.invokevirtual 66, 3) := by decide +kernel
theorem dX2_computeResult_47 : decode cX2_computeResult 47 = .ok (.goto 48, 3) := by decide +kernel
theorem dX2_computeResult_50 : decode cX2_computeResult 50 = .ok (.iload_n 2, 1) := by decide +kernel
theorem dX2_computeResult_51 : decode cX2_computeResult 51 = .ok (.bipush 14, 2) := by decide +kernel
theorem dX2_computeResult_53 : decode cX2_computeResult 53 = .ok (.if_icmp .ne 22, 3) := by decide +kernel
theorem dX2_computeResult_56 : decode cX2_computeResult 56 = .ok (.aload_n 1, 1) := by decide +kernel
theorem dX2_computeResult_57 : decode cX2_computeResult 57 = .ok (.getfield 63, 3) := by decide +kernel
theorem dX2_computeResult_60 : decode cX2_computeResult 60 = .ok (.bipush 30, 2) := by decide +kernel
theorem dX2_computeResult_62 : decode cX2_computeResult 62 = .ok (.if_icmp .le 13, 3) := by decide +kernel
theorem dX2_computeResult_65 : decode cX2_computeResult 65 = .ok (.aload_n 0, 1) := by decide +kernel
theorem dX2_computeResult_66 : decode cX2_computeResult 66 = .ok (.getfield 21, 3) := by decide +kernel
theorem dX2_computeResult_69 : decode cX2_computeResult 69 = .ok (.invokevirtual 79, 3) := by decide +kernel
theorem dX2_computeResult_72 : decode cX2_computeResult 72 = .ok (.goto 23, 3) := by decide +kernel
theorem dX2_computeResult_75 : decode cX2_computeResult 75 = .ok (.aload_n 0, 1) := by decide +kernel
theorem dX2_computeResult_76 : decode cX2_computeResult 76 = .ok (.getfield 21, 3) := by decide +kernel
theorem dX2_computeResult_79 : decode cX2_computeResult 79 = .ok (.iload_n 2, 1) := by decide +kernel
theorem dX2_computeResult_80 : decode cX2_computeResult 80 = .ok (.aload_n 0, 1) := by decide +kernel
theorem dX2_computeResult_81 : decode cX2_computeResult 81 = .ok (.getfield 12, 3) := by decide +kernel
theorem dX2_computeResult_84 : decode cX2_computeResult 84 = .ok (.aload_n 0, 1) := by decide +kernel
theorem dX2_computeResult_85 : decode cX2_computeResult 85 = .ok (.getfield 18, 3) := by decide +kernel
theorem dX2_computeResult_88 : decode cX2_computeResult 88 = .ok (.aload_n 1, 1) := by decide +kernel
theorem dX2_computeResult_89 : decode cX2_computeResult 89 = .ok (.getfield 63, 3) := by decide +kernel
theorem dX2_computeResult_92 : decode cX2_computeResult 92 = .ok (.invokevirtual 82, 3) := by decide +kernel
theorem dX2_computeResult_95 : decode cX2_computeResult 95 = .ok (.aload_n 1, 1) := by decide +kernel
theorem dX2_computeResult_96 : decode cX2_computeResult 96 = .ok (.getfield 73, 3) := by decide +kernel
theorem dX2_computeResult_99 : decode cX2_computeResult 99 = .ok (.bipush 32, 2) := by decide +kernel
theorem dX2_computeResult_101 : decode cX2_computeResult 101 = .ok (.if_icmp .ne 10, 3) := by decide +kernel
theorem dX2_computeResult_104 : decode cX2_computeResult 104 = .ok (.aload_n 0, 1) := by decide +kernel
theorem dX2_computeResult_105 : decode cX2_computeResult 105 = .ok (.getfield 21, 3) := by decide +kernel
theorem dX2_computeResult_108 : decode cX2_computeResult 108 = .ok (.invokevirtual 76, 3) := by decide +kernel
theorem dX2_computeResult_111 : decode cX2_computeResult 111 = .ok (.return_, 1) := by decide +kernel
theorem dX2_noteRecord_0 : decode cX2_noteRecord 0 = .ok (.aload_n 1, 1) := by decide +kernel
theorem dX2_noteRecord_1 : decode cX2_noteRecord 1 = .ok (.getfield 41, 3) := by decide +kernel
theorem dX2_noteRecord_4 : decode cX2_noteRecord 4 = .ok (.istore_n 3, 1) := by decide +kernel
theorem dX2_noteRecord_5 : decode cX2_noteRecord 5 = .ok (.aload_n 1, 1) := by decide +kernel
theorem dX2_noteRecord_6 : decode cX2_noteRecord 6 = .ok (.getfield 73, 3) := by decide +kernel
theorem dX2_noteRecord_9 : decode cX2_noteRecord 9 = .ok (.bipush 64, 2) := by decide +kernel
theorem dX2_noteRecord_11 : decode cX2_noteRecord 11 = .ok (.if_icmp .ne 7, 3) := by decide +kernel
theorem dX2_noteRecord_14 : decode cX2_noteRecord 14 = .ok (.iconst 1, 1) := by decide +kernel
theorem dX2_noteRecord_15 : decode cX2_noteRecord 15 = .ok (.goto 4, 3) := by decide +kernel
theorem dX2_noteRecord_18 : decode cX2_noteRecord 18 = .ok (.iconst 0, 1) := by decide +kernel
theorem dX2_noteRecord_19 : decode cX2_noteRecord 19 = .ok (.istore 4, 2) := by decide +kernel
theorem dX2_noteRecord_21 : decode cX2_noteRecord 21 = .ok (.iload_n 3, 1) := by decide +kernel
theorem dX2_noteRecord_22 : decode cX2_noteRecord 22 = .ok (.aload_n 1, 1) := by decide +kernel
theorem dX2_noteRecord_23 : decode cX2_noteRecord 23 = .ok (.getfield 56, 3) := by decide +kernel
theorem dX2_noteRecord_26 : decode cX2_noteRecord 26 = .ok (.if_icmp .ne 7, 3) := by decide +kernel
theorem dX2_noteRecord_29 : decode cX2_noteRecord 29 = .ok (.iconst 1, 1) := by decide +kernel
theorem dX2_noteRecord_30 : decode cX2_noteRecord 30 = .ok (.goto 4, 3) := by decide +kernel
theorem dX2_noteRecord_33 : decode cX2_noteRecord 33 = .ok (.iconst 0, 1) := by decide +kernel
theorem dX2_noteRecord_34 : decode cX2_noteRecord 34 = .ok (.istore 5, 2) := by decide +kernel
theorem dX2_noteRecord_36 : decode cX2_noteRecord 36 = .ok (.aload_n 1, 1) := by decide +kernel
theorem dX2_noteRecord_37 : decode cX2_noteRecord 37 = .ok (.getfield 24, 3) := by decide +kernel
theorem dX2_noteRecord_40 : decode cX2_noteRecord 40 = .ok (.tableswitch 132 7 18 #[85, 110, 64, 132, 132, 132, 64, 129, 129, 129, 129, 64], 64) := by decide +kernel
theorem dX2_noteRecord_104 : decode cX2_noteRecord 104 = .ok (.aload_n 2, 1) := by decide +kernel
theorem dX2_noteRecord_105 : decode cX2_noteRecord 105 = .ok (.getfield 86, 3) := by decide +kernel
theorem dX2_noteRecord_108 : decode cX2_noteRecord 108 = .ok (.iload_n 3, 1) := by decide +kernel
theorem dX2_noteRecord_109 : decode cX2_noteRecord 109 = .ok (.if_icmp .eq 11, 3) := by decide +kernel
theorem dX2_noteRecord_112 : decode cX2_noteRecord 112 = .ok (.aload_n 2, 1) := by decide +kernel
theorem dX2_noteRecord_113 : decode cX2_noteRecord 113 = .ok (.getfield 89, 3) := by decide +kernel
theorem dX2_noteRecord_116 : decode cX2_noteRecord 116 = .ok (.iload_n 3, 1) := by decide +kernel
theorem dX2_noteRecord_117 : decode cX2_noteRecord 117 = .ok (.if_icmp .ne 7, 3) := by decide +kernel
theorem dX2_noteRecord_120 : decode cX2_noteRecord 120 = .ok (.aload_n 2, 1) := by decide +kernel
theorem dX2_noteRecord_121 : decode cX2_noteRecord 121 = .ok (.invokevirtual 92, 3) := by decide +kernel
theorem dX2_noteRecord_124 : decode cX2_noteRecord 124 = .ok (.return_, 1) := by decide +kernel
theorem dX2_noteRecord_125 : decode cX2_noteRecord 125 = .ok (.iload 4, 2) := by decide +kernel
theorem dX2_noteRecord_127 : decode cX2_noteRecord 127 = .ok (.ifCond .eq 59, 3) := by decide +kernel
theorem dX2_noteRecord_130 : decode cX2_noteRecord 130 = .ok (.iload 5, 2) := by decide +kernel
theorem dX2_noteRecord_132 : decode cX2_noteRecord 132 = .ok (.ifCond .ne 54, 3) := by decide +kernel
theorem dX2_noteRecord_135 : decode cX2_noteRecord 135 = .ok (.aload_n 2, 1) := by decide +kernel
theorem dX2_noteRecord_136 : decode cX2_noteRecord 136 = .ok (.iconst 1, 1) := by decide +kernel
theorem dX2_noteRecord_137 : decode cX2_noteRecord 137 = .ok (.iload_n 3, 1) := by decide +kernel
theorem dX2_noteRecord_138 : decode cX2_noteRecord 138 = .ok (.aload_n 1, 1) := by decide +kernel
theorem dX2_noteRecord_139 : decode cX2_noteRecord 139 = .ok (.getfield 56, 3) := by decide +kernel
theorem dX2_noteRecord_142 : decode cX2_noteRecord 142 = .ok (.aload_n 1, 1) := by decide +kernel
theorem dX2_noteRecord_143 : decode cX2_noteRecord 143 = .ok (.getfield 59, 3) := by decide +kernel
theorem dX2_noteRecord_146 : decode cX2_noteRecord 146 = .ok (.invokevirtual 95, 3) := by decide +kernel
theorem dX2_noteRecord_149 : decode cX2_noteRecord 149 = .ok (.return_, 1) := by decide +kernel
theorem dX2_noteRecord_150 : decode cX2_noteRecord 150 = .ok (.iload 4, 2) := by decide +kernel
theorem dX2_noteRecord_152 : decode cX2_noteRecord 152 = .ok (.ifCond .eq 34, 3) := by decide +kernel
theorem dX2_noteRecord_155 : decode cX2_noteRecord 155 = .ok (.iload 5, 2) := by decide +kernel
theorem dX2_noteRecord_157 : decode cX2_noteRecord 157 = .ok (.ifCond .eq 29, 3) := by decide +kernel
theorem dX2_noteRecord_160 : decode cX2_noteRecord 160 = .ok (.aload_n 2, 1) := by decide +kernel
theorem dX2_noteRecord_161 : decode cX2_noteRecord 161 = .ok (.iconst 2, 1) := by decide +kernel
theorem dX2_noteRecord_162 : decode cX2_noteRecord 162 = .ok (.iload_n 3, 1) := by decide +kernel
theorem dX2_noteRecord_163 : decode cX2_noteRecord 163 = .ok (.iconst (-1), 1) := by decide +kernel
theorem dX2_noteRecord_164 : decode cX2_noteRecord 164 = .ok (.lconst 0, 1) := by decide +kernel
theorem dX2_noteRecord_165 : decode cX2_noteRecord 165 = .ok (.invokevirtual 95, 3) := by decide +kernel
theorem dX2_noteRecord_168 : decode cX2_noteRecord 168 = .ok (.return_, 1) := by decide +kernel
theorem dX2_noteRecord_169 : decode cX2_noteRecord 169 = .ok (.goto 17, 3) := by decide +kernel
theorem dX2_noteRecord_172 : decode cX2_noteRecord 172 = .ok (.iload 4, 2) := by decide +kernel
theorem dX2_noteRecord_174 : decode cX2_noteRecord 174 = .ok (.ifCond .eq 12, 3) := by decide +kernel
theorem dX2_noteRecord_177 : decode cX2_noteRecord 177 = .ok (.aload_n 2, 1) := by decide +kernel
theorem dX2_noteRecord_178 : decode cX2_noteRecord 178 = .ok (.iconst 2, 1) := by decide +kernel
theorem dX2_noteRecord_179 : decode cX2_noteRecord 179 = .ok (.iload_n 3, 1) := by decide +kernel
theorem dX2_noteRecord_180 : decode cX2_noteRecord 180 = .ok (.iconst (-1), 1) := by decide +kernel
theorem dX2_noteRecord_181 : decode cX2_noteRecord 181 = .ok (.lconst 0, 1) := by decide +kernel
theorem dX2_noteRecord_182 : decode cX2_noteRecord 182 = .ok (.invokevirtual 95, 3) := by decide +kernel
theorem dX2_noteRecord_185 : decode cX2_noteRecord 185 = .ok (.return_, 1) := by decide +kernel
theorem dX2_noteRecord_186 : decode cX2_noteRecord 186 = .ok (.aload_n 2, 1) := by decide +kernel
theorem dX2_noteRecord_187 : decode cX2_noteRecord 187 = .ok (.invokevirtual 92, 3) := by decide +kernel
theorem dX2_noteRecord_190 : decode cX2_noteRecord 190 = .ok (.return_, 1) := by decide +kernel
theorem dX3_init_0 : decode cX3_init 0 = .ok (.aload_n 0, 1) := by decide +kernel
theorem dX3_init_1 : decode cX3_init 1 = .ok (.invokespecial 3, 3) := by decide +kernel
theorem dX3_init_4 : decode cX3_init 4 = .ok (.aload_n 0, 1) := by decide +kernel
theorem dX3_init_5 : decode cX3_init 5 = .ok (.aload_n 1, 1) := by decide +kernel
theorem dX3_init_6 : decode cX3_init 6 = .ok (.putfield 9, 3) := by decide +kernel
theorem dX3_init_9 : decode cX3_init 9 = .ok (.return_, 1) := by decide +kernel
theorem dX3_readFrom_0 : decode cX3_readFrom 0 = .ok (.aload_n 0, 1) := by decide +kernel
theorem dX3_readFrom_1 : decode cX3_readFrom 1 = .ok (.iload_n 1, 1) := by decide +kernel
theorem dX3_readFrom_2 : decode cX3_readFrom 2 = .ok (.putfield 15, 3) := by decide +kernel
theorem dX3_readFrom_5 : decode cX3_readFrom 5 = .ok (.aload_n 0, 1) := by decide +kernel
theorem dX3_readFrom_6 : decode cX3_readFrom 6 = .ok (.iconst 0, 1) := by decide +kernel
theorem dX3_readFrom_7 : decode cX3_readFrom 7 = .ok (.putfield 19, 3) := by decide +kernel
theorem dX3_readFrom_10 : decode cX3_readFrom 10 = .ok (.aload_n 0, 1) := by decide +kernel
theorem dX3_readFrom_11 : decode cX3_readFrom 11 = .ok (.iconst 1, 1) := by decide +kernel
theorem dX3_readFrom_12 : decode cX3_readFrom 12 = .ok (.putfield 22, 3) := by decide +kernel
theorem dX3_readFrom_15 : decode cX3_readFrom 15 = .ok (.aload_n 0, 1) := by decide +kernel
theorem dX3_readFrom_16 : decode cX3_readFrom 16 = .ok (.bipush 21, 2) := by decide +kernel
theorem dX3_readFrom_18 : decode cX3_readFrom 18 = .ok (.invokevirtual 26, 3) := by decide +kernel
theorem dX3_readFrom_21 : decode cX3_readFrom 21 = .ok (.aload_n 0, 1) := by decide +kernel
theorem dX3_readFrom_22 : decode cX3_readFrom 22 = .ok (.invokevirtual 30, 3) := by decide +kernel
theorem dX3_readFrom_25 : decode cX3_readFrom 25 = .ok (.istore_n 2, 1) := by decide +kernel
theorem dX3_readFrom_26 : decode cX3_readFrom 26 = .ok (.iload_n 2, 1) := by decide +kernel
theorem dX3_readFrom_27 : decode cX3_readFrom 27 = .ok (.sipush 242, 3) := by decide +kernel
theorem dX3_readFrom_30 : decode cX3_readFrom 30 = .ok (.iand, 1) := by decide +kernel
theorem dX3_readFrom_31 : decode cX3_readFrom 31 = .ok (.bipush 64, 2) := by decide +kernel
theorem dX3_readFrom_33 : decode cX3_readFrom 33 = .ok (.if_icmp .ne 13, 3) := by decide +kernel
theorem dX3_readFrom_36 : decode cX3_readFrom 36 = .ok (.aload_n 0, 1) := by decide +kernel
theorem dX3_readFrom_37 : decode cX3_readFrom 37 = .ok (.iload_n 2, 1) := by decide +kernel
theorem dX3_readFrom_38 : decode cX3_readFrom 38 = .ok (.putfield 19, 3) := by decide +kernel
theorem dX3_readFrom_41 : decode cX3_readFrom 41 = .ok (.aload_n 0, 1) := by decide +kernel
theorem dX3_readFrom_42 : decode cX3_readFrom 42 = .ok (.invokevirtual 30, 3) := by decide +kernel
theorem dX3_readFrom_45 : decode cX3_readFrom 45 = .ok (.istore_n 2, 1) := by decide +kernel
theorem dX3_readFrom_46 : decode cX3_readFrom 46 = .ok (.iload_n 2, 1) := by decide +kernel
theorem dX3_readFrom_47 : decode cX3_readFrom 47 = .ok (.bipush 15, 2) := by decide +kernel
theorem dX3_readFrom_49 : decode cX3_readFrom 49 = .ok (.if_icmp .ne 12, 3) := by decide +kernel
theorem dX3_readFrom_52 : decode cX3_readFrom 52 = .ok (.sipush 256, 3) := by decide +kernel
theorem dX3_readFrom_55 : decode cX3_readFrom 55 = .ok (.aload_n 0, 1) := by decide +kernel
theorem dX3_readFrom_56 : decode cX3_readFrom 56 = .ok (.invokevirtual 30, 3) := by decide +kernel
theorem dX3_readFrom_59 : decode cX3_readFrom 59 = .ok (.iadd, 1) := by decide +kernel
theorem dX3_readFrom_60 : decode cX3_readFrom 60 = .ok (.istore_n 2, 1) := by decide +kernel
theorem dX3_readFrom_61 : decode cX3_readFrom 61 = .ok (.aload_n 0, 1) := by decide +kernel
theorem dX3_readFrom_62 : decode cX3_readFrom 62 = .ok (.aload_n 0, 1) := by decide +kernel
theorem dX3_readFrom_63 : decode cX3_readFrom 63 = .ok (.getfield 19, 3) := by decide +kernel
theorem dX3_readFrom_66 : decode cX3_readFrom 66 = .ok (.bipush 8, 2) := by decide +kernel
theorem dX3_readFrom_68 : decode cX3_readFrom 68 = .ok (.iand, 1) := by decide +kernel
theorem dX3_readFrom_69 : decode cX3_readFrom 69 = .ok (.ifCond .eq 8, 3) := by decide +kernel
theorem dX3_readFrom_72 : decode cX3_readFrom 72 = .ok (.bipush 64, 2) := by decide +kernel
theorem dX3_readFrom_74 : decode cX3_readFrom 74 = .ok (.goto 5, 3) := by decide +kernel
theorem dX3_readFrom_77 : decode cX3_readFrom 77 = .ok (.bipush 32, 2) := by decide +kernel
theorem dX3_readFrom_79 : decode cX3_readFrom 79 = .ok (.putfield 34, 3) := by decide +kernel
theorem dX3_readFrom_82 : decode cX3_readFrom 82 = .ok (.iload_n 2, 1) := by decide +kernel
theorem dX3_readFrom_83 : decode cX3_readFrom 83 = .ok (.bipush 7, 2) := by decide +kernel
theorem dX3_readFrom_85 : decode cX3_readFrom 85 = .ok (.iand, 1) := by decide +kernel
theorem dX3_readFrom_86 : decode cX3_readFrom 86 = .ok (.istore_n 3, 1) := by decide +kernel
theorem dX3_readFrom_87 : decode cX3_readFrom 87 = .ok (.iload_n 2, 1) := by decide +kernel
theorem dX3_readFrom_88 : decode cX3_readFrom 88 = .ok (.bipush 64, 2) := by decide +kernel
theorem dX3_readFrom_90 : decode cX3_readFrom 90 = .ok (.if_icmp .ge 33, 3) := by decide +kernel
theorem dX3_readFrom_93 : decode cX3_readFrom 93 = .ok (.iload_n 3, 1) := by decide +kernel
theorem dX3_readFrom_94 : decode cX3_readFrom 94 = .ok (.iconst 1, 1) := by decide +kernel
theorem dX3_readFrom_95 : decode cX3_readFrom 95 = .ok (.if_icmp .eq 8, 3) := by decide +kernel
theorem dX3_readFrom_98 : decode cX3_readFrom 98 = .ok (.iload_n 3, 1) := by decide +kernel
theorem dX3_readFrom_99 : decode cX3_readFrom 99 = .ok (.iconst 3, 1) := by decide +kernel
theorem dX3_readFrom_100 : decode cX3_readFrom 100 = .ok (.if_icmp .ne 23, 3) := by decide +kernel
theorem dX3_readFrom_103 : decode cX3_readFrom 103 = .ok (.aload_n 0, 1) := by decide +kernel
theorem dX3_readFrom_104 : decode cX3_readFrom 104 = .ok (.iload_n 2, 1) := by decide +kernel
theorem dX3_readFrom_105 : decode cX3_readFrom 105 = .ok (.iconst 3, 1) := by decide +kernel
theorem dX3_readFrom_106 : decode cX3_readFrom 106 = .ok (.ishr, 1) := by decide +kernel
theorem dX3_readFrom_107 : decode cX3_readFrom 107 = .ok (.iload_n 3, 1) := by decide +kernel
theorem dX3_readFrom_108 : decode cX3_readFrom 108 = .ok (.iconst 1, 1) := by decide +kernel
theorem dX3_readFrom_109 : decode cX3_readFrom 109 = .ok (.if_icmp .ne 7, 3) := by decide +kernel
theorem dX3_readFrom_112 : decode cX3_readFrom 112 = .ok (.iconst 1, 1) := by decide +kernel
theorem dX3_readFrom_113 : decode cX3_readFrom 113 = .ok (.goto 4, 3) := by decide +kernel
theorem dX3_readFrom_116 : decode cX3_readFrom 116 = .ok (.iconst 0, 1) := by decide +kernel
theorem dX3_readFrom_117 : decode cX3_readFrom 117 = .ok (.invokevirtual 37, 3) := by decide +kernel
theorem dX3_readFrom_120 : decode cX3_readFrom 120 = .ok (.goto 73, 3) := by decide +kernel
theorem dX3_readFrom_123 : decode cX3_readFrom 123 = .ok (.iload_n 2, 1) := by decide +kernel
theorem dX3_readFrom_124 : decode cX3_readFrom 124 = .ok (.bipush (-16), 2) := by decide +kernel
theorem dX3_readFrom_126 : decode cX3_readFrom 126 = .ok (.iand, 1) := by decide +kernel
theorem dX3_readFrom_127 : decode cX3_readFrom 127 = .ok (.bipush 112, 2) := by decide +kernel
theorem dX3_readFrom_129 : decode cX3_readFrom 129 = .ok (.if_icmp .ne 17, 3) := by decide +kernel
theorem dX3_readFrom_132 : decode cX3_readFrom 132 = .ok (.aload_n 0, 1) := by decide +kernel
theorem dX3_readFrom_133 : decode cX3_readFrom 133 = .ok (.bipush 19, 2) := by decide +kernel
theorem dX3_readFrom_135 : decode cX3_readFrom 135 = .ok (.iload_n 2, 1) := by decide +kernel
theorem dX3_readFrom_136 : decode cX3_readFrom 136 = .ok (.bipush 15, 2) := by decide +kernel
theorem dX3_readFrom_138 : decode cX3_readFrom 138 = .ok (.iand, 1) := by decide +kernel
theorem dX3_readFrom_139 : decode cX3_readFrom 139 = .ok (.iconst 1, 1) := by decide +kernel
theorem dX3_readFrom_140 : decode cX3_readFrom 140 = .ok (.invokevirtual 41, 3) := by decide +kernel
theorem dX3_readFrom_143 : decode cX3_readFrom 143 = .ok (.goto 50, 3) := by decide +kernel
theorem dX3_readFrom_146 : decode cX3_readFrom 146 = .ok (.iload_n 2, 1) := by decide +kernel
theorem dX3_readFrom_147 : decode cX3_readFrom 147 = .ok (.bipush (-16), 2) := by decide +kernel
theorem dX3_readFrom_149 : decode cX3_readFrom 149 = .ok (.iand, 1) := by decide +kernel
theorem dX3_readFrom_150 : decode cX3_readFrom 150 = .ok (.sipush 384, 3) := by decide +kernel
theorem dX3_readFrom_153 : decode cX3_readFrom 153 = .ok (.if_icmp .ne 17, 3) := by decide +kernel
theorem dX3_readFrom_156 : decode cX3_readFrom 156 = .ok (.aload_n 0, 1) := by decide +kernel
theorem dX3_readFrom_157 : decode cX3_readFrom 157 = .ok (.bipush 19, 2) := by decide +kernel
theorem dX3_readFrom_159 : decode cX3_readFrom 159 = .ok (.iload_n 2, 1) := by decide +kernel
theorem dX3_readFrom_160 : decode cX3_readFrom 160 = .ok (.bipush 15, 2) := by decide +kernel
theorem dX3_readFrom_162 : decode cX3_readFrom 162 = .ok (.iand, 1) := by decide +kernel
theorem dX3_readFrom_163 : decode cX3_readFrom 163 = .ok (.iconst 4, 1) := by decide +kernel
theorem dX3_readFrom_164 : decode cX3_readFrom 164 = .ok (.invokevirtual 41, 3) := by decide +kernel
theorem dX3_readFrom_167 : decode cX3_readFrom 167 = .ok (.goto 26, 3) := by decide +kernel
theorem dX3_readFrom_170 : decode cX3_readFrom 170 = .ok (.iload_n 2, 1) := by decide +kernel
theorem dX3_readFrom_171 : decode cX3_readFrom 171 = .ok (.bipush (-8), 2) := by decide +kernel
theorem dX3_readFrom_173 : decode cX3_readFrom 173 = .ok (.iand, 1) := by decide +kernel
theorem dX3_readFrom_174 : decode cX3_readFrom 174 = .ok (.sipush 184, 3) := by decide +kernel
theorem dX3_readFrom_177 : decode cX3_readFrom 177 = .ok (.if_icmp .ne 11, 3) := by decide +kernel
theorem dX3_readFrom_180 : decode cX3_readFrom 180 = .ok (.aload_n 0, 1) := by decide +kernel
theorem dX3_readFrom_181 : decode cX3_readFrom 181 = .ok (.iload_n 3, 1) := by decide +kernel
theorem dX3_readFrom_182 : decode cX3_readFrom 182 = .ok (.invokevirtual 45, 3) := by decide +kernel
theorem dX3_readFrom_185 : decode cX3_readFrom 185 = .ok (.goto 8, 3) := by decide +kernel
theorem dX3_readFrom_188 : decode cX3_readFrom 188 = .ok (.aload_n 0, 1) := by decide +kernel
theorem dX3_readFrom_189 : decode cX3_readFrom 189 = .ok (.iload_n 2, 1) := by decide +kernel
theorem dX3_readFrom_190 : decode cX3_readFrom 190 = .ok (.invokevirtual 48, 3) := by decide +kernel
theorem dX3_readFrom_193 : decode cX3_readFrom 193 = .ok (.aload_n 0, 1) := by decide +kernel
theorem dX3_readFrom_194 : decode cX3_readFrom 194 = .ok (.aload_n 0, 1) := by decide +kernel
theorem dX3_readFrom_195 : decode cX3_readFrom 195 = .ok (.getfield 15, 3) := by decide +kernel
theorem dX3_readFrom_198 : decode cX3_readFrom 198 = .ok (.iload_n 1, 1) := by decide +kernel
theorem dX3_readFrom_199 : decode cX3_readFrom 199 = .ok (.isub, 1) := by decide +kernel
theorem dX3_readFrom_200 : decode cX3_readFrom 200 = .ok (.putfield 51, 3) := by decide +kernel
theorem dX3_readFrom_203 : decode cX3_readFrom 203 = .ok (.aload_n 0, 1) := by decide +kernel
theorem dX3_readFrom_204 : decode cX3_readFrom 204 = .ok (.getfield 54, 3) := by decide +kernel
theorem dX3_readFrom_207 : decode cX3_readFrom 207 = .ok (.bipush 19, 2) := by decide +kernel
theorem dX3_readFrom_209 : decode cX3_readFrom 209 = .ok (.if_icmp .lt 8, 3) := by decide +kernel
theorem dX3_readFrom_212 : decode cX3_readFrom 212 = .ok (.aload_n 0, 1) := by decide +kernel
theorem dX3_readFrom_213 : decode cX3_readFrom 213 = .ok (.iconst 0, 1) := by decide +kernel
theorem dX3_readFrom_214 : decode cX3_readFrom 214 = .ok (.putfield 34, 3) := by decide +kernel
theorem dX3_readFrom_217 : decode cX3_readFrom 217 = .ok (.aload_n 0, 1) := by decide +kernel
theorem dX3_readFrom_218 : decode cX3_readFrom 218 = .ok (.getfield 22, 3) := by decide +kernel
theorem dX3_readFrom_221 : decode cX3_readFrom 221 = .ok (.ifCond .eq 17, 3) := by decide +kernel
theorem dX3_readFrom_224 : decode cX3_readFrom 224 = .ok (.aload_n 0, 1) := by decide +kernel
theorem dX3_readFrom_225 : decode cX3_readFrom 225 = .ok (.invokevirtual 57, 3) := by decide +kernel
theorem dX3_readFrom_228 : decode cX3_readFrom 228 = .ok (.ifCond .ne 10, 3) := by decide +kernel
theorem dX3_readFrom_231 : decode cX3_readFrom 231 = .ok (.aload_n 0, 1) := by decide +kernel
theorem dX3_readFrom_232 : decode cX3_readFrom 232 = .ok (.invokevirtual 61, 3) := by decide +kernel
theorem dX3_readFrom_235 : decode cX3_readFrom 235 = .ok (.ifCond .eq 8, 3) := by decide +kernel
theorem dX3_readFrom_238 : decode cX3_readFrom 238 = .ok (.aload_n 0, 1) := by decide +kernel
theorem dX3_readFrom_239 : decode cX3_readFrom 239 = .ok (.iconst (-1), 1) := by decide +kernel
theorem dX3_readFrom_240 : decode cX3_readFrom 240 = .ok (.invokevirtual 26, 3) := by decide +kernel
theorem dX3_readFrom_243 : decode cX3_readFrom 243 = .ok (.return_, 1) := by decide +kernel
theorem dX3_tell_0 : decode cX3_tell 0 = .ok (.aload_n 0, 1) := by decide +kernel
theorem dX3_tell_1 : decode cX3_tell 1 = .ok (.getfield 54, 3) := by decide +kernel
theorem dX3_tell_4 : decode cX3_tell 4 = .ok (.iconst (-1), 1) := by decide +kernel
theorem dX3_tell_5 : decode cX3_tell 5 = .ok (.if_icmp .ne 5, 3) := by decide +kernel
theorem dX3_tell_8 : decode cX3_tell 8 = .ok (.iconst (-1), 1) := by decide +kernel
theorem dX3_tell_9 : decode cX3_tell 9 = .ok (.ireturn, 1) := by decide +kernel
theorem dX3_tell_10 : decode cX3_tell 10 = .ok (.iload_n 1, 1) := by decide +kernel
theorem dX3_tell_11 : decode cX3_tell 11 = .ok (.tableswitch 58 0 4 #[33, 38, 43, 48, 53], 33) := by decide +kernel
theorem dX3_tell_44 : decode cX3_tell 44 = .ok (.aload_n 0, 1) := by decide +kernel
theorem dX3_tell_45 : decode cX3_tell 45 = .ok (.getfield 51, 3) := by decide +kernel
theorem dX3_tell_48 : decode cX3_tell 48 = .ok (.ireturn, 1) := by decide +kernel
theorem dX3_tell_49 : decode cX3_tell 49 = .ok (.aload_n 0, 1) := by decide +kernel
theorem dX3_tell_50 : decode cX3_tell 50 = .ok (.getfield 54, 3) := by decide +kernel
theorem dX3_tell_53 : decode cX3_tell 53 = .ok (.ireturn, 1) := by decide +kernel
theorem dX3_tell_54 : decode cX3_tell 54 = .ok (.aload_n 0, 1) := by decide +kernel
theorem dX3_tell_55 : decode cX3_tell 55 = .ok (.getfield 34, 3) := by decide +kernel
theorem dX3_tell_58 : decode cX3_tell 58 = .ok (.ireturn, 1) := by decide +kernel
theorem dX3_tell_59 : decode cX3_tell 59 = .ok (.aload_n 0, 1) := by decide +kernel
theorem dX3_tell_60 : decode cX3_tell 60 = .ok (.getfield 64, 3) := by decide +kernel
theorem dX3_tell_63 : decode cX3_tell 63 = .ok (.ireturn, 1) := by decide +kernel
theorem dX3_tell_64 : decode cX3_tell 64 = .ok (.aload_n 0, 1) := by decide +kernel
theorem dX3_tell_65 : decode cX3_tell 65 = .ok (.getfield 67, 3) := by decide +kernel
theorem dX3_tell_68 : decode cX3_tell 68 = .ok (.ireturn, 1) := by decide +kernel
theorem dX3_tell_69 : decode cX3_tell 69 = .ok (.aload_n 0, 1) := by decide +kernel
theorem dX3_tell_70 : decode cX3_tell 70 = .ok (.getfield 70, 3) := by decide +kernel
theorem dX3_tell_73 : decode cX3_tell 73 = .ok (.ireturn, 1) := by decide +kernel
theorem dX3_becomePlain_0 : decode cX3_becomePlain 0 = .ok (.aload_n 0, 1) := by decide +kernel
theorem dX3_becomePlain_1 : decode cX3_becomePlain 1 = .ok (.iload_n 1, 1) := by decide +kernel
theorem dX3_becomePlain_2 : decode cX3_becomePlain 2 = .ok (.putfield 54, 3) := by decide +kernel
theorem dX3_becomePlain_5 : decode cX3_becomePlain 5 = .ok (.aload_n 0, 1) := by decide +kernel
theorem dX3_becomePlain_6 : decode cX3_becomePlain 6 = .ok (.iconst (-1), 1) := by decide +kernel
theorem dX3_becomePlain_7 : decode cX3_becomePlain 7 = .ok (.putfield 64, 3) := by decide +kernel
theorem dX3_becomePlain_10 : decode cX3_becomePlain 10 = .ok (.aload_n 0, 1) := by decide +kernel
theorem dX3_becomePlain_11 : decode cX3_becomePlain 11 = .ok (.iconst (-1), 1) := by decide +kernel
theorem dX3_becomePlain_12 : decode cX3_becomePlain 12 = .ok (.putfield 67, 3) := by decide +kernel
theorem dX3_becomePlain_15 : decode cX3_becomePlain 15 = .ok (.aload_n 0, 1) := by decide +kernel
theorem dX3_becomePlain_16 : decode cX3_becomePlain 16 = .ok (.iconst 0, 1) := by decide +kernel
theorem dX3_becomePlain_17 : decode cX3_becomePlain 17 = .ok (.putfield 70, 3) := by decide +kernel
theorem dX3_becomePlain_20 : decode cX3_becomePlain 20 = .ok (.aload_n 0, 1) := by decide +kernel
theorem dX3_becomePlain_21 : decode cX3_becomePlain 21 = .ok (.lconst 0, 1) := by decide +kernel
theorem dX3_becomePlain_22 : decode cX3_becomePlain 22 = .ok (.putfield 73, 3) := by decide +kernel
theorem dX3_becomePlain_25 : decode cX3_becomePlain 25 = .ok (.return_, 1) := by decide +kernel
theorem dX3_isFrameChanged_0 : decode cX3_isFrameChanged 0 = .ok (.aload_n 0, 1) := by decide +kernel
theorem dX3_isFrameChanged_1 : decode cX3_isFrameChanged 1 = .ok (.getfield 64, 3) := by decide +kernel
theorem dX3_isFrameChanged_4 : decode cX3_isFrameChanged 4 = .ok (.iconst 4, 1) := by decide +kernel
theorem dX3_isFrameChanged_5 : decode cX3_isFrameChanged 5 = .ok (.if_icmp .eq 11, 3) := by decide +kernel
theorem dX3_isFrameChanged_8 : decode cX3_isFrameChanged 8 = .ok (.aload_n 0, 1) := by decide +kernel
theorem dX3_isFrameChanged_9 : decode cX3_isFrameChanged 9 = .ok (.getfield 64, 3) := by decide +kernel
theorem dX3_isFrameChanged_12 : decode cX3_isFrameChanged 12 = .ok (.iconst 5, 1) := by decide +kernel
theorem dX3_isFrameChanged_13 : decode cX3_isFrameChanged 13 = .ok (.if_icmp .ne 25, 3) := by decide +kernel
theorem dX3_isFrameChanged_16 : decode cX3_isFrameChanged 16 = .ok (.aload_n 0, 1) := by decide +kernel
theorem dX3_isFrameChanged_17 : decode cX3_isFrameChanged 17 = .ok (.getfield 54, 3) := by decide +kernel
theorem dX3_isFrameChanged_20 : decode cX3_isFrameChanged 20 = .ok (.bipush 7, 2) := by decide +kernel
theorem dX3_isFrameChanged_22 : decode cX3_isFrameChanged 22 = .ok (.if_icmp .eq 16, 3) := by decide +kernel
theorem dX3_isFrameChanged_25 : decode cX3_isFrameChanged 25 = .ok (.aload_n 0, 1) := by decide +kernel
theorem dX3_isFrameChanged_26 : decode cX3_isFrameChanged 26 = .ok (.getfield 54, 3) := by decide +kernel
theorem dX3_isFrameChanged_29 : decode cX3_isFrameChanged 29 = .ok (.bipush 8, 2) := by decide +kernel
theorem dX3_isFrameChanged_31 : decode cX3_isFrameChanged 31 = .ok (.if_icmp .eq 7, 3) := by decide +kernel
theorem dX3_isFrameChanged_34 : decode cX3_isFrameChanged 34 = .ok (.iconst 1, 1) := by decide +kernel
theorem dX3_isFrameChanged_35 : decode cX3_isFrameChanged 35 = .ok (.goto 4, 3) := by decide +kernel
theorem dX3_isFrameChanged_38 : decode cX3_isFrameChanged 38 = .ok (.iconst 0, 1) := by decide +kernel
theorem dX3_isFrameChanged_39 : decode cX3_isFrameChanged 39 = .ok (.ireturn, 1) := by decide +kernel
theorem dX3_isCarryArithmetic_0 : decode cX3_isCarryArithmetic 0 = .ok (.aload_n 0, 1) := by decide +kernel
theorem dX3_isCarryArithmetic_1 : decode cX3_isCarryArithmetic 1 = .ok (.getfield 54, 3) := by decide +kernel
theorem dX3_isCarryArithmetic_4 : decode cX3_isCarryArithmetic 4 = .ok (.iconst 2, 1) := by decide +kernel
theorem dX3_isCarryArithmetic_5 : decode cX3_isCarryArithmetic 5 = .ok (.if_icmp .eq 11, 3) := by decide +kernel
theorem dX3_isCarryArithmetic_8 : decode cX3_isCarryArithmetic 8 = .ok (.aload_n 0, 1) := by decide +kernel
theorem dX3_isCarryArithmetic_9 : decode cX3_isCarryArithmetic 9 = .ok (.getfield 54, 3) := by decide +kernel
theorem dX3_isCarryArithmetic_12 : decode cX3_isCarryArithmetic 12 = .ok (.iconst 3, 1) := by decide +kernel
theorem dX3_isCarryArithmetic_13 : decode cX3_isCarryArithmetic 13 = .ok (.if_icmp .ne 7, 3) := by decide +kernel
theorem dX3_isCarryArithmetic_16 : decode cX3_isCarryArithmetic 16 = .ok (.iconst 1, 1) := by decide +kernel
theorem dX3_isCarryArithmetic_17 : decode cX3_isCarryArithmetic 17 = .ok (.goto 4, 3) := by decide +kernel
theorem dX3_isCarryArithmetic_20 : decode cX3_isCarryArithmetic 20 = .ok (.iconst 0, 1) := by decide +kernel
theorem dX3_isCarryArithmetic_21 : decode cX3_isCarryArithmetic 21 = .ok (.ireturn, 1) := by decide +kernel
theorem dX3_readOther_0 : decode cX3_readOther 0 = .ok (.iload_n 1, 1) := by decide +kernel
theorem dX3_readOther_1 : decode cX3_readOther 1 = .ok (.lookupswitch 279 #[(99, 139), (129, 146), (131, 154), (133, 162), (137, 172), (139, 182), (144, 192), (193, 201), (195, 208), (199, 217), (233, 224), (235, 235), (244, 246), (247, 255), (255, 262), (431, 269)], 139) := by decide +kernel
theorem dX3_readOther_140 : decode cX3_readOther 140 = .ok (.aload_n 0, 1) := by decide +kernel
theorem dX3_readOther_141 : decode cX3_readOther 141 = .ok (.invokevirtual 77, 3) := by decide +kernel
theorem dX3_readOther_144 : decode cX3_readOther 144 = .ok (.goto 141, 3) := by decide +kernel
theorem dX3_readOther_147 : decode cX3_readOther 147 = .ok (.aload_n 0, 1) := by decide +kernel
theorem dX3_readOther_148 : decode cX3_readOther 148 = .ok (.iconst 4, 1) := by decide +kernel
theorem dX3_readOther_149 : decode cX3_readOther 149 = .ok (.invokevirtual 80, 3) := by decide +kernel
theorem dX3_readOther_152 : decode cX3_readOther 152 = .ok (.goto 133, 3) := by decide +kernel
theorem dX3_readOther_155 : decode cX3_readOther 155 = .ok (.aload_n 0, 1) := by decide +kernel
theorem dX3_readOther_156 : decode cX3_readOther 156 = .ok (.iconst 1, 1) := by decide +kernel
theorem dX3_readOther_157 : decode cX3_readOther 157 = .ok (.invokevirtual 80, 3) := by decide +kernel
theorem dX3_readOther_160 : decode cX3_readOther 160 = .ok (.goto 125, 3) := by decide +kernel
theorem dX3_readOther_163 : decode cX3_readOther 163 = .ok (.aload_n 0, 1) := by decide +kernel
theorem dX3_readOther_164 : decode cX3_readOther 164 = .ok (.bipush 8, 2) := by decide +kernel
theorem dX3_readOther_166 : decode cX3_readOther 166 = .ok (.iconst 1, 1) := by decide +kernel
theorem dX3_readOther_167 : decode cX3_readOther 167 = .ok (.invokevirtual 37, 3) := by decide +kernel
theorem dX3_readOther_170 : decode cX3_readOther 170 = .ok (.goto 115, 3) := by decide +kernel
theorem dX3_readOther_173 : decode cX3_readOther 173 = .ok (.aload_n 0, 1) := by decide +kernel
theorem dX3_readOther_174 : decode cX3_readOther 174 = .ok (.bipush 13, 2) := by decide +kernel
theorem dX3_readOther_176 : decode cX3_readOther 176 = .ok (.iconst 1, 1) := by decide +kernel
theorem dX3_readOther_177 : decode cX3_readOther 177 = .ok (.invokevirtual 37, 3) := by decide +kernel
theorem dX3_readOther_180 : decode cX3_readOther 180 = .ok (.goto 105, 3) := by decide +kernel
theorem dX3_readOther_183 : decode cX3_readOther 183 = .ok (.aload_n 0, 1) := by decide +kernel
theorem dX3_readOther_184 : decode cX3_readOther 184 = .ok (.bipush 13, 2) := by decide +kernel
theorem dX3_readOther_186 : decode cX3_readOther 186 = .ok (.iconst 0, 1) := by decide +kernel
theorem dX3_readOther_187 : decode cX3_readOther 187 = .ok (.invokevirtual 37, 3) := by decide +kernel
theorem dX3_readOther_190 : decode cX3_readOther 190 = .ok (.goto 95, 3) := by decide +kernel
theorem dX3_readOther_193 : decode cX3_readOther 193 = .ok (.aload_n 0, 1) := by decide +kernel
theorem dX3_readOther_194 : decode cX3_readOther 194 = .ok (.bipush 21, 2) := by decide +kernel
theorem dX3_readOther_196 : decode cX3_readOther 196 = .ok (.putfield 54, 3) := by decide +kernel
theorem dX3_readOther_199 : decode cX3_readOther 199 = .ok (.goto 86, 3) := by decide +kernel
theorem dX3_readOther_202 : decode cX3_readOther 202 = .ok (.aload_n 0, 1) := by decide +kernel
theorem dX3_readOther_203 : decode cX3_readOther 203 = .ok (.invokevirtual 83, 3) := by decide +kernel
theorem dX3_readOther_206 : decode cX3_readOther 206 = .ok (.goto 79, 3) := by decide +kernel
theorem dX3_readOther_209 : decode cX3_readOther 209 = .ok (.aload_n 0, 1) := by decide +kernel
theorem dX3_readOther_210 : decode cX3_readOther 210 = .ok (.bipush 22, 2) := by decide +kernel
theorem dX3_readOther_212 : decode cX3_readOther 212 = .ok (.putfield 54, 3) := by decide +kernel
theorem dX3_readOther_215 : decode cX3_readOther 215 = .ok (.goto 70, 3) := by decide +kernel
theorem dX3_readOther_218 : decode cX3_readOther 218 = .ok (.aload_n 0, 1) := by decide +kernel
theorem dX3_readOther_219 : decode cX3_readOther 219 = .ok (.invokevirtual 86, 3) := by decide +kernel
theorem dX3_readOther_222 : decode cX3_readOther 222 = .ok (.goto 63, 3) := by decide +kernel
theorem dX3_readOther_225 : decode cX3_readOther 225 = .ok (.aload_n 0, 1) := by decide +kernel
theorem dX3_readOther_226 : decode cX3_readOther 226 = .ok (.bipush 20, 2) := by decide +kernel
theorem dX3_readOther_228 : decode cX3_readOther 228 = .ok (.iconst 0, 1) := by decide +kernel
theorem dX3_readOther_229 : decode cX3_readOther 229 = .ok (.iconst 4, 1) := by decide +kernel
theorem dX3_readOther_230 : decode cX3_readOther 230 = .ok (.invokevirtual 41, 3) := by decide +kernel
theorem dX3_readOther_233 : decode cX3_readOther 233 = .ok (.goto 52, 3) := by decide +kernel
theorem dX3_readOther_236 : decode cX3_readOther 236 = .ok (.aload_n 0, 1) := by decide +kernel
theorem dX3_readOther_237 : decode cX3_readOther 237 = .ok (.bipush 20, 2) := by decide +kernel
theorem dX3_readOther_239 : decode cX3_readOther 239 = .ok (.iconst 0, 1) := by decide +kernel
theorem dX3_readOther_240 : decode cX3_readOther 240 = .ok (.iconst 1, 1) := by decide +kernel
theorem dX3_readOther_241 : decode cX3_readOther 241 = .ok (.invokevirtual 41, 3) := by decide +kernel
theorem dX3_readOther_244 : decode cX3_readOther 244 = .ok (.goto 41, 3) := by decide +kernel
theorem dX3_readOther_247 : decode cX3_readOther 247 = .ok (.aload_n 0, 1) := by decide +kernel
theorem dX3_readOther_248 : decode cX3_readOther 248 = .ok (.bipush 22, 2) := by decide +kernel
theorem dX3_readOther_250 : decode cX3_readOther 250 = .ok (.putfield 54, 3) := by decide +kernel
theorem dX3_readOther_253 : decode cX3_readOther 253 = .ok (.goto 32, 3) := by decide +kernel
theorem dX3_readOther_256 : decode cX3_readOther 256 = .ok (.aload_n 0, 1) := by decide +kernel
theorem dX3_readOther_257 : decode cX3_readOther 257 = .ok (.invokevirtual 89, 3) := by decide +kernel
theorem dX3_readOther_260 : decode cX3_readOther 260 = .ok (.goto 25, 3) := by decide +kernel
theorem dX3_readOther_263 : decode cX3_readOther 263 = .ok (.aload_n 0, 1) := by decide +kernel
theorem dX3_readOther_264 : decode cX3_readOther 264 = .ok (.invokevirtual 92, 3) := by decide +kernel
theorem dX3_readOther_267 : decode cX3_readOther 267 = .ok (.goto 18, 3) := by decide +kernel
theorem dX3_readOther_270 : decode cX3_readOther 270 = .ok (.aload_n 0, 1) := by decide +kernel
theorem dX3_readOther_271 : decode cX3_readOther 271 = .ok (.bipush 17, 2) := by decide +kernel
theorem dX3_readOther_273 : decode cX3_readOther 273 = .ok (.iconst 0, 1) := by decide +kernel
theorem dX3_readOther_274 : decode cX3_readOther 274 = .ok (.invokevirtual 37, 3) := by decide +kernel
theorem dX3_readOther_277 : decode cX3_readOther 277 = .ok (.goto 8, 3) := by decide +kernel
theorem dX3_readOther_280 : decode cX3_readOther 280 = .ok (.aload_n 0, 1) := by decide +kernel
theorem dX3_readOther_281 : decode cX3_readOther 281 = .ok (.iconst 0, 1) := by decide +kernel
theorem dX3_readOther_282 : decode cX3_readOther 282 = .ok (.putfield 22, 3) := by decide +kernel
theorem dX3_readOther_285 : decode cX3_readOther 285 = .ok (.return_, 1) := by decide +kernel
theorem dX3_readPair_0 : decode cX3_readPair 0 = .ok (.aload_n 0, 1) := by decide +kernel
theorem dX3_readPair_1 : decode cX3_readPair 1 = .ok (.invokevirtual 95, 3) := by decide +kernel
theorem dX3_readPair_4 : decode cX3_readPair 4 = .ok (.aload_n 0, 1) := by decide +kernel
theorem dX3_readPair_5 : decode cX3_readPair 5 = .ok (.iload_n 1, 1) := by decide +kernel
theorem dX3_readPair_6 : decode cX3_readPair 6 = .ok (.putfield 54, 3) := by decide +kernel
theorem dX3_readPair_9 : decode cX3_readPair 9 = .ok (.aload_n 0, 1) := by decide +kernel
theorem dX3_readPair_10 : decode cX3_readPair 10 = .ok (.iload_n 2, 1) := by decide +kernel
theorem dX3_readPair_11 : decode cX3_readPair 11 = .ok (.ifCond .eq 10, 3) := by decide +kernel
theorem dX3_readPair_14 : decode cX3_readPair 14 = .ok (.aload_n 0, 1) := by decide +kernel
theorem dX3_readPair_15 : decode cX3_readPair 15 = .ok (.getfield 98, 3) := by decide +kernel
theorem dX3_readPair_18 : decode cX3_readPair 18 = .ok (.goto 7, 3) := by decide +kernel
theorem dX3_readPair_21 : decode cX3_readPair 21 = .ok (.aload_n 0, 1) := by decide +kernel
theorem dX3_readPair_22 : decode cX3_readPair 22 = .ok (.getfield 101, 3) := by decide +kernel
theorem dX3_readPair_25 : decode cX3_readPair 25 = .ok (.putfield 64, 3) := by decide +kernel
theorem dX3_readPair_28 : decode cX3_readPair 28 = .ok (.aload_n 0, 1) := by decide +kernel
theorem dX3_readPair_29 : decode cX3_readPair 29 = .ok (.iload_n 2, 1) := by decide +kernel
theorem dX3_readPair_30 : decode cX3_readPair 30 = .ok (.ifCond .eq 10, 3) := by decide +kernel
theorem dX3_readPair_33 : decode cX3_readPair 33 = .ok (.aload_n 0, 1) := by decide +kernel
theorem dX3_readPair_34 : decode cX3_readPair 34 = .ok (.getfield 101, 3) := by decide +kernel
theorem dX3_readPair_37 : decode cX3_readPair 37 = .ok (.goto 7, 3) := by decide +kernel
theorem dX3_readPair_40 : decode cX3_readPair 40 = .ok (.aload_n 0, 1) := by decide +kernel
theorem dX3_readPair_41 : decode cX3_readPair 41 = .ok (.getfield 98, 3) := by decide +kernel
theorem dX3_readPair_44 : decode cX3_readPair 44 = .ok (.putfield 67, 3) := by decide +kernel
theorem dX3_readPair_47 : decode cX3_readPair 47 = .ok (.return_, 1) := by decide +kernel
theorem dX3_readSignExtension_0 : decode cX3_readSignExtension 0 = .ok (.aload_n 0, 1) := by decide +kernel
theorem dX3_readSignExtension_1 : decode cX3_readSignExtension 1 = .ok (.invokevirtual 95, 3) := by decide +kernel
theorem dX3_readSignExtension_4 : decode cX3_readSignExtension 4 = .ok (.aload_n 0, 1) := by decide +kernel
theorem dX3_readSignExtension_5 : decode cX3_readSignExtension 5 = .ok (.bipush 18, 2) := by decide +kernel
theorem dX3_readSignExtension_7 : decode cX3_readSignExtension 7 = .ok (.putfield 54, 3) := by decide +kernel
theorem dX3_readSignExtension_10 : decode cX3_readSignExtension 10 = .ok (.aload_n 0, 1) := by decide +kernel
theorem dX3_readSignExtension_11 : decode cX3_readSignExtension 11 = .ok (.aload_n 0, 1) := by decide +kernel
theorem dX3_readSignExtension_12 : decode cX3_readSignExtension 12 = .ok (.getfield 101, 3) := by decide +kernel
theorem dX3_readSignExtension_15 : decode cX3_readSignExtension 15 = .ok (.putfield 64, 3) := by decide +kernel
theorem dX3_readSignExtension_18 : decode cX3_readSignExtension 18 = .ok (.aload_n 0, 1) := by decide +kernel
theorem dX3_readSignExtension_19 : decode cX3_readSignExtension 19 = .ok (.aload_n 0, 1) := by decide +kernel
theorem dX3_readSignExtension_20 : decode cX3_readSignExtension 20 = .ok (.getfield 98, 3) := by decide +kernel
theorem dX3_readSignExtension_23 : decode cX3_readSignExtension 23 = .ok (.putfield 67, 3) := by decide +kernel
theorem dX3_readSignExtension_26 : decode cX3_readSignExtension 26 = .ok (.aload_n 0, 1) := by decide +kernel
theorem dX3_readSignExtension_27 : decode cX3_readSignExtension 27 = .ok (.getfield 34, 3) := by decide +kernel
theorem dX3_readSignExtension_30 : decode cX3_readSignExtension 30 = .ok (.bipush 64, 2) := by decide +kernel
theorem dX3_readSignExtension_32 : decode cX3_readSignExtension 32 = .ok (.if_icmp .ne 12, 3) := by decide +kernel
theorem dX3_readSignExtension_35 : decode cX3_readSignExtension 35 = .ok (.aload_n 0, 1) := by decide +kernel
theorem dX3_readSignExtension_36 : decode cX3_readSignExtension 36 = .ok (.getfield 98, 3) := by decide +kernel
theorem dX3_readSignExtension_39 : decode cX3_readSignExtension 39 = .ok (.bipush 16, 2) := by decide +kernel
theorem dX3_readSignExtension_41 : decode cX3_readSignExtension 41 = .ok (.if_icmp .lt 8, 3) := by decide +kernel
theorem dX3_readSignExtension_44 : decode cX3_readSignExtension 44 = .ok (.aload_n 0, 1) := by decide +kernel
theorem dX3_readSignExtension_45 : decode cX3_readSignExtension 45 = .ok (.iconst 0, 1) := by decide +kernel
theorem dX3_readSignExtension_46 : decode cX3_readSignExtension 46 = .ok (.putfield 22, 3) := by decide +kernel
theorem dX3_readSignExtension_49 : decode cX3_readSignExtension 49 = .ok (.return_, 1) := by decide +kernel
theorem dX3_readArithmeticWithConstant_0 : decode cX3_readArithmeticWithConstant 0 = .ok (.aload_n 0, 1) := by decide +kernel
theorem dX3_readArithmeticWithConstant_1 : decode cX3_readArithmeticWithConstant 1 = .ok (.invokevirtual 95, 3) := by decide +kernel
theorem dX3_readArithmeticWithConstant_4 : decode cX3_readArithmeticWithConstant 4 = .ok (.aload_n 0, 1) := by decide +kernel
theorem dX3_readArithmeticWithConstant_5 : decode cX3_readArithmeticWithConstant 5 = .ok (.aload_n 0, 1) := by decide +kernel
theorem dX3_readArithmeticWithConstant_6 : decode cX3_readArithmeticWithConstant 6 = .ok (.getfield 104, 3) := by decide +kernel
theorem dX3_readArithmeticWithConstant_9 : decode cX3_readArithmeticWithConstant 9 = .ok (.putfield 54, 3) := by decide +kernel
theorem dX3_readArithmeticWithConstant_12 : decode cX3_readArithmeticWithConstant 12 = .ok (.aload_n 0, 1) := by decide +kernel
theorem dX3_readArithmeticWithConstant_13 : decode cX3_readArithmeticWithConstant 13 = .ok (.aload_n 0, 1) := by decide +kernel
theorem dX3_readArithmeticWithConstant_14 : decode cX3_readArithmeticWithConstant 14 = .ok (.getfield 98, 3) := by decide +kernel
theorem dX3_readArithmeticWithConstant_17 : decode cX3_readArithmeticWithConstant 17 = .ok (.putfield 64, 3) := by decide +kernel
theorem dX3_readArithmeticWithConstant_20 : decode cX3_readArithmeticWithConstant 20 = .ok (.aload_n 0, 1) := by decide +kernel
theorem dX3_readArithmeticWithConstant_21 : decode cX3_readArithmeticWithConstant 21 = .ok (.aload_n 0, 1) := by decide +kernel
theorem dX3_readArithmeticWithConstant_22 : decode cX3_readArithmeticWithConstant 22 = .ok (.iload_n 1, 1) := by decide +kernel
theorem dX3_readArithmeticWithConstant_23 : decode cX3_readArithmeticWithConstant 23 = .ok (.invokevirtual 107, 3) := by decide +kernel
theorem dX3_readArithmeticWithConstant_26 : decode cX3_readArithmeticWithConstant 26 = .ok (.putfield 73, 3) := by decide +kernel
theorem dX3_readArithmeticWithConstant_29 : decode cX3_readArithmeticWithConstant 29 = .ok (.return_, 1) := by decide +kernel
theorem dX3_readShift_0 : decode cX3_readShift 0 = .ok (.aload_n 0, 1) := by decide +kernel
theorem dX3_readShift_1 : decode cX3_readShift 1 = .ok (.invokevirtual 95, 3) := by decide +kernel
theorem dX3_readShift_4 : decode cX3_readShift 4 = .ok (.aload_n 0, 1) := by decide +kernel
theorem dX3_readShift_5 : decode cX3_readShift 5 = .ok (.aload_n 0, 1) := by decide +kernel
theorem dX3_readShift_6 : decode cX3_readShift 6 = .ok (.getfield 98, 3) := by decide +kernel
theorem dX3_readShift_9 : decode cX3_readShift 9 = .ok (.putfield 64, 3) := by decide +kernel
theorem dX3_readShift_12 : decode cX3_readShift 12 = .ok (.aload_n 0, 1) := by decide +kernel
theorem dX3_readShift_13 : decode cX3_readShift 13 = .ok (.aload_n 0, 1) := by decide +kernel
theorem dX3_readShift_14 : decode cX3_readShift 14 = .ok (.iconst 1, 1) := by decide +kernel
theorem dX3_readShift_15 : decode cX3_readShift 15 = .ok (.invokevirtual 107, 3) := by decide +kernel
theorem dX3_readShift_18 : decode cX3_readShift 18 = .ok (.putfield 73, 3) := by decide +kernel
theorem dX3_readShift_21 : decode cX3_readShift 21 = .ok (.aload_n 0, 1) := by decide +kernel
theorem dX3_readShift_22 : decode cX3_readShift 22 = .ok (.aload_n 0, 1) := by decide +kernel
theorem dX3_readShift_23 : decode cX3_readShift 23 = .ok (.getfield 73, 3) := by decide +kernel
theorem dX3_readShift_26 : decode cX3_readShift 26 = .ok (.l2i, 1) := by decide +kernel
theorem dX3_readShift_27 : decode cX3_readShift 27 = .ok (.aload_n 0, 1) := by decide +kernel
theorem dX3_readShift_28 : decode cX3_readShift 28 = .ok (.getfield 34, 3) := by decide +kernel
theorem dX3_readShift_31 : decode cX3_readShift 31 = .ok (.iconst 1, 1) := by decide +kernel
theorem dX3_readShift_32 : decode cX3_readShift 32 = .ok (.isub, 1) := by decide +kernel
theorem dX3_readShift_33 : decode cX3_readShift 33 = .ok (.iand, 1) := by decide +kernel
theorem dX3_readShift_34 : decode cX3_readShift 34 = .ok (.putfield 70, 3) := by decide +kernel
theorem dX3_readShift_37 : decode cX3_readShift 37 = .ok (.aload_n 0, 1) := by decide +kernel
theorem dX3_readShift_38 : decode cX3_readShift 38 = .ok (.getfield 104, 3) := by decide +kernel
theorem dX3_readShift_41 : decode cX3_readShift 41 = .ok (.tableswitch 58 4 7 #[31, 40, 58, 49], 31) := by decide +kernel
theorem dX3_readShift_72 : decode cX3_readShift 72 = .ok (.aload_n 0, 1) := by decide +kernel
theorem dX3_readShift_73 : decode cX3_readShift 73 = .ok (.bipush 14, 2) := by decide +kernel
theorem dX3_readShift_75 : decode cX3_readShift 75 = .ok (.putfield 54, 3) := by decide +kernel
theorem dX3_readShift_78 : decode cX3_readShift 78 = .ok (.goto 26, 3) := by decide +kernel
theorem dX3_readShift_81 : decode cX3_readShift 81 = .ok (.aload_n 0, 1) := by decide +kernel
theorem dX3_readShift_82 : decode cX3_readShift 82 = .ok (.bipush 15, 2) := by decide +kernel
theorem dX3_readShift_84 : decode cX3_readShift 84 = .ok (.putfield 54, 3) := by decide +kernel
theorem dX3_readShift_87 : decode cX3_readShift 87 = .ok (.goto 17, 3) := by decide +kernel
theorem dX3_readShift_90 : decode cX3_readShift 90 = .ok (.aload_n 0, 1) := by decide +kernel
theorem dX3_readShift_91 : decode cX3_readShift 91 = .ok (.bipush 16, 2) := by decide +kernel
theorem dX3_readShift_93 : decode cX3_readShift 93 = .ok (.putfield 54, 3) := by decide +kernel
theorem dX3_readShift_96 : decode cX3_readShift 96 = .ok (.goto 8, 3) := by decide +kernel
theorem dX3_readShift_99 : decode cX3_readShift 99 = .ok (.aload_n 0, 1) := by decide +kernel
theorem dX3_readShift_100 : decode cX3_readShift 100 = .ok (.iconst 0, 1) := by decide +kernel
theorem dX3_readShift_101 : decode cX3_readShift 101 = .ok (.putfield 22, 3) := by decide +kernel
theorem dX3_readShift_104 : decode cX3_readShift 104 = .ok (.return_, 1) := by decide +kernel
theorem dX3_readMoveToPlace_0 : decode cX3_readMoveToPlace 0 = .ok (.aload_n 0, 1) := by decide +kernel
theorem dX3_readMoveToPlace_1 : decode cX3_readMoveToPlace 1 = .ok (.invokevirtual 95, 3) := by decide +kernel
theorem dX3_readMoveToPlace_4 : decode cX3_readMoveToPlace 4 = .ok (.aload_n 0, 1) := by decide +kernel
theorem dX3_readMoveToPlace_5 : decode cX3_readMoveToPlace 5 = .ok (.bipush 13, 2) := by decide +kernel
theorem dX3_readMoveToPlace_7 : decode cX3_readMoveToPlace 7 = .ok (.putfield 54, 3) := by decide +kernel
theorem dX3_readMoveToPlace_10 : decode cX3_readMoveToPlace 10 = .ok (.aload_n 0, 1) := by decide +kernel
theorem dX3_readMoveToPlace_11 : decode cX3_readMoveToPlace 11 = .ok (.aload_n 0, 1) := by decide +kernel
theorem dX3_readMoveToPlace_12 : decode cX3_readMoveToPlace 12 = .ok (.getfield 98, 3) := by decide +kernel
theorem dX3_readMoveToPlace_15 : decode cX3_readMoveToPlace 15 = .ok (.putfield 64, 3) := by decide +kernel
theorem dX3_readMoveToPlace_18 : decode cX3_readMoveToPlace 18 = .ok (.aload_n 0, 1) := by decide +kernel
theorem dX3_readMoveToPlace_19 : decode cX3_readMoveToPlace 19 = .ok (.aload_n 0, 1) := by decide +kernel
theorem dX3_readMoveToPlace_20 : decode cX3_readMoveToPlace 20 = .ok (.iconst 4, 1) := by decide +kernel
theorem dX3_readMoveToPlace_21 : decode cX3_readMoveToPlace 21 = .ok (.invokevirtual 107, 3) := by decide +kernel
theorem dX3_readMoveToPlace_24 : decode cX3_readMoveToPlace 24 = .ok (.putfield 73, 3) := by decide +kernel
theorem dX3_readMoveToPlace_27 : decode cX3_readMoveToPlace 27 = .ok (.aload_n 0, 1) := by decide +kernel
theorem dX3_readMoveToPlace_28 : decode cX3_readMoveToPlace 28 = .ok (.getfield 104, 3) := by decide +kernel
theorem dX3_readMoveToPlace_31 : decode cX3_readMoveToPlace 31 = .ok (.ifCond .eq 8, 3) := by decide +kernel
theorem dX3_readMoveToPlace_34 : decode cX3_readMoveToPlace 34 = .ok (.aload_n 0, 1) := by decide +kernel
theorem dX3_readMoveToPlace_35 : decode cX3_readMoveToPlace 35 = .ok (.iconst 0, 1) := by decide +kernel
theorem dX3_readMoveToPlace_36 : decode cX3_readMoveToPlace 36 = .ok (.putfield 22, 3) := by decide +kernel
theorem dX3_readMoveToPlace_39 : decode cX3_readMoveToPlace 39 = .ok (.return_, 1) := by decide +kernel
theorem dX3_readMoveToRegister_0 : decode cX3_readMoveToRegister 0 = .ok (.aload_n 0, 1) := by decide +kernel
theorem dX3_readMoveToRegister_1 : decode cX3_readMoveToRegister 1 = .ok (.bipush 13, 2) := by decide +kernel
theorem dX3_readMoveToRegister_3 : decode cX3_readMoveToRegister 3 = .ok (.putfield 54, 3) := by decide +kernel
theorem dX3_readMoveToRegister_6 : decode cX3_readMoveToRegister 6 = .ok (.aload_n 0, 1) := by decide +kernel
theorem dX3_readMoveToRegister_7 : decode cX3_readMoveToRegister 7 = .ok (.aload_n 0, 1) := by decide +kernel
theorem dX3_readMoveToRegister_8 : decode cX3_readMoveToRegister 8 = .ok (.getfield 19, 3) := by decide +kernel
theorem dX3_readMoveToRegister_11 : decode cX3_readMoveToRegister 11 = .ok (.iconst 1, 1) := by decide +kernel
theorem dX3_readMoveToRegister_12 : decode cX3_readMoveToRegister 12 = .ok (.iand, 1) := by decide +kernel
theorem dX3_readMoveToRegister_13 : decode cX3_readMoveToRegister 13 = .ok (.ifCond .eq 10, 3) := by decide +kernel
theorem dX3_readMoveToRegister_16 : decode cX3_readMoveToRegister 16 = .ok (.iload_n 1, 1) := by decide +kernel
theorem dX3_readMoveToRegister_17 : decode cX3_readMoveToRegister 17 = .ok (.bipush 8, 2) := by decide +kernel
theorem dX3_readMoveToRegister_19 : decode cX3_readMoveToRegister 19 = .ok (.iadd, 1) := by decide +kernel
theorem dX3_readMoveToRegister_20 : decode cX3_readMoveToRegister 20 = .ok (.goto 4, 3) := by decide +kernel
theorem dX3_readMoveToRegister_23 : decode cX3_readMoveToRegister 23 = .ok (.iload_n 1, 1) := by decide +kernel
theorem dX3_readMoveToRegister_24 : decode cX3_readMoveToRegister 24 = .ok (.putfield 64, 3) := by decide +kernel
theorem dX3_readMoveToRegister_27 : decode cX3_readMoveToRegister 27 = .ok (.aload_n 0, 1) := by decide +kernel
theorem dX3_readMoveToRegister_28 : decode cX3_readMoveToRegister 28 = .ok (.aload_n 0, 1) := by decide +kernel
theorem dX3_readMoveToRegister_29 : decode cX3_readMoveToRegister 29 = .ok (.aload_n 0, 1) := by decide +kernel
theorem dX3_readMoveToRegister_30 : decode cX3_readMoveToRegister 30 = .ok (.getfield 34, 3) := by decide +kernel
theorem dX3_readMoveToRegister_33 : decode cX3_readMoveToRegister 33 = .ok (.bipush 64, 2) := by decide +kernel
theorem dX3_readMoveToRegister_35 : decode cX3_readMoveToRegister 35 = .ok (.if_icmp .ne 8, 3) := by decide +kernel
theorem dX3_readMoveToRegister_38 : decode cX3_readMoveToRegister 38 = .ok (.bipush 8, 2) := by decide +kernel
theorem dX3_readMoveToRegister_40 : decode cX3_readMoveToRegister 40 = .ok (.goto 4, 3) := by decide +kernel
theorem dX3_readMoveToRegister_43 : decode cX3_readMoveToRegister 43 = .ok (.iconst 4, 1) := by decide +kernel
theorem dX3_readMoveToRegister_44 : decode cX3_readMoveToRegister 44 = .ok (.invokevirtual 107, 3) := by decide +kernel
theorem dX3_readMoveToRegister_47 : decode cX3_readMoveToRegister 47 = .ok (.putfield 73, 3) := by decide +kernel
theorem dX3_readMoveToRegister_50 : decode cX3_readMoveToRegister 50 = .ok (.return_, 1) := by decide +kernel
theorem dX3_readTestNotNeg_0 : decode cX3_readTestNotNeg 0 = .ok (.aload_n 0, 1) := by decide +kernel
theorem dX3_readTestNotNeg_1 : decode cX3_readTestNotNeg 1 = .ok (.invokevirtual 95, 3) := by decide +kernel
theorem dX3_readTestNotNeg_4 : decode cX3_readTestNotNeg 4 = .ok (.aload_n 0, 1) := by decide +kernel
theorem dX3_readTestNotNeg_5 : decode cX3_readTestNotNeg 5 = .ok (.aload_n 0, 1) := by decide +kernel
theorem dX3_readTestNotNeg_6 : decode cX3_readTestNotNeg 6 = .ok (.getfield 98, 3) := by decide +kernel
theorem dX3_readTestNotNeg_9 : decode cX3_readTestNotNeg 9 = .ok (.putfield 64, 3) := by decide +kernel
theorem dX3_readTestNotNeg_12 : decode cX3_readTestNotNeg 12 = .ok (.aload_n 0, 1) := by decide +kernel
theorem dX3_readTestNotNeg_13 : decode cX3_readTestNotNeg 13 = .ok (.getfield 104, 3) := by decide +kernel
theorem dX3_readTestNotNeg_16 : decode cX3_readTestNotNeg 16 = .ok (.tableswitch 68 0 3 #[32, 68, 50, 59], 32) := by decide +kernel
theorem dX3_readTestNotNeg_48 : decode cX3_readTestNotNeg 48 = .ok (.aload_n 0, 1) := by decide +kernel
theorem dX3_readTestNotNeg_49 : decode cX3_readTestNotNeg 49 = .ok (.bipush 8, 2) := by decide +kernel
theorem dX3_readTestNotNeg_51 : decode cX3_readTestNotNeg 51 = .ok (.putfield 54, 3) := by decide +kernel
theorem dX3_readTestNotNeg_54 : decode cX3_readTestNotNeg 54 = .ok (.aload_n 0, 1) := by decide +kernel
theorem dX3_readTestNotNeg_55 : decode cX3_readTestNotNeg 55 = .ok (.aload_n 0, 1) := by decide +kernel
theorem dX3_readTestNotNeg_56 : decode cX3_readTestNotNeg 56 = .ok (.iconst 4, 1) := by decide +kernel
theorem dX3_readTestNotNeg_57 : decode cX3_readTestNotNeg 57 = .ok (.invokevirtual 107, 3) := by decide +kernel
theorem dX3_readTestNotNeg_60 : decode cX3_readTestNotNeg 60 = .ok (.putfield 73, 3) := by decide +kernel
theorem dX3_readTestNotNeg_63 : decode cX3_readTestNotNeg 63 = .ok (.goto 26, 3) := by decide +kernel
theorem dX3_readTestNotNeg_66 : decode cX3_readTestNotNeg 66 = .ok (.aload_n 0, 1) := by decide +kernel
theorem dX3_readTestNotNeg_67 : decode cX3_readTestNotNeg 67 = .ok (.bipush 9, 2) := by decide +kernel
theorem dX3_readTestNotNeg_69 : decode cX3_readTestNotNeg 69 = .ok (.putfield 54, 3) := by decide +kernel
theorem dX3_readTestNotNeg_72 : decode cX3_readTestNotNeg 72 = .ok (.goto 17, 3) := by decide +kernel
theorem dX3_readTestNotNeg_75 : decode cX3_readTestNotNeg 75 = .ok (.aload_n 0, 1) := by decide +kernel
theorem dX3_readTestNotNeg_76 : decode cX3_readTestNotNeg 76 = .ok (.bipush 10, 2) := by decide +kernel
theorem dX3_readTestNotNeg_78 : decode cX3_readTestNotNeg 78 = .ok (.putfield 54, 3) := by decide +kernel
theorem dX3_readTestNotNeg_81 : decode cX3_readTestNotNeg 81 = .ok (.goto 8, 3) := by decide +kernel
theorem dX3_readTestNotNeg_84 : decode cX3_readTestNotNeg 84 = .ok (.aload_n 0, 1) := by decide +kernel
theorem dX3_readTestNotNeg_85 : decode cX3_readTestNotNeg 85 = .ok (.iconst 0, 1) := by decide +kernel
theorem dX3_readTestNotNeg_86 : decode cX3_readTestNotNeg 86 = .ok (.putfield 22, 3) := by decide +kernel
theorem dX3_readTestNotNeg_89 : decode cX3_readTestNotNeg 89 = .ok (.return_, 1) := by decide +kernel
theorem dX3_readIncDec_0 : decode cX3_readIncDec 0 = .ok (.aload_n 0, 1) := by decide +kernel
theorem dX3_readIncDec_1 : decode cX3_readIncDec 1 = .ok (.invokevirtual 95, 3) := by decide +kernel
theorem dX3_readIncDec_4 : decode cX3_readIncDec 4 = .ok (.aload_n 0, 1) := by decide +kernel
theorem dX3_readIncDec_5 : decode cX3_readIncDec 5 = .ok (.aload_n 0, 1) := by decide +kernel
theorem dX3_readIncDec_6 : decode cX3_readIncDec 6 = .ok (.getfield 98, 3) := by decide +kernel
theorem dX3_readIncDec_9 : decode cX3_readIncDec 9 = .ok (.putfield 64, 3) := by decide +kernel
theorem dX3_readIncDec_12 : decode cX3_readIncDec 12 = .ok (.aload_n 0, 1) := by decide +kernel
theorem dX3_readIncDec_13 : decode cX3_readIncDec 13 = .ok (.aload_n 0, 1) := by decide +kernel
theorem dX3_readIncDec_14 : decode cX3_readIncDec 14 = .ok (.getfield 104, 3) := by decide +kernel
theorem dX3_readIncDec_17 : decode cX3_readIncDec 17 = .ok (.ifCond .ne 8, 3) := by decide +kernel
theorem dX3_readIncDec_20 : decode cX3_readIncDec 20 = .ok (.bipush 11, 2) := by decide +kernel
theorem dX3_readIncDec_22 : decode cX3_readIncDec 22 = .ok (.goto 5, 3) := by decide +kernel
theorem dX3_readIncDec_25 : decode cX3_readIncDec 25 = .ok (.bipush 12, 2) := by decide +kernel
theorem dX3_readIncDec_27 : decode cX3_readIncDec 27 = .ok (.putfield 54, 3) := by decide +kernel
theorem dX3_readIncDec_30 : decode cX3_readIncDec 30 = .ok (.aload_n 0, 1) := by decide +kernel
theorem dX3_readIncDec_31 : decode cX3_readIncDec 31 = .ok (.getfield 104, 3) := by decide +kernel
theorem dX3_readIncDec_34 : decode cX3_readIncDec 34 = .ok (.iconst 1, 1) := by decide +kernel
theorem dX3_readIncDec_35 : decode cX3_readIncDec 35 = .ok (.if_icmp .le 8, 3) := by decide +kernel
theorem dX3_readIncDec_38 : decode cX3_readIncDec 38 = .ok (.aload_n 0, 1) := by decide +kernel
theorem dX3_readIncDec_39 : decode cX3_readIncDec 39 = .ok (.iconst 0, 1) := by decide +kernel
theorem dX3_readIncDec_40 : decode cX3_readIncDec 40 = .ok (.putfield 22, 3) := by decide +kernel
theorem dX3_readIncDec_43 : decode cX3_readIncDec 43 = .ok (.return_, 1) := by decide +kernel
theorem dX3_readJump_0 : decode cX3_readJump 0 = .ok (.aload_n 0, 1) := by decide +kernel
theorem dX3_readJump_1 : decode cX3_readJump 1 = .ok (.iload_n 1, 1) := by decide +kernel
theorem dX3_readJump_2 : decode cX3_readJump 2 = .ok (.putfield 54, 3) := by decide +kernel
theorem dX3_readJump_5 : decode cX3_readJump 5 = .ok (.aload_n 0, 1) := by decide +kernel
theorem dX3_readJump_6 : decode cX3_readJump 6 = .ok (.iload_n 2, 1) := by decide +kernel
theorem dX3_readJump_7 : decode cX3_readJump 7 = .ok (.putfield 70, 3) := by decide +kernel
theorem dX3_readJump_10 : decode cX3_readJump 10 = .ok (.aload_n 0, 1) := by decide +kernel
theorem dX3_readJump_11 : decode cX3_readJump 11 = .ok (.iload_n 3, 1) := by decide +kernel
theorem dX3_readJump_12 : decode cX3_readJump 12 = .ok (.invokevirtual 107, 3) := by decide +kernel
theorem dX3_readJump_15 : decode cX3_readJump 15 = .ok (.lstore 4, 2) := by decide +kernel
theorem dX3_readJump_17 : decode cX3_readJump 17 = .ok (.aload_n 0, 1) := by decide +kernel
theorem dX3_readJump_18 : decode cX3_readJump 18 = .ok (.aload_n 0, 1) := by decide +kernel
theorem dX3_readJump_19 : decode cX3_readJump 19 = .ok (.getfield 15, 3) := by decide +kernel
theorem dX3_readJump_22 : decode cX3_readJump 22 = .ok (.i2l, 1) := by decide +kernel
theorem dX3_readJump_23 : decode cX3_readJump 23 = .ok (.lload 4, 2) := by decide +kernel
theorem dX3_readJump_25 : decode cX3_readJump 25 = .ok (.ladd, 1) := by decide +kernel
theorem dX3_readJump_26 : decode cX3_readJump 26 = .ok (.putfield 73, 3) := by decide +kernel
theorem dX3_readJump_29 : decode cX3_readJump 29 = .ok (.iload_n 2, 1) := by decide +kernel
theorem dX3_readJump_30 : decode cX3_readJump 30 = .ok (.bipush 14, 2) := by decide +kernel
theorem dX3_readJump_32 : decode cX3_readJump 32 = .ok (.iand, 1) := by decide +kernel
theorem dX3_readJump_33 : decode cX3_readJump 33 = .ok (.bipush 10, 2) := by decide +kernel
theorem dX3_readJump_35 : decode cX3_readJump 35 = .ok (.if_icmp .ne 8, 3) := by decide +kernel
theorem dX3_readJump_38 : decode cX3_readJump 38 = .ok (.aload_n 0, 1) := by decide +kernel
theorem dX3_readJump_39 : decode cX3_readJump 39 = .ok (.iconst 0, 1) := by decide +kernel
theorem dX3_readJump_40 : decode cX3_readJump 40 = .ok (.putfield 22, 3) := by decide +kernel
theorem dX3_readJump_43 : decode cX3_readJump 43 = .ok (.return_, 1) := by decide +kernel
theorem dX3_readPlace_0 : decode cX3_readPlace 0 = .ok (.aload_n 0, 1) := by decide +kernel
theorem dX3_readPlace_1 : decode cX3_readPlace 1 = .ok (.invokevirtual 30, 3) := by decide +kernel
theorem dX3_readPlace_4 : decode cX3_readPlace 4 = .ok (.istore_n 1, 1) := by decide +kernel
theorem dX3_readPlace_5 : decode cX3_readPlace 5 = .ok (.aload_n 0, 1) := by decide +kernel
theorem dX3_readPlace_6 : decode cX3_readPlace 6 = .ok (.getfield 19, 3) := by decide +kernel
theorem dX3_readPlace_9 : decode cX3_readPlace 9 = .ok (.iconst 1, 1) := by decide +kernel
theorem dX3_readPlace_10 : decode cX3_readPlace 10 = .ok (.iand, 1) := by decide +kernel
theorem dX3_readPlace_11 : decode cX3_readPlace 11 = .ok (.ifCond .eq 7, 3) := by decide +kernel
theorem dX3_readPlace_14 : decode cX3_readPlace 14 = .ok (.iconst 1, 1) := by decide +kernel
theorem dX3_readPlace_15 : decode cX3_readPlace 15 = .ok (.goto 4, 3) := by decide +kernel
theorem dX3_readPlace_18 : decode cX3_readPlace 18 = .ok (.iconst 0, 1) := by decide +kernel
theorem dX3_readPlace_19 : decode cX3_readPlace 19 = .ok (.istore_n 2, 1) := by decide +kernel
theorem dX3_readPlace_20 : decode cX3_readPlace 20 = .ok (.iload_n 1, 1) := by decide +kernel
theorem dX3_readPlace_21 : decode cX3_readPlace 21 = .ok (.bipush 7, 2) := by decide +kernel
theorem dX3_readPlace_23 : decode cX3_readPlace 23 = .ok (.iand, 1) := by decide +kernel
theorem dX3_readPlace_24 : decode cX3_readPlace 24 = .ok (.istore_n 3, 1) := by decide +kernel
theorem dX3_readPlace_25 : decode cX3_readPlace 25 = .ok (.aload_n 0, 1) := by decide +kernel
theorem dX3_readPlace_26 : decode cX3_readPlace 26 = .ok (.iload_n 1, 1) := by decide +kernel
theorem dX3_readPlace_27 : decode cX3_readPlace 27 = .ok (.iconst 3, 1) := by decide +kernel
theorem dX3_readPlace_28 : decode cX3_readPlace 28 = .ok (.ishr, 1) := by decide +kernel
theorem dX3_readPlace_29 : decode cX3_readPlace 29 = .ok (.bipush 7, 2) := by decide +kernel
theorem dX3_readPlace_31 : decode cX3_readPlace 31 = .ok (.iand, 1) := by decide +kernel
theorem dX3_readPlace_32 : decode cX3_readPlace 32 = .ok (.putfield 104, 3) := by decide +kernel
theorem dX3_readPlace_35 : decode cX3_readPlace 35 = .ok (.aload_n 0, 1) := by decide +kernel
theorem dX3_readPlace_36 : decode cX3_readPlace 36 = .ok (.aload_n 0, 1) := by decide +kernel
theorem dX3_readPlace_37 : decode cX3_readPlace 37 = .ok (.getfield 19, 3) := by decide +kernel
theorem dX3_readPlace_40 : decode cX3_readPlace 40 = .ok (.iconst 4, 1) := by decide +kernel
theorem dX3_readPlace_41 : decode cX3_readPlace 41 = .ok (.iand, 1) := by decide +kernel
theorem dX3_readPlace_42 : decode cX3_readPlace 42 = .ok (.ifCond .eq 13, 3) := by decide +kernel
theorem dX3_readPlace_45 : decode cX3_readPlace 45 = .ok (.aload_n 0, 1) := by decide +kernel
theorem dX3_readPlace_46 : decode cX3_readPlace 46 = .ok (.getfield 104, 3) := by decide +kernel
theorem dX3_readPlace_49 : decode cX3_readPlace 49 = .ok (.bipush 8, 2) := by decide +kernel
theorem dX3_readPlace_51 : decode cX3_readPlace 51 = .ok (.iadd, 1) := by decide +kernel
theorem dX3_readPlace_52 : decode cX3_readPlace 52 = .ok (.goto 7, 3) := by decide +kernel
theorem dX3_readPlace_55 : decode cX3_readPlace 55 = .ok (.aload_n 0, 1) := by decide +kernel
theorem dX3_readPlace_56 : decode cX3_readPlace 56 = .ok (.getfield 104, 3) := by decide +kernel
theorem dX3_readPlace_59 : decode cX3_readPlace 59 = .ok (.putfield 101, 3) := by decide +kernel
theorem dX3_readPlace_62 : decode cX3_readPlace 62 = .ok (.aload_n 0, 1) := by decide +kernel
theorem dX3_readPlace_63 : decode cX3_readPlace 63 = .ok (.iload_n 2, 1) := by decide +kernel
theorem dX3_readPlace_64 : decode cX3_readPlace 64 = .ok (.ifCond .eq 10, 3) := by decide +kernel
theorem dX3_readPlace_67 : decode cX3_readPlace 67 = .ok (.iload_n 3, 1) := by decide +kernel
theorem dX3_readPlace_68 : decode cX3_readPlace 68 = .ok (.bipush 8, 2) := by decide +kernel
theorem dX3_readPlace_70 : decode cX3_readPlace 70 = .ok (.iadd, 1) := by decide +kernel
theorem dX3_readPlace_71 : decode cX3_readPlace 71 = .ok (.goto 4, 3) := by decide +kernel
theorem dX3_readPlace_74 : decode cX3_readPlace 74 = .ok (.iload_n 3, 1) := by decide +kernel
theorem dX3_readPlace_75 : decode cX3_readPlace 75 = .ok (.putfield 98, 3) := by decide +kernel
theorem dX3_readPlace_78 : decode cX3_readPlace 78 = .ok (.iload_n 1, 1) := by decide +kernel
theorem dX3_readPlace_79 : decode cX3_readPlace 79 = .ok (.bipush 6, 2) := by decide +kernel
theorem dX3_readPlace_81 : decode cX3_readPlace 81 = .ok (.ishr, 1) := by decide +kernel
theorem dX3_readPlace_82 : decode cX3_readPlace 82 = .ok (.iconst 3, 1) := by decide +kernel
theorem dX3_readPlace_83 : decode cX3_readPlace 83 = .ok (.if_icmp .ne 4, 3) := by decide +kernel
theorem dX3_readPlace_86 : decode cX3_readPlace 86 = .ok (.return_, 1) := by decide +kernel
theorem dX3_readPlace_87 : decode cX3_readPlace 87 = .ok (.iload_n 1, 1) := by decide +kernel
theorem dX3_readPlace_88 : decode cX3_readPlace 88 = .ok (.bipush 6, 2) := by decide +kernel
theorem dX3_readPlace_90 : decode cX3_readPlace 90 = .ok (.ishr, 1) := by decide +kernel
theorem dX3_readPlace_91 : decode cX3_readPlace 91 = .ok (.iconst 1, 1) := by decide +kernel
theorem dX3_readPlace_92 : decode cX3_readPlace 92 = .ok (.if_icmp .ne 21, 3) := by decide +kernel
theorem dX3_readPlace_95 : decode cX3_readPlace 95 = .ok (.iload_n 3, 1) := by decide +kernel
theorem dX3_readPlace_96 : decode cX3_readPlace 96 = .ok (.iconst 5, 1) := by decide +kernel
theorem dX3_readPlace_97 : decode cX3_readPlace 97 = .ok (.if_icmp .ne 16, 3) := by decide +kernel
theorem dX3_readPlace_100 : decode cX3_readPlace 100 = .ok (.iload_n 2, 1) := by decide +kernel
theorem dX3_readPlace_101 : decode cX3_readPlace 101 = .ok (.ifCond .ne 12, 3) := by decide +kernel
theorem dX3_readPlace_104 : decode cX3_readPlace 104 = .ok (.aload_n 0, 1) := by decide +kernel
theorem dX3_readPlace_105 : decode cX3_readPlace 105 = .ok (.getfield 34, 3) := by decide +kernel
theorem dX3_readPlace_108 : decode cX3_readPlace 108 = .ok (.bipush 64, 2) := by decide +kernel
theorem dX3_readPlace_110 : decode cX3_readPlace 110 = .ok (.if_icmp .eq 9, 3) := by decide +kernel
theorem dX3_readPlace_113 : decode cX3_readPlace 113 = .ok (.aload_n 0, 1) := by decide +kernel
theorem dX3_readPlace_114 : decode cX3_readPlace 114 = .ok (.iconst 0, 1) := by decide +kernel
theorem dX3_readPlace_115 : decode cX3_readPlace 115 = .ok (.putfield 22, 3) := by decide +kernel
theorem dX3_readPlace_118 : decode cX3_readPlace 118 = .ok (.return_, 1) := by decide +kernel
theorem dX3_readPlace_119 : decode cX3_readPlace 119 = .ok (.aload_n 0, 1) := by decide +kernel
theorem dX3_readPlace_120 : decode cX3_readPlace 120 = .ok (.invokevirtual 30, 3) := by decide +kernel
theorem dX3_readPlace_123 : decode cX3_readPlace 123 = .ok (.i2b, 1) := by decide +kernel
theorem dX3_readPlace_124 : decode cX3_readPlace 124 = .ok (.istore 4, 2) := by decide +kernel
theorem dX3_readPlace_126 : decode cX3_readPlace 126 = .ok (.iload 4, 2) := by decide +kernel
theorem dX3_readPlace_128 : decode cX3_readPlace 128 = .ok (.bipush (-64), 2) := by decide +kernel
theorem dX3_readPlace_130 : decode cX3_readPlace 130 = .ok (.if_icmp .lt 18, 3) := by decide +kernel
theorem dX3_readPlace_133 : decode cX3_readPlace 133 = .ok (.iload 4, 2) := by decide +kernel
theorem dX3_readPlace_135 : decode cX3_readPlace 135 = .ok (.bipush (-8), 2) := by decide +kernel
theorem dX3_readPlace_137 : decode cX3_readPlace 137 = .ok (.if_icmp .gt 11, 3) := by decide +kernel
theorem dX3_readPlace_140 : decode cX3_readPlace 140 = .ok (.iload 4, 2) := by decide +kernel
theorem dX3_readPlace_142 : decode cX3_readPlace 142 = .ok (.bipush 8, 2) := by decide +kernel
theorem dX3_readPlace_144 : decode cX3_readPlace 144 = .ok (.irem, 1) := by decide +kernel
theorem dX3_readPlace_145 : decode cX3_readPlace 145 = .ok (.ifCond .eq 9, 3) := by decide +kernel
theorem dX3_readPlace_148 : decode cX3_readPlace 148 = .ok (.aload_n 0, 1) := by decide +kernel
theorem dX3_readPlace_149 : decode cX3_readPlace 149 = .ok (.iconst 0, 1) := by decide +kernel
theorem dX3_readPlace_150 : decode cX3_readPlace 150 = .ok (.putfield 22, 3) := by decide +kernel
theorem dX3_readPlace_153 : decode cX3_readPlace 153 = .ok (.return_, 1) := by decide +kernel
theorem dX3_readPlace_154 : decode cX3_readPlace 154 = .ok (.aload_n 0, 1) := by decide +kernel
theorem dX3_readPlace_155 : decode cX3_readPlace 155 = .ok (.bipush 15, 2) := by decide +kernel
theorem dX3_readPlace_157 : decode cX3_readPlace 157 = .ok (.iload 4, 2) := by decide +kernel
theorem dX3_readPlace_159 : decode cX3_readPlace 159 = .ok (.bipush 8, 2) := by decide +kernel
theorem dX3_readPlace_161 : decode cX3_readPlace 161 = .ok (.idiv, 1) := by decide +kernel
theorem dX3_readPlace_162 : decode cX3_readPlace 162 = .ok (.isub, 1) := by decide +kernel
theorem dX3_readPlace_163 : decode cX3_readPlace 163 = .ok (.putfield 98, 3) := by decide +kernel
theorem dX3_readPlace_166 : decode cX3_readPlace 166 = .ok (.return_, 1) := by decide +kernel
theorem dX3_readNumber_0 : decode cX3_readNumber 0 = .ok (.lconst 0, 1) := by decide +kernel
theorem dX3_readNumber_1 : decode cX3_readNumber 1 = .ok (.lstore_n 2, 1) := by decide +kernel
theorem dX3_readNumber_2 : decode cX3_readNumber 2 = .ok (.iconst 0, 1) := by decide +kernel
theorem dX3_readNumber_3 : decode cX3_readNumber 3 = .ok (.istore 4, 2) := by decide +kernel
theorem dX3_readNumber_5 : decode cX3_readNumber 5 = .ok (.iload 4, 2) := by decide +kernel
theorem dX3_readNumber_7 : decode cX3_readNumber 7 = .ok (.iload_n 1, 1) := by decide +kernel
theorem dX3_readNumber_8 : decode cX3_readNumber 8 = .ok (.if_icmp .ge 23, 3) := by decide +kernel
theorem dX3_readNumber_11 : decode cX3_readNumber 11 = .ok (.lload_n 2, 1) := by decide +kernel
theorem dX3_readNumber_12 : decode cX3_readNumber 12 = .ok (.aload_n 0, 1) := by decide +kernel
theorem dX3_readNumber_13 : decode cX3_readNumber 13 = .ok (.invokevirtual 30, 3) := by decide +kernel
theorem dX3_readNumber_16 : decode cX3_readNumber 16 = .ok (.i2l, 1) := by decide +kernel
theorem dX3_readNumber_17 : decode cX3_readNumber 17 = .ok (.bipush 8, 2) := by decide +kernel
theorem dX3_readNumber_19 : decode cX3_readNumber 19 = .ok (.iload 4, 2) := by decide +kernel
theorem dX3_readNumber_21 : decode cX3_readNumber 21 = .ok (.imul, 1) := by decide +kernel
theorem dX3_readNumber_22 : decode cX3_readNumber 22 = .ok (.lshl, 1) := by decide +kernel
theorem dX3_readNumber_23 : decode cX3_readNumber 23 = .ok (.lor, 1) := by decide +kernel
theorem dX3_readNumber_24 : decode cX3_readNumber 24 = .ok (.lstore_n 2, 1) := by decide +kernel
theorem dX3_readNumber_25 : decode cX3_readNumber 25 = .ok (.iinc 4 1, 3) := by decide +kernel
theorem dX3_readNumber_28 : decode cX3_readNumber 28 = .ok (.goto (-23), 3) := by decide +kernel
theorem dX3_readNumber_31 : decode cX3_readNumber 31 = .ok (.bipush 64, 2) := by decide +kernel
theorem dX3_readNumber_33 : decode cX3_readNumber 33 = .ok (.bipush 8, 2) := by decide +kernel
theorem dX3_readNumber_35 : decode cX3_readNumber 35 = .ok (.iload_n 1, 1) := by decide +kernel
theorem dX3_readNumber_36 : decode cX3_readNumber 36 = .ok (.imul, 1) := by decide +kernel
theorem dX3_readNumber_37 : decode cX3_readNumber 37 = .ok (.isub, 1) := by decide +kernel
theorem dX3_readNumber_38 : decode cX3_readNumber 38 = .ok (.istore 4, 2) := by decide +kernel
theorem dX3_readNumber_40 : decode cX3_readNumber 40 = .ok (.lload_n 2, 1) := by decide +kernel
theorem dX3_readNumber_41 : decode cX3_readNumber 41 = .ok (.iload 4, 2) := by decide +kernel
theorem dX3_readNumber_43 : decode cX3_readNumber 43 = .ok (.lshl, 1) := by decide +kernel
theorem dX3_readNumber_44 : decode cX3_readNumber 44 = .ok (.iload 4, 2) := by decide +kernel
theorem dX3_readNumber_46 : decode cX3_readNumber 46 = .ok (.lshr, 1) := by decide +kernel
theorem dX3_readNumber_47 : decode cX3_readNumber 47 = .ok (.lreturn, 1) := by decide +kernel
theorem dX3_nextByte_0 : decode cX3_nextByte 0 = .ok (.aload_n 0, 1) := by decide +kernel
theorem dX3_nextByte_1 : decode cX3_nextByte 1 = .ok (.getfield 15, 3) := by decide +kernel
theorem dX3_nextByte_4 : decode cX3_nextByte 4 = .ok (.ifCond .lt 17, 3) := by decide +kernel
theorem dX3_nextByte_7 : decode cX3_nextByte 7 = .ok (.aload_n 0, 1) := by decide +kernel
theorem dX3_nextByte_8 : decode cX3_nextByte 8 = .ok (.getfield 15, 3) := by decide +kernel
theorem dX3_nextByte_11 : decode cX3_nextByte 11 = .ok (.aload_n 0, 1) := by decide +kernel
theorem dX3_nextByte_12 : decode cX3_nextByte 12 = .ok (.getfield 9, 3) := by decide +kernel
theorem dX3_nextByte_15 : decode cX3_nextByte 15 = .ok (.getfield 111, 3) := by decide +kernel
theorem dX3_nextByte_18 : decode cX3_nextByte 18 = .ok (.if_icmp .lt 10, 3) := by decide +kernel
theorem dX3_nextByte_21 : decode cX3_nextByte 21 = .ok (.aload_n 0, 1) := by decide +kernel
theorem dX3_nextByte_22 : decode cX3_nextByte 22 = .ok (.iconst 0, 1) := by decide +kernel
theorem dX3_nextByte_23 : decode cX3_nextByte 23 = .ok (.putfield 22, 3) := by decide +kernel
theorem dX3_nextByte_26 : decode cX3_nextByte 26 = .ok (.iconst 0, 1) := by decide +kernel
theorem dX3_nextByte_27 : decode cX3_nextByte 27 = .ok (.ireturn, 1) := by decide +kernel
theorem dX3_nextByte_28 : decode cX3_nextByte 28 = .ok (.aload_n 0, 1) := by decide +kernel
theorem dX3_nextByte_29 : decode cX3_nextByte 29 = .ok (.getfield 9, 3) := by decide +kernel
theorem dX3_nextByte_32 : decode cX3_nextByte 32 = .ok (.getfield 116, 3) := by decide +kernel
theorem dX3_nextByte_35 : decode cX3_nextByte 35 = .ok (.aload_n 0, 1) := by decide +kernel
theorem dX3_nextByte_36 : decode cX3_nextByte 36 = .ok (.getfield 15, 3) := by decide +kernel
theorem dX3_nextByte_39 : decode cX3_nextByte 39 = .ok (.iaload, 1) := by decide +kernel
theorem dX3_nextByte_40 : decode cX3_nextByte 40 = .ok (.istore_n 1, 1) := by decide +kernel
theorem dX3_nextByte_41 : decode cX3_nextByte 41 = .ok (.aload_n 0, 1) := by decide +kernel
theorem dX3_nextByte_42 : decode cX3_nextByte 42 = .ok (.dup, 1) := by decide +kernel
theorem dX3_nextByte_43 : decode cX3_nextByte 43 = .ok (.getfield 15, 3) := by decide +kernel
theorem dX3_nextByte_46 : decode cX3_nextByte 46 = .ok (.iconst 1, 1) := by decide +kernel
theorem dX3_nextByte_47 : decode cX3_nextByte 47 = .ok (.iadd, 1) := by decide +kernel
theorem dX3_nextByte_48 : decode cX3_nextByte 48 = .ok (.putfield 15, 3) := by decide +kernel
theorem dX3_nextByte_51 : decode cX3_nextByte 51 = .ok (.iload_n 1, 1) := by decide +kernel
theorem dX3_nextByte_52 : decode cX3_nextByte 52 = .ok (.ireturn, 1) := by decide +kernel
theorem dX4_init_0 : decode cX4_init 0 = .ok (.aload_n 0, 1) := by decide +kernel
theorem dX4_init_1 : decode cX4_init 1 = .ok (.invokespecial 3, 3) := by decide +kernel
theorem dX4_init_4 : decode cX4_init 4 = .ok (.aload_n 0, 1) := by decide +kernel
theorem dX4_init_5 : decode cX4_init 5 = .ok (.sipush 200, 3) := by decide +kernel
theorem dX4_init_8 : decode cX4_init 8 = .ok (.anewarray 9, 3) := by decide +kernel
theorem dX4_init_11 : decode cX4_init 11 = .ok (.putfield 11, 3) := by decide +kernel
theorem dX4_init_14 : decode cX4_init 14 = .ok (.aload_n 0, 1) := by decide +kernel
theorem dX4_init_15 : decode cX4_init 15 = .ok (.new 17, 3) := by decide +kernel
theorem dX4_init_18 : decode cX4_init 18 = .ok (.dup, 1) := by decide +kernel
theorem dX4_init_19 : decode cX4_init 19 = .ok (.invokespecial 19, 3) := by decide +kernel
theorem dX4_init_22 : decode cX4_init 22 = .ok (.putfield 20, 3) := by decide +kernel
theorem dX4_init_25 : decode cX4_init 25 = .ok (.aload_n 0, 1) := by decide +kernel
theorem dX4_init_26 : decode cX4_init 26 = .ok (.new 24, 3) := by decide +kernel
theorem dX4_init_29 : decode cX4_init 29 = .ok (.dup, 1) := by decide +kernel
theorem dX4_init_30 : decode cX4_init 30 = .ok (.invokespecial 26, 3) := by decide +kernel
theorem dX4_init_33 : decode cX4_init 33 = .ok (.putfield 27, 3) := by decide +kernel
theorem dX4_init_36 : decode cX4_init 36 = .ok (.aload_n 0, 1) := by decide +kernel
theorem dX4_init_37 : decode cX4_init 37 = .ok (.new 31, 3) := by decide +kernel
theorem dX4_init_40 : decode cX4_init 40 = .ok (.dup, 1) := by decide +kernel
theorem dX4_init_41 : decode cX4_init 41 = .ok (.invokespecial 33, 3) := by decide +kernel
theorem dX4_init_44 : decode cX4_init 44 = .ok (.putfield 34, 3) := by decide +kernel
theorem dX4_init_47 : decode cX4_init 47 = .ok (.aload_n 0, 1) := by decide +kernel
theorem dX4_init_48 : decode cX4_init 48 = .ok (.new 38, 3) := by decide +kernel
theorem dX4_init_51 : decode cX4_init 51 = .ok (.dup, 1) := by decide +kernel
theorem dX4_init_52 : decode cX4_init 52 = .ok (.invokespecial 40, 3) := by decide +kernel
theorem dX4_init_55 : decode cX4_init 55 = .ok (.putfield 41, 3) := by decide +kernel
theorem dX4_init_58 : decode cX4_init 58 = .ok (.aload_n 0, 1) := by decide +kernel
theorem dX4_init_59 : decode cX4_init 59 = .ok (.new 38, 3) := by decide +kernel
theorem dX4_init_62 : decode cX4_init 62 = .ok (.dup, 1) := by decide +kernel
theorem dX4_init_63 : decode cX4_init 63 = .ok (.invokespecial 40, 3) := by decide +kernel
theorem dX4_init_66 : decode cX4_init 66 = .ok (.putfield 45, 3) := by decide +kernel
theorem dX4_init_69 : decode cX4_init 69 = .ok (.aload_n 0, 1) := by decide +kernel
theorem dX4_init_70 : decode cX4_init 70 = .ok (.new 38, 3) := by decide +kernel
theorem dX4_init_73 : decode cX4_init 73 = .ok (.dup, 1) := by decide +kernel
theorem dX4_init_74 : decode cX4_init 74 = .ok (.invokespecial 40, 3) := by decide +kernel
theorem dX4_init_77 : decode cX4_init 77 = .ok (.putfield 48, 3) := by decide +kernel
theorem dX4_init_80 : decode cX4_init 80 = .ok (.aload_n 0, 1) := by decide +kernel
theorem dX4_init_81 : decode cX4_init 81 = .ok (.aload_n 1, 1) := by decide +kernel
theorem dX4_init_82 : decode cX4_init 82 = .ok (.putfield 51, 3) := by decide +kernel
theorem dX4_init_85 : decode cX4_init 85 = .ok (.aload_n 0, 1) := by decide +kernel
theorem dX4_init_86 : decode cX4_init 86 = .ok (.aload_n 2, 1) := by decide +kernel
theorem dX4_init_87 : decode cX4_init 87 = .ok (.putfield 55, 3) := by decide +kernel
theorem dX4_init_90 : decode cX4_init 90 = .ok (.return_, 1) := by decide +kernel
theorem dX4_forget_0 : decode cX4_forget 0 = .ok (.iconst 0, 1) := by decide +kernel
theorem dX4_forget_1 : decode cX4_forget 1 = .ok (.istore_n 1, 1) := by decide +kernel
theorem dX4_forget_2 : decode cX4_forget 2 = .ok (.iload_n 1, 1) := by decide +kernel
theorem dX4_forget_3 : decode cX4_forget 3 = .ok (.sipush 200, 3) := by decide +kernel
theorem dX4_forget_6 : decode cX4_forget 6 = .ok (.if_icmp .ge 30, 3) := by decide +kernel
theorem dX4_forget_9 : decode cX4_forget 9 = .ok (.aload_n 0, 1) := by decide +kernel
theorem dX4_forget_10 : decode cX4_forget 10 = .ok (.getfield 11, 3) := by decide +kernel
theorem dX4_forget_13 : decode cX4_forget 13 = .ok (.iload_n 1, 1) := by decide +kernel
theorem dX4_forget_14 : decode cX4_forget 14 = .ok (.aaload, 1) := by decide +kernel
theorem dX4_forget_15 : decode cX4_forget 15 = .ok (.astore_n 2, 1) := by decide +kernel
theorem dX4_forget_16 : decode cX4_forget 16 = .ok (.aload_n 2, 1) := by decide +kernel
theorem dX4_forget_17 : decode cX4_forget 17 = .ok (.ifnull 13, 3) := by decide +kernel
theorem dX4_forget_20 : decode cX4_forget 20 = .ok (.aload_n 2, 1) := by decide +kernel
theorem dX4_forget_21 : decode cX4_forget 21 = .ok (.iconst 0, 1) := by decide +kernel
theorem dX4_forget_22 : decode cX4_forget 22 = .ok (.putfield 59, 3) := by decide +kernel
theorem dX4_forget_25 : decode cX4_forget 25 = .ok (.aload_n 2, 1) := by decide +kernel
theorem dX4_forget_26 : decode cX4_forget 26 = .ok (.iconst 0, 1) := by decide +kernel
theorem dX4_forget_27 : decode cX4_forget 27 = .ok (.putfield 63, 3) := by decide +kernel
theorem dX4_forget_30 : decode cX4_forget 30 = .ok (.iinc 1 1, 3) := by decide +kernel
theorem dX4_forget_33 : decode cX4_forget 33 = .ok (.goto (-31), 3) := by decide +kernel
theorem dX4_forget_36 : decode cX4_forget 36 = .ok (.return_, 1) := by decide +kernel
theorem dX4_timesGot_0 : decode cX4_timesGot 0 = .ok (.aload_n 0, 1) := by decide +kernel
theorem dX4_timesGot_1 : decode cX4_timesGot 1 = .ok (.iload_n 1, 1) := by decide +kernel
theorem dX4_timesGot_2 : decode cX4_timesGot 2 = .ok (.invokevirtual 67, 3) := by decide +kernel
theorem dX4_timesGot_5 : decode cX4_timesGot 5 = .ok (.astore_n 2, 1) := by decide +kernel
theorem dX4_timesGot_6 : decode cX4_timesGot 6 = .ok (.aload_n 2, 1) := by decide +kernel
theorem dX4_timesGot_7 : decode cX4_timesGot 7 = .ok (.ifnonnull 7, 3) := by decide +kernel
theorem dX4_timesGot_10 : decode cX4_timesGot 10 = .ok (.iconst 0, 1) := by decide +kernel
theorem dX4_timesGot_11 : decode cX4_timesGot 11 = .ok (.goto 7, 3) := by decide +kernel
theorem dX4_timesGot_14 : decode cX4_timesGot 14 = .ok (.aload_n 2, 1) := by decide +kernel
theorem dX4_timesGot_15 : decode cX4_timesGot 15 = .ok (.getfield 59, 3) := by decide +kernel
theorem dX4_timesGot_18 : decode cX4_timesGot 18 = .ok (.ireturn, 1) := by decide +kernel
theorem dX4_spanOf_0 : decode cX4_spanOf 0 = .ok (.aload_n 0, 1) := by decide +kernel
theorem dX4_spanOf_1 : decode cX4_spanOf 1 = .ok (.iload_n 1, 1) := by decide +kernel
theorem dX4_spanOf_2 : decode cX4_spanOf 2 = .ok (.invokevirtual 67, 3) := by decide +kernel
theorem dX4_spanOf_5 : decode cX4_spanOf 5 = .ok (.astore_n 3, 1) := by decide +kernel
theorem dX4_spanOf_6 : decode cX4_spanOf 6 = .ok (.aload_n 3, 1) := by decide +kernel
theorem dX4_spanOf_7 : decode cX4_spanOf 7 = .ok (.ifnonnull 13, 3) := by decide +kernel
theorem dX4_spanOf_10 : decode cX4_spanOf 10 = .ok (.aload_n 0, 1) := by decide +kernel
theorem dX4_spanOf_11 : decode cX4_spanOf 11 = .ok (.getfield 45, 3) := by decide +kernel
theorem dX4_spanOf_14 : decode cX4_spanOf 14 = .ok (.invokevirtual 71, 3) := by decide +kernel
theorem dX4_spanOf_17 : decode cX4_spanOf 17 = .ok (.goto 15, 3) := by decide +kernel
theorem dX4_spanOf_20 : decode cX4_spanOf 20 = .ok (.aload_n 3, 1) := by decide +kernel
theorem dX4_spanOf_21 : decode cX4_spanOf 21 = .ok (.getfield 74, 3) := by decide +kernel
theorem dX4_spanOf_24 : decode cX4_spanOf 24 = .ok (.iload_n 2, 1) := by decide +kernel
theorem dX4_spanOf_25 : decode cX4_spanOf 25 = .ok (.aload_n 0, 1) := by decide +kernel
theorem dX4_spanOf_26 : decode cX4_spanOf 26 = .ok (.getfield 45, 3) := by decide +kernel
theorem dX4_spanOf_29 : decode cX4_spanOf 29 = .ok (.invokevirtual 77, 3) := by decide +kernel
theorem dX4_spanOf_32 : decode cX4_spanOf 32 = .ok (.aload_n 0, 1) := by decide +kernel
theorem dX4_spanOf_33 : decode cX4_spanOf 33 = .ok (.getfield 45, 3) := by decide +kernel
theorem dX4_spanOf_36 : decode cX4_spanOf 36 = .ok (.areturn, 1) := by decide +kernel
theorem dX4_search_0 : decode cX4_search 0 = .ok (.aload_n 0, 1) := by decide +kernel
theorem dX4_search_1 : decode cX4_search 1 = .ok (.invokevirtual 81, 3) := by decide +kernel
theorem dX4_search_4 : decode cX4_search 4 = .ok (.aload_n 0, 1) := by decide +kernel
theorem dX4_search_5 : decode cX4_search 5 = .ok (.getfield 20, 3) := by decide +kernel
theorem dX4_search_8 : decode cX4_search 8 = .ok (.aload_n 1, 1) := by decide +kernel
theorem dX4_search_9 : decode cX4_search 9 = .ok (.invokevirtual 84, 3) := by decide +kernel
theorem dX4_search_12 : decode cX4_search 12 = .ok (.aload_n 0, 1) := by decide +kernel
theorem dX4_search_13 : decode cX4_search 13 = .ok (.iconst 0, 1) := by decide +kernel
theorem dX4_search_14 : decode cX4_search 14 = .ok (.lconst 0, 1) := by decide +kernel
theorem dX4_search_15 : decode cX4_search 15 = .ok (.invokevirtual 88, 3) := by decide +kernel
theorem dX4_search_18 : decode cX4_search 18 = .ok (.iconst 0, 1) := by decide +kernel
theorem dX4_search_19 : decode cX4_search 19 = .ok (.istore_n 2, 1) := by decide +kernel
theorem dX4_search_20 : decode cX4_search 20 = .ok (.iload_n 2, 1) := by decide +kernel
theorem dX4_search_21 : decode cX4_search 21 = .ok (.bipush 60, 2) := by decide +kernel
theorem dX4_search_23 : decode cX4_search 23 = .ok (.if_icmp .ge 55, 3) := by decide +kernel
theorem dX4_search_26 : decode cX4_search 26 = .ok (.iconst 1, 1) := by decide +kernel
theorem dX4_search_27 : decode cX4_search 27 = .ok (.istore_n 3, 1) := by decide +kernel
theorem dX4_search_28 : decode cX4_search 28 = .ok (.iconst 0, 1) := by decide +kernel
theorem dX4_search_29 : decode cX4_search 29 = .ok (.istore 4, 2) := by decide +kernel
theorem dX4_search_31 : decode cX4_search 31 = .ok (.iload 4, 2) := by decide +kernel
theorem dX4_search_33 : decode cX4_search 33 = .ok (.aload_n 0, 1) := by decide +kernel
theorem dX4_search_34 : decode cX4_search 34 = .ok (.getfield 51, 3) := by decide +kernel
theorem dX4_search_37 : decode cX4_search 37 = .ok (.getfield 92, 3) := by decide +kernel
theorem dX4_search_40 : decode cX4_search 40 = .ok (.if_icmp .ge 26, 3) := by decide +kernel
theorem dX4_search_43 : decode cX4_search 43 = .ok (.aload_n 0, 1) := by decide +kernel
theorem dX4_search_44 : decode cX4_search 44 = .ok (.iload 4, 2) := by decide +kernel
theorem dX4_search_46 : decode cX4_search 46 = .ok (.invokevirtual 97, 3) := by decide +kernel
theorem dX4_search_49 : decode cX4_search 49 = .ok (.ifCond .eq 11, 3) := by decide +kernel
theorem dX4_search_52 : decode cX4_search 52 = .ok (.iconst 0, 1) := by decide +kernel
theorem dX4_search_53 : decode cX4_search 53 = .ok (.istore_n 3, 1) := by decide +kernel
theorem dX4_search_54 : decode cX4_search 54 = .ok (.aload_n 0, 1) := by decide +kernel
theorem dX4_search_55 : decode cX4_search 55 = .ok (.iload 4, 2) := by decide +kernel
theorem dX4_search_57 : decode cX4_search 57 = .ok (.invokevirtual 101, 3) := by decide +kernel
theorem dX4_search_60 : decode cX4_search 60 = .ok (.iinc 4 1, 3) := by decide +kernel
theorem dX4_search_63 : decode cX4_search 63 = .ok (.goto (-32), 3) := by decide +kernel
theorem dX4_search_66 : decode cX4_search 66 = .ok (.iload_n 3, 1) := by decide +kernel
theorem dX4_search_67 : decode cX4_search 67 = .ok (.ifCond .eq 5, 3) := by decide +kernel
theorem dX4_search_70 : decode cX4_search 70 = .ok (.iload_n 2, 1) := by decide +kernel
theorem dX4_search_71 : decode cX4_search 71 = .ok (.ireturn, 1) := by decide +kernel
theorem dX4_search_72 : decode cX4_search 72 = .ok (.iinc 2 1, 3) := by decide +kernel
theorem dX4_search_75 : decode cX4_search 75 = .ok (.goto (-55), 3) := by decide +kernel
theorem dX4_search_78 : decode cX4_search 78 = .ok (.iconst 0, 1) := by decide +kernel
theorem dX4_search_79 : decode cX4_search 79 = .ok (.istore_n 2, 1) := by decide +kernel
theorem dX4_search_80 : decode cX4_search 80 = .ok (.iload_n 2, 1) := by decide +kernel
theorem dX4_search_81 : decode cX4_search 81 = .ok (.aload_n 0, 1) := by decide +kernel
theorem dX4_search_82 : decode cX4_search 82 = .ok (.getfield 51, 3) := by decide +kernel
theorem dX4_search_85 : decode cX4_search 85 = .ok (.getfield 92, 3) := by decide +kernel
theorem dX4_search_88 : decode cX4_search 88 = .ok (.if_icmp .ge 23, 3) := by decide +kernel
theorem dX4_search_91 : decode cX4_search 91 = .ok (.aload_n 0, 1) := by decide +kernel
theorem dX4_search_92 : decode cX4_search 92 = .ok (.iload_n 2, 1) := by decide +kernel
theorem dX4_search_93 : decode cX4_search 93 = .ok (.invokevirtual 97, 3) := by decide +kernel
theorem dX4_search_96 : decode cX4_search 96 = .ok (.ifCond .eq 9, 3) := by decide +kernel
theorem dX4_search_99 : decode cX4_search 99 = .ok (.aload_n 0, 1) := by decide +kernel
theorem dX4_search_100 : decode cX4_search 100 = .ok (.invokevirtual 81, 3) := by decide +kernel
theorem dX4_search_103 : decode cX4_search 103 = .ok (.iconst (-1), 1) := by decide +kernel
theorem dX4_search_104 : decode cX4_search 104 = .ok (.ireturn, 1) := by decide +kernel
theorem dX4_search_105 : decode cX4_search 105 = .ok (.iinc 2 1, 3) := by decide +kernel
theorem dX4_search_108 : decode cX4_search 108 = .ok (.goto (-28), 3) := by decide +kernel
theorem dX4_search_111 : decode cX4_search 111 = .ok (.bipush 60, 2) := by decide +kernel
theorem dX4_search_113 : decode cX4_search 113 = .ok (.ireturn, 1) := by decide +kernel
theorem dX4_pointIfMade_0 : decode cX4_pointIfMade 0 = .ok (.iload_n 1, 1) := by decide +kernel
theorem dX4_pointIfMade_1 : decode cX4_pointIfMade 1 = .ok (.ifCond .lt 19, 3) := by decide +kernel
theorem dX4_pointIfMade_4 : decode cX4_pointIfMade 4 = .ok (.iload_n 1, 1) := by decide +kernel
theorem dX4_pointIfMade_5 : decode cX4_pointIfMade 5 = .ok (.sipush 200, 3) := by decide +kernel
theorem dX4_pointIfMade_8 : decode cX4_pointIfMade 8 = .ok (.if_icmp .ge 12, 3) := by decide +kernel
theorem dX4_pointIfMade_11 : decode cX4_pointIfMade 11 = .ok (.aload_n 0, 1) := by decide +kernel
theorem dX4_pointIfMade_12 : decode cX4_pointIfMade 12 = .ok (.getfield 11, 3) := by decide +kernel
theorem dX4_pointIfMade_15 : decode cX4_pointIfMade 15 = .ok (.iload_n 1, 1) := by decide +kernel
theorem dX4_pointIfMade_16 : decode cX4_pointIfMade 16 = .ok (.aaload, 1) := by decide +kernel
theorem dX4_pointIfMade_17 : decode cX4_pointIfMade 17 = .ok (.goto 4, 3) := by decide +kernel
theorem dX4_pointIfMade_20 : decode cX4_pointIfMade 20 = .ok (.aconst_null, 1) := by decide +kernel
theorem dX4_pointIfMade_21 : decode cX4_pointIfMade 21 = .ok (.areturn, 1) := by decide +kernel
theorem dX4_isWaiting_0 : decode cX4_isWaiting 0 = .ok (.aload_n 0, 1) := by decide +kernel
theorem dX4_isWaiting_1 : decode cX4_isWaiting 1 = .ok (.iload_n 1, 1) := by decide +kernel
theorem dX4_isWaiting_2 : decode cX4_isWaiting 2 = .ok (.invokevirtual 67, 3) := by decide +kernel
theorem dX4_isWaiting_5 : decode cX4_isWaiting 5 = .ok (.astore_n 2, 1) := by decide +kernel
theorem dX4_isWaiting_6 : decode cX4_isWaiting 6 = .ok (.aload_n 2, 1) := by decide +kernel
theorem dX4_isWaiting_7 : decode cX4_isWaiting 7 = .ok (.ifnull 14, 3) := by decide +kernel
theorem dX4_isWaiting_10 : decode cX4_isWaiting 10 = .ok (.aload_n 2, 1) := by decide +kernel
theorem dX4_isWaiting_11 : decode cX4_isWaiting 11 = .ok (.getfield 63, 3) := by decide +kernel
theorem dX4_isWaiting_14 : decode cX4_isWaiting 14 = .ok (.ifCond .eq 7, 3) := by decide +kernel
theorem dX4_isWaiting_17 : decode cX4_isWaiting 17 = .ok (.iconst 1, 1) := by decide +kernel
theorem dX4_isWaiting_18 : decode cX4_isWaiting 18 = .ok (.goto 4, 3) := by decide +kernel
theorem dX4_isWaiting_21 : decode cX4_isWaiting 21 = .ok (.iconst 0, 1) := by decide +kernel
theorem dX4_isWaiting_22 : decode cX4_isWaiting 22 = .ok (.ireturn, 1) := by decide +kernel
theorem dX4_goThrough_0 : decode cX4_goThrough 0 = .ok (.aload_n 0, 1) := by decide +kernel
theorem dX4_goThrough_1 : decode cX4_goThrough 1 = .ok (.iload_n 1, 1) := by decide +kernel
theorem dX4_goThrough_2 : decode cX4_goThrough 2 = .ok (.invokevirtual 67, 3) := by decide +kernel
theorem dX4_goThrough_5 : decode cX4_goThrough 5 = .ok (.astore_n 2, 1) := by decide +kernel
theorem dX4_goThrough_6 : decode cX4_goThrough 6 = .ok (.aload_n 2, 1) := by decide +kernel
theorem dX4_goThrough_7 : decode cX4_goThrough 7 = .ok (.ifnonnull 4, 3) := by decide +kernel
theorem dX4_goThrough_10 : decode cX4_goThrough 10 = .ok (.return_, 1) := by decide +kernel
theorem dX4_goThrough_11 : decode cX4_goThrough 11 = .ok (.aload_n 2, 1) := by decide +kernel
theorem dX4_goThrough_12 : decode cX4_goThrough 12 = .ok (.iconst 0, 1) := by decide +kernel
theorem dX4_goThrough_13 : decode cX4_goThrough 13 = .ok (.putfield 63, 3) := by decide +kernel
theorem dX4_goThrough_16 : decode cX4_goThrough 16 = .ok (.aload_n 0, 1) := by decide +kernel
theorem dX4_goThrough_17 : decode cX4_goThrough 17 = .ok (.getfield 55, 3) := by decide +kernel
theorem dX4_goThrough_20 : decode cX4_goThrough 20 = .ok (.iload_n 1, 1) := by decide +kernel
theorem dX4_goThrough_21 : decode cX4_goThrough 21 = .ok (.invokevirtual 105, 3) := by decide +kernel
theorem dX4_goThrough_24 : decode cX4_goThrough 24 = .ok (.aload_n 0, 1) := by decide +kernel
theorem dX4_goThrough_25 : decode cX4_goThrough 25 = .ok (.getfield 55, 3) := by decide +kernel
theorem dX4_goThrough_28 : decode cX4_goThrough 28 = .ok (.getfield 110, 3) := by decide +kernel
theorem dX4_goThrough_31 : decode cX4_goThrough 31 = .ok (.istore_n 3, 1) := by decide +kernel
theorem dX4_goThrough_32 : decode cX4_goThrough 32 = .ok (.iload_n 3, 1) := by decide +kernel
theorem dX4_goThrough_33 : decode cX4_goThrough 33 = .ok (.iconst (-1), 1) := by decide +kernel
theorem dX4_goThrough_34 : decode cX4_goThrough 34 = .ok (.if_icmp .eq 9, 3) := by decide +kernel
theorem dX4_goThrough_37 : decode cX4_goThrough 37 = .ok (.iload_n 3, 1) := by decide +kernel
theorem dX4_goThrough_38 : decode cX4_goThrough 38 = .ok (.bipush 22, 2) := by decide +kernel
theorem dX4_goThrough_40 : decode cX4_goThrough 40 = .ok (.if_icmp .ne 4, 3) := by decide +kernel
theorem dX4_goThrough_43 : decode cX4_goThrough 43 = .ok (.return_, 1) := by decide +kernel
theorem dX4_goThrough_44 : decode cX4_goThrough 44 = .ok (.iload_n 3, 1) := by decide +kernel
theorem dX4_goThrough_45 : decode cX4_goThrough 45 = .ok (.bipush 20, 2) := by decide +kernel
theorem dX4_goThrough_47 : decode cX4_goThrough 47 = .ok (.if_icmp .eq 72, 3) := by decide +kernel
theorem dX4_goThrough_50 : decode cX4_goThrough 50 = .ok (.aload_n 0, 1) := by decide +kernel
theorem dX4_goThrough_51 : decode cX4_goThrough 51 = .ok (.getfield 20, 3) := by decide +kernel
theorem dX4_goThrough_54 : decode cX4_goThrough 54 = .ok (.aload_n 2, 1) := by decide +kernel
theorem dX4_goThrough_55 : decode cX4_goThrough 55 = .ok (.getfield 74, 3) := by decide +kernel
theorem dX4_goThrough_58 : decode cX4_goThrough 58 = .ok (.invokevirtual 84, 3) := by decide +kernel
theorem dX4_goThrough_61 : decode cX4_goThrough 61 = .ok (.aload_n 0, 1) := by decide +kernel
theorem dX4_goThrough_62 : decode cX4_goThrough 62 = .ok (.getfield 27, 3) := by decide +kernel
theorem dX4_goThrough_65 : decode cX4_goThrough 65 = .ok (.aload_n 0, 1) := by decide +kernel
theorem dX4_goThrough_66 : decode cX4_goThrough 66 = .ok (.getfield 55, 3) := by decide +kernel
theorem dX4_goThrough_69 : decode cX4_goThrough 69 = .ok (.aload_n 0, 1) := by decide +kernel
theorem dX4_goThrough_70 : decode cX4_goThrough 70 = .ok (.getfield 20, 3) := by decide +kernel
theorem dX4_goThrough_73 : decode cX4_goThrough 73 = .ok (.invokevirtual 113, 3) := by decide +kernel
theorem dX4_goThrough_76 : decode cX4_goThrough 76 = .ok (.iload_n 3, 1) := by decide +kernel
theorem dX4_goThrough_77 : decode cX4_goThrough 77 = .ok (.bipush 19, 2) := by decide +kernel
theorem dX4_goThrough_79 : decode cX4_goThrough 79 = .ok (.if_icmp .ne 25, 3) := by decide +kernel
theorem dX4_goThrough_82 : decode cX4_goThrough 82 = .ok (.aload_n 0, 1) := by decide +kernel
theorem dX4_goThrough_83 : decode cX4_goThrough 83 = .ok (.getfield 34, 3) := by decide +kernel
theorem dX4_goThrough_86 : decode cX4_goThrough 86 = .ok (.aload_n 0, 1) := by decide +kernel
theorem dX4_goThrough_87 : decode cX4_goThrough 87 = .ok (.getfield 20, 3) := by decide +kernel
theorem dX4_goThrough_90 : decode cX4_goThrough 90 = .ok (.aload_n 0, 1) := by decide +kernel
theorem dX4_goThrough_91 : decode cX4_goThrough 91 = .ok (.getfield 55, 3) := by decide +kernel
theorem dX4_goThrough_94 : decode cX4_goThrough 94 = .ok (.getfield 117, 3) := by decide +kernel
theorem dX4_goThrough_97 : decode cX4_goThrough 97 = .ok (.iconst 0, 1) := by decide +kernel
theorem dX4_goThrough_98 : decode cX4_goThrough 98 = .ok (.invokevirtual 120, 3) := by decide +kernel
theorem dX4_goThrough_101 : decode cX4_goThrough 101 = .ok (.ifCond .eq 18, 3) := by decide +kernel
theorem dX4_goThrough_104 : decode cX4_goThrough 104 = .ok (.aload_n 0, 1) := by decide +kernel
theorem dX4_goThrough_105 : decode cX4_goThrough 105 = .ok (.iload_n 1, 1) := by decide +kernel
theorem dX4_goThrough_106 : decode cX4_goThrough 106 = .ok (.iload_n 1, 1) := by decide +kernel
theorem dX4_goThrough_107 : decode cX4_goThrough 107 = .ok (.aload_n 0, 1) := by decide +kernel
theorem dX4_goThrough_108 : decode cX4_goThrough 108 = .ok (.getfield 55, 3) := by decide +kernel
theorem dX4_goThrough_111 : decode cX4_goThrough 111 = .ok (.getfield 124, 3) := by decide +kernel
theorem dX4_goThrough_114 : decode cX4_goThrough 114 = .ok (.iadd, 1) := by decide +kernel
theorem dX4_goThrough_115 : decode cX4_goThrough 115 = .ok (.i2l, 1) := by decide +kernel
theorem dX4_goThrough_116 : decode cX4_goThrough 116 = .ok (.invokevirtual 88, 3) := by decide +kernel
theorem dX4_goThrough_119 : decode cX4_goThrough 119 = .ok (.iload_n 3, 1) := by decide +kernel
theorem dX4_goThrough_120 : decode cX4_goThrough 120 = .ok (.bipush 20, 2) := by decide +kernel
theorem dX4_goThrough_122 : decode cX4_goThrough 122 = .ok (.if_icmp .eq 9, 3) := by decide +kernel
theorem dX4_goThrough_125 : decode cX4_goThrough 125 = .ok (.iload_n 3, 1) := by decide +kernel
theorem dX4_goThrough_126 : decode cX4_goThrough 126 = .ok (.bipush 19, 2) := by decide +kernel
theorem dX4_goThrough_128 : decode cX4_goThrough 128 = .ok (.if_icmp .ne 54, 3) := by decide +kernel
theorem dX4_goThrough_131 : decode cX4_goThrough 131 = .ok (.aload_n 0, 1) := by decide +kernel
theorem dX4_goThrough_132 : decode cX4_goThrough 132 = .ok (.getfield 20, 3) := by decide +kernel
theorem dX4_goThrough_135 : decode cX4_goThrough 135 = .ok (.aload_n 2, 1) := by decide +kernel
theorem dX4_goThrough_136 : decode cX4_goThrough 136 = .ok (.getfield 74, 3) := by decide +kernel
theorem dX4_goThrough_139 : decode cX4_goThrough 139 = .ok (.invokevirtual 84, 3) := by decide +kernel
theorem dX4_goThrough_142 : decode cX4_goThrough 142 = .ok (.iload_n 3, 1) := by decide +kernel
theorem dX4_goThrough_143 : decode cX4_goThrough 143 = .ok (.bipush 20, 2) := by decide +kernel
theorem dX4_goThrough_145 : decode cX4_goThrough 145 = .ok (.if_icmp .eq 25, 3) := by decide +kernel
theorem dX4_goThrough_148 : decode cX4_goThrough 148 = .ok (.aload_n 0, 1) := by decide +kernel
theorem dX4_goThrough_149 : decode cX4_goThrough 149 = .ok (.getfield 34, 3) := by decide +kernel
theorem dX4_goThrough_152 : decode cX4_goThrough 152 = .ok (.aload_n 0, 1) := by decide +kernel
theorem dX4_goThrough_153 : decode cX4_goThrough 153 = .ok (.getfield 20, 3) := by decide +kernel
theorem dX4_goThrough_156 : decode cX4_goThrough 156 = .ok (.aload_n 0, 1) := by decide +kernel
theorem dX4_goThrough_157 : decode cX4_goThrough 157 = .ok (.getfield 55, 3) := by decide +kernel
theorem dX4_goThrough_160 : decode cX4_goThrough 160 = .ok (.getfield 117, 3) := by decide +kernel
theorem dX4_goThrough_163 : decode cX4_goThrough 163 = .ok (.iconst 1, 1) := by decide +kernel
theorem dX4_goThrough_164 : decode cX4_goThrough 164 = .ok (.invokevirtual 120, 3) := by decide +kernel
theorem dX4_goThrough_167 : decode cX4_goThrough 167 = .ok (.ifCond .eq 15, 3) := by decide +kernel
theorem dX4_goThrough_170 : decode cX4_goThrough 170 = .ok (.aload_n 0, 1) := by decide +kernel
theorem dX4_goThrough_171 : decode cX4_goThrough 171 = .ok (.iload_n 1, 1) := by decide +kernel
theorem dX4_goThrough_172 : decode cX4_goThrough 172 = .ok (.aload_n 0, 1) := by decide +kernel
theorem dX4_goThrough_173 : decode cX4_goThrough 173 = .ok (.getfield 55, 3) := by decide +kernel
theorem dX4_goThrough_176 : decode cX4_goThrough 176 = .ok (.getfield 127, 3) := by decide +kernel
theorem dX4_goThrough_179 : decode cX4_goThrough 179 = .ok (.invokevirtual 88, 3) := by decide +kernel
theorem dX4_goThrough_182 : decode cX4_goThrough 182 = .ok (.return_, 1) := by decide +kernel
theorem dX4_arrive_0 : decode cX4_arrive 0 = .ok (.aload_n 0, 1) := by decide +kernel
theorem dX4_arrive_1 : decode cX4_arrive 1 = .ok (.getfield 51, 3) := by decide +kernel
theorem dX4_arrive_4 : decode cX4_arrive 4 = .ok (.lload_n 2, 1) := by decide +kernel
theorem dX4_arrive_5 : decode cX4_arrive 5 = .ok (.invokevirtual 131, 3) := by decide +kernel
theorem dX4_arrive_8 : decode cX4_arrive 8 = .ok (.ifCond .eq 11, 3) := by decide +kernel
theorem dX4_arrive_11 : decode cX4_arrive 11 = .ok (.lload_n 2, 1) := by decide +kernel
theorem dX4_arrive_12 : decode cX4_arrive 12 = .ok (.ldc2_w 135, 3) := by decide +kernel
theorem dX4_arrive_15 : decode cX4_arrive 15 = .ok (.lcmp, 1) := by decide +kernel
theorem dX4_arrive_16 : decode cX4_arrive 16 = .ok (.ifCond .lt 4, 3) := by decide +kernel
theorem dX4_arrive_19 : decode cX4_arrive 19 = .ok (.return_, 1) := by decide +kernel
theorem dX4_arrive_20 : decode cX4_arrive 20 = .ok (.lload_n 2, 1) := by decide +kernel
theorem dX4_arrive_21 : decode cX4_arrive 21 = .ok (.l2i, 1) := by decide +kernel
theorem dX4_arrive_22 : decode cX4_arrive 22 = .ok (.istore 4, 2) := by decide +kernel
theorem dX4_arrive_24 : decode cX4_arrive 24 = .ok (.aload_n 0, 1) := by decide +kernel
theorem dX4_arrive_25 : decode cX4_arrive 25 = .ok (.getfield 11, 3) := by decide +kernel
theorem dX4_arrive_28 : decode cX4_arrive 28 = .ok (.iload 4, 2) := by decide +kernel
theorem dX4_arrive_30 : decode cX4_arrive 30 = .ok (.aaload, 1) := by decide +kernel
theorem dX4_arrive_31 : decode cX4_arrive 31 = .ok (.astore 5, 2) := by decide +kernel
theorem dX4_arrive_33 : decode cX4_arrive 33 = .ok (.aload 5, 2) := by decide +kernel
theorem dX4_arrive_35 : decode cX4_arrive 35 = .ok (.ifnonnull 21, 3) := by decide +kernel
theorem dX4_arrive_38 : decode cX4_arrive 38 = .ok (.new 9, 3) := by decide +kernel
theorem dX4_arrive_41 : decode cX4_arrive 41 = .ok (.dup, 1) := by decide +kernel
theorem dX4_arrive_42 : decode cX4_arrive 42 = .ok (.invokespecial 137, 3) := by decide +kernel
theorem dX4_arrive_45 : decode cX4_arrive 45 = .ok (.astore 5, 2) := by decide +kernel
theorem dX4_arrive_47 : decode cX4_arrive 47 = .ok (.aload_n 0, 1) := by decide +kernel
theorem dX4_arrive_48 : decode cX4_arrive 48 = .ok (.getfield 11, 3) := by decide +kernel
theorem dX4_arrive_51 : decode cX4_arrive 51 = .ok (.iload 4, 2) := by decide +kernel
theorem dX4_arrive_53 : decode cX4_arrive 53 = .ok (.aload 5, 2) := by decide +kernel
theorem dX4_arrive_55 : decode cX4_arrive 55 = .ok (.aastore, 1) := by decide +kernel
theorem dX4_arrive_56 : decode cX4_arrive 56 = .ok (.iconst 1, 1) := by decide +kernel
theorem dX4_arrive_57 : decode cX4_arrive 57 = .ok (.istore 6, 2) := by decide +kernel
theorem dX4_arrive_59 : decode cX4_arrive 59 = .ok (.aload 5, 2) := by decide +kernel
theorem dX4_arrive_61 : decode cX4_arrive 61 = .ok (.getfield 59, 3) := by decide +kernel
theorem dX4_arrive_64 : decode cX4_arrive 64 = .ok (.ifCond .ne 18, 3) := by decide +kernel
theorem dX4_arrive_67 : decode cX4_arrive 67 = .ok (.aload 5, 2) := by decide +kernel
theorem dX4_arrive_69 : decode cX4_arrive 69 = .ok (.getfield 74, 3) := by decide +kernel
theorem dX4_arrive_72 : decode cX4_arrive 72 = .ok (.aload_n 0, 1) := by decide +kernel
theorem dX4_arrive_73 : decode cX4_arrive 73 = .ok (.getfield 20, 3) := by decide +kernel
theorem dX4_arrive_76 : decode cX4_arrive 76 = .ok (.invokevirtual 84, 3) := by decide +kernel
theorem dX4_arrive_79 : decode cX4_arrive 79 = .ok (.goto 34, 3) := by decide +kernel
theorem dX4_arrive_82 : decode cX4_arrive 82 = .ok (.aload_n 0, 1) := by decide +kernel
theorem dX4_arrive_83 : decode cX4_arrive 83 = .ok (.aload 5, 2) := by decide +kernel
theorem dX4_arrive_85 : decode cX4_arrive 85 = .ok (.getfield 74, 3) := by decide +kernel
theorem dX4_arrive_88 : decode cX4_arrive 88 = .ok (.iload 4, 2) := by decide +kernel
theorem dX4_arrive_90 : decode cX4_arrive 90 = .ok (.iload_n 1, 1) := by decide +kernel
theorem dX4_arrive_91 : decode cX4_arrive 91 = .ok (.if_icmp .gt 16, 3) := by decide +kernel
theorem dX4_arrive_94 : decode cX4_arrive 94 = .ok (.aload 5, 2) := by decide +kernel
theorem dX4_arrive_96 : decode cX4_arrive 96 = .ok (.getfield 59, 3) := by decide +kernel
theorem dX4_arrive_99 : decode cX4_arrive 99 = .ok (.iconst 3, 1) := by decide +kernel
theorem dX4_arrive_100 : decode cX4_arrive 100 = .ok (.if_icmp .lt 7, 3) := by decide +kernel
theorem dX4_arrive_103 : decode cX4_arrive 103 = .ok (.iconst 1, 1) := by decide +kernel
theorem dX4_arrive_104 : decode cX4_arrive 104 = .ok (.goto 4, 3) := by decide +kernel
theorem dX4_arrive_107 : decode cX4_arrive 107 = .ok (.iconst 0, 1) := by decide +kernel
theorem dX4_arrive_108 : decode cX4_arrive 108 = .ok (.invokevirtual 138, 3) := by decide +kernel
theorem dX4_arrive_111 : decode cX4_arrive 111 = .ok (.istore 6, 2) := by decide +kernel
theorem dX4_arrive_113 : decode cX4_arrive 113 = .ok (.iload 6, 2) := by decide +kernel
theorem dX4_arrive_115 : decode cX4_arrive 115 = .ok (.ifCond .eq 20, 3) := by decide +kernel
theorem dX4_arrive_118 : decode cX4_arrive 118 = .ok (.aload 5, 2) := by decide +kernel
theorem dX4_arrive_120 : decode cX4_arrive 120 = .ok (.dup, 1) := by decide +kernel
theorem dX4_arrive_121 : decode cX4_arrive 121 = .ok (.getfield 59, 3) := by decide +kernel
theorem dX4_arrive_124 : decode cX4_arrive 124 = .ok (.iconst 1, 1) := by decide +kernel
theorem dX4_arrive_125 : decode cX4_arrive 125 = .ok (.iadd, 1) := by decide +kernel
theorem dX4_arrive_126 : decode cX4_arrive 126 = .ok (.putfield 59, 3) := by decide +kernel
theorem dX4_arrive_129 : decode cX4_arrive 129 = .ok (.aload 5, 2) := by decide +kernel
theorem dX4_arrive_131 : decode cX4_arrive 131 = .ok (.iconst 1, 1) := by decide +kernel
theorem dX4_arrive_132 : decode cX4_arrive 132 = .ok (.putfield 63, 3) := by decide +kernel
theorem dX4_arrive_135 : decode cX4_arrive 135 = .ok (.return_, 1) := by decide +kernel
theorem dX4_absorb_0 : decode cX4_absorb 0 = .ok (.iconst 0, 1) := by decide +kernel
theorem dX4_absorb_1 : decode cX4_absorb 1 = .ok (.istore_n 3, 1) := by decide +kernel
theorem dX4_absorb_2 : decode cX4_absorb 2 = .ok (.iconst 0, 1) := by decide +kernel
theorem dX4_absorb_3 : decode cX4_absorb 3 = .ok (.istore 4, 2) := by decide +kernel
theorem dX4_absorb_5 : decode cX4_absorb 5 = .ok (.iload 4, 2) := by decide +kernel
theorem dX4_absorb_7 : decode cX4_absorb 7 = .ok (.bipush 24, 2) := by decide +kernel
theorem dX4_absorb_9 : decode cX4_absorb 9 = .ok (.if_icmp .ge 144, 3) := by decide +kernel
theorem dX4_absorb_12 : decode cX4_absorb 12 = .ok (.aload_n 1, 1) := by decide +kernel
theorem dX4_absorb_13 : decode cX4_absorb 13 = .ok (.aload_n 0, 1) := by decide +kernel
theorem dX4_absorb_14 : decode cX4_absorb 14 = .ok (.getfield 20, 3) := by decide +kernel
theorem dX4_absorb_17 : decode cX4_absorb 17 = .ok (.iload 4, 2) := by decide +kernel
theorem dX4_absorb_19 : decode cX4_absorb 19 = .ok (.invokevirtual 142, 3) := by decide +kernel
theorem dX4_absorb_22 : decode cX4_absorb 22 = .ok (.ifCond .eq 6, 3) := by decide +kernel
theorem dX4_absorb_25 : decode cX4_absorb 25 = .ok (.goto 122, 3) := by decide +kernel
theorem dX4_absorb_28 : decode cX4_absorb 28 = .ok (.aload_n 1, 1) := by decide +kernel
theorem dX4_absorb_29 : decode cX4_absorb 29 = .ok (.iload 4, 2) := by decide +kernel
theorem dX4_absorb_31 : decode cX4_absorb 31 = .ok (.aload_n 0, 1) := by decide +kernel
theorem dX4_absorb_32 : decode cX4_absorb 32 = .ok (.getfield 41, 3) := by decide +kernel
theorem dX4_absorb_35 : decode cX4_absorb 35 = .ok (.invokevirtual 77, 3) := by decide +kernel
theorem dX4_absorb_38 : decode cX4_absorb 38 = .ok (.aload_n 0, 1) := by decide +kernel
theorem dX4_absorb_39 : decode cX4_absorb 39 = .ok (.getfield 20, 3) := by decide +kernel
theorem dX4_absorb_42 : decode cX4_absorb 42 = .ok (.iload 4, 2) := by decide +kernel
theorem dX4_absorb_44 : decode cX4_absorb 44 = .ok (.aload_n 0, 1) := by decide +kernel
theorem dX4_absorb_45 : decode cX4_absorb 45 = .ok (.getfield 45, 3) := by decide +kernel
theorem dX4_absorb_48 : decode cX4_absorb 48 = .ok (.invokevirtual 77, 3) := by decide +kernel
theorem dX4_absorb_51 : decode cX4_absorb 51 = .ok (.aload_n 0, 1) := by decide +kernel
theorem dX4_absorb_52 : decode cX4_absorb 52 = .ok (.getfield 48, 3) := by decide +kernel
theorem dX4_absorb_55 : decode cX4_absorb 55 = .ok (.aload_n 0, 1) := by decide +kernel
theorem dX4_absorb_56 : decode cX4_absorb 56 = .ok (.getfield 41, 3) := by decide +kernel
theorem dX4_absorb_59 : decode cX4_absorb 59 = .ok (.aload_n 0, 1) := by decide +kernel
theorem dX4_absorb_60 : decode cX4_absorb 60 = .ok (.getfield 45, 3) := by decide +kernel
theorem dX4_absorb_63 : decode cX4_absorb 63 = .ok (.invokevirtual 146, 3) := by decide +kernel
theorem dX4_absorb_66 : decode cX4_absorb 66 = .ok (.iload_n 2, 1) := by decide +kernel
theorem dX4_absorb_67 : decode cX4_absorb 67 = .ok (.ifCond .eq 14, 3) := by decide +kernel
theorem dX4_absorb_70 : decode cX4_absorb 70 = .ok (.aload_n 0, 1) := by decide +kernel
theorem dX4_absorb_71 : decode cX4_absorb 71 = .ok (.getfield 48, 3) := by decide +kernel
theorem dX4_absorb_74 : decode cX4_absorb 74 = .ok (.aload_n 0, 1) := by decide +kernel
theorem dX4_absorb_75 : decode cX4_absorb 75 = .ok (.getfield 41, 3) := by decide +kernel
theorem dX4_absorb_78 : decode cX4_absorb 78 = .ok (.invokevirtual 150, 3) := by decide +kernel
theorem dX4_absorb_81 : decode cX4_absorb 81 = .ok (.aload_n 1, 1) := by decide +kernel
theorem dX4_absorb_82 : decode cX4_absorb 82 = .ok (.iload 4, 2) := by decide +kernel
theorem dX4_absorb_84 : decode cX4_absorb 84 = .ok (.aload_n 0, 1) := by decide +kernel
theorem dX4_absorb_85 : decode cX4_absorb 85 = .ok (.getfield 48, 3) := by decide +kernel
theorem dX4_absorb_88 : decode cX4_absorb 88 = .ok (.invokevirtual 154, 3) := by decide +kernel
theorem dX4_absorb_91 : decode cX4_absorb 91 = .ok (.aload_n 0, 1) := by decide +kernel
theorem dX4_absorb_92 : decode cX4_absorb 92 = .ok (.getfield 48, 3) := by decide +kernel
theorem dX4_absorb_95 : decode cX4_absorb 95 = .ok (.getfield 157, 3) := by decide +kernel
theorem dX4_absorb_98 : decode cX4_absorb 98 = .ok (.aload_n 0, 1) := by decide +kernel
theorem dX4_absorb_99 : decode cX4_absorb 99 = .ok (.getfield 41, 3) := by decide +kernel
theorem dX4_absorb_102 : decode cX4_absorb 102 = .ok (.getfield 157, 3) := by decide +kernel
theorem dX4_absorb_105 : decode cX4_absorb 105 = .ok (.lcmp, 1) := by decide +kernel
theorem dX4_absorb_106 : decode cX4_absorb 106 = .ok (.ifCond .ne 39, 3) := by decide +kernel
theorem dX4_absorb_109 : decode cX4_absorb 109 = .ok (.aload_n 0, 1) := by decide +kernel
theorem dX4_absorb_110 : decode cX4_absorb 110 = .ok (.getfield 48, 3) := by decide +kernel
theorem dX4_absorb_113 : decode cX4_absorb 113 = .ok (.getfield 160, 3) := by decide +kernel
theorem dX4_absorb_116 : decode cX4_absorb 116 = .ok (.aload_n 0, 1) := by decide +kernel
theorem dX4_absorb_117 : decode cX4_absorb 117 = .ok (.getfield 41, 3) := by decide +kernel
theorem dX4_absorb_120 : decode cX4_absorb 120 = .ok (.getfield 160, 3) := by decide +kernel
theorem dX4_absorb_123 : decode cX4_absorb 123 = .ok (.lcmp, 1) := by decide +kernel
theorem dX4_absorb_124 : decode cX4_absorb 124 = .ok (.ifCond .ne 21, 3) := by decide +kernel
theorem dX4_absorb_127 : decode cX4_absorb 127 = .ok (.aload_n 0, 1) := by decide +kernel
theorem dX4_absorb_128 : decode cX4_absorb 128 = .ok (.getfield 48, 3) := by decide +kernel
theorem dX4_absorb_131 : decode cX4_absorb 131 = .ok (.getfield 163, 3) := by decide +kernel
theorem dX4_absorb_134 : decode cX4_absorb 134 = .ok (.aload_n 0, 1) := by decide +kernel
theorem dX4_absorb_135 : decode cX4_absorb 135 = .ok (.getfield 41, 3) := by decide +kernel
theorem dX4_absorb_138 : decode cX4_absorb 138 = .ok (.getfield 163, 3) := by decide +kernel
theorem dX4_absorb_141 : decode cX4_absorb 141 = .ok (.lcmp, 1) := by decide +kernel
theorem dX4_absorb_142 : decode cX4_absorb 142 = .ok (.ifCond .eq 5, 3) := by decide +kernel
theorem dX4_absorb_145 : decode cX4_absorb 145 = .ok (.iconst 1, 1) := by decide +kernel
theorem dX4_absorb_146 : decode cX4_absorb 146 = .ok (.istore_n 3, 1) := by decide +kernel
theorem dX4_absorb_147 : decode cX4_absorb 147 = .ok (.iinc 4 1, 3) := by decide +kernel
theorem dX4_absorb_150 : decode cX4_absorb 150 = .ok (.goto (-145), 3) := by decide +kernel
theorem dX4_absorb_153 : decode cX4_absorb 153 = .ok (.aload_n 1, 1) := by decide +kernel
theorem dX4_absorb_154 : decode cX4_absorb 154 = .ok (.getfield 166, 3) := by decide +kernel
theorem dX4_absorb_157 : decode cX4_absorb 157 = .ok (.ifCond .eq 20, 3) := by decide +kernel
theorem dX4_absorb_160 : decode cX4_absorb 160 = .ok (.aload_n 1, 1) := by decide +kernel
theorem dX4_absorb_161 : decode cX4_absorb 161 = .ok (.aload_n 0, 1) := by decide +kernel
theorem dX4_absorb_162 : decode cX4_absorb 162 = .ok (.getfield 20, 3) := by decide +kernel
theorem dX4_absorb_165 : decode cX4_absorb 165 = .ok (.invokevirtual 169, 3) := by decide +kernel
theorem dX4_absorb_168 : decode cX4_absorb 168 = .ok (.ifCond .ne 9, 3) := by decide +kernel
theorem dX4_absorb_171 : decode cX4_absorb 171 = .ok (.aload_n 1, 1) := by decide +kernel
theorem dX4_absorb_172 : decode cX4_absorb 172 = .ok (.invokevirtual 173, 3) := by decide +kernel
theorem dX4_absorb_175 : decode cX4_absorb 175 = .ok (.iconst 1, 1) := by decide +kernel
theorem dX4_absorb_176 : decode cX4_absorb 176 = .ok (.istore_n 3, 1) := by decide +kernel
theorem dX4_absorb_177 : decode cX4_absorb 177 = .ok (.iload_n 3, 1) := by decide +kernel
theorem dX4_absorb_178 : decode cX4_absorb 178 = .ok (.ireturn, 1) := by decide +kernel
theorem dX5_init_0 : decode cX5_init 0 = .ok (.aload_n 0, 1) := by decide +kernel
theorem dX5_init_1 : decode cX5_init 1 = .ok (.invokespecial 1, 3) := by decide +kernel
theorem dX5_init_4 : decode cX5_init 4 = .ok (.aload_n 0, 1) := by decide +kernel
theorem dX5_init_5 : decode cX5_init 5 = .ok (.new 7, 3) := by decide +kernel
theorem dX5_init_8 : decode cX5_init 8 = .ok (.dup, 1) := by decide +kernel
theorem dX5_init_9 : decode cX5_init 9 = .ok (.invokespecial 9, 3) := by decide +kernel
theorem dX5_init_12 : decode cX5_init 12 = .ok (.putfield 10, 3) := by decide +kernel
theorem dX5_init_15 : decode cX5_init 15 = .ok (.return_, 1) := by decide +kernel
theorem dX6_init_0 : decode cX6_init 0 = .ok (.aload_n 0, 1) := by decide +kernel
theorem dX6_init_1 : decode cX6_init 1 = .ok (.invokespecial 3, 3) := by decide +kernel
theorem dX6_init_4 : decode cX6_init 4 = .ok (.aload_n 0, 1) := by decide +kernel
theorem dX6_init_5 : decode cX6_init 5 = .ok (.bipush 24, 2) := by decide +kernel
theorem dX6_init_7 : decode cX6_init 7 = .ok (.newarray .long, 2) := by decide +kernel
theorem dX6_init_9 : decode cX6_init 9 = .ok (.putfield 9, 3) := by decide +kernel
theorem dX6_init_12 : decode cX6_init 12 = .ok (.aload_n 0, 1) := by decide +kernel
theorem dX6_init_13 : decode cX6_init 13 = .ok (.bipush 24, 2) := by decide +kernel
theorem dX6_init_15 : decode cX6_init 15 = .ok (.newarray .long, 2) := by decide +kernel
theorem dX6_init_17 : decode cX6_init 17 = .ok (.putfield 15, 3) := by decide +kernel
theorem dX6_init_20 : decode cX6_init 20 = .ok (.aload_n 0, 1) := by decide +kernel
theorem dX6_init_21 : decode cX6_init 21 = .ok (.iconst (-1), 1) := by decide +kernel
theorem dX6_init_22 : decode cX6_init 22 = .ok (.putfield 18, 3) := by decide +kernel
theorem dX6_init_25 : decode cX6_init 25 = .ok (.aload_n 0, 1) := by decide +kernel
theorem dX6_init_26 : decode cX6_init 26 = .ok (.aload_n 1, 1) := by decide +kernel
theorem dX6_init_27 : decode cX6_init 27 = .ok (.putfield 22, 3) := by decide +kernel
theorem dX6_init_30 : decode cX6_init 30 = .ok (.aload_n 0, 1) := by decide +kernel
theorem dX6_init_31 : decode cX6_init 31 = .ok (.aload_n 2, 1) := by decide +kernel
theorem dX6_init_32 : decode cX6_init 32 = .ok (.putfield 26, 3) := by decide +kernel
theorem dX6_init_35 : decode cX6_init 35 = .ok (.return_, 1) := by decide +kernel
theorem dX6_prepare_0 : decode cX6_prepare 0 = .ok (.iload_n 1, 1) := by decide +kernel
theorem dX6_prepare_1 : decode cX6_prepare 1 = .ok (.invokestatic 30, 3) := by decide +kernel
theorem dX6_prepare_4 : decode cX6_prepare 4 = .ok (.ifCond .eq 10, 3) := by decide +kernel
theorem dX6_prepare_7 : decode cX6_prepare 7 = .ok (.aload_n 0, 1) := by decide +kernel
theorem dX6_prepare_8 : decode cX6_prepare 8 = .ok (.getfield 9, 3) := by decide +kernel
theorem dX6_prepare_11 : decode cX6_prepare 11 = .ok (.iload_n 1, 1) := by decide +kernel
theorem dX6_prepare_12 : decode cX6_prepare 12 = .ok (.lload_n 2, 1) := by decide +kernel
theorem dX6_prepare_13 : decode cX6_prepare 13 = .ok (.lastore, 1) := by decide +kernel
theorem dX6_prepare_14 : decode cX6_prepare 14 = .ok (.return_, 1) := by decide +kernel
theorem dX6_begin_0 : decode cX6_begin 0 = .ok (.aload_n 0, 1) := by decide +kernel
theorem dX6_begin_1 : decode cX6_begin 1 = .ok (.getfield 9, 3) := by decide +kernel
theorem dX6_begin_4 : decode cX6_begin 4 = .ok (.iconst 0, 1) := by decide +kernel
theorem dX6_begin_5 : decode cX6_begin 5 = .ok (.aload_n 0, 1) := by decide +kernel
theorem dX6_begin_6 : decode cX6_begin 6 = .ok (.getfield 15, 3) := by decide +kernel
theorem dX6_begin_9 : decode cX6_begin 9 = .ok (.iconst 0, 1) := by decide +kernel
theorem dX6_begin_10 : decode cX6_begin 10 = .ok (.bipush 24, 2) := by decide +kernel
theorem dX6_begin_12 : decode cX6_begin 12 = .ok (.invokestatic 34, 3) := by decide +kernel
theorem dX6_begin_15 : decode cX6_begin 15 = .ok (.aload_n 0, 1) := by decide +kernel
theorem dX6_begin_16 : decode cX6_begin 16 = .ok (.iconst 0, 1) := by decide +kernel
theorem dX6_begin_17 : decode cX6_begin 17 = .ok (.putfield 40, 3) := by decide +kernel
theorem dX6_begin_20 : decode cX6_begin 20 = .ok (.aload_n 0, 1) := by decide +kernel
theorem dX6_begin_21 : decode cX6_begin 21 = .ok (.lconst 0, 1) := by decide +kernel
theorem dX6_begin_22 : decode cX6_begin 22 = .ok (.invokevirtual 44, 3) := by decide +kernel
theorem dX6_begin_25 : decode cX6_begin 25 = .ok (.return_, 1) := by decide +kernel
theorem dX6_read_0 : decode cX6_read 0 = .ok (.iload_n 1, 1) := by decide +kernel
theorem dX6_read_1 : decode cX6_read 1 = .ok (.invokestatic 30, 3) := by decide +kernel
theorem dX6_read_4 : decode cX6_read 4 = .ok (.ifCond .eq 12, 3) := by decide +kernel
theorem dX6_read_7 : decode cX6_read 7 = .ok (.aload_n 0, 1) := by decide +kernel
theorem dX6_read_8 : decode cX6_read 8 = .ok (.getfield 15, 3) := by decide +kernel
theorem dX6_read_11 : decode cX6_read 11 = .ok (.iload_n 1, 1) := by decide +kernel
theorem dX6_read_12 : decode cX6_read 12 = .ok (.laload, 1) := by decide +kernel
theorem dX6_read_13 : decode cX6_read 13 = .ok (.goto 4, 3) := by decide +kernel
theorem dX6_read_16 : decode cX6_read 16 = .ok (.lconst 0, 1) := by decide +kernel
theorem dX6_read_17 : decode cX6_read 17 = .ok (.lreturn, 1) := by decide +kernel
theorem dX6_doNext_0 : decode cX6_doNext 0 = .ok (.aload_n 0, 1) := by decide +kernel
theorem dX6_doNext_1 : decode cX6_doNext 1 = .ok (.getfield 18, 3) := by decide +kernel
theorem dX6_doNext_4 : decode cX6_doNext 4 = .ok (.ifCond .ge 5, 3) := by decide +kernel
theorem dX6_doNext_7 : decode cX6_doNext 7 = .ok (.iconst 3, 1) := by decide +kernel
theorem dX6_doNext_8 : decode cX6_doNext 8 = .ok (.ireturn, 1) := by decide +kernel
theorem dX6_doNext_9 : decode cX6_doNext 9 = .ok (.aload_n 0, 1) := by decide +kernel
theorem dX6_doNext_10 : decode cX6_doNext 10 = .ok (.getfield 26, 3) := by decide +kernel
theorem dX6_doNext_13 : decode cX6_doNext 13 = .ok (.aload_n 0, 1) := by decide +kernel
theorem dX6_doNext_14 : decode cX6_doNext 14 = .ok (.getfield 18, 3) := by decide +kernel
theorem dX6_doNext_17 : decode cX6_doNext 17 = .ok (.invokevirtual 48, 3) := by decide +kernel
theorem dX6_doNext_20 : decode cX6_doNext 20 = .ok (.aload_n 0, 1) := by decide +kernel
theorem dX6_doNext_21 : decode cX6_doNext 21 = .ok (.getfield 18, 3) := by decide +kernel
theorem dX6_doNext_24 : decode cX6_doNext 24 = .ok (.aload_n 0, 1) := by decide +kernel
theorem dX6_doNext_25 : decode cX6_doNext 25 = .ok (.getfield 26, 3) := by decide +kernel
theorem dX6_doNext_28 : decode cX6_doNext 28 = .ok (.getfield 54, 3) := by decide +kernel
theorem dX6_doNext_31 : decode cX6_doNext 31 = .ok (.iadd, 1) := by decide +kernel
theorem dX6_doNext_32 : decode cX6_doNext 32 = .ok (.istore_n 1, 1) := by decide +kernel
theorem dX6_doNext_33 : decode cX6_doNext 33 = .ok (.aload_n 0, 1) := by decide +kernel
theorem dX6_doNext_34 : decode cX6_doNext 34 = .ok (.getfield 26, 3) := by decide +kernel
theorem dX6_doNext_37 : decode cX6_doNext 37 = .ok (.getfield 57, 3) := by decide +kernel
theorem dX6_doNext_40 : decode cX6_doNext 40 = .ok (.lookupswitch 118 #[(-1, 52), (19, 77), (20, 64), (21, 56), (22, 54)], 52) := by decide +kernel
theorem dX6_doNext_92 : decode cX6_doNext 92 = .ok (.iconst 2, 1) := by decide +kernel
theorem dX6_doNext_93 : decode cX6_doNext 93 = .ok (.ireturn, 1) := by decide +kernel
theorem dX6_doNext_94 : decode cX6_doNext 94 = .ok (.iconst 1, 1) := by decide +kernel
theorem dX6_doNext_95 : decode cX6_doNext 95 = .ok (.ireturn, 1) := by decide +kernel
theorem dX6_doNext_96 : decode cX6_doNext 96 = .ok (.aload_n 0, 1) := by decide +kernel
theorem dX6_doNext_97 : decode cX6_doNext 97 = .ok (.iload_n 1, 1) := by decide +kernel
theorem dX6_doNext_98 : decode cX6_doNext 98 = .ok (.i2l, 1) := by decide +kernel
theorem dX6_doNext_99 : decode cX6_doNext 99 = .ok (.invokevirtual 44, 3) := by decide +kernel
theorem dX6_doNext_102 : decode cX6_doNext 102 = .ok (.iconst 0, 1) := by decide +kernel
theorem dX6_doNext_103 : decode cX6_doNext 103 = .ok (.ireturn, 1) := by decide +kernel
theorem dX6_doNext_104 : decode cX6_doNext 104 = .ok (.aload_n 0, 1) := by decide +kernel
theorem dX6_doNext_105 : decode cX6_doNext 105 = .ok (.aload_n 0, 1) := by decide +kernel
theorem dX6_doNext_106 : decode cX6_doNext 106 = .ok (.getfield 26, 3) := by decide +kernel
theorem dX6_doNext_109 : decode cX6_doNext 109 = .ok (.getfield 60, 3) := by decide +kernel
theorem dX6_doNext_112 : decode cX6_doNext 112 = .ok (.invokevirtual 44, 3) := by decide +kernel
theorem dX6_doNext_115 : decode cX6_doNext 115 = .ok (.iconst 0, 1) := by decide +kernel
theorem dX6_doNext_116 : decode cX6_doNext 116 = .ok (.ireturn, 1) := by decide +kernel
theorem dX6_doNext_117 : decode cX6_doNext 117 = .ok (.aload_n 0, 1) := by decide +kernel
theorem dX6_doNext_118 : decode cX6_doNext 118 = .ok (.getfield 40, 3) := by decide +kernel
theorem dX6_doNext_121 : decode cX6_doNext 121 = .ok (.ifCond .ne 5, 3) := by decide +kernel
theorem dX6_doNext_124 : decode cX6_doNext 124 = .ok (.iconst 4, 1) := by decide +kernel
theorem dX6_doNext_125 : decode cX6_doNext 125 = .ok (.ireturn, 1) := by decide +kernel
theorem dX6_doNext_126 : decode cX6_doNext 126 = .ok (.aload_n 0, 1) := by decide +kernel
theorem dX6_doNext_127 : decode cX6_doNext 127 = .ok (.aload_n 0, 1) := by decide +kernel
theorem dX6_doNext_128 : decode cX6_doNext 128 = .ok (.aload_n 0, 1) := by decide +kernel
theorem dX6_doNext_129 : decode cX6_doNext 129 = .ok (.getfield 26, 3) := by decide +kernel
theorem dX6_doNext_132 : decode cX6_doNext 132 = .ok (.getfield 64, 3) := by decide +kernel
theorem dX6_doNext_135 : decode cX6_doNext 135 = .ok (.invokevirtual 67, 3) := by decide +kernel
theorem dX6_doNext_138 : decode cX6_doNext 138 = .ok (.ifCond .eq 13, 3) := by decide +kernel
theorem dX6_doNext_141 : decode cX6_doNext 141 = .ok (.aload_n 0, 1) := by decide +kernel
theorem dX6_doNext_142 : decode cX6_doNext 142 = .ok (.getfield 26, 3) := by decide +kernel
theorem dX6_doNext_145 : decode cX6_doNext 145 = .ok (.getfield 60, 3) := by decide +kernel
theorem dX6_doNext_148 : decode cX6_doNext 148 = .ok (.goto 5, 3) := by decide +kernel
theorem dX6_doNext_151 : decode cX6_doNext 151 = .ok (.iload_n 1, 1) := by decide +kernel
theorem dX6_doNext_152 : decode cX6_doNext 152 = .ok (.i2l, 1) := by decide +kernel
theorem dX6_doNext_153 : decode cX6_doNext 153 = .ok (.invokevirtual 44, 3) := by decide +kernel
theorem dX6_doNext_156 : decode cX6_doNext 156 = .ok (.iconst 0, 1) := by decide +kernel
theorem dX6_doNext_157 : decode cX6_doNext 157 = .ok (.ireturn, 1) := by decide +kernel
theorem dX6_doNext_158 : decode cX6_doNext 158 = .ok (.aload_n 0, 1) := by decide +kernel
theorem dX6_doNext_159 : decode cX6_doNext 159 = .ok (.invokevirtual 70, 3) := by decide +kernel
theorem dX6_doNext_162 : decode cX6_doNext 162 = .ok (.aload_n 0, 1) := by decide +kernel
theorem dX6_doNext_163 : decode cX6_doNext 163 = .ok (.iload_n 1, 1) := by decide +kernel
theorem dX6_doNext_164 : decode cX6_doNext 164 = .ok (.i2l, 1) := by decide +kernel
theorem dX6_doNext_165 : decode cX6_doNext 165 = .ok (.invokevirtual 44, 3) := by decide +kernel
theorem dX6_doNext_168 : decode cX6_doNext 168 = .ok (.iconst 0, 1) := by decide +kernel
theorem dX6_doNext_169 : decode cX6_doNext 169 = .ok (.ireturn, 1) := by decide +kernel
theorem dX6_moveTo_0 : decode cX6_moveTo 0 = .ok (.aload_n 0, 1) := by decide +kernel
theorem dX6_moveTo_1 : decode cX6_moveTo 1 = .ok (.aload_n 0, 1) := by decide +kernel
theorem dX6_moveTo_2 : decode cX6_moveTo 2 = .ok (.getfield 22, 3) := by decide +kernel
theorem dX6_moveTo_5 : decode cX6_moveTo 5 = .ok (.lload_n 1, 1) := by decide +kernel
theorem dX6_moveTo_6 : decode cX6_moveTo 6 = .ok (.invokevirtual 73, 3) := by decide +kernel
theorem dX6_moveTo_9 : decode cX6_moveTo 9 = .ok (.ifCond .eq 8, 3) := by decide +kernel
theorem dX6_moveTo_12 : decode cX6_moveTo 12 = .ok (.lload_n 1, 1) := by decide +kernel
theorem dX6_moveTo_13 : decode cX6_moveTo 13 = .ok (.l2i, 1) := by decide +kernel
theorem dX6_moveTo_14 : decode cX6_moveTo 14 = .ok (.goto 5, 3) := by decide +kernel
theorem dX6_moveTo_17 : decode cX6_moveTo 17 = .ok (.bipush (-2), 2) := by decide +kernel
theorem dX6_moveTo_19 : decode cX6_moveTo 19 = .ok (.putfield 18, 3) := by decide +kernel
theorem dX6_moveTo_22 : decode cX6_moveTo 22 = .ok (.return_, 1) := by decide +kernel
theorem dX6_isSo_0 : decode cX6_isSo 0 = .ok (.iload_n 1, 1) := by decide +kernel
theorem dX6_isSo_1 : decode cX6_isSo 1 = .ok (.bipush 14, 2) := by decide +kernel
theorem dX6_isSo_3 : decode cX6_isSo 3 = .ok (.iand, 1) := by decide +kernel
theorem dX6_isSo_4 : decode cX6_isSo 4 = .ok (.tableswitch 143 0 12 #[68, 143, 76, 143, 84, 143, 92, 143, 115, 143, 143, 143, 123], 68) := by decide +kernel
theorem dX6_isSo_72 : decode cX6_isSo 72 = .ok (.aload_n 0, 1) := by decide +kernel
theorem dX6_isSo_73 : decode cX6_isSo 73 = .ok (.getfield 79, 3) := by decide +kernel
theorem dX6_isSo_76 : decode cX6_isSo 76 = .ok (.istore_n 2, 1) := by decide +kernel
theorem dX6_isSo_77 : decode cX6_isSo 77 = .ok (.goto 94, 3) := by decide +kernel
theorem dX6_isSo_80 : decode cX6_isSo 80 = .ok (.aload_n 0, 1) := by decide +kernel
theorem dX6_isSo_81 : decode cX6_isSo 81 = .ok (.getfield 82, 3) := by decide +kernel
theorem dX6_isSo_84 : decode cX6_isSo 84 = .ok (.istore_n 2, 1) := by decide +kernel
theorem dX6_isSo_85 : decode cX6_isSo 85 = .ok (.goto 86, 3) := by decide +kernel
theorem dX6_isSo_88 : decode cX6_isSo 88 = .ok (.aload_n 0, 1) := by decide +kernel
theorem dX6_isSo_89 : decode cX6_isSo 89 = .ok (.getfield 85, 3) := by decide +kernel
theorem dX6_isSo_92 : decode cX6_isSo 92 = .ok (.istore_n 2, 1) := by decide +kernel
theorem dX6_isSo_93 : decode cX6_isSo 93 = .ok (.goto 78, 3) := by decide +kernel
theorem dX6_isSo_96 : decode cX6_isSo 96 = .ok (.aload_n 0, 1) := by decide +kernel
theorem dX6_isSo_97 : decode cX6_isSo 97 = .ok (.getfield 82, 3) := by decide +kernel
theorem dX6_isSo_100 : decode cX6_isSo 100 = .ok (.ifCond .ne 10, 3) := by decide +kernel
theorem dX6_isSo_103 : decode cX6_isSo 103 = .ok (.aload_n 0, 1) := by decide +kernel
theorem dX6_isSo_104 : decode cX6_isSo 104 = .ok (.getfield 85, 3) := by decide +kernel
theorem dX6_isSo_107 : decode cX6_isSo 107 = .ok (.ifCond .eq 7, 3) := by decide +kernel
theorem dX6_isSo_110 : decode cX6_isSo 110 = .ok (.iconst 1, 1) := by decide +kernel
theorem dX6_isSo_111 : decode cX6_isSo 111 = .ok (.goto 4, 3) := by decide +kernel
theorem dX6_isSo_114 : decode cX6_isSo 114 = .ok (.iconst 0, 1) := by decide +kernel
theorem dX6_isSo_115 : decode cX6_isSo 115 = .ok (.istore_n 2, 1) := by decide +kernel
theorem dX6_isSo_116 : decode cX6_isSo 116 = .ok (.goto 55, 3) := by decide +kernel
theorem dX6_isSo_119 : decode cX6_isSo 119 = .ok (.aload_n 0, 1) := by decide +kernel
theorem dX6_isSo_120 : decode cX6_isSo 120 = .ok (.getfield 88, 3) := by decide +kernel
theorem dX6_isSo_123 : decode cX6_isSo 123 = .ok (.istore_n 2, 1) := by decide +kernel
theorem dX6_isSo_124 : decode cX6_isSo 124 = .ok (.goto 47, 3) := by decide +kernel
theorem dX6_isSo_127 : decode cX6_isSo 127 = .ok (.aload_n 0, 1) := by decide +kernel
theorem dX6_isSo_128 : decode cX6_isSo 128 = .ok (.getfield 88, 3) := by decide +kernel
theorem dX6_isSo_131 : decode cX6_isSo 131 = .ok (.aload_n 0, 1) := by decide +kernel
theorem dX6_isSo_132 : decode cX6_isSo 132 = .ok (.getfield 79, 3) := by decide +kernel
theorem dX6_isSo_135 : decode cX6_isSo 135 = .ok (.if_icmp .eq 7, 3) := by decide +kernel
theorem dX6_isSo_138 : decode cX6_isSo 138 = .ok (.iconst 1, 1) := by decide +kernel
theorem dX6_isSo_139 : decode cX6_isSo 139 = .ok (.goto 4, 3) := by decide +kernel
theorem dX6_isSo_142 : decode cX6_isSo 142 = .ok (.iconst 0, 1) := by decide +kernel
theorem dX6_isSo_143 : decode cX6_isSo 143 = .ok (.istore_n 2, 1) := by decide +kernel
theorem dX6_isSo_144 : decode cX6_isSo 144 = .ok (.goto 27, 3) := by decide +kernel
theorem dX6_isSo_147 : decode cX6_isSo 147 = .ok (.aload_n 0, 1) := by decide +kernel
theorem dX6_isSo_148 : decode cX6_isSo 148 = .ok (.getfield 85, 3) := by decide +kernel
theorem dX6_isSo_151 : decode cX6_isSo 151 = .ok (.ifCond .ne 14, 3) := by decide +kernel
theorem dX6_isSo_154 : decode cX6_isSo 154 = .ok (.aload_n 0, 1) := by decide +kernel
theorem dX6_isSo_155 : decode cX6_isSo 155 = .ok (.getfield 88, 3) := by decide +kernel
theorem dX6_isSo_158 : decode cX6_isSo 158 = .ok (.aload_n 0, 1) := by decide +kernel
theorem dX6_isSo_159 : decode cX6_isSo 159 = .ok (.getfield 79, 3) := by decide +kernel
theorem dX6_isSo_162 : decode cX6_isSo 162 = .ok (.if_icmp .eq 7, 3) := by decide +kernel
theorem dX6_isSo_165 : decode cX6_isSo 165 = .ok (.iconst 1, 1) := by decide +kernel
theorem dX6_isSo_166 : decode cX6_isSo 166 = .ok (.goto 4, 3) := by decide +kernel
theorem dX6_isSo_169 : decode cX6_isSo 169 = .ok (.iconst 0, 1) := by decide +kernel
theorem dX6_isSo_170 : decode cX6_isSo 170 = .ok (.istore_n 2, 1) := by decide +kernel
theorem dX6_isSo_171 : decode cX6_isSo 171 = .ok (.iload_n 2, 1) := by decide +kernel
theorem dX6_isSo_172 : decode cX6_isSo 172 = .ok (.iload_n 1, 1) := by decide +kernel
theorem dX6_isSo_173 : decode cX6_isSo 173 = .ok (.iconst 1, 1) := by decide +kernel
theorem dX6_isSo_174 : decode cX6_isSo 174 = .ok (.iand, 1) := by decide +kernel
theorem dX6_isSo_175 : decode cX6_isSo 175 = .ok (.ifCond .ne 7, 3) := by decide +kernel
theorem dX6_isSo_178 : decode cX6_isSo 178 = .ok (.iconst 1, 1) := by decide +kernel
theorem dX6_isSo_179 : decode cX6_isSo 179 = .ok (.goto 4, 3) := by decide +kernel
theorem dX6_isSo_182 : decode cX6_isSo 182 = .ok (.iconst 0, 1) := by decide +kernel
theorem dX6_isSo_183 : decode cX6_isSo 183 = .ok (.if_icmp .ne 7, 3) := by decide +kernel
theorem dX6_isSo_186 : decode cX6_isSo 186 = .ok (.iconst 1, 1) := by decide +kernel
theorem dX6_isSo_187 : decode cX6_isSo 187 = .ok (.goto 4, 3) := by decide +kernel
theorem dX6_isSo_190 : decode cX6_isSo 190 = .ok (.iconst 0, 1) := by decide +kernel
theorem dX6_isSo_191 : decode cX6_isSo 191 = .ok (.ireturn, 1) := by decide +kernel
theorem dX6_compute_0 : decode cX6_compute 0 = .ok (.aload_n 0, 1) := by decide +kernel
theorem dX6_compute_1 : decode cX6_compute 1 = .ok (.getfield 26, 3) := by decide +kernel
theorem dX6_compute_4 : decode cX6_compute 4 = .ok (.getfield 57, 3) := by decide +kernel
theorem dX6_compute_7 : decode cX6_compute 7 = .ok (.istore_n 1, 1) := by decide +kernel
theorem dX6_compute_8 : decode cX6_compute 8 = .ok (.aload_n 0, 1) := by decide +kernel
theorem dX6_compute_9 : decode cX6_compute 9 = .ok (.aload_n 0, 1) := by decide +kernel
theorem dX6_compute_10 : decode cX6_compute 10 = .ok (.aload_n 0, 1) := by decide +kernel
theorem dX6_compute_11 : decode cX6_compute 11 = .ok (.getfield 26, 3) := by decide +kernel
theorem dX6_compute_14 : decode cX6_compute 14 = .ok (.getfield 91, 3) := by decide +kernel
theorem dX6_compute_17 : decode cX6_compute 17 = .ok (.invokevirtual 94, 3) := by decide +kernel
theorem dX6_compute_20 : decode cX6_compute 20 = .ok (.invokevirtual 98, 3) := by decide +kernel
theorem dX6_compute_23 : decode cX6_compute 23 = .ok (.lstore_n 2, 1) := by decide +kernel
theorem dX6_compute_24 : decode cX6_compute 24 = .ok (.aload_n 0, 1) := by decide +kernel
theorem dX6_compute_25 : decode cX6_compute 25 = .ok (.aload_n 0, 1) := by decide +kernel
theorem dX6_compute_26 : decode cX6_compute 26 = .ok (.getfield 26, 3) := by decide +kernel
theorem dX6_compute_29 : decode cX6_compute 29 = .ok (.getfield 102, 3) := by decide +kernel
theorem dX6_compute_32 : decode cX6_compute 32 = .ok (.iconst (-1), 1) := by decide +kernel
theorem dX6_compute_33 : decode cX6_compute 33 = .ok (.if_icmp .ne 13, 3) := by decide +kernel
theorem dX6_compute_36 : decode cX6_compute 36 = .ok (.aload_n 0, 1) := by decide +kernel
theorem dX6_compute_37 : decode cX6_compute 37 = .ok (.getfield 26, 3) := by decide +kernel
theorem dX6_compute_40 : decode cX6_compute 40 = .ok (.getfield 60, 3) := by decide +kernel
theorem dX6_compute_43 : decode cX6_compute 43 = .ok (.goto 14, 3) := by decide +kernel
theorem dX6_compute_46 : decode cX6_compute 46 = .ok (.aload_n 0, 1) := by decide +kernel
theorem dX6_compute_47 : decode cX6_compute 47 = .ok (.aload_n 0, 1) := by decide +kernel
theorem dX6_compute_48 : decode cX6_compute 48 = .ok (.getfield 26, 3) := by decide +kernel
theorem dX6_compute_51 : decode cX6_compute 51 = .ok (.getfield 102, 3) := by decide +kernel
theorem dX6_compute_54 : decode cX6_compute 54 = .ok (.invokevirtual 94, 3) := by decide +kernel
theorem dX6_compute_57 : decode cX6_compute 57 = .ok (.invokevirtual 98, 3) := by decide +kernel
theorem dX6_compute_60 : decode cX6_compute 60 = .ok (.lstore 4, 2) := by decide +kernel
theorem dX6_compute_62 : decode cX6_compute 62 = .ok (.iload_n 1, 1) := by decide +kernel
theorem dX6_compute_63 : decode cX6_compute 63 = .ok (.tableswitch 274 0 18 #[89, 179, 274, 274, 164, 103, 194, 117, 209, 221, 128, 141, 141, 274, 244, 244, 244, 244, 233], 89) := by decide +kernel
theorem dX6_compute_152 : decode cX6_compute 152 = .ok (.aload_n 0, 1) := by decide +kernel
theorem dX6_compute_153 : decode cX6_compute 153 = .ok (.aload_n 0, 1) := by decide +kernel
theorem dX6_compute_154 : decode cX6_compute 154 = .ok (.lload_n 2, 1) := by decide +kernel
theorem dX6_compute_155 : decode cX6_compute 155 = .ok (.lload 4, 2) := by decide +kernel
theorem dX6_compute_157 : decode cX6_compute 157 = .ok (.invokevirtual 105, 3) := by decide +kernel
theorem dX6_compute_160 : decode cX6_compute 160 = .ok (.invokevirtual 109, 3) := by decide +kernel
theorem dX6_compute_163 : decode cX6_compute 163 = .ok (.goto 180, 3) := by decide +kernel
theorem dX6_compute_166 : decode cX6_compute 166 = .ok (.aload_n 0, 1) := by decide +kernel
theorem dX6_compute_167 : decode cX6_compute 167 = .ok (.aload_n 0, 1) := by decide +kernel
theorem dX6_compute_168 : decode cX6_compute 168 = .ok (.lload_n 2, 1) := by decide +kernel
theorem dX6_compute_169 : decode cX6_compute 169 = .ok (.lload 4, 2) := by decide +kernel
theorem dX6_compute_171 : decode cX6_compute 171 = .ok (.invokevirtual 112, 3) := by decide +kernel
theorem dX6_compute_174 : decode cX6_compute 174 = .ok (.invokevirtual 109, 3) := by decide +kernel
theorem dX6_compute_177 : decode cX6_compute 177 = .ok (.goto 166, 3) := by decide +kernel
theorem dX6_compute_180 : decode cX6_compute 180 = .ok (.aload_n 0, 1) := by decide +kernel
theorem dX6_compute_181 : decode cX6_compute 181 = .ok (.lload_n 2, 1) := by decide +kernel
theorem dX6_compute_182 : decode cX6_compute 182 = .ok (.lload 4, 2) := by decide +kernel
theorem dX6_compute_184 : decode cX6_compute 184 = .ok (.invokevirtual 112, 3) := by decide +kernel
theorem dX6_compute_187 : decode cX6_compute 187 = .ok (.pop2, 1) := by decide +kernel
theorem dX6_compute_188 : decode cX6_compute 188 = .ok (.goto 155, 3) := by decide +kernel
theorem dX6_compute_191 : decode cX6_compute 191 = .ok (.aload_n 0, 1) := by decide +kernel
theorem dX6_compute_192 : decode cX6_compute 192 = .ok (.aload_n 0, 1) := by decide +kernel
theorem dX6_compute_193 : decode cX6_compute 193 = .ok (.lconst 0, 1) := by decide +kernel
theorem dX6_compute_194 : decode cX6_compute 194 = .ok (.lload_n 2, 1) := by decide +kernel
theorem dX6_compute_195 : decode cX6_compute 195 = .ok (.invokevirtual 112, 3) := by decide +kernel
theorem dX6_compute_198 : decode cX6_compute 198 = .ok (.invokevirtual 109, 3) := by decide +kernel
theorem dX6_compute_201 : decode cX6_compute 201 = .ok (.goto 142, 3) := by decide +kernel
theorem dX6_compute_204 : decode cX6_compute 204 = .ok (.aload_n 0, 1) := by decide +kernel
theorem dX6_compute_205 : decode cX6_compute 205 = .ok (.aload_n 0, 1) := by decide +kernel
theorem dX6_compute_206 : decode cX6_compute 206 = .ok (.lload_n 2, 1) := by decide +kernel
theorem dX6_compute_207 : decode cX6_compute 207 = .ok (.iload_n 1, 1) := by decide +kernel
theorem dX6_compute_208 : decode cX6_compute 208 = .ok (.bipush 11, 2) := by decide +kernel
theorem dX6_compute_210 : decode cX6_compute 210 = .ok (.if_icmp .ne 7, 3) := by decide +kernel
theorem dX6_compute_213 : decode cX6_compute 213 = .ok (.iconst 1, 1) := by decide +kernel
theorem dX6_compute_214 : decode cX6_compute 214 = .ok (.goto 4, 3) := by decide +kernel
theorem dX6_compute_217 : decode cX6_compute 217 = .ok (.iconst 0, 1) := by decide +kernel
theorem dX6_compute_218 : decode cX6_compute 218 = .ok (.invokevirtual 115, 3) := by decide +kernel
theorem dX6_compute_221 : decode cX6_compute 221 = .ok (.invokevirtual 109, 3) := by decide +kernel
theorem dX6_compute_224 : decode cX6_compute 224 = .ok (.goto 119, 3) := by decide +kernel
theorem dX6_compute_227 : decode cX6_compute 227 = .ok (.aload_n 0, 1) := by decide +kernel
theorem dX6_compute_228 : decode cX6_compute 228 = .ok (.aload_n 0, 1) := by decide +kernel
theorem dX6_compute_229 : decode cX6_compute 229 = .ok (.lload_n 2, 1) := by decide +kernel
theorem dX6_compute_230 : decode cX6_compute 230 = .ok (.lload 4, 2) := by decide +kernel
theorem dX6_compute_232 : decode cX6_compute 232 = .ok (.land, 1) := by decide +kernel
theorem dX6_compute_233 : decode cX6_compute 233 = .ok (.invokevirtual 119, 3) := by decide +kernel
theorem dX6_compute_236 : decode cX6_compute 236 = .ok (.invokevirtual 109, 3) := by decide +kernel
theorem dX6_compute_239 : decode cX6_compute 239 = .ok (.goto 104, 3) := by decide +kernel
theorem dX6_compute_242 : decode cX6_compute 242 = .ok (.aload_n 0, 1) := by decide +kernel
theorem dX6_compute_243 : decode cX6_compute 243 = .ok (.aload_n 0, 1) := by decide +kernel
theorem dX6_compute_244 : decode cX6_compute 244 = .ok (.lload_n 2, 1) := by decide +kernel
theorem dX6_compute_245 : decode cX6_compute 245 = .ok (.lload 4, 2) := by decide +kernel
theorem dX6_compute_247 : decode cX6_compute 247 = .ok (.lor, 1) := by decide +kernel
theorem dX6_compute_248 : decode cX6_compute 248 = .ok (.invokevirtual 119, 3) := by decide +kernel
theorem dX6_compute_251 : decode cX6_compute 251 = .ok (.invokevirtual 109, 3) := by decide +kernel
theorem dX6_compute_254 : decode cX6_compute 254 = .ok (.goto 89, 3) := by decide +kernel
theorem dX6_compute_257 : decode cX6_compute 257 = .ok (.aload_n 0, 1) := by decide +kernel
theorem dX6_compute_258 : decode cX6_compute 258 = .ok (.aload_n 0, 1) := by decide +kernel
theorem dX6_compute_259 : decode cX6_compute 259 = .ok (.lload_n 2, 1) := by decide +kernel
theorem dX6_compute_260 : decode cX6_compute 260 = .ok (.lload 4, 2) := by decide +kernel
theorem dX6_compute_262 : decode cX6_compute 262 = .ok (.lxor, 1) := by decide +kernel
theorem dX6_compute_263 : decode cX6_compute 263 = .ok (.invokevirtual 119, 3) := by decide +kernel
theorem dX6_compute_266 : decode cX6_compute 266 = .ok (.invokevirtual 109, 3) := by decide +kernel
theorem dX6_compute_269 : decode cX6_compute 269 = .ok (.goto 74, 3) := by decide +kernel
theorem dX6_compute_272 : decode cX6_compute 272 = .ok (.aload_n 0, 1) := by decide +kernel
theorem dX6_compute_273 : decode cX6_compute 273 = .ok (.lload_n 2, 1) := by decide +kernel
theorem dX6_compute_274 : decode cX6_compute 274 = .ok (.lload 4, 2) := by decide +kernel
theorem dX6_compute_276 : decode cX6_compute 276 = .ok (.land, 1) := by decide +kernel
theorem dX6_compute_277 : decode cX6_compute 277 = .ok (.invokevirtual 119, 3) := by decide +kernel
theorem dX6_compute_280 : decode cX6_compute 280 = .ok (.pop2, 1) := by decide +kernel
theorem dX6_compute_281 : decode cX6_compute 281 = .ok (.goto 62, 3) := by decide +kernel
theorem dX6_compute_284 : decode cX6_compute 284 = .ok (.aload_n 0, 1) := by decide +kernel
theorem dX6_compute_285 : decode cX6_compute 285 = .ok (.lload_n 2, 1) := by decide +kernel
theorem dX6_compute_286 : decode cX6_compute 286 = .ok (.ldc2_w 122, 3) := by decide +kernel
theorem dX6_compute_289 : decode cX6_compute 289 = .ok (.lxor, 1) := by decide +kernel
theorem dX6_compute_290 : decode cX6_compute 290 = .ok (.invokevirtual 109, 3) := by decide +kernel
theorem dX6_compute_293 : decode cX6_compute 293 = .ok (.goto 50, 3) := by decide +kernel
theorem dX6_compute_296 : decode cX6_compute 296 = .ok (.aload_n 0, 1) := by decide +kernel
theorem dX6_compute_297 : decode cX6_compute 297 = .ok (.lload 4, 2) := by decide +kernel
theorem dX6_compute_299 : decode cX6_compute 299 = .ok (.l2i, 1) := by decide +kernel
theorem dX6_compute_300 : decode cX6_compute 300 = .ok (.i2l, 1) := by decide +kernel
theorem dX6_compute_301 : decode cX6_compute 301 = .ok (.invokevirtual 109, 3) := by decide +kernel
theorem dX6_compute_304 : decode cX6_compute 304 = .ok (.goto 39, 3) := by decide +kernel
theorem dX6_compute_307 : decode cX6_compute 307 = .ok (.aload_n 0, 1) := by decide +kernel
theorem dX6_compute_308 : decode cX6_compute 308 = .ok (.iconst 0, 1) := by decide +kernel
theorem dX6_compute_309 : decode cX6_compute 309 = .ok (.putfield 40, 3) := by decide +kernel
theorem dX6_compute_312 : decode cX6_compute 312 = .ok (.aload_n 0, 1) := by decide +kernel
theorem dX6_compute_313 : decode cX6_compute 313 = .ok (.iload_n 1, 1) := by decide +kernel
theorem dX6_compute_314 : decode cX6_compute 314 = .ok (.bipush 17, 2) := by decide +kernel
theorem dX6_compute_316 : decode cX6_compute 316 = .ok (.if_icmp .ne 10, 3) := by decide +kernel
theorem dX6_compute_319 : decode cX6_compute 319 = .ok (.lload_n 2, 1) := by decide +kernel
theorem dX6_compute_320 : decode cX6_compute 320 = .ok (.lload 4, 2) := by decide +kernel
theorem dX6_compute_322 : decode cX6_compute 322 = .ok (.lmul, 1) := by decide +kernel
theorem dX6_compute_323 : decode cX6_compute 323 = .ok (.goto 8, 3) := by decide +kernel
theorem dX6_compute_326 : decode cX6_compute 326 = .ok (.aload_n 0, 1) := by decide +kernel
theorem dX6_compute_327 : decode cX6_compute 327 = .ok (.lload_n 2, 1) := by decide +kernel
theorem dX6_compute_328 : decode cX6_compute 328 = .ok (.invokevirtual 124, 3) := by decide +kernel
theorem dX6_compute_331 : decode cX6_compute 331 = .ok (.invokevirtual 109, 3) := by decide +kernel
theorem dX6_compute_334 : decode cX6_compute 334 = .ok (.goto 9, 3) := by decide +kernel
theorem dX6_compute_337 : decode cX6_compute 337 = .ok (.aload_n 0, 1) := by decide +kernel
theorem dX6_compute_338 : decode cX6_compute 338 = .ok (.lload 4, 2) := by decide +kernel
theorem dX6_compute_340 : decode cX6_compute 340 = .ok (.invokevirtual 109, 3) := by decide +kernel
theorem dX6_compute_343 : decode cX6_compute 343 = .ok (.return_, 1) := by decide +kernel
theorem dX6_atWidth_0 : decode cX6_atWidth 0 = .ok (.aload_n 0, 1) := by decide +kernel
theorem dX6_atWidth_1 : decode cX6_atWidth 1 = .ok (.getfield 26, 3) := by decide +kernel
theorem dX6_atWidth_4 : decode cX6_atWidth 4 = .ok (.getfield 127, 3) := by decide +kernel
theorem dX6_atWidth_7 : decode cX6_atWidth 7 = .ok (.bipush 64, 2) := by decide +kernel
theorem dX6_atWidth_9 : decode cX6_atWidth 9 = .ok (.if_icmp .ne 7, 3) := by decide +kernel
theorem dX6_atWidth_12 : decode cX6_atWidth 12 = .ok (.lload_n 1, 1) := by decide +kernel
theorem dX6_atWidth_13 : decode cX6_atWidth 13 = .ok (.goto 6, 3) := by decide +kernel
theorem dX6_atWidth_16 : decode cX6_atWidth 16 = .ok (.lload_n 1, 1) := by decide +kernel
theorem dX6_atWidth_17 : decode cX6_atWidth 17 = .ok (.l2i, 1) := by decide +kernel
theorem dX6_atWidth_18 : decode cX6_atWidth 18 = .ok (.i2l, 1) := by decide +kernel
theorem dX6_atWidth_19 : decode cX6_atWidth 19 = .ok (.lreturn, 1) := by decide +kernel
theorem dX6_write_0 : decode cX6_write 0 = .ok (.aload_n 0, 1) := by decide +kernel
theorem dX6_write_1 : decode cX6_write 1 = .ok (.getfield 26, 3) := by decide +kernel
theorem dX6_write_4 : decode cX6_write 4 = .ok (.getfield 91, 3) := by decide +kernel
theorem dX6_write_7 : decode cX6_write 7 = .ok (.istore_n 3, 1) := by decide +kernel
theorem dX6_write_8 : decode cX6_write 8 = .ok (.iload_n 3, 1) := by decide +kernel
theorem dX6_write_9 : decode cX6_write 9 = .ok (.invokestatic 30, 3) := by decide +kernel
theorem dX6_write_12 : decode cX6_write 12 = .ok (.ifCond .eq 30, 3) := by decide +kernel
theorem dX6_write_15 : decode cX6_write 15 = .ok (.aload_n 0, 1) := by decide +kernel
theorem dX6_write_16 : decode cX6_write 16 = .ok (.getfield 15, 3) := by decide +kernel
theorem dX6_write_19 : decode cX6_write 19 = .ok (.iload_n 3, 1) := by decide +kernel
theorem dX6_write_20 : decode cX6_write 20 = .ok (.aload_n 0, 1) := by decide +kernel
theorem dX6_write_21 : decode cX6_write 21 = .ok (.getfield 26, 3) := by decide +kernel
theorem dX6_write_24 : decode cX6_write 24 = .ok (.getfield 127, 3) := by decide +kernel
theorem dX6_write_27 : decode cX6_write 27 = .ok (.bipush 64, 2) := by decide +kernel
theorem dX6_write_29 : decode cX6_write 29 = .ok (.if_icmp .ne 7, 3) := by decide +kernel
theorem dX6_write_32 : decode cX6_write 32 = .ok (.lload_n 1, 1) := by decide +kernel
theorem dX6_write_33 : decode cX6_write 33 = .ok (.goto 8, 3) := by decide +kernel
theorem dX6_write_36 : decode cX6_write 36 = .ok (.lload_n 1, 1) := by decide +kernel
theorem dX6_write_37 : decode cX6_write 37 = .ok (.ldc2_w 130, 3) := by decide +kernel
theorem dX6_write_40 : decode cX6_write 40 = .ok (.land, 1) := by decide +kernel
theorem dX6_write_41 : decode cX6_write 41 = .ok (.lastore, 1) := by decide +kernel
theorem dX6_write_42 : decode cX6_write 42 = .ok (.return_, 1) := by decide +kernel
theorem dX6_sum_0 : decode cX6_sum 0 = .ok (.aload_n 0, 1) := by decide +kernel
theorem dX6_sum_1 : decode cX6_sum 1 = .ok (.lload_n 1, 1) := by decide +kernel
theorem dX6_sum_2 : decode cX6_sum 2 = .ok (.lload_n 3, 1) := by decide +kernel
theorem dX6_sum_3 : decode cX6_sum 3 = .ok (.ladd, 1) := by decide +kernel
theorem dX6_sum_4 : decode cX6_sum 4 = .ok (.invokevirtual 119, 3) := by decide +kernel
theorem dX6_sum_7 : decode cX6_sum 7 = .ok (.lstore 5, 2) := by decide +kernel
theorem dX6_sum_9 : decode cX6_sum 9 = .ok (.aload_n 0, 1) := by decide +kernel
theorem dX6_sum_10 : decode cX6_sum 10 = .ok (.lload 5, 2) := by decide +kernel
theorem dX6_sum_12 : decode cX6_sum 12 = .ok (.lload_n 1, 1) := by decide +kernel
theorem dX6_sum_13 : decode cX6_sum 13 = .ok (.invokestatic 132, 3) := by decide +kernel
theorem dX6_sum_16 : decode cX6_sum 16 = .ok (.ifCond .ge 7, 3) := by decide +kernel
theorem dX6_sum_19 : decode cX6_sum 19 = .ok (.iconst 1, 1) := by decide +kernel
theorem dX6_sum_20 : decode cX6_sum 20 = .ok (.goto 4, 3) := by decide +kernel
theorem dX6_sum_23 : decode cX6_sum 23 = .ok (.iconst 0, 1) := by decide +kernel
theorem dX6_sum_24 : decode cX6_sum 24 = .ok (.putfield 82, 3) := by decide +kernel
theorem dX6_sum_27 : decode cX6_sum 27 = .ok (.aload_n 0, 1) := by decide +kernel
theorem dX6_sum_28 : decode cX6_sum 28 = .ok (.lload_n 1, 1) := by decide +kernel
theorem dX6_sum_29 : decode cX6_sum 29 = .ok (.lload 5, 2) := by decide +kernel
theorem dX6_sum_31 : decode cX6_sum 31 = .ok (.lxor, 1) := by decide +kernel
theorem dX6_sum_32 : decode cX6_sum 32 = .ok (.lload_n 3, 1) := by decide +kernel
theorem dX6_sum_33 : decode cX6_sum 33 = .ok (.lload 5, 2) := by decide +kernel
theorem dX6_sum_35 : decode cX6_sum 35 = .ok (.lxor, 1) := by decide +kernel
theorem dX6_sum_36 : decode cX6_sum 36 = .ok (.land, 1) := by decide +kernel
theorem dX6_sum_37 : decode cX6_sum 37 = .ok (.lconst 0, 1) := by decide +kernel
theorem dX6_sum_38 : decode cX6_sum 38 = .ok (.lcmp, 1) := by decide +kernel
theorem dX6_sum_39 : decode cX6_sum 39 = .ok (.ifCond .ge 7, 3) := by decide +kernel
theorem dX6_sum_42 : decode cX6_sum 42 = .ok (.iconst 1, 1) := by decide +kernel
theorem dX6_sum_43 : decode cX6_sum 43 = .ok (.goto 4, 3) := by decide +kernel
theorem dX6_sum_46 : decode cX6_sum 46 = .ok (.iconst 0, 1) := by decide +kernel
theorem dX6_sum_47 : decode cX6_sum 47 = .ok (.putfield 79, 3) := by decide +kernel
theorem dX6_sum_50 : decode cX6_sum 50 = .ok (.lload 5, 2) := by decide +kernel
theorem dX6_sum_52 : decode cX6_sum 52 = .ok (.lreturn, 1) := by decide +kernel
theorem dX6_difference_0 : decode cX6_difference 0 = .ok (.aload_n 0, 1) := by decide +kernel
theorem dX6_difference_1 : decode cX6_difference 1 = .ok (.lload_n 1, 1) := by decide +kernel
theorem dX6_difference_2 : decode cX6_difference 2 = .ok (.lload_n 3, 1) := by decide +kernel
theorem dX6_difference_3 : decode cX6_difference 3 = .ok (.lsub, 1) := by decide +kernel
theorem dX6_difference_4 : decode cX6_difference 4 = .ok (.invokevirtual 119, 3) := by decide +kernel
theorem dX6_difference_7 : decode cX6_difference 7 = .ok (.lstore 5, 2) := by decide +kernel
theorem dX6_difference_9 : decode cX6_difference 9 = .ok (.aload_n 0, 1) := by decide +kernel
theorem dX6_difference_10 : decode cX6_difference 10 = .ok (.lload_n 1, 1) := by decide +kernel
theorem dX6_difference_11 : decode cX6_difference 11 = .ok (.lload_n 3, 1) := by decide +kernel
theorem dX6_difference_12 : decode cX6_difference 12 = .ok (.invokestatic 132, 3) := by decide +kernel
theorem dX6_difference_15 : decode cX6_difference 15 = .ok (.ifCond .ge 7, 3) := by decide +kernel
theorem dX6_difference_18 : decode cX6_difference 18 = .ok (.iconst 1, 1) := by decide +kernel
theorem dX6_difference_19 : decode cX6_difference 19 = .ok (.goto 4, 3) := by decide +kernel
theorem dX6_difference_22 : decode cX6_difference 22 = .ok (.iconst 0, 1) := by decide +kernel
theorem dX6_difference_23 : decode cX6_difference 23 = .ok (.putfield 82, 3) := by decide +kernel
theorem dX6_difference_26 : decode cX6_difference 26 = .ok (.aload_n 0, 1) := by decide +kernel
theorem dX6_difference_27 : decode cX6_difference 27 = .ok (.lload_n 1, 1) := by decide +kernel
theorem dX6_difference_28 : decode cX6_difference 28 = .ok (.lload_n 3, 1) := by decide +kernel
theorem dX6_difference_29 : decode cX6_difference 29 = .ok (.lxor, 1) := by decide +kernel
theorem dX6_difference_30 : decode cX6_difference 30 = .ok (.lload_n 1, 1) := by decide +kernel
theorem dX6_difference_31 : decode cX6_difference 31 = .ok (.lload 5, 2) := by decide +kernel
theorem dX6_difference_33 : decode cX6_difference 33 = .ok (.lxor, 1) := by decide +kernel
theorem dX6_difference_34 : decode cX6_difference 34 = .ok (.land, 1) := by decide +kernel
theorem dX6_difference_35 : decode cX6_difference 35 = .ok (.lconst 0, 1) := by decide +kernel
theorem dX6_difference_36 : decode cX6_difference 36 = .ok (.lcmp, 1) := by decide +kernel
theorem dX6_difference_37 : decode cX6_difference 37 = .ok (.ifCond .ge 7, 3) := by decide +kernel
theorem dX6_difference_40 : decode cX6_difference 40 = .ok (.iconst 1, 1) := by decide +kernel
theorem dX6_difference_41 : decode cX6_difference 41 = .ok (.goto 4, 3) := by decide +kernel
theorem dX6_difference_44 : decode cX6_difference 44 = .ok (.iconst 0, 1) := by decide +kernel
theorem dX6_difference_45 : decode cX6_difference 45 = .ok (.putfield 79, 3) := by decide +kernel
theorem dX6_difference_48 : decode cX6_difference 48 = .ok (.lload 5, 2) := by decide +kernel
theorem dX6_difference_50 : decode cX6_difference 50 = .ok (.lreturn, 1) := by decide +kernel
theorem dX6_nextTo_0 : decode cX6_nextTo 0 = .ok (.aload_n 0, 1) := by decide +kernel
theorem dX6_nextTo_1 : decode cX6_nextTo 1 = .ok (.getfield 40, 3) := by decide +kernel
theorem dX6_nextTo_4 : decode cX6_nextTo 4 = .ok (.ifCond .ne 17, 3) := by decide +kernel
theorem dX6_nextTo_7 : decode cX6_nextTo 7 = .ok (.iload_n 3, 1) := by decide +kernel
theorem dX6_nextTo_8 : decode cX6_nextTo 8 = .ok (.ifCond .eq 9, 3) := by decide +kernel
theorem dX6_nextTo_11 : decode cX6_nextTo 11 = .ok (.lload_n 1, 1) := by decide +kernel
theorem dX6_nextTo_12 : decode cX6_nextTo 12 = .ok (.lconst 1, 1) := by decide +kernel
theorem dX6_nextTo_13 : decode cX6_nextTo 13 = .ok (.ladd, 1) := by decide +kernel
theorem dX6_nextTo_14 : decode cX6_nextTo 14 = .ok (.goto 6, 3) := by decide +kernel
theorem dX6_nextTo_17 : decode cX6_nextTo 17 = .ok (.lload_n 1, 1) := by decide +kernel
theorem dX6_nextTo_18 : decode cX6_nextTo 18 = .ok (.lconst 1, 1) := by decide +kernel
theorem dX6_nextTo_19 : decode cX6_nextTo 19 = .ok (.lsub, 1) := by decide +kernel
theorem dX6_nextTo_20 : decode cX6_nextTo 20 = .ok (.lreturn, 1) := by decide +kernel
theorem dX6_nextTo_21 : decode cX6_nextTo 21 = .ok (.aload_n 0, 1) := by decide +kernel
theorem dX6_nextTo_22 : decode cX6_nextTo 22 = .ok (.getfield 82, 3) := by decide +kernel
theorem dX6_nextTo_25 : decode cX6_nextTo 25 = .ok (.istore 4, 2) := by decide +kernel
theorem dX6_nextTo_27 : decode cX6_nextTo 27 = .ok (.iload_n 3, 1) := by decide +kernel
theorem dX6_nextTo_28 : decode cX6_nextTo 28 = .ok (.ifCond .eq 12, 3) := by decide +kernel
theorem dX6_nextTo_31 : decode cX6_nextTo 31 = .ok (.aload_n 0, 1) := by decide +kernel
theorem dX6_nextTo_32 : decode cX6_nextTo 32 = .ok (.lload_n 1, 1) := by decide +kernel
theorem dX6_nextTo_33 : decode cX6_nextTo 33 = .ok (.lconst 1, 1) := by decide +kernel
theorem dX6_nextTo_34 : decode cX6_nextTo 34 = .ok (.invokevirtual 105, 3) := by decide +kernel
theorem dX6_nextTo_37 : decode cX6_nextTo 37 = .ok (.goto 9, 3) := by decide +kernel
theorem dX6_nextTo_40 : decode cX6_nextTo 40 = .ok (.aload_n 0, 1) := by decide +kernel
theorem dX6_nextTo_41 : decode cX6_nextTo 41 = .ok (.lload_n 1, 1) := by decide +kernel
theorem dX6_nextTo_42 : decode cX6_nextTo 42 = .ok (.lconst 1, 1) := by decide +kernel
theorem dX6_nextTo_43 : decode cX6_nextTo 43 = .ok (.invokevirtual 112, 3) := by decide +kernel
theorem dX6_nextTo_46 : decode cX6_nextTo 46 = .ok (.lstore 5, 2) := by decide +kernel
theorem dX6_nextTo_48 : decode cX6_nextTo 48 = .ok (.aload_n 0, 1) := by decide +kernel
theorem dX6_nextTo_49 : decode cX6_nextTo 49 = .ok (.iload 4, 2) := by decide +kernel
theorem dX6_nextTo_51 : decode cX6_nextTo 51 = .ok (.putfield 82, 3) := by decide +kernel
theorem dX6_nextTo_54 : decode cX6_nextTo 54 = .ok (.lload 5, 2) := by decide +kernel
theorem dX6_nextTo_56 : decode cX6_nextTo 56 = .ok (.lreturn, 1) := by decide +kernel
theorem dX6_noteBits_0 : decode cX6_noteBits 0 = .ok (.aload_n 0, 1) := by decide +kernel
theorem dX6_noteBits_1 : decode cX6_noteBits 1 = .ok (.lload_n 1, 1) := by decide +kernel
theorem dX6_noteBits_2 : decode cX6_noteBits 2 = .ok (.invokevirtual 98, 3) := by decide +kernel
theorem dX6_noteBits_5 : decode cX6_noteBits 5 = .ok (.lstore_n 3, 1) := by decide +kernel
theorem dX6_noteBits_6 : decode cX6_noteBits 6 = .ok (.aload_n 0, 1) := by decide +kernel
theorem dX6_noteBits_7 : decode cX6_noteBits 7 = .ok (.iconst 1, 1) := by decide +kernel
theorem dX6_noteBits_8 : decode cX6_noteBits 8 = .ok (.putfield 40, 3) := by decide +kernel
theorem dX6_noteBits_11 : decode cX6_noteBits 11 = .ok (.aload_n 0, 1) := by decide +kernel
theorem dX6_noteBits_12 : decode cX6_noteBits 12 = .ok (.lload_n 3, 1) := by decide +kernel
theorem dX6_noteBits_13 : decode cX6_noteBits 13 = .ok (.lconst 0, 1) := by decide +kernel
theorem dX6_noteBits_14 : decode cX6_noteBits 14 = .ok (.lcmp, 1) := by decide +kernel
theorem dX6_noteBits_15 : decode cX6_noteBits 15 = .ok (.ifCond .ne 7, 3) := by decide +kernel
theorem dX6_noteBits_18 : decode cX6_noteBits 18 = .ok (.iconst 1, 1) := by decide +kernel
theorem dX6_noteBits_19 : decode cX6_noteBits 19 = .ok (.goto 4, 3) := by decide +kernel
theorem dX6_noteBits_22 : decode cX6_noteBits 22 = .ok (.iconst 0, 1) := by decide +kernel
theorem dX6_noteBits_23 : decode cX6_noteBits 23 = .ok (.putfield 85, 3) := by decide +kernel
theorem dX6_noteBits_26 : decode cX6_noteBits 26 = .ok (.aload_n 0, 1) := by decide +kernel
theorem dX6_noteBits_27 : decode cX6_noteBits 27 = .ok (.lload_n 3, 1) := by decide +kernel
theorem dX6_noteBits_28 : decode cX6_noteBits 28 = .ok (.lconst 0, 1) := by decide +kernel
theorem dX6_noteBits_29 : decode cX6_noteBits 29 = .ok (.lcmp, 1) := by decide +kernel
theorem dX6_noteBits_30 : decode cX6_noteBits 30 = .ok (.ifCond .ge 7, 3) := by decide +kernel
theorem dX6_noteBits_33 : decode cX6_noteBits 33 = .ok (.iconst 1, 1) := by decide +kernel
theorem dX6_noteBits_34 : decode cX6_noteBits 34 = .ok (.goto 4, 3) := by decide +kernel
theorem dX6_noteBits_37 : decode cX6_noteBits 37 = .ok (.iconst 0, 1) := by decide +kernel
theorem dX6_noteBits_38 : decode cX6_noteBits 38 = .ok (.putfield 88, 3) := by decide +kernel
theorem dX6_noteBits_41 : decode cX6_noteBits 41 = .ok (.aload_n 0, 1) := by decide +kernel
theorem dX6_noteBits_42 : decode cX6_noteBits 42 = .ok (.iconst 0, 1) := by decide +kernel
theorem dX6_noteBits_43 : decode cX6_noteBits 43 = .ok (.putfield 82, 3) := by decide +kernel
theorem dX6_noteBits_46 : decode cX6_noteBits 46 = .ok (.aload_n 0, 1) := by decide +kernel
theorem dX6_noteBits_47 : decode cX6_noteBits 47 = .ok (.iconst 0, 1) := by decide +kernel
theorem dX6_noteBits_48 : decode cX6_noteBits 48 = .ok (.putfield 79, 3) := by decide +kernel
theorem dX6_noteBits_51 : decode cX6_noteBits 51 = .ok (.lload_n 3, 1) := by decide +kernel
theorem dX6_noteBits_52 : decode cX6_noteBits 52 = .ok (.lreturn, 1) := by decide +kernel
theorem dX6_shifted_0 : decode cX6_shifted 0 = .ok (.aload_n 0, 1) := by decide +kernel
theorem dX6_shifted_1 : decode cX6_shifted 1 = .ok (.getfield 26, 3) := by decide +kernel
theorem dX6_shifted_4 : decode cX6_shifted 4 = .ok (.getfield 64, 3) := by decide +kernel
theorem dX6_shifted_7 : decode cX6_shifted 7 = .ok (.istore_n 3, 1) := by decide +kernel
theorem dX6_shifted_8 : decode cX6_shifted 8 = .ok (.aload_n 0, 1) := by decide +kernel
theorem dX6_shifted_9 : decode cX6_shifted 9 = .ok (.getfield 26, 3) := by decide +kernel
theorem dX6_shifted_12 : decode cX6_shifted 12 = .ok (.getfield 57, 3) := by decide +kernel
theorem dX6_shifted_15 : decode cX6_shifted 15 = .ok (.lookupswitch 53 #[(14, 25), (15, 29)], 25) := by decide +kernel
theorem dX6_shifted_40 : decode cX6_shifted 40 = .ok (.lload_n 1, 1) := by decide +kernel
theorem dX6_shifted_41 : decode cX6_shifted 41 = .ok (.iload_n 3, 1) := by decide +kernel
theorem dX6_shifted_42 : decode cX6_shifted 42 = .ok (.lshl, 1) := by decide +kernel
theorem dX6_shifted_43 : decode cX6_shifted 43 = .ok (.lreturn, 1) := by decide +kernel
theorem dX6_shifted_44 : decode cX6_shifted 44 = .ok (.aload_n 0, 1) := by decide +kernel
theorem dX6_shifted_45 : decode cX6_shifted 45 = .ok (.getfield 26, 3) := by decide +kernel
theorem dX6_shifted_48 : decode cX6_shifted 48 = .ok (.getfield 127, 3) := by decide +kernel
theorem dX6_shifted_51 : decode cX6_shifted 51 = .ok (.bipush 64, 2) := by decide +kernel
theorem dX6_shifted_53 : decode cX6_shifted 53 = .ok (.if_icmp .ne 7, 3) := by decide +kernel
theorem dX6_shifted_56 : decode cX6_shifted 56 = .ok (.lload_n 1, 1) := by decide +kernel
theorem dX6_shifted_57 : decode cX6_shifted 57 = .ok (.goto 8, 3) := by decide +kernel
theorem dX6_shifted_60 : decode cX6_shifted 60 = .ok (.lload_n 1, 1) := by decide +kernel
theorem dX6_shifted_61 : decode cX6_shifted 61 = .ok (.ldc2_w 130, 3) := by decide +kernel
theorem dX6_shifted_64 : decode cX6_shifted 64 = .ok (.land, 1) := by decide +kernel
theorem dX6_shifted_65 : decode cX6_shifted 65 = .ok (.iload_n 3, 1) := by decide +kernel
theorem dX6_shifted_66 : decode cX6_shifted 66 = .ok (.lushr, 1) := by decide +kernel
theorem dX6_shifted_67 : decode cX6_shifted 67 = .ok (.lreturn, 1) := by decide +kernel
theorem dX6_shifted_68 : decode cX6_shifted 68 = .ok (.lload_n 1, 1) := by decide +kernel
theorem dX6_shifted_69 : decode cX6_shifted 69 = .ok (.iload_n 3, 1) := by decide +kernel
theorem dX6_shifted_70 : decode cX6_shifted 70 = .ok (.lshr, 1) := by decide +kernel
theorem dX6_shifted_71 : decode cX6_shifted 71 = .ok (.lreturn, 1) := by decide +kernel
theorem dX7_init_0 : decode cX7_init 0 = .ok (.aload_n 0, 1) := by decide +kernel
theorem dX7_init_1 : decode cX7_init 1 = .ok (.invokespecial 3, 3) := by decide +kernel
theorem dX7_init_4 : decode cX7_init 4 = .ok (.return_, 1) := by decide +kernel
theorem dX7_isTriple_0 : decode cX7_isTriple 0 = .ok (.lload_n 0, 1) := by decide +kernel
theorem dX7_isTriple_1 : decode cX7_isTriple 1 = .ok (.lload_n 2, 1) := by decide +kernel
theorem dX7_isTriple_2 : decode cX7_isTriple 2 = .ok (.lcmp, 1) := by decide +kernel
theorem dX7_isTriple_3 : decode cX7_isTriple 3 = .ok (.ifCond .gt 19, 3) := by decide +kernel
theorem dX7_isTriple_6 : decode cX7_isTriple 6 = .ok (.lload_n 0, 1) := by decide +kernel
theorem dX7_isTriple_7 : decode cX7_isTriple 7 = .ok (.ldc2_w 11, 3) := by decide +kernel
theorem dX7_isTriple_10 : decode cX7_isTriple 10 = .ok (.lcmp, 1) := by decide +kernel
theorem dX7_isTriple_11 : decode cX7_isTriple 11 = .ok (.ifCond .lt 11, 3) := by decide +kernel
theorem dX7_isTriple_14 : decode cX7_isTriple 14 = .ok (.lload_n 2, 1) := by decide +kernel
theorem dX7_isTriple_15 : decode cX7_isTriple 15 = .ok (.ldc2_w 13, 3) := by decide +kernel
theorem dX7_isTriple_18 : decode cX7_isTriple 18 = .ok (.lcmp, 1) := by decide +kernel
theorem dX7_isTriple_19 : decode cX7_isTriple 19 = .ok (.ifCond .le 5, 3) := by decide +kernel
theorem dX7_isTriple_22 : decode cX7_isTriple 22 = .ok (.iconst 0, 1) := by decide +kernel
theorem dX7_isTriple_23 : decode cX7_isTriple 23 = .ok (.ireturn, 1) := by decide +kernel
theorem dX7_isTriple_24 : decode cX7_isTriple 24 = .ok (.lload_n 0, 1) := by decide +kernel
theorem dX7_isTriple_25 : decode cX7_isTriple 25 = .ok (.lload_n 2, 1) := by decide +kernel
theorem dX7_isTriple_26 : decode cX7_isTriple 26 = .ok (.lcmp, 1) := by decide +kernel
theorem dX7_isTriple_27 : decode cX7_isTriple 27 = .ok (.ifCond .ne 16, 3) := by decide +kernel
theorem dX7_isTriple_30 : decode cX7_isTriple 30 = .ok (.lload 4, 2) := by decide +kernel
theorem dX7_isTriple_32 : decode cX7_isTriple 32 = .ok (.lconst 0, 1) := by decide +kernel
theorem dX7_isTriple_33 : decode cX7_isTriple 33 = .ok (.lcmp, 1) := by decide +kernel
theorem dX7_isTriple_34 : decode cX7_isTriple 34 = .ok (.ifCond .ne 7, 3) := by decide +kernel
theorem dX7_isTriple_37 : decode cX7_isTriple 37 = .ok (.iconst 1, 1) := by decide +kernel
theorem dX7_isTriple_38 : decode cX7_isTriple 38 = .ok (.goto 4, 3) := by decide +kernel
theorem dX7_isTriple_41 : decode cX7_isTriple 41 = .ok (.iconst 0, 1) := by decide +kernel
theorem dX7_isTriple_42 : decode cX7_isTriple 42 = .ok (.ireturn, 1) := by decide +kernel
theorem dX7_isTriple_43 : decode cX7_isTriple 43 = .ok (.lload 4, 2) := by decide +kernel
theorem dX7_isTriple_45 : decode cX7_isTriple 45 = .ok (.lconst 0, 1) := by decide +kernel
theorem dX7_isTriple_46 : decode cX7_isTriple 46 = .ok (.lcmp, 1) := by decide +kernel
theorem dX7_isTriple_47 : decode cX7_isTriple 47 = .ok (.ifCond .le 18, 3) := by decide +kernel
theorem dX7_isTriple_50 : decode cX7_isTriple 50 = .ok (.lload_n 2, 1) := by decide +kernel
theorem dX7_isTriple_51 : decode cX7_isTriple 51 = .ok (.lload_n 0, 1) := by decide +kernel
theorem dX7_isTriple_52 : decode cX7_isTriple 52 = .ok (.lsub, 1) := by decide +kernel
theorem dX7_isTriple_53 : decode cX7_isTriple 53 = .ok (.lload 4, 2) := by decide +kernel
theorem dX7_isTriple_55 : decode cX7_isTriple 55 = .ok (.lrem, 1) := by decide +kernel
theorem dX7_isTriple_56 : decode cX7_isTriple 56 = .ok (.lconst 0, 1) := by decide +kernel
theorem dX7_isTriple_57 : decode cX7_isTriple 57 = .ok (.lcmp, 1) := by decide +kernel
theorem dX7_isTriple_58 : decode cX7_isTriple 58 = .ok (.ifCond .ne 7, 3) := by decide +kernel
theorem dX7_isTriple_61 : decode cX7_isTriple 61 = .ok (.iconst 1, 1) := by decide +kernel
theorem dX7_isTriple_62 : decode cX7_isTriple 62 = .ok (.goto 4, 3) := by decide +kernel
theorem dX7_isTriple_65 : decode cX7_isTriple 65 = .ok (.iconst 0, 1) := by decide +kernel
theorem dX7_isTriple_66 : decode cX7_isTriple 66 = .ok (.ireturn, 1) := by decide +kernel
theorem dX7_isAny_0 : decode cX7_isAny 0 = .ok (.aload_n 0, 1) := by decide +kernel
theorem dX7_isAny_1 : decode cX7_isAny 1 = .ok (.getfield 15, 3) := by decide +kernel
theorem dX7_isAny_4 : decode cX7_isAny 4 = .ok (.ldc2_w 19, 3) := by decide +kernel
theorem dX7_isAny_7 : decode cX7_isAny 7 = .ok (.lcmp, 1) := by decide +kernel
theorem dX7_isAny_8 : decode cX7_isAny 8 = .ok (.ifCond .ne 7, 3) := by decide +kernel
theorem dX7_isAny_11 : decode cX7_isAny 11 = .ok (.iconst 1, 1) := by decide +kernel
theorem dX7_isAny_12 : decode cX7_isAny 12 = .ok (.goto 4, 3) := by decide +kernel
theorem dX7_isAny_15 : decode cX7_isAny 15 = .ok (.iconst 0, 1) := by decide +kernel
theorem dX7_isAny_16 : decode cX7_isAny 16 = .ok (.ireturn, 1) := by decide +kernel
theorem dX7_isNone_0 : decode cX7_isNone 0 = .ok (.aload_n 0, 1) := by decide +kernel
theorem dX7_isNone_1 : decode cX7_isNone 1 = .ok (.getfield 15, 3) := by decide +kernel
theorem dX7_isNone_4 : decode cX7_isNone 4 = .ok (.ldc2_w 21, 3) := by decide +kernel
theorem dX7_isNone_7 : decode cX7_isNone 7 = .ok (.lcmp, 1) := by decide +kernel
theorem dX7_isNone_8 : decode cX7_isNone 8 = .ok (.ifCond .ne 7, 3) := by decide +kernel
theorem dX7_isNone_11 : decode cX7_isNone 11 = .ok (.iconst 1, 1) := by decide +kernel
theorem dX7_isNone_12 : decode cX7_isNone 12 = .ok (.goto 4, 3) := by decide +kernel
theorem dX7_isNone_15 : decode cX7_isNone 15 = .ok (.iconst 0, 1) := by decide +kernel
theorem dX7_isNone_16 : decode cX7_isNone 16 = .ok (.ireturn, 1) := by decide +kernel
theorem dX7_isSingle_0 : decode cX7_isSingle 0 = .ok (.aload_n 0, 1) := by decide +kernel
theorem dX7_isSingle_1 : decode cX7_isSingle 1 = .ok (.getfield 15, 3) := by decide +kernel
theorem dX7_isSingle_4 : decode cX7_isSingle 4 = .ok (.lconst 0, 1) := by decide +kernel
theorem dX7_isSingle_5 : decode cX7_isSingle 5 = .ok (.lcmp, 1) := by decide +kernel
theorem dX7_isSingle_6 : decode cX7_isSingle 6 = .ok (.ifCond .ne 7, 3) := by decide +kernel
theorem dX7_isSingle_9 : decode cX7_isSingle 9 = .ok (.iconst 1, 1) := by decide +kernel
theorem dX7_isSingle_10 : decode cX7_isSingle 10 = .ok (.goto 4, 3) := by decide +kernel
theorem dX7_isSingle_13 : decode cX7_isSingle 13 = .ok (.iconst 0, 1) := by decide +kernel
theorem dX7_isSingle_14 : decode cX7_isSingle 14 = .ok (.ireturn, 1) := by decide +kernel
theorem dX7_isNatural_0 : decode cX7_isNatural 0 = .ok (.aload_n 0, 1) := by decide +kernel
theorem dX7_isNatural_1 : decode cX7_isNatural 1 = .ok (.getfield 15, 3) := by decide +kernel
theorem dX7_isNatural_4 : decode cX7_isNatural 4 = .ok (.lconst 0, 1) := by decide +kernel
theorem dX7_isNatural_5 : decode cX7_isNatural 5 = .ok (.lcmp, 1) := by decide +kernel
theorem dX7_isNatural_6 : decode cX7_isNatural 6 = .ok (.ifCond .lt 16, 3) := by decide +kernel
theorem dX7_isNatural_9 : decode cX7_isNatural 9 = .ok (.aload_n 0, 1) := by decide +kernel
theorem dX7_isNatural_10 : decode cX7_isNatural 10 = .ok (.getfield 23, 3) := by decide +kernel
theorem dX7_isNatural_13 : decode cX7_isNatural 13 = .ok (.lconst 0, 1) := by decide +kernel
theorem dX7_isNatural_14 : decode cX7_isNatural 14 = .ok (.lcmp, 1) := by decide +kernel
theorem dX7_isNatural_15 : decode cX7_isNatural 15 = .ok (.ifCond .lt 7, 3) := by decide +kernel
theorem dX7_isNatural_18 : decode cX7_isNatural 18 = .ok (.iconst 1, 1) := by decide +kernel
theorem dX7_isNatural_19 : decode cX7_isNatural 19 = .ok (.goto 4, 3) := by decide +kernel
theorem dX7_isNatural_22 : decode cX7_isNatural 22 = .ok (.iconst 0, 1) := by decide +kernel
theorem dX7_isNatural_23 : decode cX7_isNatural 23 = .ok (.ireturn, 1) := by decide +kernel
theorem dX7_holds_0 : decode cX7_holds 0 = .ok (.aload_n 0, 1) := by decide +kernel
theorem dX7_holds_1 : decode cX7_holds 1 = .ok (.getfield 15, 3) := by decide +kernel
theorem dX7_holds_4 : decode cX7_holds 4 = .ok (.ldc2_w 19, 3) := by decide +kernel
theorem dX7_holds_7 : decode cX7_holds 7 = .ok (.lcmp, 1) := by decide +kernel
theorem dX7_holds_8 : decode cX7_holds 8 = .ok (.ifCond .ne 5, 3) := by decide +kernel
theorem dX7_holds_11 : decode cX7_holds 11 = .ok (.iconst 1, 1) := by decide +kernel
theorem dX7_holds_12 : decode cX7_holds 12 = .ok (.ireturn, 1) := by decide +kernel
theorem dX7_holds_13 : decode cX7_holds 13 = .ok (.aload_n 0, 1) := by decide +kernel
theorem dX7_holds_14 : decode cX7_holds 14 = .ok (.getfield 15, 3) := by decide +kernel
theorem dX7_holds_17 : decode cX7_holds 17 = .ok (.lconst 0, 1) := by decide +kernel
theorem dX7_holds_18 : decode cX7_holds 18 = .ok (.lcmp, 1) := by decide +kernel
theorem dX7_holds_19 : decode cX7_holds 19 = .ok (.ifCond .lt 21, 3) := by decide +kernel
theorem dX7_holds_22 : decode cX7_holds 22 = .ok (.lload_n 1, 1) := by decide +kernel
theorem dX7_holds_23 : decode cX7_holds 23 = .ok (.aload_n 0, 1) := by decide +kernel
theorem dX7_holds_24 : decode cX7_holds 24 = .ok (.getfield 23, 3) := by decide +kernel
theorem dX7_holds_27 : decode cX7_holds 27 = .ok (.lcmp, 1) := by decide +kernel
theorem dX7_holds_28 : decode cX7_holds 28 = .ok (.ifCond .lt 12, 3) := by decide +kernel
theorem dX7_holds_31 : decode cX7_holds 31 = .ok (.lload_n 1, 1) := by decide +kernel
theorem dX7_holds_32 : decode cX7_holds 32 = .ok (.aload_n 0, 1) := by decide +kernel
theorem dX7_holds_33 : decode cX7_holds 33 = .ok (.getfield 26, 3) := by decide +kernel
theorem dX7_holds_36 : decode cX7_holds 36 = .ok (.lcmp, 1) := by decide +kernel
theorem dX7_holds_37 : decode cX7_holds 37 = .ok (.ifCond .le 5, 3) := by decide +kernel
theorem dX7_holds_40 : decode cX7_holds 40 = .ok (.iconst 0, 1) := by decide +kernel
theorem dX7_holds_41 : decode cX7_holds 41 = .ok (.ireturn, 1) := by decide +kernel
theorem dX7_holds_42 : decode cX7_holds 42 = .ok (.aload_n 0, 1) := by decide +kernel
theorem dX7_holds_43 : decode cX7_holds 43 = .ok (.getfield 15, 3) := by decide +kernel
theorem dX7_holds_46 : decode cX7_holds 46 = .ok (.lconst 0, 1) := by decide +kernel
theorem dX7_holds_47 : decode cX7_holds 47 = .ok (.lcmp, 1) := by decide +kernel
theorem dX7_holds_48 : decode cX7_holds 48 = .ok (.ifCond .eq 19, 3) := by decide +kernel
theorem dX7_holds_51 : decode cX7_holds 51 = .ok (.lload_n 1, 1) := by decide +kernel
theorem dX7_holds_52 : decode cX7_holds 52 = .ok (.aload_n 0, 1) := by decide +kernel
theorem dX7_holds_53 : decode cX7_holds 53 = .ok (.getfield 23, 3) := by decide +kernel
theorem dX7_holds_56 : decode cX7_holds 56 = .ok (.lsub, 1) := by decide +kernel
theorem dX7_holds_57 : decode cX7_holds 57 = .ok (.aload_n 0, 1) := by decide +kernel
theorem dX7_holds_58 : decode cX7_holds 58 = .ok (.getfield 15, 3) := by decide +kernel
theorem dX7_holds_61 : decode cX7_holds 61 = .ok (.lrem, 1) := by decide +kernel
theorem dX7_holds_62 : decode cX7_holds 62 = .ok (.lconst 0, 1) := by decide +kernel
theorem dX7_holds_63 : decode cX7_holds 63 = .ok (.lcmp, 1) := by decide +kernel
theorem dX7_holds_64 : decode cX7_holds 64 = .ok (.ifCond .ne 7, 3) := by decide +kernel
theorem dX7_holds_67 : decode cX7_holds 67 = .ok (.iconst 1, 1) := by decide +kernel
theorem dX7_holds_68 : decode cX7_holds 68 = .ok (.goto 4, 3) := by decide +kernel
theorem dX7_holds_71 : decode cX7_holds 71 = .ok (.iconst 0, 1) := by decide +kernel
theorem dX7_holds_72 : decode cX7_holds 72 = .ok (.ireturn, 1) := by decide +kernel
theorem dX7_become_0 : decode cX7_become 0 = .ok (.lload_n 1, 1) := by decide +kernel
theorem dX7_become_1 : decode cX7_become 1 = .ok (.ldc2_w 11, 3) := by decide +kernel
theorem dX7_become_4 : decode cX7_become 4 = .ok (.lcmp, 1) := by decide +kernel
theorem dX7_become_5 : decode cX7_become 5 = .ok (.ifCond .lt 11, 3) := by decide +kernel
theorem dX7_become_8 : decode cX7_become 8 = .ok (.lload_n 3, 1) := by decide +kernel
theorem dX7_become_9 : decode cX7_become 9 = .ok (.ldc2_w 13, 3) := by decide +kernel
theorem dX7_become_12 : decode cX7_become 12 = .ok (.lcmp, 1) := by decide +kernel
theorem dX7_become_13 : decode cX7_become 13 = .ok (.ifCond .le 7, 3) := by decide +kernel
theorem dX7_become_16 : decode cX7_become 16 = .ok (.iconst 1, 1) := by decide +kernel
theorem dX7_become_17 : decode cX7_become 17 = .ok (.goto 4, 3) := by decide +kernel
theorem dX7_become_20 : decode cX7_become 20 = .ok (.iconst 0, 1) := by decide +kernel
theorem dX7_become_21 : decode cX7_become 21 = .ok (.istore 7, 2) := by decide +kernel
theorem dX7_become_23 : decode cX7_become 23 = .ok (.aload_n 0, 1) := by decide +kernel
theorem dX7_become_24 : decode cX7_become 24 = .ok (.iload 7, 2) := by decide +kernel
theorem dX7_become_26 : decode cX7_become 26 = .ok (.ifCond .eq 7, 3) := by decide +kernel
theorem dX7_become_29 : decode cX7_become 29 = .ok (.lconst 0, 1) := by decide +kernel
theorem dX7_become_30 : decode cX7_become 30 = .ok (.goto 4, 3) := by decide +kernel
theorem dX7_become_33 : decode cX7_become 33 = .ok (.lload_n 1, 1) := by decide +kernel
theorem dX7_become_34 : decode cX7_become 34 = .ok (.putfield 23, 3) := by decide +kernel
theorem dX7_become_37 : decode cX7_become 37 = .ok (.aload_n 0, 1) := by decide +kernel
theorem dX7_become_38 : decode cX7_become 38 = .ok (.iload 7, 2) := by decide +kernel
theorem dX7_become_40 : decode cX7_become 40 = .ok (.ifCond .eq 7, 3) := by decide +kernel
theorem dX7_become_43 : decode cX7_become 43 = .ok (.lconst 0, 1) := by decide +kernel
theorem dX7_become_44 : decode cX7_become 44 = .ok (.goto 4, 3) := by decide +kernel
theorem dX7_become_47 : decode cX7_become 47 = .ok (.lload_n 3, 1) := by decide +kernel
theorem dX7_become_48 : decode cX7_become 48 = .ok (.putfield 26, 3) := by decide +kernel
theorem dX7_become_51 : decode cX7_become 51 = .ok (.aload_n 0, 1) := by decide +kernel
theorem dX7_become_52 : decode cX7_become 52 = .ok (.iload 7, 2) := by decide +kernel
theorem dX7_become_54 : decode cX7_become 54 = .ok (.ifCond .eq 9, 3) := by decide +kernel
theorem dX7_become_57 : decode cX7_become 57 = .ok (.ldc2_w 19, 3) := by decide +kernel
theorem dX7_become_60 : decode cX7_become 60 = .ok (.goto 15, 3) := by decide +kernel
theorem dX7_become_63 : decode cX7_become 63 = .ok (.lload_n 1, 1) := by decide +kernel
theorem dX7_become_64 : decode cX7_become 64 = .ok (.lload_n 3, 1) := by decide +kernel
theorem dX7_become_65 : decode cX7_become 65 = .ok (.lcmp, 1) := by decide +kernel
theorem dX7_become_66 : decode cX7_become 66 = .ok (.ifCond .ne 7, 3) := by decide +kernel
theorem dX7_become_69 : decode cX7_become 69 = .ok (.lconst 0, 1) := by decide +kernel
theorem dX7_become_70 : decode cX7_become 70 = .ok (.goto 5, 3) := by decide +kernel
theorem dX7_become_73 : decode cX7_become 73 = .ok (.lload 5, 2) := by decide +kernel
theorem dX7_become_75 : decode cX7_become 75 = .ok (.putfield 15, 3) := by decide +kernel
theorem dX7_become_78 : decode cX7_become 78 = .ok (.return_, 1) := by decide +kernel
theorem dX7_becomeAny_0 : decode cX7_becomeAny 0 = .ok (.aload_n 0, 1) := by decide +kernel
theorem dX7_becomeAny_1 : decode cX7_becomeAny 1 = .ok (.lconst 0, 1) := by decide +kernel
theorem dX7_becomeAny_2 : decode cX7_becomeAny 2 = .ok (.putfield 23, 3) := by decide +kernel
theorem dX7_becomeAny_5 : decode cX7_becomeAny 5 = .ok (.aload_n 0, 1) := by decide +kernel
theorem dX7_becomeAny_6 : decode cX7_becomeAny 6 = .ok (.lconst 0, 1) := by decide +kernel
theorem dX7_becomeAny_7 : decode cX7_becomeAny 7 = .ok (.putfield 26, 3) := by decide +kernel
theorem dX7_becomeAny_10 : decode cX7_becomeAny 10 = .ok (.aload_n 0, 1) := by decide +kernel
theorem dX7_becomeAny_11 : decode cX7_becomeAny 11 = .ok (.ldc2_w 19, 3) := by decide +kernel
theorem dX7_becomeAny_14 : decode cX7_becomeAny 14 = .ok (.putfield 15, 3) := by decide +kernel
theorem dX7_becomeAny_17 : decode cX7_becomeAny 17 = .ok (.return_, 1) := by decide +kernel
theorem dX7_becomeNone_0 : decode cX7_becomeNone 0 = .ok (.aload_n 0, 1) := by decide +kernel
theorem dX7_becomeNone_1 : decode cX7_becomeNone 1 = .ok (.lconst 0, 1) := by decide +kernel
theorem dX7_becomeNone_2 : decode cX7_becomeNone 2 = .ok (.putfield 23, 3) := by decide +kernel
theorem dX7_becomeNone_5 : decode cX7_becomeNone 5 = .ok (.aload_n 0, 1) := by decide +kernel
theorem dX7_becomeNone_6 : decode cX7_becomeNone 6 = .ok (.lconst 0, 1) := by decide +kernel
theorem dX7_becomeNone_7 : decode cX7_becomeNone 7 = .ok (.putfield 26, 3) := by decide +kernel
theorem dX7_becomeNone_10 : decode cX7_becomeNone 10 = .ok (.aload_n 0, 1) := by decide +kernel
theorem dX7_becomeNone_11 : decode cX7_becomeNone 11 = .ok (.ldc2_w 21, 3) := by decide +kernel
theorem dX7_becomeNone_14 : decode cX7_becomeNone 14 = .ok (.putfield 15, 3) := by decide +kernel
theorem dX7_becomeNone_17 : decode cX7_becomeNone 17 = .ok (.return_, 1) := by decide +kernel
theorem dX7_copyFrom_0 : decode cX7_copyFrom 0 = .ok (.aload_n 0, 1) := by decide +kernel
theorem dX7_copyFrom_1 : decode cX7_copyFrom 1 = .ok (.aload_n 1, 1) := by decide +kernel
theorem dX7_copyFrom_2 : decode cX7_copyFrom 2 = .ok (.getfield 23, 3) := by decide +kernel
theorem dX7_copyFrom_5 : decode cX7_copyFrom 5 = .ok (.putfield 23, 3) := by decide +kernel
theorem dX7_copyFrom_8 : decode cX7_copyFrom 8 = .ok (.aload_n 0, 1) := by decide +kernel
theorem dX7_copyFrom_9 : decode cX7_copyFrom 9 = .ok (.aload_n 1, 1) := by decide +kernel
theorem dX7_copyFrom_10 : decode cX7_copyFrom 10 = .ok (.getfield 26, 3) := by decide +kernel
theorem dX7_copyFrom_13 : decode cX7_copyFrom 13 = .ok (.putfield 26, 3) := by decide +kernel
theorem dX7_copyFrom_16 : decode cX7_copyFrom 16 = .ok (.aload_n 0, 1) := by decide +kernel
theorem dX7_copyFrom_17 : decode cX7_copyFrom 17 = .ok (.aload_n 1, 1) := by decide +kernel
theorem dX7_copyFrom_18 : decode cX7_copyFrom 18 = .ok (.getfield 15, 3) := by decide +kernel
theorem dX7_copyFrom_21 : decode cX7_copyFrom 21 = .ok (.putfield 15, 3) := by decide +kernel
theorem dX7_copyFrom_24 : decode cX7_copyFrom 24 = .ok (.return_, 1) := by decide +kernel
theorem dX7_join_0 : decode cX7_join 0 = .ok (.aload_n 1, 1) := by decide +kernel
theorem dX7_join_1 : decode cX7_join 1 = .ok (.invokevirtual 29, 3) := by decide +kernel
theorem dX7_join_4 : decode cX7_join 4 = .ok (.ifCond .ne 10, 3) := by decide +kernel
theorem dX7_join_7 : decode cX7_join 7 = .ok (.aload_n 2, 1) := by decide +kernel
theorem dX7_join_8 : decode cX7_join 8 = .ok (.invokevirtual 29, 3) := by decide +kernel
theorem dX7_join_11 : decode cX7_join 11 = .ok (.ifCond .eq 8, 3) := by decide +kernel
theorem dX7_join_14 : decode cX7_join 14 = .ok (.aload_n 0, 1) := by decide +kernel
theorem dX7_join_15 : decode cX7_join 15 = .ok (.invokevirtual 33, 3) := by decide +kernel
theorem dX7_join_18 : decode cX7_join 18 = .ok (.return_, 1) := by decide +kernel
theorem dX7_join_19 : decode cX7_join 19 = .ok (.aload_n 1, 1) := by decide +kernel
theorem dX7_join_20 : decode cX7_join 20 = .ok (.getfield 15, 3) := by decide +kernel
theorem dX7_join_23 : decode cX7_join 23 = .ok (.aload_n 2, 1) := by decide +kernel
theorem dX7_join_24 : decode cX7_join 24 = .ok (.getfield 15, 3) := by decide +kernel
theorem dX7_join_27 : decode cX7_join 27 = .ok (.invokestatic 36, 3) := by decide +kernel
theorem dX7_join_30 : decode cX7_join 30 = .ok (.aload_n 1, 1) := by decide +kernel
theorem dX7_join_31 : decode cX7_join 31 = .ok (.getfield 23, 3) := by decide +kernel
theorem dX7_join_34 : decode cX7_join 34 = .ok (.aload_n 2, 1) := by decide +kernel
theorem dX7_join_35 : decode cX7_join 35 = .ok (.getfield 23, 3) := by decide +kernel
theorem dX7_join_38 : decode cX7_join 38 = .ok (.lsub, 1) := by decide +kernel
theorem dX7_join_39 : decode cX7_join 39 = .ok (.invokestatic 36, 3) := by decide +kernel
theorem dX7_join_42 : decode cX7_join 42 = .ok (.lstore_n 3, 1) := by decide +kernel
theorem dX7_join_43 : decode cX7_join 43 = .ok (.aload_n 0, 1) := by decide +kernel
theorem dX7_join_44 : decode cX7_join 44 = .ok (.aload_n 1, 1) := by decide +kernel
theorem dX7_join_45 : decode cX7_join 45 = .ok (.getfield 23, 3) := by decide +kernel
theorem dX7_join_48 : decode cX7_join 48 = .ok (.aload_n 2, 1) := by decide +kernel
theorem dX7_join_49 : decode cX7_join 49 = .ok (.getfield 23, 3) := by decide +kernel
theorem dX7_join_52 : decode cX7_join 52 = .ok (.invokestatic 40, 3) := by decide +kernel
theorem dX7_join_55 : decode cX7_join 55 = .ok (.aload_n 1, 1) := by decide +kernel
theorem dX7_join_56 : decode cX7_join 56 = .ok (.getfield 26, 3) := by decide +kernel
theorem dX7_join_59 : decode cX7_join 59 = .ok (.aload_n 2, 1) := by decide +kernel
theorem dX7_join_60 : decode cX7_join 60 = .ok (.getfield 26, 3) := by decide +kernel
theorem dX7_join_63 : decode cX7_join 63 = .ok (.invokestatic 45, 3) := by decide +kernel
theorem dX7_join_66 : decode cX7_join 66 = .ok (.lload_n 3, 1) := by decide +kernel
theorem dX7_join_67 : decode cX7_join 67 = .ok (.invokevirtual 48, 3) := by decide +kernel
theorem dX7_join_70 : decode cX7_join 70 = .ok (.return_, 1) := by decide +kernel
theorem dX7_stretchFrom_0 : decode cX7_stretchFrom 0 = .ok (.aload_n 0, 1) := by decide +kernel
theorem dX7_stretchFrom_1 : decode cX7_stretchFrom 1 = .ok (.getfield 15, 3) := by decide +kernel
theorem dX7_stretchFrom_4 : decode cX7_stretchFrom 4 = .ok (.lconst 0, 1) := by decide +kernel
theorem dX7_stretchFrom_5 : decode cX7_stretchFrom 5 = .ok (.lcmp, 1) := by decide +kernel
theorem dX7_stretchFrom_6 : decode cX7_stretchFrom 6 = .ok (.ifCond .gt 4, 3) := by decide +kernel
theorem dX7_stretchFrom_9 : decode cX7_stretchFrom 9 = .ok (.return_, 1) := by decide +kernel
theorem dX7_stretchFrom_10 : decode cX7_stretchFrom 10 = .ok (.aload_n 0, 1) := by decide +kernel
theorem dX7_stretchFrom_11 : decode cX7_stretchFrom 11 = .ok (.getfield 23, 3) := by decide +kernel
theorem dX7_stretchFrom_14 : decode cX7_stretchFrom 14 = .ok (.aload_n 1, 1) := by decide +kernel
theorem dX7_stretchFrom_15 : decode cX7_stretchFrom 15 = .ok (.getfield 23, 3) := by decide +kernel
theorem dX7_stretchFrom_18 : decode cX7_stretchFrom 18 = .ok (.lcmp, 1) := by decide +kernel
theorem dX7_stretchFrom_19 : decode cX7_stretchFrom 19 = .ok (.ifCond .ge 24, 3) := by decide +kernel
theorem dX7_stretchFrom_22 : decode cX7_stretchFrom 22 = .ok (.aload_n 0, 1) := by decide +kernel
theorem dX7_stretchFrom_23 : decode cX7_stretchFrom 23 = .ok (.ldc2_w 11, 3) := by decide +kernel
theorem dX7_stretchFrom_26 : decode cX7_stretchFrom 26 = .ok (.aload_n 0, 1) := by decide +kernel
theorem dX7_stretchFrom_27 : decode cX7_stretchFrom 27 = .ok (.getfield 23, 3) := by decide +kernel
theorem dX7_stretchFrom_30 : decode cX7_stretchFrom 30 = .ok (.ldc2_w 13, 3) := by decide +kernel
theorem dX7_stretchFrom_33 : decode cX7_stretchFrom 33 = .ok (.ladd, 1) := by decide +kernel
theorem dX7_stretchFrom_34 : decode cX7_stretchFrom 34 = .ok (.aload_n 0, 1) := by decide +kernel
theorem dX7_stretchFrom_35 : decode cX7_stretchFrom 35 = .ok (.getfield 15, 3) := by decide +kernel
theorem dX7_stretchFrom_38 : decode cX7_stretchFrom 38 = .ok (.lrem, 1) := by decide +kernel
theorem dX7_stretchFrom_39 : decode cX7_stretchFrom 39 = .ok (.ladd, 1) := by decide +kernel
theorem dX7_stretchFrom_40 : decode cX7_stretchFrom 40 = .ok (.putfield 23, 3) := by decide +kernel
theorem dX7_stretchFrom_43 : decode cX7_stretchFrom 43 = .ok (.aload_n 0, 1) := by decide +kernel
theorem dX7_stretchFrom_44 : decode cX7_stretchFrom 44 = .ok (.getfield 26, 3) := by decide +kernel
theorem dX7_stretchFrom_47 : decode cX7_stretchFrom 47 = .ok (.aload_n 1, 1) := by decide +kernel
theorem dX7_stretchFrom_48 : decode cX7_stretchFrom 48 = .ok (.getfield 26, 3) := by decide +kernel
theorem dX7_stretchFrom_51 : decode cX7_stretchFrom 51 = .ok (.lcmp, 1) := by decide +kernel
theorem dX7_stretchFrom_52 : decode cX7_stretchFrom 52 = .ok (.ifCond .le 24, 3) := by decide +kernel
theorem dX7_stretchFrom_55 : decode cX7_stretchFrom 55 = .ok (.aload_n 0, 1) := by decide +kernel
theorem dX7_stretchFrom_56 : decode cX7_stretchFrom 56 = .ok (.ldc2_w 13, 3) := by decide +kernel
theorem dX7_stretchFrom_59 : decode cX7_stretchFrom 59 = .ok (.ldc2_w 13, 3) := by decide +kernel
theorem dX7_stretchFrom_62 : decode cX7_stretchFrom 62 = .ok (.aload_n 0, 1) := by decide +kernel
theorem dX7_stretchFrom_63 : decode cX7_stretchFrom 63 = .ok (.getfield 26, 3) := by decide +kernel
theorem dX7_stretchFrom_66 : decode cX7_stretchFrom 66 = .ok (.lsub, 1) := by decide +kernel
theorem dX7_stretchFrom_67 : decode cX7_stretchFrom 67 = .ok (.aload_n 0, 1) := by decide +kernel
theorem dX7_stretchFrom_68 : decode cX7_stretchFrom 68 = .ok (.getfield 15, 3) := by decide +kernel
theorem dX7_stretchFrom_71 : decode cX7_stretchFrom 71 = .ok (.lrem, 1) := by decide +kernel
theorem dX7_stretchFrom_72 : decode cX7_stretchFrom 72 = .ok (.lsub, 1) := by decide +kernel
theorem dX7_stretchFrom_73 : decode cX7_stretchFrom 73 = .ok (.putfield 26, 3) := by decide +kernel
theorem dX7_stretchFrom_76 : decode cX7_stretchFrom 76 = .ok (.return_, 1) := by decide +kernel
theorem dX7_cut_0 : decode cX7_cut 0 = .ok (.aload_n 0, 1) := by decide +kernel
theorem dX7_cut_1 : decode cX7_cut 1 = .ok (.getfield 15, 3) := by decide +kernel
theorem dX7_cut_4 : decode cX7_cut 4 = .ok (.lconst 0, 1) := by decide +kernel
theorem dX7_cut_5 : decode cX7_cut 5 = .ok (.lcmp, 1) := by decide +kernel
theorem dX7_cut_6 : decode cX7_cut 6 = .ok (.ifCond .ge 4, 3) := by decide +kernel
theorem dX7_cut_9 : decode cX7_cut 9 = .ok (.return_, 1) := by decide +kernel
theorem dX7_cut_10 : decode cX7_cut 10 = .ok (.lload_n 1, 1) := by decide +kernel
theorem dX7_cut_11 : decode cX7_cut 11 = .ok (.aload_n 0, 1) := by decide +kernel
theorem dX7_cut_12 : decode cX7_cut 12 = .ok (.getfield 26, 3) := by decide +kernel
theorem dX7_cut_15 : decode cX7_cut 15 = .ok (.lcmp, 1) := by decide +kernel
theorem dX7_cut_16 : decode cX7_cut 16 = .ok (.ifCond .gt 12, 3) := by decide +kernel
theorem dX7_cut_19 : decode cX7_cut 19 = .ok (.lload_n 3, 1) := by decide +kernel
theorem dX7_cut_20 : decode cX7_cut 20 = .ok (.aload_n 0, 1) := by decide +kernel
theorem dX7_cut_21 : decode cX7_cut 21 = .ok (.getfield 23, 3) := by decide +kernel
theorem dX7_cut_24 : decode cX7_cut 24 = .ok (.lcmp, 1) := by decide +kernel
theorem dX7_cut_25 : decode cX7_cut 25 = .ok (.ifCond .ge 8, 3) := by decide +kernel
theorem dX7_cut_28 : decode cX7_cut 28 = .ok (.aload_n 0, 1) := by decide +kernel
theorem dX7_cut_29 : decode cX7_cut 29 = .ok (.invokevirtual 52, 3) := by decide +kernel
theorem dX7_cut_32 : decode cX7_cut 32 = .ok (.return_, 1) := by decide +kernel
theorem dX7_cut_33 : decode cX7_cut 33 = .ok (.lload_n 1, 1) := by decide +kernel
theorem dX7_cut_34 : decode cX7_cut 34 = .ok (.aload_n 0, 1) := by decide +kernel
theorem dX7_cut_35 : decode cX7_cut 35 = .ok (.getfield 23, 3) := by decide +kernel
theorem dX7_cut_38 : decode cX7_cut 38 = .ok (.lcmp, 1) := by decide +kernel
theorem dX7_cut_39 : decode cX7_cut 39 = .ok (.ifCond .le 30, 3) := by decide +kernel
theorem dX7_cut_42 : decode cX7_cut 42 = .ok (.aload_n 0, 1) := by decide +kernel
theorem dX7_cut_43 : decode cX7_cut 43 = .ok (.getfield 15, 3) := by decide +kernel
theorem dX7_cut_46 : decode cX7_cut 46 = .ok (.lconst 0, 1) := by decide +kernel
theorem dX7_cut_47 : decode cX7_cut 47 = .ok (.lcmp, 1) := by decide +kernel
theorem dX7_cut_48 : decode cX7_cut 48 = .ok (.ifCond .le 21, 3) := by decide +kernel
theorem dX7_cut_51 : decode cX7_cut 51 = .ok (.lload_n 1, 1) := by decide +kernel
theorem dX7_cut_52 : decode cX7_cut 52 = .ok (.aload_n 0, 1) := by decide +kernel
theorem dX7_cut_53 : decode cX7_cut 53 = .ok (.getfield 23, 3) := by decide +kernel
theorem dX7_cut_56 : decode cX7_cut 56 = .ok (.lload_n 1, 1) := by decide +kernel
theorem dX7_cut_57 : decode cX7_cut 57 = .ok (.lsub, 1) := by decide +kernel
theorem dX7_cut_58 : decode cX7_cut 58 = .ok (.aload_n 0, 1) := by decide +kernel
theorem dX7_cut_59 : decode cX7_cut 59 = .ok (.getfield 15, 3) := by decide +kernel
theorem dX7_cut_62 : decode cX7_cut 62 = .ok (.invokestatic 55, 3) := by decide +kernel
theorem dX7_cut_65 : decode cX7_cut 65 = .ok (.ladd, 1) := by decide +kernel
theorem dX7_cut_66 : decode cX7_cut 66 = .ok (.goto 7, 3) := by decide +kernel
theorem dX7_cut_69 : decode cX7_cut 69 = .ok (.aload_n 0, 1) := by decide +kernel
theorem dX7_cut_70 : decode cX7_cut 70 = .ok (.getfield 23, 3) := by decide +kernel
theorem dX7_cut_73 : decode cX7_cut 73 = .ok (.lstore 5, 2) := by decide +kernel
theorem dX7_cut_75 : decode cX7_cut 75 = .ok (.lload_n 3, 1) := by decide +kernel
theorem dX7_cut_76 : decode cX7_cut 76 = .ok (.aload_n 0, 1) := by decide +kernel
theorem dX7_cut_77 : decode cX7_cut 77 = .ok (.getfield 26, 3) := by decide +kernel
theorem dX7_cut_80 : decode cX7_cut 80 = .ok (.lcmp, 1) := by decide +kernel
theorem dX7_cut_81 : decode cX7_cut 81 = .ok (.ifCond .ge 30, 3) := by decide +kernel
theorem dX7_cut_84 : decode cX7_cut 84 = .ok (.aload_n 0, 1) := by decide +kernel
theorem dX7_cut_85 : decode cX7_cut 85 = .ok (.getfield 15, 3) := by decide +kernel
theorem dX7_cut_88 : decode cX7_cut 88 = .ok (.lconst 0, 1) := by decide +kernel
theorem dX7_cut_89 : decode cX7_cut 89 = .ok (.lcmp, 1) := by decide +kernel
theorem dX7_cut_90 : decode cX7_cut 90 = .ok (.ifCond .le 21, 3) := by decide +kernel
theorem dX7_cut_93 : decode cX7_cut 93 = .ok (.lload_n 3, 1) := by decide +kernel
theorem dX7_cut_94 : decode cX7_cut 94 = .ok (.lload_n 3, 1) := by decide +kernel
theorem dX7_cut_95 : decode cX7_cut 95 = .ok (.aload_n 0, 1) := by decide +kernel
theorem dX7_cut_96 : decode cX7_cut 96 = .ok (.getfield 26, 3) := by decide +kernel
theorem dX7_cut_99 : decode cX7_cut 99 = .ok (.lsub, 1) := by decide +kernel
theorem dX7_cut_100 : decode cX7_cut 100 = .ok (.aload_n 0, 1) := by decide +kernel
theorem dX7_cut_101 : decode cX7_cut 101 = .ok (.getfield 15, 3) := by decide +kernel
theorem dX7_cut_104 : decode cX7_cut 104 = .ok (.invokestatic 55, 3) := by decide +kernel
theorem dX7_cut_107 : decode cX7_cut 107 = .ok (.lsub, 1) := by decide +kernel
theorem dX7_cut_108 : decode cX7_cut 108 = .ok (.goto 7, 3) := by decide +kernel
theorem dX7_cut_111 : decode cX7_cut 111 = .ok (.aload_n 0, 1) := by decide +kernel
theorem dX7_cut_112 : decode cX7_cut 112 = .ok (.getfield 26, 3) := by decide +kernel
theorem dX7_cut_115 : decode cX7_cut 115 = .ok (.lstore 7, 2) := by decide +kernel
theorem dX7_cut_117 : decode cX7_cut 117 = .ok (.lload 5, 2) := by decide +kernel
theorem dX7_cut_119 : decode cX7_cut 119 = .ok (.lload 7, 2) := by decide +kernel
theorem dX7_cut_121 : decode cX7_cut 121 = .ok (.lcmp, 1) := by decide +kernel
theorem dX7_cut_122 : decode cX7_cut 122 = .ok (.ifCond .le 10, 3) := by decide +kernel
theorem dX7_cut_125 : decode cX7_cut 125 = .ok (.aload_n 0, 1) := by decide +kernel
theorem dX7_cut_126 : decode cX7_cut 126 = .ok (.invokevirtual 52, 3) := by decide +kernel
theorem dX7_cut_129 : decode cX7_cut 129 = .ok (.goto 15, 3) := by decide +kernel
theorem dX7_cut_132 : decode cX7_cut 132 = .ok (.aload_n 0, 1) := by decide +kernel
theorem dX7_cut_133 : decode cX7_cut 133 = .ok (.lload 5, 2) := by decide +kernel
theorem dX7_cut_135 : decode cX7_cut 135 = .ok (.lload 7, 2) := by decide +kernel
theorem dX7_cut_137 : decode cX7_cut 137 = .ok (.aload_n 0, 1) := by decide +kernel
theorem dX7_cut_138 : decode cX7_cut 138 = .ok (.getfield 15, 3) := by decide +kernel
theorem dX7_cut_141 : decode cX7_cut 141 = .ok (.invokevirtual 48, 3) := by decide +kernel
theorem dX7_cut_144 : decode cX7_cut 144 = .ok (.return_, 1) := by decide +kernel
theorem dX7_drop_0 : decode cX7_drop 0 = .ok (.aload_n 0, 1) := by decide +kernel
theorem dX7_drop_1 : decode cX7_drop 1 = .ok (.getfield 15, 3) := by decide +kernel
theorem dX7_drop_4 : decode cX7_drop 4 = .ok (.lconst 0, 1) := by decide +kernel
theorem dX7_drop_5 : decode cX7_drop 5 = .ok (.lcmp, 1) := by decide +kernel
theorem dX7_drop_6 : decode cX7_drop 6 = .ok (.ifCond .ge 4, 3) := by decide +kernel
theorem dX7_drop_9 : decode cX7_drop 9 = .ok (.return_, 1) := by decide +kernel
theorem dX7_drop_10 : decode cX7_drop 10 = .ok (.aload_n 0, 1) := by decide +kernel
theorem dX7_drop_11 : decode cX7_drop 11 = .ok (.invokevirtual 58, 3) := by decide +kernel
theorem dX7_drop_14 : decode cX7_drop 14 = .ok (.ifCond .eq 19, 3) := by decide +kernel
theorem dX7_drop_17 : decode cX7_drop 17 = .ok (.lload_n 1, 1) := by decide +kernel
theorem dX7_drop_18 : decode cX7_drop 18 = .ok (.aload_n 0, 1) := by decide +kernel
theorem dX7_drop_19 : decode cX7_drop 19 = .ok (.getfield 23, 3) := by decide +kernel
theorem dX7_drop_22 : decode cX7_drop 22 = .ok (.lcmp, 1) := by decide +kernel
theorem dX7_drop_23 : decode cX7_drop 23 = .ok (.ifCond .ne 73, 3) := by decide +kernel
theorem dX7_drop_26 : decode cX7_drop 26 = .ok (.aload_n 0, 1) := by decide +kernel
theorem dX7_drop_27 : decode cX7_drop 27 = .ok (.invokevirtual 52, 3) := by decide +kernel
theorem dX7_drop_30 : decode cX7_drop 30 = .ok (.goto 66, 3) := by decide +kernel
theorem dX7_drop_33 : decode cX7_drop 33 = .ok (.lload_n 1, 1) := by decide +kernel
theorem dX7_drop_34 : decode cX7_drop 34 = .ok (.aload_n 0, 1) := by decide +kernel
theorem dX7_drop_35 : decode cX7_drop 35 = .ok (.getfield 23, 3) := by decide +kernel
theorem dX7_drop_38 : decode cX7_drop 38 = .ok (.lcmp, 1) := by decide +kernel
theorem dX7_drop_39 : decode cX7_drop 39 = .ok (.ifCond .ne 27, 3) := by decide +kernel
theorem dX7_drop_42 : decode cX7_drop 42 = .ok (.aload_n 0, 1) := by decide +kernel
theorem dX7_drop_43 : decode cX7_drop 43 = .ok (.aload_n 0, 1) := by decide +kernel
theorem dX7_drop_44 : decode cX7_drop 44 = .ok (.getfield 23, 3) := by decide +kernel
theorem dX7_drop_47 : decode cX7_drop 47 = .ok (.aload_n 0, 1) := by decide +kernel
theorem dX7_drop_48 : decode cX7_drop 48 = .ok (.getfield 15, 3) := by decide +kernel
theorem dX7_drop_51 : decode cX7_drop 51 = .ok (.ladd, 1) := by decide +kernel
theorem dX7_drop_52 : decode cX7_drop 52 = .ok (.aload_n 0, 1) := by decide +kernel
theorem dX7_drop_53 : decode cX7_drop 53 = .ok (.getfield 26, 3) := by decide +kernel
theorem dX7_drop_56 : decode cX7_drop 56 = .ok (.aload_n 0, 1) := by decide +kernel
theorem dX7_drop_57 : decode cX7_drop 57 = .ok (.getfield 15, 3) := by decide +kernel
theorem dX7_drop_60 : decode cX7_drop 60 = .ok (.invokevirtual 48, 3) := by decide +kernel
theorem dX7_drop_63 : decode cX7_drop 63 = .ok (.goto 33, 3) := by decide +kernel
theorem dX7_drop_66 : decode cX7_drop 66 = .ok (.lload_n 1, 1) := by decide +kernel
theorem dX7_drop_67 : decode cX7_drop 67 = .ok (.aload_n 0, 1) := by decide +kernel
theorem dX7_drop_68 : decode cX7_drop 68 = .ok (.getfield 26, 3) := by decide +kernel
theorem dX7_drop_71 : decode cX7_drop 71 = .ok (.lcmp, 1) := by decide +kernel
theorem dX7_drop_72 : decode cX7_drop 72 = .ok (.ifCond .ne 24, 3) := by decide +kernel
theorem dX7_drop_75 : decode cX7_drop 75 = .ok (.aload_n 0, 1) := by decide +kernel
theorem dX7_drop_76 : decode cX7_drop 76 = .ok (.aload_n 0, 1) := by decide +kernel
theorem dX7_drop_77 : decode cX7_drop 77 = .ok (.getfield 23, 3) := by decide +kernel
theorem dX7_drop_80 : decode cX7_drop 80 = .ok (.aload_n 0, 1) := by decide +kernel
theorem dX7_drop_81 : decode cX7_drop 81 = .ok (.getfield 26, 3) := by decide +kernel
theorem dX7_drop_84 : decode cX7_drop 84 = .ok (.aload_n 0, 1) := by decide +kernel
theorem dX7_drop_85 : decode cX7_drop 85 = .ok (.getfield 15, 3) := by decide +kernel
theorem dX7_drop_88 : decode cX7_drop 88 = .ok (.lsub, 1) := by decide +kernel
theorem dX7_drop_89 : decode cX7_drop 89 = .ok (.aload_n 0, 1) := by decide +kernel
theorem dX7_drop_90 : decode cX7_drop 90 = .ok (.getfield 15, 3) := by decide +kernel
theorem dX7_drop_93 : decode cX7_drop 93 = .ok (.invokevirtual 48, 3) := by decide +kernel
theorem dX7_drop_96 : decode cX7_drop 96 = .ok (.return_, 1) := by decide +kernel
theorem dX7_operate_0 : decode cX7_operate 0 = .ok (.iload_n 1, 1) := by decide +kernel
theorem dX7_operate_1 : decode cX7_operate 1 = .ok (.tableswitch 209 0 17 #[87, 114, 209, 209, 105, 96, 114, 209, 209, 142, 133, 87, 96, 209, 153, 172, 162, 153], 87) := by decide +kernel
theorem dX7_operate_88 : decode cX7_operate 88 = .ok (.aload_n 0, 1) := by decide +kernel
theorem dX7_operate_89 : decode cX7_operate 89 = .ok (.aload_n 2, 1) := by decide +kernel
theorem dX7_operate_90 : decode cX7_operate 90 = .ok (.aload_n 3, 1) := by decide +kernel
theorem dX7_operate_91 : decode cX7_operate 91 = .ok (.invokevirtual 61, 3) := by decide +kernel
theorem dX7_operate_94 : decode cX7_operate 94 = .ok (.goto 121, 3) := by decide +kernel
theorem dX7_operate_97 : decode cX7_operate 97 = .ok (.aload_n 0, 1) := by decide +kernel
theorem dX7_operate_98 : decode cX7_operate 98 = .ok (.aload_n 2, 1) := by decide +kernel
theorem dX7_operate_99 : decode cX7_operate 99 = .ok (.aload_n 3, 1) := by decide +kernel
theorem dX7_operate_100 : decode cX7_operate 100 = .ok (.invokevirtual 65, 3) := by decide +kernel
theorem dX7_operate_103 : decode cX7_operate 103 = .ok (.goto 112, 3) := by decide +kernel
theorem dX7_operate_106 : decode cX7_operate 106 = .ok (.aload_n 0, 1) := by decide +kernel
theorem dX7_operate_107 : decode cX7_operate 107 = .ok (.aload_n 2, 1) := by decide +kernel
theorem dX7_operate_108 : decode cX7_operate 108 = .ok (.aload_n 3, 1) := by decide +kernel
theorem dX7_operate_109 : decode cX7_operate 109 = .ok (.invokevirtual 68, 3) := by decide +kernel
theorem dX7_operate_112 : decode cX7_operate 112 = .ok (.goto 103, 3) := by decide +kernel
theorem dX7_operate_115 : decode cX7_operate 115 = .ok (.aload_n 0, 1) := by decide +kernel
theorem dX7_operate_116 : decode cX7_operate 116 = .ok (.iload_n 1, 1) := by decide +kernel
theorem dX7_operate_117 : decode cX7_operate 117 = .ok (.iconst 1, 1) := by decide +kernel
theorem dX7_operate_118 : decode cX7_operate 118 = .ok (.if_icmp .ne 7, 3) := by decide +kernel
theorem dX7_operate_121 : decode cX7_operate 121 = .ok (.iconst 1, 1) := by decide +kernel
theorem dX7_operate_122 : decode cX7_operate 122 = .ok (.goto 4, 3) := by decide +kernel
theorem dX7_operate_125 : decode cX7_operate 125 = .ok (.iconst 0, 1) := by decide +kernel
theorem dX7_operate_126 : decode cX7_operate 126 = .ok (.aload_n 2, 1) := by decide +kernel
theorem dX7_operate_127 : decode cX7_operate 127 = .ok (.aload_n 3, 1) := by decide +kernel
theorem dX7_operate_128 : decode cX7_operate 128 = .ok (.invokevirtual 71, 3) := by decide +kernel
theorem dX7_operate_131 : decode cX7_operate 131 = .ok (.goto 84, 3) := by decide +kernel
theorem dX7_operate_134 : decode cX7_operate 134 = .ok (.aload_n 0, 1) := by decide +kernel
theorem dX7_operate_135 : decode cX7_operate 135 = .ok (.lconst 0, 1) := by decide +kernel
theorem dX7_operate_136 : decode cX7_operate 136 = .ok (.aload_n 2, 1) := by decide +kernel
theorem dX7_operate_137 : decode cX7_operate 137 = .ok (.invokevirtual 75, 3) := by decide +kernel
theorem dX7_operate_140 : decode cX7_operate 140 = .ok (.goto 75, 3) := by decide +kernel
theorem dX7_operate_143 : decode cX7_operate 143 = .ok (.aload_n 0, 1) := by decide +kernel
theorem dX7_operate_144 : decode cX7_operate 144 = .ok (.ldc2_w 19, 3) := by decide +kernel
theorem dX7_operate_147 : decode cX7_operate 147 = .ok (.aload_n 2, 1) := by decide +kernel
theorem dX7_operate_148 : decode cX7_operate 148 = .ok (.invokevirtual 75, 3) := by decide +kernel
theorem dX7_operate_151 : decode cX7_operate 151 = .ok (.goto 64, 3) := by decide +kernel
theorem dX7_operate_154 : decode cX7_operate 154 = .ok (.aload_n 0, 1) := by decide +kernel
theorem dX7_operate_155 : decode cX7_operate 155 = .ok (.aload_n 2, 1) := by decide +kernel
theorem dX7_operate_156 : decode cX7_operate 156 = .ok (.aload_n 3, 1) := by decide +kernel
theorem dX7_operate_157 : decode cX7_operate 157 = .ok (.invokevirtual 79, 3) := by decide +kernel
theorem dX7_operate_160 : decode cX7_operate 160 = .ok (.goto 55, 3) := by decide +kernel
theorem dX7_operate_163 : decode cX7_operate 163 = .ok (.aload_n 0, 1) := by decide +kernel
theorem dX7_operate_164 : decode cX7_operate 164 = .ok (.aload_n 2, 1) := by decide +kernel
theorem dX7_operate_165 : decode cX7_operate 165 = .ok (.iload 4, 2) := by decide +kernel
theorem dX7_operate_167 : decode cX7_operate 167 = .ok (.invokevirtual 82, 3) := by decide +kernel
theorem dX7_operate_170 : decode cX7_operate 170 = .ok (.goto 45, 3) := by decide +kernel
theorem dX7_operate_173 : decode cX7_operate 173 = .ok (.iload 4, 2) := by decide +kernel
theorem dX7_operate_175 : decode cX7_operate 175 = .ok (.ifCond .eq 10, 3) := by decide +kernel
theorem dX7_operate_178 : decode cX7_operate 178 = .ok (.aload_n 2, 1) := by decide +kernel
theorem dX7_operate_179 : decode cX7_operate 179 = .ok (.invokevirtual 86, 3) := by decide +kernel
theorem dX7_operate_182 : decode cX7_operate 182 = .ok (.ifCond .eq 13, 3) := by decide +kernel
theorem dX7_operate_185 : decode cX7_operate 185 = .ok (.aload_n 0, 1) := by decide +kernel
theorem dX7_operate_186 : decode cX7_operate 186 = .ok (.aload_n 2, 1) := by decide +kernel
theorem dX7_operate_187 : decode cX7_operate 187 = .ok (.iload 4, 2) := by decide +kernel
theorem dX7_operate_189 : decode cX7_operate 189 = .ok (.invokevirtual 82, 3) := by decide +kernel
theorem dX7_operate_192 : decode cX7_operate 192 = .ok (.goto 23, 3) := by decide +kernel
theorem dX7_operate_195 : decode cX7_operate 195 = .ok (.aload_n 0, 1) := by decide +kernel
theorem dX7_operate_196 : decode cX7_operate 196 = .ok (.lconst 0, 1) := by decide +kernel
theorem dX7_operate_197 : decode cX7_operate 197 = .ok (.ldc2_w 19, 3) := by decide +kernel
theorem dX7_operate_200 : decode cX7_operate 200 = .ok (.iload 4, 2) := by decide +kernel
theorem dX7_operate_202 : decode cX7_operate 202 = .ok (.lushr, 1) := by decide +kernel
theorem dX7_operate_203 : decode cX7_operate 203 = .ok (.lconst 1, 1) := by decide +kernel
theorem dX7_operate_204 : decode cX7_operate 204 = .ok (.invokevirtual 48, 3) := by decide +kernel
theorem dX7_operate_207 : decode cX7_operate 207 = .ok (.goto 8, 3) := by decide +kernel
theorem dX7_operate_210 : decode cX7_operate 210 = .ok (.aload_n 0, 1) := by decide +kernel
theorem dX7_operate_211 : decode cX7_operate 211 = .ok (.aload_n 3, 1) := by decide +kernel
theorem dX7_operate_212 : decode cX7_operate 212 = .ok (.invokevirtual 89, 3) := by decide +kernel
theorem dX7_operate_215 : decode cX7_operate 215 = .ok (.return_, 1) := by decide +kernel
theorem dX7_takeLowHalf_0 : decode cX7_takeLowHalf 0 = .ok (.aload_n 0, 1) := by decide +kernel
theorem dX7_takeLowHalf_1 : decode cX7_takeLowHalf 1 = .ok (.invokevirtual 29, 3) := by decide +kernel
theorem dX7_takeLowHalf_4 : decode cX7_takeLowHalf 4 = .ok (.ifCond .eq 15, 3) := by decide +kernel
theorem dX7_takeLowHalf_7 : decode cX7_takeLowHalf 7 = .ok (.aload_n 0, 1) := by decide +kernel
theorem dX7_takeLowHalf_8 : decode cX7_takeLowHalf 8 = .ok (.lconst 0, 1) := by decide +kernel
theorem dX7_takeLowHalf_9 : decode cX7_takeLowHalf 9 = .ok (.ldc2_w 93, 3) := by decide +kernel
theorem dX7_takeLowHalf_12 : decode cX7_takeLowHalf 12 = .ok (.lconst 1, 1) := by decide +kernel
theorem dX7_takeLowHalf_13 : decode cX7_takeLowHalf 13 = .ok (.invokevirtual 48, 3) := by decide +kernel
theorem dX7_takeLowHalf_16 : decode cX7_takeLowHalf 16 = .ok (.goto 85, 3) := by decide +kernel
theorem dX7_takeLowHalf_19 : decode cX7_takeLowHalf 19 = .ok (.aload_n 0, 1) := by decide +kernel
theorem dX7_takeLowHalf_20 : decode cX7_takeLowHalf 20 = .ok (.invokevirtual 58, 3) := by decide +kernel
theorem dX7_takeLowHalf_23 : decode cX7_takeLowHalf 23 = .ok (.ifCond .eq 22, 3) := by decide +kernel
theorem dX7_takeLowHalf_26 : decode cX7_takeLowHalf 26 = .ok (.aload_n 0, 1) := by decide +kernel
theorem dX7_takeLowHalf_27 : decode cX7_takeLowHalf 27 = .ok (.getfield 23, 3) := by decide +kernel
theorem dX7_takeLowHalf_30 : decode cX7_takeLowHalf 30 = .ok (.ldc2_w 93, 3) := by decide +kernel
theorem dX7_takeLowHalf_33 : decode cX7_takeLowHalf 33 = .ok (.land, 1) := by decide +kernel
theorem dX7_takeLowHalf_34 : decode cX7_takeLowHalf 34 = .ok (.lstore_n 1, 1) := by decide +kernel
theorem dX7_takeLowHalf_35 : decode cX7_takeLowHalf 35 = .ok (.aload_n 0, 1) := by decide +kernel
theorem dX7_takeLowHalf_36 : decode cX7_takeLowHalf 36 = .ok (.lload_n 1, 1) := by decide +kernel
theorem dX7_takeLowHalf_37 : decode cX7_takeLowHalf 37 = .ok (.lload_n 1, 1) := by decide +kernel
theorem dX7_takeLowHalf_38 : decode cX7_takeLowHalf 38 = .ok (.lconst 0, 1) := by decide +kernel
theorem dX7_takeLowHalf_39 : decode cX7_takeLowHalf 39 = .ok (.invokevirtual 48, 3) := by decide +kernel
theorem dX7_takeLowHalf_42 : decode cX7_takeLowHalf 42 = .ok (.goto 59, 3) := by decide +kernel
theorem dX7_takeLowHalf_45 : decode cX7_takeLowHalf 45 = .ok (.aload_n 0, 1) := by decide +kernel
theorem dX7_takeLowHalf_46 : decode cX7_takeLowHalf 46 = .ok (.getfield 23, 3) := by decide +kernel
theorem dX7_takeLowHalf_49 : decode cX7_takeLowHalf 49 = .ok (.lconst 0, 1) := by decide +kernel
theorem dX7_takeLowHalf_50 : decode cX7_takeLowHalf 50 = .ok (.lcmp, 1) := by decide +kernel
theorem dX7_takeLowHalf_51 : decode cX7_takeLowHalf 51 = .ok (.ifCond .lt 14, 3) := by decide +kernel
theorem dX7_takeLowHalf_54 : decode cX7_takeLowHalf 54 = .ok (.aload_n 0, 1) := by decide +kernel
theorem dX7_takeLowHalf_55 : decode cX7_takeLowHalf 55 = .ok (.getfield 26, 3) := by decide +kernel
theorem dX7_takeLowHalf_58 : decode cX7_takeLowHalf 58 = .ok (.ldc2_w 95, 3) := by decide +kernel
theorem dX7_takeLowHalf_61 : decode cX7_takeLowHalf 61 = .ok (.lcmp, 1) := by decide +kernel
theorem dX7_takeLowHalf_62 : decode cX7_takeLowHalf 62 = .ok (.ifCond .lt 39, 3) := by decide +kernel
theorem dX7_takeLowHalf_65 : decode cX7_takeLowHalf 65 = .ok (.aload_n 0, 1) := by decide +kernel
theorem dX7_takeLowHalf_66 : decode cX7_takeLowHalf 66 = .ok (.getfield 15, 3) := by decide +kernel
theorem dX7_takeLowHalf_69 : decode cX7_takeLowHalf 69 = .ok (.invokestatic 97, 3) := by decide +kernel
theorem dX7_takeLowHalf_72 : decode cX7_takeLowHalf 72 = .ok (.ldc2_w 95, 3) := by decide +kernel
theorem dX7_takeLowHalf_75 : decode cX7_takeLowHalf 75 = .ok (.invokestatic 40, 3) := by decide +kernel
theorem dX7_takeLowHalf_78 : decode cX7_takeLowHalf 78 = .ok (.lstore_n 1, 1) := by decide +kernel
theorem dX7_takeLowHalf_79 : decode cX7_takeLowHalf 79 = .ok (.aload_n 0, 1) := by decide +kernel
theorem dX7_takeLowHalf_80 : decode cX7_takeLowHalf 80 = .ok (.getfield 23, 3) := by decide +kernel
theorem dX7_takeLowHalf_83 : decode cX7_takeLowHalf 83 = .ok (.lload_n 1, 1) := by decide +kernel
theorem dX7_takeLowHalf_84 : decode cX7_takeLowHalf 84 = .ok (.lconst 1, 1) := by decide +kernel
theorem dX7_takeLowHalf_85 : decode cX7_takeLowHalf 85 = .ok (.lsub, 1) := by decide +kernel
theorem dX7_takeLowHalf_86 : decode cX7_takeLowHalf 86 = .ok (.land, 1) := by decide +kernel
theorem dX7_takeLowHalf_87 : decode cX7_takeLowHalf 87 = .ok (.lstore_n 3, 1) := by decide +kernel
theorem dX7_takeLowHalf_88 : decode cX7_takeLowHalf 88 = .ok (.aload_n 0, 1) := by decide +kernel
theorem dX7_takeLowHalf_89 : decode cX7_takeLowHalf 89 = .ok (.lload_n 3, 1) := by decide +kernel
theorem dX7_takeLowHalf_90 : decode cX7_takeLowHalf 90 = .ok (.ldc2_w 95, 3) := by decide +kernel
theorem dX7_takeLowHalf_93 : decode cX7_takeLowHalf 93 = .ok (.lload_n 1, 1) := by decide +kernel
theorem dX7_takeLowHalf_94 : decode cX7_takeLowHalf 94 = .ok (.lsub, 1) := by decide +kernel
theorem dX7_takeLowHalf_95 : decode cX7_takeLowHalf 95 = .ok (.lload_n 3, 1) := by decide +kernel
theorem dX7_takeLowHalf_96 : decode cX7_takeLowHalf 96 = .ok (.ladd, 1) := by decide +kernel
theorem dX7_takeLowHalf_97 : decode cX7_takeLowHalf 97 = .ok (.lload_n 1, 1) := by decide +kernel
theorem dX7_takeLowHalf_98 : decode cX7_takeLowHalf 98 = .ok (.invokevirtual 48, 3) := by decide +kernel
theorem dX7_takeLowHalf_101 : decode cX7_takeLowHalf 101 = .ok (.return_, 1) := by decide +kernel
theorem dX7_takeSignedHalf_0 : decode cX7_takeSignedHalf 0 = .ok (.aload_n 0, 1) := by decide +kernel
theorem dX7_takeSignedHalf_1 : decode cX7_takeSignedHalf 1 = .ok (.invokevirtual 103, 3) := by decide +kernel
theorem dX7_takeSignedHalf_4 : decode cX7_takeSignedHalf 4 = .ok (.aload_n 0, 1) := by decide +kernel
theorem dX7_takeSignedHalf_5 : decode cX7_takeSignedHalf 5 = .ok (.getfield 26, 3) := by decide +kernel
theorem dX7_takeSignedHalf_8 : decode cX7_takeSignedHalf 8 = .ok (.ldc2_w 106, 3) := by decide +kernel
theorem dX7_takeSignedHalf_11 : decode cX7_takeSignedHalf 11 = .ok (.lcmp, 1) := by decide +kernel
theorem dX7_takeSignedHalf_12 : decode cX7_takeSignedHalf 12 = .ok (.ifCond .ge 4, 3) := by decide +kernel
theorem dX7_takeSignedHalf_15 : decode cX7_takeSignedHalf 15 = .ok (.return_, 1) := by decide +kernel
theorem dX7_takeSignedHalf_16 : decode cX7_takeSignedHalf 16 = .ok (.aload_n 0, 1) := by decide +kernel
theorem dX7_takeSignedHalf_17 : decode cX7_takeSignedHalf 17 = .ok (.getfield 23, 3) := by decide +kernel
theorem dX7_takeSignedHalf_20 : decode cX7_takeSignedHalf 20 = .ok (.ldc2_w 106, 3) := by decide +kernel
theorem dX7_takeSignedHalf_23 : decode cX7_takeSignedHalf 23 = .ok (.lcmp, 1) := by decide +kernel
theorem dX7_takeSignedHalf_24 : decode cX7_takeSignedHalf 24 = .ok (.ifCond .lt 28, 3) := by decide +kernel
theorem dX7_takeSignedHalf_27 : decode cX7_takeSignedHalf 27 = .ok (.aload_n 0, 1) := by decide +kernel
theorem dX7_takeSignedHalf_28 : decode cX7_takeSignedHalf 28 = .ok (.aload_n 0, 1) := by decide +kernel
theorem dX7_takeSignedHalf_29 : decode cX7_takeSignedHalf 29 = .ok (.getfield 23, 3) := by decide +kernel
theorem dX7_takeSignedHalf_32 : decode cX7_takeSignedHalf 32 = .ok (.ldc2_w 95, 3) := by decide +kernel
theorem dX7_takeSignedHalf_35 : decode cX7_takeSignedHalf 35 = .ok (.lsub, 1) := by decide +kernel
theorem dX7_takeSignedHalf_36 : decode cX7_takeSignedHalf 36 = .ok (.aload_n 0, 1) := by decide +kernel
theorem dX7_takeSignedHalf_37 : decode cX7_takeSignedHalf 37 = .ok (.getfield 26, 3) := by decide +kernel
theorem dX7_takeSignedHalf_40 : decode cX7_takeSignedHalf 40 = .ok (.ldc2_w 95, 3) := by decide +kernel
theorem dX7_takeSignedHalf_43 : decode cX7_takeSignedHalf 43 = .ok (.lsub, 1) := by decide +kernel
theorem dX7_takeSignedHalf_44 : decode cX7_takeSignedHalf 44 = .ok (.aload_n 0, 1) := by decide +kernel
theorem dX7_takeSignedHalf_45 : decode cX7_takeSignedHalf 45 = .ok (.getfield 15, 3) := by decide +kernel
theorem dX7_takeSignedHalf_48 : decode cX7_takeSignedHalf 48 = .ok (.invokevirtual 48, 3) := by decide +kernel
theorem dX7_takeSignedHalf_51 : decode cX7_takeSignedHalf 51 = .ok (.return_, 1) := by decide +kernel
theorem dX7_takeSignedHalf_52 : decode cX7_takeSignedHalf 52 = .ok (.aload_n 0, 1) := by decide +kernel
theorem dX7_takeSignedHalf_53 : decode cX7_takeSignedHalf 53 = .ok (.getfield 15, 3) := by decide +kernel
theorem dX7_takeSignedHalf_56 : decode cX7_takeSignedHalf 56 = .ok (.invokestatic 97, 3) := by decide +kernel
theorem dX7_takeSignedHalf_59 : decode cX7_takeSignedHalf 59 = .ok (.lstore_n 1, 1) := by decide +kernel
theorem dX7_takeSignedHalf_60 : decode cX7_takeSignedHalf 60 = .ok (.aload_n 0, 1) := by decide +kernel
theorem dX7_takeSignedHalf_61 : decode cX7_takeSignedHalf 61 = .ok (.getfield 23, 3) := by decide +kernel
theorem dX7_takeSignedHalf_64 : decode cX7_takeSignedHalf 64 = .ok (.lload_n 1, 1) := by decide +kernel
theorem dX7_takeSignedHalf_65 : decode cX7_takeSignedHalf 65 = .ok (.lconst 1, 1) := by decide +kernel
theorem dX7_takeSignedHalf_66 : decode cX7_takeSignedHalf 66 = .ok (.lsub, 1) := by decide +kernel
theorem dX7_takeSignedHalf_67 : decode cX7_takeSignedHalf 67 = .ok (.land, 1) := by decide +kernel
theorem dX7_takeSignedHalf_68 : decode cX7_takeSignedHalf 68 = .ok (.lstore_n 3, 1) := by decide +kernel
theorem dX7_takeSignedHalf_69 : decode cX7_takeSignedHalf 69 = .ok (.aload_n 0, 1) := by decide +kernel
theorem dX7_takeSignedHalf_70 : decode cX7_takeSignedHalf 70 = .ok (.lload_n 3, 1) := by decide +kernel
theorem dX7_takeSignedHalf_71 : decode cX7_takeSignedHalf 71 = .ok (.ldc2_w 106, 3) := by decide +kernel
theorem dX7_takeSignedHalf_74 : decode cX7_takeSignedHalf 74 = .ok (.lsub, 1) := by decide +kernel
theorem dX7_takeSignedHalf_75 : decode cX7_takeSignedHalf 75 = .ok (.ldc2_w 106, 3) := by decide +kernel
theorem dX7_takeSignedHalf_78 : decode cX7_takeSignedHalf 78 = .ok (.lload_n 1, 1) := by decide +kernel
theorem dX7_takeSignedHalf_79 : decode cX7_takeSignedHalf 79 = .ok (.lsub, 1) := by decide +kernel
theorem dX7_takeSignedHalf_80 : decode cX7_takeSignedHalf 80 = .ok (.lload_n 3, 1) := by decide +kernel
theorem dX7_takeSignedHalf_81 : decode cX7_takeSignedHalf 81 = .ok (.ladd, 1) := by decide +kernel
theorem dX7_takeSignedHalf_82 : decode cX7_takeSignedHalf 82 = .ok (.lload_n 1, 1) := by decide +kernel
theorem dX7_takeSignedHalf_83 : decode cX7_takeSignedHalf 83 = .ok (.invokevirtual 48, 3) := by decide +kernel
theorem dX7_takeSignedHalf_86 : decode cX7_takeSignedHalf 86 = .ok (.return_, 1) := by decide +kernel
theorem dX7_add_0 : decode cX7_add 0 = .ok (.aload_n 1, 1) := by decide +kernel
theorem dX7_add_1 : decode cX7_add 1 = .ok (.invokevirtual 29, 3) := by decide +kernel
theorem dX7_add_4 : decode cX7_add 4 = .ok (.ifCond .ne 10, 3) := by decide +kernel
theorem dX7_add_7 : decode cX7_add 7 = .ok (.aload_n 2, 1) := by decide +kernel
theorem dX7_add_8 : decode cX7_add 8 = .ok (.invokevirtual 29, 3) := by decide +kernel
theorem dX7_add_11 : decode cX7_add 11 = .ok (.ifCond .eq 10, 3) := by decide +kernel
theorem dX7_add_14 : decode cX7_add 14 = .ok (.aload_n 0, 1) := by decide +kernel
theorem dX7_add_15 : decode cX7_add 15 = .ok (.invokevirtual 33, 3) := by decide +kernel
theorem dX7_add_18 : decode cX7_add 18 = .ok (.goto 36, 3) := by decide +kernel
theorem dX7_add_21 : decode cX7_add 21 = .ok (.aload_n 0, 1) := by decide +kernel
theorem dX7_add_22 : decode cX7_add 22 = .ok (.aload_n 1, 1) := by decide +kernel
theorem dX7_add_23 : decode cX7_add 23 = .ok (.getfield 23, 3) := by decide +kernel
theorem dX7_add_26 : decode cX7_add 26 = .ok (.aload_n 2, 1) := by decide +kernel
theorem dX7_add_27 : decode cX7_add 27 = .ok (.getfield 23, 3) := by decide +kernel
theorem dX7_add_30 : decode cX7_add 30 = .ok (.ladd, 1) := by decide +kernel
theorem dX7_add_31 : decode cX7_add 31 = .ok (.aload_n 1, 1) := by decide +kernel
theorem dX7_add_32 : decode cX7_add 32 = .ok (.getfield 26, 3) := by decide +kernel
theorem dX7_add_35 : decode cX7_add 35 = .ok (.aload_n 2, 1) := by decide +kernel
theorem dX7_add_36 : decode cX7_add 36 = .ok (.getfield 26, 3) := by decide +kernel
theorem dX7_add_39 : decode cX7_add 39 = .ok (.ladd, 1) := by decide +kernel
theorem dX7_add_40 : decode cX7_add 40 = .ok (.aload_n 1, 1) := by decide +kernel
theorem dX7_add_41 : decode cX7_add 41 = .ok (.getfield 15, 3) := by decide +kernel
theorem dX7_add_44 : decode cX7_add 44 = .ok (.aload_n 2, 1) := by decide +kernel
theorem dX7_add_45 : decode cX7_add 45 = .ok (.getfield 15, 3) := by decide +kernel
theorem dX7_add_48 : decode cX7_add 48 = .ok (.invokestatic 36, 3) := by decide +kernel
theorem dX7_add_51 : decode cX7_add 51 = .ok (.invokevirtual 48, 3) := by decide +kernel
theorem dX7_add_54 : decode cX7_add 54 = .ok (.return_, 1) := by decide +kernel
theorem dX7_subtract_0 : decode cX7_subtract 0 = .ok (.aload_n 1, 1) := by decide +kernel
theorem dX7_subtract_1 : decode cX7_subtract 1 = .ok (.invokevirtual 29, 3) := by decide +kernel
theorem dX7_subtract_4 : decode cX7_subtract 4 = .ok (.ifCond .ne 10, 3) := by decide +kernel
theorem dX7_subtract_7 : decode cX7_subtract 7 = .ok (.aload_n 2, 1) := by decide +kernel
theorem dX7_subtract_8 : decode cX7_subtract 8 = .ok (.invokevirtual 29, 3) := by decide +kernel
theorem dX7_subtract_11 : decode cX7_subtract 11 = .ok (.ifCond .eq 10, 3) := by decide +kernel
theorem dX7_subtract_14 : decode cX7_subtract 14 = .ok (.aload_n 0, 1) := by decide +kernel
theorem dX7_subtract_15 : decode cX7_subtract 15 = .ok (.invokevirtual 33, 3) := by decide +kernel
theorem dX7_subtract_18 : decode cX7_subtract 18 = .ok (.goto 36, 3) := by decide +kernel
theorem dX7_subtract_21 : decode cX7_subtract 21 = .ok (.aload_n 0, 1) := by decide +kernel
theorem dX7_subtract_22 : decode cX7_subtract 22 = .ok (.aload_n 1, 1) := by decide +kernel
theorem dX7_subtract_23 : decode cX7_subtract 23 = .ok (.getfield 23, 3) := by decide +kernel
theorem dX7_subtract_26 : decode cX7_subtract 26 = .ok (.aload_n 2, 1) := by decide +kernel
theorem dX7_subtract_27 : decode cX7_subtract 27 = .ok (.getfield 26, 3) := by decide +kernel
theorem dX7_subtract_30 : decode cX7_subtract 30 = .ok (.lsub, 1) := by decide +kernel
theorem dX7_subtract_31 : decode cX7_subtract 31 = .ok (.aload_n 1, 1) := by decide +kernel
theorem dX7_subtract_32 : decode cX7_subtract 32 = .ok (.getfield 26, 3) := by decide +kernel
theorem dX7_subtract_35 : decode cX7_subtract 35 = .ok (.aload_n 2, 1) := by decide +kernel
theorem dX7_subtract_36 : decode cX7_subtract 36 = .ok (.getfield 23, 3) := by decide +kernel
theorem dX7_subtract_39 : decode cX7_subtract 39 = .ok (.lsub, 1) := by decide +kernel
theorem dX7_subtract_40 : decode cX7_subtract 40 = .ok (.aload_n 1, 1) := by decide +kernel
theorem dX7_subtract_41 : decode cX7_subtract 41 = .ok (.getfield 15, 3) := by decide +kernel
theorem dX7_subtract_44 : decode cX7_subtract 44 = .ok (.aload_n 2, 1) := by decide +kernel
theorem dX7_subtract_45 : decode cX7_subtract 45 = .ok (.getfield 15, 3) := by decide +kernel
theorem dX7_subtract_48 : decode cX7_subtract 48 = .ok (.invokestatic 36, 3) := by decide +kernel
theorem dX7_subtract_51 : decode cX7_subtract 51 = .ok (.invokevirtual 48, 3) := by decide +kernel
theorem dX7_subtract_54 : decode cX7_subtract 54 = .ok (.return_, 1) := by decide +kernel
theorem dX7_subtractFrom_0 : decode cX7_subtractFrom 0 = .ok (.aload_n 3, 1) := by decide +kernel
theorem dX7_subtractFrom_1 : decode cX7_subtractFrom 1 = .ok (.invokevirtual 29, 3) := by decide +kernel
theorem dX7_subtractFrom_4 : decode cX7_subtractFrom 4 = .ok (.ifCond .eq 10, 3) := by decide +kernel
theorem dX7_subtractFrom_7 : decode cX7_subtractFrom 7 = .ok (.aload_n 0, 1) := by decide +kernel
theorem dX7_subtractFrom_8 : decode cX7_subtractFrom 8 = .ok (.invokevirtual 33, 3) := by decide +kernel
theorem dX7_subtractFrom_11 : decode cX7_subtractFrom 11 = .ok (.goto 23, 3) := by decide +kernel
theorem dX7_subtractFrom_14 : decode cX7_subtractFrom 14 = .ok (.aload_n 0, 1) := by decide +kernel
theorem dX7_subtractFrom_15 : decode cX7_subtractFrom 15 = .ok (.lload_n 1, 1) := by decide +kernel
theorem dX7_subtractFrom_16 : decode cX7_subtractFrom 16 = .ok (.aload_n 3, 1) := by decide +kernel
theorem dX7_subtractFrom_17 : decode cX7_subtractFrom 17 = .ok (.getfield 26, 3) := by decide +kernel
theorem dX7_subtractFrom_20 : decode cX7_subtractFrom 20 = .ok (.lsub, 1) := by decide +kernel
theorem dX7_subtractFrom_21 : decode cX7_subtractFrom 21 = .ok (.lload_n 1, 1) := by decide +kernel
theorem dX7_subtractFrom_22 : decode cX7_subtractFrom 22 = .ok (.aload_n 3, 1) := by decide +kernel
theorem dX7_subtractFrom_23 : decode cX7_subtractFrom 23 = .ok (.getfield 23, 3) := by decide +kernel
theorem dX7_subtractFrom_26 : decode cX7_subtractFrom 26 = .ok (.lsub, 1) := by decide +kernel
theorem dX7_subtractFrom_27 : decode cX7_subtractFrom 27 = .ok (.aload_n 3, 1) := by decide +kernel
theorem dX7_subtractFrom_28 : decode cX7_subtractFrom 28 = .ok (.getfield 15, 3) := by decide +kernel
theorem dX7_subtractFrom_31 : decode cX7_subtractFrom 31 = .ok (.invokevirtual 48, 3) := by decide +kernel
theorem dX7_subtractFrom_34 : decode cX7_subtractFrom 34 = .ok (.return_, 1) := by decide +kernel
theorem dX7_and_0 : decode cX7_and 0 = .ok (.aload_n 1, 1) := by decide +kernel
theorem dX7_and_1 : decode cX7_and 1 = .ok (.invokevirtual 58, 3) := by decide +kernel
theorem dX7_and_4 : decode cX7_and 4 = .ok (.ifCond .eq 34, 3) := by decide +kernel
theorem dX7_and_7 : decode cX7_and 7 = .ok (.aload_n 2, 1) := by decide +kernel
theorem dX7_and_8 : decode cX7_and 8 = .ok (.invokevirtual 58, 3) := by decide +kernel
theorem dX7_and_11 : decode cX7_and 11 = .ok (.ifCond .eq 27, 3) := by decide +kernel
theorem dX7_and_14 : decode cX7_and 14 = .ok (.aload_n 0, 1) := by decide +kernel
theorem dX7_and_15 : decode cX7_and 15 = .ok (.aload_n 1, 1) := by decide +kernel
theorem dX7_and_16 : decode cX7_and 16 = .ok (.getfield 23, 3) := by decide +kernel
theorem dX7_and_19 : decode cX7_and 19 = .ok (.aload_n 2, 1) := by decide +kernel
theorem dX7_and_20 : decode cX7_and 20 = .ok (.getfield 23, 3) := by decide +kernel
theorem dX7_and_23 : decode cX7_and 23 = .ok (.land, 1) := by decide +kernel
theorem dX7_and_24 : decode cX7_and 24 = .ok (.aload_n 1, 1) := by decide +kernel
theorem dX7_and_25 : decode cX7_and 25 = .ok (.getfield 23, 3) := by decide +kernel
theorem dX7_and_28 : decode cX7_and 28 = .ok (.aload_n 2, 1) := by decide +kernel
theorem dX7_and_29 : decode cX7_and 29 = .ok (.getfield 23, 3) := by decide +kernel
theorem dX7_and_32 : decode cX7_and 32 = .ok (.land, 1) := by decide +kernel
theorem dX7_and_33 : decode cX7_and 33 = .ok (.lconst 0, 1) := by decide +kernel
theorem dX7_and_34 : decode cX7_and 34 = .ok (.invokevirtual 48, 3) := by decide +kernel
theorem dX7_and_37 : decode cX7_and 37 = .ok (.return_, 1) := by decide +kernel
theorem dX7_and_38 : decode cX7_and 38 = .ok (.aload_n 1, 1) := by decide +kernel
theorem dX7_and_39 : decode cX7_and 39 = .ok (.invokevirtual 86, 3) := by decide +kernel
theorem dX7_and_42 : decode cX7_and 42 = .ok (.ifCond .ne 15, 3) := by decide +kernel
theorem dX7_and_45 : decode cX7_and 45 = .ok (.aload_n 2, 1) := by decide +kernel
theorem dX7_and_46 : decode cX7_and 46 = .ok (.invokevirtual 86, 3) := by decide +kernel
theorem dX7_and_49 : decode cX7_and 49 = .ok (.ifCond .ne 8, 3) := by decide +kernel
theorem dX7_and_52 : decode cX7_and 52 = .ok (.aload_n 0, 1) := by decide +kernel
theorem dX7_and_53 : decode cX7_and 53 = .ok (.invokevirtual 33, 3) := by decide +kernel
theorem dX7_and_56 : decode cX7_and 56 = .ok (.return_, 1) := by decide +kernel
theorem dX7_and_57 : decode cX7_and 57 = .ok (.aload_n 1, 1) := by decide +kernel
theorem dX7_and_58 : decode cX7_and 58 = .ok (.invokevirtual 86, 3) := by decide +kernel
theorem dX7_and_61 : decode cX7_and 61 = .ok (.ifCond .eq 10, 3) := by decide +kernel
theorem dX7_and_64 : decode cX7_and 64 = .ok (.aload_n 1, 1) := by decide +kernel
theorem dX7_and_65 : decode cX7_and 65 = .ok (.getfield 26, 3) := by decide +kernel
theorem dX7_and_68 : decode cX7_and 68 = .ok (.goto 7, 3) := by decide +kernel
theorem dX7_and_71 : decode cX7_and 71 = .ok (.aload_n 2, 1) := by decide +kernel
theorem dX7_and_72 : decode cX7_and 72 = .ok (.getfield 26, 3) := by decide +kernel
theorem dX7_and_75 : decode cX7_and 75 = .ok (.lstore_n 3, 1) := by decide +kernel
theorem dX7_and_76 : decode cX7_and 76 = .ok (.aload_n 2, 1) := by decide +kernel
theorem dX7_and_77 : decode cX7_and 77 = .ok (.invokevirtual 86, 3) := by decide +kernel
theorem dX7_and_80 : decode cX7_and 80 = .ok (.ifCond .eq 12, 3) := by decide +kernel
theorem dX7_and_83 : decode cX7_and 83 = .ok (.lload_n 3, 1) := by decide +kernel
theorem dX7_and_84 : decode cX7_and 84 = .ok (.aload_n 2, 1) := by decide +kernel
theorem dX7_and_85 : decode cX7_and 85 = .ok (.getfield 26, 3) := by decide +kernel
theorem dX7_and_88 : decode cX7_and 88 = .ok (.invokestatic 40, 3) := by decide +kernel
theorem dX7_and_91 : decode cX7_and 91 = .ok (.lstore_n 3, 1) := by decide +kernel
theorem dX7_and_92 : decode cX7_and 92 = .ok (.aload_n 1, 1) := by decide +kernel
theorem dX7_and_93 : decode cX7_and 93 = .ok (.invokevirtual 58, 3) := by decide +kernel
theorem dX7_and_96 : decode cX7_and 96 = .ok (.ifCond .eq 12, 3) := by decide +kernel
theorem dX7_and_99 : decode cX7_and 99 = .ok (.aload_n 1, 1) := by decide +kernel
theorem dX7_and_100 : decode cX7_and 100 = .ok (.getfield 23, 3) := by decide +kernel
theorem dX7_and_103 : decode cX7_and 103 = .ok (.lload_n 3, 1) := by decide +kernel
theorem dX7_and_104 : decode cX7_and 104 = .ok (.lcmp, 1) := by decide +kernel
theorem dX7_and_105 : decode cX7_and 105 = .ok (.ifCond .eq 19, 3) := by decide +kernel
theorem dX7_and_108 : decode cX7_and 108 = .ok (.aload_n 2, 1) := by decide +kernel
theorem dX7_and_109 : decode cX7_and 109 = .ok (.invokevirtual 58, 3) := by decide +kernel
theorem dX7_and_112 : decode cX7_and 112 = .ok (.ifCond .eq 16, 3) := by decide +kernel
theorem dX7_and_115 : decode cX7_and 115 = .ok (.aload_n 2, 1) := by decide +kernel
theorem dX7_and_116 : decode cX7_and 116 = .ok (.getfield 23, 3) := by decide +kernel
theorem dX7_and_119 : decode cX7_and 119 = .ok (.lload_n 3, 1) := by decide +kernel
theorem dX7_and_120 : decode cX7_and 120 = .ok (.lcmp, 1) := by decide +kernel
theorem dX7_and_121 : decode cX7_and 121 = .ok (.ifCond .ne 7, 3) := by decide +kernel
theorem dX7_and_124 : decode cX7_and 124 = .ok (.iconst 1, 1) := by decide +kernel
theorem dX7_and_125 : decode cX7_and 125 = .ok (.goto 4, 3) := by decide +kernel
theorem dX7_and_128 : decode cX7_and 128 = .ok (.iconst 0, 1) := by decide +kernel
theorem dX7_and_129 : decode cX7_and 129 = .ok (.istore 5, 2) := by decide +kernel
theorem dX7_and_131 : decode cX7_and 131 = .ok (.aload_n 0, 1) := by decide +kernel
theorem dX7_and_132 : decode cX7_and 132 = .ok (.lconst 0, 1) := by decide +kernel
theorem dX7_and_133 : decode cX7_and 133 = .ok (.lload_n 3, 1) := by decide +kernel
theorem dX7_and_134 : decode cX7_and 134 = .ok (.iload 5, 2) := by decide +kernel
theorem dX7_and_136 : decode cX7_and 136 = .ok (.ifCond .eq 10, 3) := by decide +kernel
theorem dX7_and_139 : decode cX7_and 139 = .ok (.lload_n 3, 1) := by decide +kernel
theorem dX7_and_140 : decode cX7_and 140 = .ok (.invokestatic 97, 3) := by decide +kernel
theorem dX7_and_143 : decode cX7_and 143 = .ok (.goto 4, 3) := by decide +kernel
theorem dX7_and_146 : decode cX7_and 146 = .ok (.lconst 1, 1) := by decide +kernel
theorem dX7_and_147 : decode cX7_and 147 = .ok (.invokevirtual 48, 3) := by decide +kernel
theorem dX7_and_150 : decode cX7_and 150 = .ok (.return_, 1) := by decide +kernel
theorem dX7_mix_0 : decode cX7_mix 0 = .ok (.aload_n 2, 1) := by decide +kernel
theorem dX7_mix_1 : decode cX7_mix 1 = .ok (.invokevirtual 58, 3) := by decide +kernel
theorem dX7_mix_4 : decode cX7_mix 4 = .ok (.ifCond .eq 49, 3) := by decide +kernel
theorem dX7_mix_7 : decode cX7_mix 7 = .ok (.aload_n 3, 1) := by decide +kernel
theorem dX7_mix_8 : decode cX7_mix 8 = .ok (.invokevirtual 58, 3) := by decide +kernel
theorem dX7_mix_11 : decode cX7_mix 11 = .ok (.ifCond .eq 42, 3) := by decide +kernel
theorem dX7_mix_14 : decode cX7_mix 14 = .ok (.iload_n 1, 1) := by decide +kernel
theorem dX7_mix_15 : decode cX7_mix 15 = .ok (.ifCond .eq 15, 3) := by decide +kernel
theorem dX7_mix_18 : decode cX7_mix 18 = .ok (.aload_n 2, 1) := by decide +kernel
theorem dX7_mix_19 : decode cX7_mix 19 = .ok (.getfield 23, 3) := by decide +kernel
theorem dX7_mix_22 : decode cX7_mix 22 = .ok (.aload_n 3, 1) := by decide +kernel
theorem dX7_mix_23 : decode cX7_mix 23 = .ok (.getfield 23, 3) := by decide +kernel
theorem dX7_mix_26 : decode cX7_mix 26 = .ok (.lor, 1) := by decide +kernel
theorem dX7_mix_27 : decode cX7_mix 27 = .ok (.goto 12, 3) := by decide +kernel
theorem dX7_mix_30 : decode cX7_mix 30 = .ok (.aload_n 2, 1) := by decide +kernel
theorem dX7_mix_31 : decode cX7_mix 31 = .ok (.getfield 23, 3) := by decide +kernel
theorem dX7_mix_34 : decode cX7_mix 34 = .ok (.aload_n 3, 1) := by decide +kernel
theorem dX7_mix_35 : decode cX7_mix 35 = .ok (.getfield 23, 3) := by decide +kernel
theorem dX7_mix_38 : decode cX7_mix 38 = .ok (.lxor, 1) := by decide +kernel
theorem dX7_mix_39 : decode cX7_mix 39 = .ok (.lstore 4, 2) := by decide +kernel
theorem dX7_mix_41 : decode cX7_mix 41 = .ok (.aload_n 0, 1) := by decide +kernel
theorem dX7_mix_42 : decode cX7_mix 42 = .ok (.lload 4, 2) := by decide +kernel
theorem dX7_mix_44 : decode cX7_mix 44 = .ok (.lload 4, 2) := by decide +kernel
theorem dX7_mix_46 : decode cX7_mix 46 = .ok (.lconst 0, 1) := by decide +kernel
theorem dX7_mix_47 : decode cX7_mix 47 = .ok (.invokevirtual 48, 3) := by decide +kernel
theorem dX7_mix_50 : decode cX7_mix 50 = .ok (.goto 72, 3) := by decide +kernel
theorem dX7_mix_53 : decode cX7_mix 53 = .ok (.aload_n 2, 1) := by decide +kernel
theorem dX7_mix_54 : decode cX7_mix 54 = .ok (.invokevirtual 86, 3) := by decide +kernel
theorem dX7_mix_57 : decode cX7_mix 57 = .ok (.ifCond .eq 61, 3) := by decide +kernel
theorem dX7_mix_60 : decode cX7_mix 60 = .ok (.aload_n 3, 1) := by decide +kernel
theorem dX7_mix_61 : decode cX7_mix 61 = .ok (.invokevirtual 86, 3) := by decide +kernel
theorem dX7_mix_64 : decode cX7_mix 64 = .ok (.ifCond .eq 54, 3) := by decide +kernel
theorem dX7_mix_67 : decode cX7_mix 67 = .ok (.aload_n 2, 1) := by decide +kernel
theorem dX7_mix_68 : decode cX7_mix 68 = .ok (.getfield 26, 3) := by decide +kernel
theorem dX7_mix_71 : decode cX7_mix 71 = .ok (.aload_n 3, 1) := by decide +kernel
theorem dX7_mix_72 : decode cX7_mix 72 = .ok (.getfield 26, 3) := by decide +kernel
theorem dX7_mix_75 : decode cX7_mix 75 = .ok (.invokestatic 45, 3) := by decide +kernel
theorem dX7_mix_78 : decode cX7_mix 78 = .ok (.invokestatic 108, 3) := by decide +kernel
theorem dX7_mix_81 : decode cX7_mix 81 = .ok (.lstore 4, 2) := by decide +kernel
theorem dX7_mix_83 : decode cX7_mix 83 = .ok (.aload_n 0, 1) := by decide +kernel
theorem dX7_mix_84 : decode cX7_mix 84 = .ok (.iload_n 1, 1) := by decide +kernel
theorem dX7_mix_85 : decode cX7_mix 85 = .ok (.ifCond .eq 17, 3) := by decide +kernel
theorem dX7_mix_88 : decode cX7_mix 88 = .ok (.aload_n 2, 1) := by decide +kernel
theorem dX7_mix_89 : decode cX7_mix 89 = .ok (.getfield 23, 3) := by decide +kernel
theorem dX7_mix_92 : decode cX7_mix 92 = .ok (.aload_n 3, 1) := by decide +kernel
theorem dX7_mix_93 : decode cX7_mix 93 = .ok (.getfield 23, 3) := by decide +kernel
theorem dX7_mix_96 : decode cX7_mix 96 = .ok (.invokestatic 45, 3) := by decide +kernel
theorem dX7_mix_99 : decode cX7_mix 99 = .ok (.goto 4, 3) := by decide +kernel
theorem dX7_mix_102 : decode cX7_mix 102 = .ok (.lconst 0, 1) := by decide +kernel
theorem dX7_mix_103 : decode cX7_mix 103 = .ok (.ldc2_w 111, 3) := by decide +kernel
theorem dX7_mix_106 : decode cX7_mix 106 = .ok (.lload 4, 2) := by decide +kernel
theorem dX7_mix_108 : decode cX7_mix 108 = .ok (.lmul, 1) := by decide +kernel
theorem dX7_mix_109 : decode cX7_mix 109 = .ok (.lconst 1, 1) := by decide +kernel
theorem dX7_mix_110 : decode cX7_mix 110 = .ok (.lsub, 1) := by decide +kernel
theorem dX7_mix_111 : decode cX7_mix 111 = .ok (.lconst 1, 1) := by decide +kernel
theorem dX7_mix_112 : decode cX7_mix 112 = .ok (.invokevirtual 48, 3) := by decide +kernel
theorem dX7_mix_115 : decode cX7_mix 115 = .ok (.goto 7, 3) := by decide +kernel
theorem dX7_mix_118 : decode cX7_mix 118 = .ok (.aload_n 0, 1) := by decide +kernel
theorem dX7_mix_119 : decode cX7_mix 119 = .ok (.invokevirtual 33, 3) := by decide +kernel
theorem dX7_mix_122 : decode cX7_mix 122 = .ok (.return_, 1) := by decide +kernel
theorem dX7_shiftRight_0 : decode cX7_shiftRight 0 = .ok (.iload_n 2, 1) := by decide +kernel
theorem dX7_shiftRight_1 : decode cX7_shiftRight 1 = .ok (.ifCond .ne 9, 3) := by decide +kernel
theorem dX7_shiftRight_4 : decode cX7_shiftRight 4 = .ok (.aload_n 0, 1) := by decide +kernel
theorem dX7_shiftRight_5 : decode cX7_shiftRight 5 = .ok (.aload_n 1, 1) := by decide +kernel
theorem dX7_shiftRight_6 : decode cX7_shiftRight 6 = .ok (.invokevirtual 89, 3) := by decide +kernel
theorem dX7_shiftRight_9 : decode cX7_shiftRight 9 = .ok (.return_, 1) := by decide +kernel
theorem dX7_shiftRight_10 : decode cX7_shiftRight 10 = .ok (.aload_n 1, 1) := by decide +kernel
theorem dX7_shiftRight_11 : decode cX7_shiftRight 11 = .ok (.invokevirtual 29, 3) := by decide +kernel
theorem dX7_shiftRight_14 : decode cX7_shiftRight 14 = .ok (.ifCond .eq 21, 3) := by decide +kernel
theorem dX7_shiftRight_17 : decode cX7_shiftRight 17 = .ok (.lconst 1, 1) := by decide +kernel
theorem dX7_shiftRight_18 : decode cX7_shiftRight 18 = .ok (.bipush 63, 2) := by decide +kernel
theorem dX7_shiftRight_20 : decode cX7_shiftRight 20 = .ok (.iload_n 2, 1) := by decide +kernel
theorem dX7_shiftRight_21 : decode cX7_shiftRight 21 = .ok (.isub, 1) := by decide +kernel
theorem dX7_shiftRight_22 : decode cX7_shiftRight 22 = .ok (.lshl, 1) := by decide +kernel
theorem dX7_shiftRight_23 : decode cX7_shiftRight 23 = .ok (.lstore_n 3, 1) := by decide +kernel
theorem dX7_shiftRight_24 : decode cX7_shiftRight 24 = .ok (.aload_n 0, 1) := by decide +kernel
theorem dX7_shiftRight_25 : decode cX7_shiftRight 25 = .ok (.lload_n 3, 1) := by decide +kernel
theorem dX7_shiftRight_26 : decode cX7_shiftRight 26 = .ok (.lneg, 1) := by decide +kernel
theorem dX7_shiftRight_27 : decode cX7_shiftRight 27 = .ok (.lload_n 3, 1) := by decide +kernel
theorem dX7_shiftRight_28 : decode cX7_shiftRight 28 = .ok (.lconst 1, 1) := by decide +kernel
theorem dX7_shiftRight_29 : decode cX7_shiftRight 29 = .ok (.lsub, 1) := by decide +kernel
theorem dX7_shiftRight_30 : decode cX7_shiftRight 30 = .ok (.lconst 1, 1) := by decide +kernel
theorem dX7_shiftRight_31 : decode cX7_shiftRight 31 = .ok (.invokevirtual 48, 3) := by decide +kernel
theorem dX7_shiftRight_34 : decode cX7_shiftRight 34 = .ok (.return_, 1) := by decide +kernel
theorem dX7_shiftRight_35 : decode cX7_shiftRight 35 = .ok (.lconst 1, 1) := by decide +kernel
theorem dX7_shiftRight_36 : decode cX7_shiftRight 36 = .ok (.iload_n 2, 1) := by decide +kernel
theorem dX7_shiftRight_37 : decode cX7_shiftRight 37 = .ok (.lshl, 1) := by decide +kernel
theorem dX7_shiftRight_38 : decode cX7_shiftRight 38 = .ok (.lconst 1, 1) := by decide +kernel
theorem dX7_shiftRight_39 : decode cX7_shiftRight 39 = .ok (.lsub, 1) := by decide +kernel
theorem dX7_shiftRight_40 : decode cX7_shiftRight 40 = .ok (.lstore_n 3, 1) := by decide +kernel
theorem dX7_shiftRight_41 : decode cX7_shiftRight 41 = .ok (.aload_n 1, 1) := by decide +kernel
theorem dX7_shiftRight_42 : decode cX7_shiftRight 42 = .ok (.getfield 15, 3) := by decide +kernel
theorem dX7_shiftRight_45 : decode cX7_shiftRight 45 = .ok (.lload_n 3, 1) := by decide +kernel
theorem dX7_shiftRight_46 : decode cX7_shiftRight 46 = .ok (.land, 1) := by decide +kernel
theorem dX7_shiftRight_47 : decode cX7_shiftRight 47 = .ok (.lconst 0, 1) := by decide +kernel
theorem dX7_shiftRight_48 : decode cX7_shiftRight 48 = .ok (.lcmp, 1) := by decide +kernel
theorem dX7_shiftRight_49 : decode cX7_shiftRight 49 = .ok (.ifCond .ne 18, 3) := by decide +kernel
theorem dX7_shiftRight_52 : decode cX7_shiftRight 52 = .ok (.aload_n 1, 1) := by decide +kernel
theorem dX7_shiftRight_53 : decode cX7_shiftRight 53 = .ok (.getfield 23, 3) := by decide +kernel
theorem dX7_shiftRight_56 : decode cX7_shiftRight 56 = .ok (.lload_n 3, 1) := by decide +kernel
theorem dX7_shiftRight_57 : decode cX7_shiftRight 57 = .ok (.land, 1) := by decide +kernel
theorem dX7_shiftRight_58 : decode cX7_shiftRight 58 = .ok (.lconst 0, 1) := by decide +kernel
theorem dX7_shiftRight_59 : decode cX7_shiftRight 59 = .ok (.lcmp, 1) := by decide +kernel
theorem dX7_shiftRight_60 : decode cX7_shiftRight 60 = .ok (.ifCond .ne 7, 3) := by decide +kernel
theorem dX7_shiftRight_63 : decode cX7_shiftRight 63 = .ok (.iconst 1, 1) := by decide +kernel
theorem dX7_shiftRight_64 : decode cX7_shiftRight 64 = .ok (.goto 4, 3) := by decide +kernel
theorem dX7_shiftRight_67 : decode cX7_shiftRight 67 = .ok (.iconst 0, 1) := by decide +kernel
theorem dX7_shiftRight_68 : decode cX7_shiftRight 68 = .ok (.istore 5, 2) := by decide +kernel
theorem dX7_shiftRight_70 : decode cX7_shiftRight 70 = .ok (.aload_n 0, 1) := by decide +kernel
theorem dX7_shiftRight_71 : decode cX7_shiftRight 71 = .ok (.aload_n 1, 1) := by decide +kernel
theorem dX7_shiftRight_72 : decode cX7_shiftRight 72 = .ok (.getfield 23, 3) := by decide +kernel
theorem dX7_shiftRight_75 : decode cX7_shiftRight 75 = .ok (.iload_n 2, 1) := by decide +kernel
theorem dX7_shiftRight_76 : decode cX7_shiftRight 76 = .ok (.lshr, 1) := by decide +kernel
theorem dX7_shiftRight_77 : decode cX7_shiftRight 77 = .ok (.aload_n 1, 1) := by decide +kernel
theorem dX7_shiftRight_78 : decode cX7_shiftRight 78 = .ok (.getfield 26, 3) := by decide +kernel
theorem dX7_shiftRight_81 : decode cX7_shiftRight 81 = .ok (.iload_n 2, 1) := by decide +kernel
theorem dX7_shiftRight_82 : decode cX7_shiftRight 82 = .ok (.lshr, 1) := by decide +kernel
theorem dX7_shiftRight_83 : decode cX7_shiftRight 83 = .ok (.iload 5, 2) := by decide +kernel
theorem dX7_shiftRight_85 : decode cX7_shiftRight 85 = .ok (.ifCond .eq 12, 3) := by decide +kernel
theorem dX7_shiftRight_88 : decode cX7_shiftRight 88 = .ok (.aload_n 1, 1) := by decide +kernel
theorem dX7_shiftRight_89 : decode cX7_shiftRight 89 = .ok (.getfield 15, 3) := by decide +kernel
theorem dX7_shiftRight_92 : decode cX7_shiftRight 92 = .ok (.iload_n 2, 1) := by decide +kernel
theorem dX7_shiftRight_93 : decode cX7_shiftRight 93 = .ok (.lshr, 1) := by decide +kernel
theorem dX7_shiftRight_94 : decode cX7_shiftRight 94 = .ok (.goto 4, 3) := by decide +kernel
theorem dX7_shiftRight_97 : decode cX7_shiftRight 97 = .ok (.lconst 1, 1) := by decide +kernel
theorem dX7_shiftRight_98 : decode cX7_shiftRight 98 = .ok (.invokevirtual 48, 3) := by decide +kernel
theorem dX7_shiftRight_101 : decode cX7_shiftRight 101 = .ok (.return_, 1) := by decide +kernel
theorem dX7_multiply_0 : decode cX7_multiply 0 = .ok (.aload_n 1, 1) := by decide +kernel
theorem dX7_multiply_1 : decode cX7_multiply 1 = .ok (.invokevirtual 58, 3) := by decide +kernel
theorem dX7_multiply_4 : decode cX7_multiply 4 = .ok (.ifCond .eq 12, 3) := by decide +kernel
theorem dX7_multiply_7 : decode cX7_multiply 7 = .ok (.aload_n 1, 1) := by decide +kernel
theorem dX7_multiply_8 : decode cX7_multiply 8 = .ok (.getfield 23, 3) := by decide +kernel
theorem dX7_multiply_11 : decode cX7_multiply 11 = .ok (.lconst 0, 1) := by decide +kernel
theorem dX7_multiply_12 : decode cX7_multiply 12 = .ok (.lcmp, 1) := by decide +kernel
theorem dX7_multiply_13 : decode cX7_multiply 13 = .ok (.ifCond .eq 19, 3) := by decide +kernel
theorem dX7_multiply_16 : decode cX7_multiply 16 = .ok (.aload_n 2, 1) := by decide +kernel
theorem dX7_multiply_17 : decode cX7_multiply 17 = .ok (.invokevirtual 58, 3) := by decide +kernel
theorem dX7_multiply_20 : decode cX7_multiply 20 = .ok (.ifCond .eq 20, 3) := by decide +kernel
theorem dX7_multiply_23 : decode cX7_multiply 23 = .ok (.aload_n 2, 1) := by decide +kernel
theorem dX7_multiply_24 : decode cX7_multiply 24 = .ok (.getfield 23, 3) := by decide +kernel
theorem dX7_multiply_27 : decode cX7_multiply 27 = .ok (.lconst 0, 1) := by decide +kernel
theorem dX7_multiply_28 : decode cX7_multiply 28 = .ok (.lcmp, 1) := by decide +kernel
theorem dX7_multiply_29 : decode cX7_multiply 29 = .ok (.ifCond .ne 11, 3) := by decide +kernel
theorem dX7_multiply_32 : decode cX7_multiply 32 = .ok (.aload_n 0, 1) := by decide +kernel
theorem dX7_multiply_33 : decode cX7_multiply 33 = .ok (.lconst 0, 1) := by decide +kernel
theorem dX7_multiply_34 : decode cX7_multiply 34 = .ok (.lconst 0, 1) := by decide +kernel
theorem dX7_multiply_35 : decode cX7_multiply 35 = .ok (.lconst 0, 1) := by decide +kernel
theorem dX7_multiply_36 : decode cX7_multiply 36 = .ok (.invokevirtual 48, 3) := by decide +kernel
theorem dX7_multiply_39 : decode cX7_multiply 39 = .ok (.return_, 1) := by decide +kernel
theorem dX7_multiply_40 : decode cX7_multiply 40 = .ok (.aload_n 1, 1) := by decide +kernel
theorem dX7_multiply_41 : decode cX7_multiply 41 = .ok (.invokevirtual 113, 3) := by decide +kernel
theorem dX7_multiply_44 : decode cX7_multiply 44 = .ok (.ifCond .eq 10, 3) := by decide +kernel
theorem dX7_multiply_47 : decode cX7_multiply 47 = .ok (.aload_n 2, 1) := by decide +kernel
theorem dX7_multiply_48 : decode cX7_multiply 48 = .ok (.invokevirtual 113, 3) := by decide +kernel
theorem dX7_multiply_51 : decode cX7_multiply 51 = .ok (.ifCond .ne 8, 3) := by decide +kernel
theorem dX7_multiply_54 : decode cX7_multiply 54 = .ok (.aload_n 0, 1) := by decide +kernel
theorem dX7_multiply_55 : decode cX7_multiply 55 = .ok (.invokevirtual 33, 3) := by decide +kernel
theorem dX7_multiply_58 : decode cX7_multiply 58 = .ok (.return_, 1) := by decide +kernel
theorem dX7_multiply_59 : decode cX7_multiply 59 = .ok (.aload_n 1, 1) := by decide +kernel
theorem dX7_multiply_60 : decode cX7_multiply 60 = .ok (.getfield 23, 3) := by decide +kernel
theorem dX7_multiply_63 : decode cX7_multiply 63 = .ok (.aload_n 2, 1) := by decide +kernel
theorem dX7_multiply_64 : decode cX7_multiply 64 = .ok (.getfield 23, 3) := by decide +kernel
theorem dX7_multiply_67 : decode cX7_multiply 67 = .ok (.lmul, 1) := by decide +kernel
theorem dX7_multiply_68 : decode cX7_multiply 68 = .ok (.lstore_n 3, 1) := by decide +kernel
theorem dX7_multiply_69 : decode cX7_multiply 69 = .ok (.aload_n 1, 1) := by decide +kernel
theorem dX7_multiply_70 : decode cX7_multiply 70 = .ok (.getfield 23, 3) := by decide +kernel
theorem dX7_multiply_73 : decode cX7_multiply 73 = .ok (.aload_n 2, 1) := by decide +kernel
theorem dX7_multiply_74 : decode cX7_multiply 74 = .ok (.getfield 26, 3) := by decide +kernel
theorem dX7_multiply_77 : decode cX7_multiply 77 = .ok (.lmul, 1) := by decide +kernel
theorem dX7_multiply_78 : decode cX7_multiply 78 = .ok (.lstore 5, 2) := by decide +kernel
theorem dX7_multiply_80 : decode cX7_multiply 80 = .ok (.aload_n 1, 1) := by decide +kernel
theorem dX7_multiply_81 : decode cX7_multiply 81 = .ok (.getfield 26, 3) := by decide +kernel
theorem dX7_multiply_84 : decode cX7_multiply 84 = .ok (.aload_n 2, 1) := by decide +kernel
theorem dX7_multiply_85 : decode cX7_multiply 85 = .ok (.getfield 23, 3) := by decide +kernel
theorem dX7_multiply_88 : decode cX7_multiply 88 = .ok (.lmul, 1) := by decide +kernel
theorem dX7_multiply_89 : decode cX7_multiply 89 = .ok (.lstore 7, 2) := by decide +kernel
theorem dX7_multiply_91 : decode cX7_multiply 91 = .ok (.aload_n 1, 1) := by decide +kernel
theorem dX7_multiply_92 : decode cX7_multiply 92 = .ok (.getfield 26, 3) := by decide +kernel
theorem dX7_multiply_95 : decode cX7_multiply 95 = .ok (.aload_n 2, 1) := by decide +kernel
theorem dX7_multiply_96 : decode cX7_multiply 96 = .ok (.getfield 26, 3) := by decide +kernel
theorem dX7_multiply_99 : decode cX7_multiply 99 = .ok (.lmul, 1) := by decide +kernel
theorem dX7_multiply_100 : decode cX7_multiply 100 = .ok (.lstore 9, 2) := by decide +kernel
theorem dX7_multiply_102 : decode cX7_multiply 102 = .ok (.lload_n 3, 1) := by decide +kernel
theorem dX7_multiply_103 : decode cX7_multiply 103 = .ok (.lload 5, 2) := by decide +kernel
theorem dX7_multiply_105 : decode cX7_multiply 105 = .ok (.invokestatic 40, 3) := by decide +kernel
theorem dX7_multiply_108 : decode cX7_multiply 108 = .ok (.lload 7, 2) := by decide +kernel
theorem dX7_multiply_110 : decode cX7_multiply 110 = .ok (.lload 9, 2) := by decide +kernel
theorem dX7_multiply_112 : decode cX7_multiply 112 = .ok (.invokestatic 40, 3) := by decide +kernel
theorem dX7_multiply_115 : decode cX7_multiply 115 = .ok (.invokestatic 40, 3) := by decide +kernel
theorem dX7_multiply_118 : decode cX7_multiply 118 = .ok (.lstore 11, 2) := by decide +kernel
theorem dX7_multiply_120 : decode cX7_multiply 120 = .ok (.lload_n 3, 1) := by decide +kernel
theorem dX7_multiply_121 : decode cX7_multiply 121 = .ok (.lload 5, 2) := by decide +kernel
theorem dX7_multiply_123 : decode cX7_multiply 123 = .ok (.invokestatic 45, 3) := by decide +kernel
theorem dX7_multiply_126 : decode cX7_multiply 126 = .ok (.lload 7, 2) := by decide +kernel
theorem dX7_multiply_128 : decode cX7_multiply 128 = .ok (.lload 9, 2) := by decide +kernel
theorem dX7_multiply_130 : decode cX7_multiply 130 = .ok (.invokestatic 45, 3) := by decide +kernel
theorem dX7_multiply_133 : decode cX7_multiply 133 = .ok (.invokestatic 45, 3) := by decide +kernel
theorem dX7_multiply_136 : decode cX7_multiply 136 = .ok (.lstore 13, 2) := by decide +kernel
theorem dX7_multiply_138 : decode cX7_multiply 138 = .ok (.aload_n 1, 1) := by decide +kernel
theorem dX7_multiply_139 : decode cX7_multiply 139 = .ok (.getfield 15, 3) := by decide +kernel
theorem dX7_multiply_142 : decode cX7_multiply 142 = .ok (.aload_n 2, 1) := by decide +kernel
theorem dX7_multiply_143 : decode cX7_multiply 143 = .ok (.getfield 23, 3) := by decide +kernel
theorem dX7_multiply_146 : decode cX7_multiply 146 = .ok (.lmul, 1) := by decide +kernel
theorem dX7_multiply_147 : decode cX7_multiply 147 = .ok (.aload_n 2, 1) := by decide +kernel
theorem dX7_multiply_148 : decode cX7_multiply 148 = .ok (.getfield 15, 3) := by decide +kernel
theorem dX7_multiply_151 : decode cX7_multiply 151 = .ok (.aload_n 1, 1) := by decide +kernel
theorem dX7_multiply_152 : decode cX7_multiply 152 = .ok (.getfield 23, 3) := by decide +kernel
theorem dX7_multiply_155 : decode cX7_multiply 155 = .ok (.lmul, 1) := by decide +kernel
theorem dX7_multiply_156 : decode cX7_multiply 156 = .ok (.invokestatic 36, 3) := by decide +kernel
theorem dX7_multiply_159 : decode cX7_multiply 159 = .ok (.aload_n 1, 1) := by decide +kernel
theorem dX7_multiply_160 : decode cX7_multiply 160 = .ok (.getfield 15, 3) := by decide +kernel
theorem dX7_multiply_163 : decode cX7_multiply 163 = .ok (.aload_n 2, 1) := by decide +kernel
theorem dX7_multiply_164 : decode cX7_multiply 164 = .ok (.getfield 15, 3) := by decide +kernel
theorem dX7_multiply_167 : decode cX7_multiply 167 = .ok (.lmul, 1) := by decide +kernel
theorem dX7_multiply_168 : decode cX7_multiply 168 = .ok (.invokestatic 36, 3) := by decide +kernel
theorem dX7_multiply_171 : decode cX7_multiply 171 = .ok (.lstore 15, 2) := by decide +kernel
theorem dX7_multiply_173 : decode cX7_multiply 173 = .ok (.aload_n 0, 1) := by decide +kernel
theorem dX7_multiply_174 : decode cX7_multiply 174 = .ok (.lload 11, 2) := by decide +kernel
theorem dX7_multiply_176 : decode cX7_multiply 176 = .ok (.lload 13, 2) := by decide +kernel
theorem dX7_multiply_178 : decode cX7_multiply 178 = .ok (.lload 15, 2) := by decide +kernel
theorem dX7_multiply_180 : decode cX7_multiply 180 = .ok (.invokevirtual 48, 3) := by decide +kernel
theorem dX7_multiply_183 : decode cX7_multiply 183 = .ok (.return_, 1) := by decide +kernel
theorem dX7_isFactor_0 : decode cX7_isFactor 0 = .ok (.aload_n 0, 1) := by decide +kernel
theorem dX7_isFactor_1 : decode cX7_isFactor 1 = .ok (.getfield 15, 3) := by decide +kernel
theorem dX7_isFactor_4 : decode cX7_isFactor 4 = .ok (.lconst 0, 1) := by decide +kernel
theorem dX7_isFactor_5 : decode cX7_isFactor 5 = .ok (.lcmp, 1) := by decide +kernel
theorem dX7_isFactor_6 : decode cX7_isFactor 6 = .ok (.ifCond .lt 29, 3) := by decide +kernel
theorem dX7_isFactor_9 : decode cX7_isFactor 9 = .ok (.aload_n 0, 1) := by decide +kernel
theorem dX7_isFactor_10 : decode cX7_isFactor 10 = .ok (.getfield 23, 3) := by decide +kernel
theorem dX7_isFactor_13 : decode cX7_isFactor 13 = .ok (.ldc2_w 116, 3) := by decide +kernel
theorem dX7_isFactor_16 : decode cX7_isFactor 16 = .ok (.lcmp, 1) := by decide +kernel
theorem dX7_isFactor_17 : decode cX7_isFactor 17 = .ok (.ifCond .lt 18, 3) := by decide +kernel
theorem dX7_isFactor_20 : decode cX7_isFactor 20 = .ok (.aload_n 0, 1) := by decide +kernel
theorem dX7_isFactor_21 : decode cX7_isFactor 21 = .ok (.getfield 26, 3) := by decide +kernel
theorem dX7_isFactor_24 : decode cX7_isFactor 24 = .ok (.ldc2_w 118, 3) := by decide +kernel
theorem dX7_isFactor_27 : decode cX7_isFactor 27 = .ok (.lcmp, 1) := by decide +kernel
theorem dX7_isFactor_28 : decode cX7_isFactor 28 = .ok (.ifCond .gt 7, 3) := by decide +kernel
theorem dX7_isFactor_31 : decode cX7_isFactor 31 = .ok (.iconst 1, 1) := by decide +kernel
theorem dX7_isFactor_32 : decode cX7_isFactor 32 = .ok (.goto 4, 3) := by decide +kernel
theorem dX7_isFactor_35 : decode cX7_isFactor 35 = .ok (.iconst 0, 1) := by decide +kernel
theorem dX7_isFactor_36 : decode cX7_isFactor 36 = .ok (.ireturn, 1) := by decide +kernel
theorem dX7_gcd_0 : decode cX7_gcd 0 = .ok (.lload_n 0, 1) := by decide +kernel
theorem dX7_gcd_1 : decode cX7_gcd 1 = .ok (.lconst 0, 1) := by decide +kernel
theorem dX7_gcd_2 : decode cX7_gcd 2 = .ok (.lcmp, 1) := by decide +kernel
theorem dX7_gcd_3 : decode cX7_gcd 3 = .ok (.ifCond .ge 8, 3) := by decide +kernel
theorem dX7_gcd_6 : decode cX7_gcd 6 = .ok (.lload_n 0, 1) := by decide +kernel
theorem dX7_gcd_7 : decode cX7_gcd 7 = .ok (.lneg, 1) := by decide +kernel
theorem dX7_gcd_8 : decode cX7_gcd 8 = .ok (.goto 4, 3) := by decide +kernel
theorem dX7_gcd_11 : decode cX7_gcd 11 = .ok (.lload_n 0, 1) := by decide +kernel
theorem dX7_gcd_12 : decode cX7_gcd 12 = .ok (.lstore 4, 2) := by decide +kernel
theorem dX7_gcd_14 : decode cX7_gcd 14 = .ok (.lload_n 2, 1) := by decide +kernel
theorem dX7_gcd_15 : decode cX7_gcd 15 = .ok (.lconst 0, 1) := by decide +kernel
theorem dX7_gcd_16 : decode cX7_gcd 16 = .ok (.lcmp, 1) := by decide +kernel
theorem dX7_gcd_17 : decode cX7_gcd 17 = .ok (.ifCond .ge 8, 3) := by decide +kernel
theorem dX7_gcd_20 : decode cX7_gcd 20 = .ok (.lload_n 2, 1) := by decide +kernel
theorem dX7_gcd_21 : decode cX7_gcd 21 = .ok (.lneg, 1) := by decide +kernel
theorem dX7_gcd_22 : decode cX7_gcd 22 = .ok (.goto 4, 3) := by decide +kernel
theorem dX7_gcd_25 : decode cX7_gcd 25 = .ok (.lload_n 2, 1) := by decide +kernel
theorem dX7_gcd_26 : decode cX7_gcd 26 = .ok (.lstore 6, 2) := by decide +kernel
theorem dX7_gcd_28 : decode cX7_gcd 28 = .ok (.iconst 0, 1) := by decide +kernel
theorem dX7_gcd_29 : decode cX7_gcd 29 = .ok (.istore 8, 2) := by decide +kernel
theorem dX7_gcd_31 : decode cX7_gcd 31 = .ok (.iload 8, 2) := by decide +kernel
theorem dX7_gcd_33 : decode cX7_gcd 33 = .ok (.sipush 128, 3) := by decide +kernel
theorem dX7_gcd_36 : decode cX7_gcd 36 = .ok (.if_icmp .ge 31, 3) := by decide +kernel
theorem dX7_gcd_39 : decode cX7_gcd 39 = .ok (.lload 6, 2) := by decide +kernel
theorem dX7_gcd_41 : decode cX7_gcd 41 = .ok (.lconst 0, 1) := by decide +kernel
theorem dX7_gcd_42 : decode cX7_gcd 42 = .ok (.lcmp, 1) := by decide +kernel
theorem dX7_gcd_43 : decode cX7_gcd 43 = .ok (.ifCond .eq 24, 3) := by decide +kernel
theorem dX7_gcd_46 : decode cX7_gcd 46 = .ok (.lload 4, 2) := by decide +kernel
theorem dX7_gcd_48 : decode cX7_gcd 48 = .ok (.lload 6, 2) := by decide +kernel
theorem dX7_gcd_50 : decode cX7_gcd 50 = .ok (.lrem, 1) := by decide +kernel
theorem dX7_gcd_51 : decode cX7_gcd 51 = .ok (.lstore 9, 2) := by decide +kernel
theorem dX7_gcd_53 : decode cX7_gcd 53 = .ok (.lload 6, 2) := by decide +kernel
theorem dX7_gcd_55 : decode cX7_gcd 55 = .ok (.lstore 4, 2) := by decide +kernel
theorem dX7_gcd_57 : decode cX7_gcd 57 = .ok (.lload 9, 2) := by decide +kernel
theorem dX7_gcd_59 : decode cX7_gcd 59 = .ok (.lstore 6, 2) := by decide +kernel
theorem dX7_gcd_61 : decode cX7_gcd 61 = .ok (.iinc 8 1, 3) := by decide +kernel
theorem dX7_gcd_64 : decode cX7_gcd 64 = .ok (.goto (-33), 3) := by decide +kernel
theorem dX7_gcd_67 : decode cX7_gcd 67 = .ok (.lload 4, 2) := by decide +kernel
theorem dX7_gcd_69 : decode cX7_gcd 69 = .ok (.lreturn, 1) := by decide +kernel
theorem dX8_init_0 : decode cX8_init 0 = .ok (.aload_n 0, 1) := by decide +kernel
theorem dX8_init_1 : decode cX8_init 1 = .ok (.invokespecial 3, 3) := by decide +kernel
theorem dX8_init_4 : decode cX8_init 4 = .ok (.aload_n 0, 1) := by decide +kernel
theorem dX8_init_5 : decode cX8_init 5 = .ok (.bipush 24, 2) := by decide +kernel
theorem dX8_init_7 : decode cX8_init 7 = .ok (.newarray .long, 2) := by decide +kernel
theorem dX8_init_9 : decode cX8_init 9 = .ok (.putfield 9, 3) := by decide +kernel
theorem dX8_init_12 : decode cX8_init 12 = .ok (.aload_n 0, 1) := by decide +kernel
theorem dX8_init_13 : decode cX8_init 13 = .ok (.bipush 24, 2) := by decide +kernel
theorem dX8_init_15 : decode cX8_init 15 = .ok (.newarray .long, 2) := by decide +kernel
theorem dX8_init_17 : decode cX8_init 17 = .ok (.putfield 15, 3) := by decide +kernel
theorem dX8_init_20 : decode cX8_init 20 = .ok (.aload_n 0, 1) := by decide +kernel
theorem dX8_init_21 : decode cX8_init 21 = .ok (.bipush 24, 2) := by decide +kernel
theorem dX8_init_23 : decode cX8_init 23 = .ok (.newarray .long, 2) := by decide +kernel
theorem dX8_init_25 : decode cX8_init 25 = .ok (.putfield 18, 3) := by decide +kernel
theorem dX8_init_28 : decode cX8_init 28 = .ok (.aload_n 0, 1) := by decide +kernel
theorem dX8_init_29 : decode cX8_init 29 = .ok (.iconst 0, 1) := by decide +kernel
theorem dX8_init_30 : decode cX8_init 30 = .ok (.putfield 21, 3) := by decide +kernel
theorem dX8_init_33 : decode cX8_init 33 = .ok (.aload_n 0, 1) := by decide +kernel
theorem dX8_init_34 : decode cX8_init 34 = .ok (.iconst (-1), 1) := by decide +kernel
theorem dX8_init_35 : decode cX8_init 35 = .ok (.putfield 25, 3) := by decide +kernel
theorem dX8_init_38 : decode cX8_init 38 = .ok (.aload_n 0, 1) := by decide +kernel
theorem dX8_init_39 : decode cX8_init 39 = .ok (.iconst (-1), 1) := by decide +kernel
theorem dX8_init_40 : decode cX8_init 40 = .ok (.putfield 28, 3) := by decide +kernel
theorem dX8_init_43 : decode cX8_init 43 = .ok (.iconst 0, 1) := by decide +kernel
theorem dX8_init_44 : decode cX8_init 44 = .ok (.istore_n 1, 1) := by decide +kernel
theorem dX8_init_45 : decode cX8_init 45 = .ok (.iload_n 1, 1) := by decide +kernel
theorem dX8_init_46 : decode cX8_init 46 = .ok (.bipush 24, 2) := by decide +kernel
theorem dX8_init_48 : decode cX8_init 48 = .ok (.if_icmp .ge 18, 3) := by decide +kernel
theorem dX8_init_51 : decode cX8_init 51 = .ok (.aload_n 0, 1) := by decide +kernel
theorem dX8_init_52 : decode cX8_init 52 = .ok (.getfield 18, 3) := by decide +kernel
theorem dX8_init_55 : decode cX8_init 55 = .ok (.iload_n 1, 1) := by decide +kernel
theorem dX8_init_56 : decode cX8_init 56 = .ok (.ldc2_w 33, 3) := by decide +kernel
theorem dX8_init_59 : decode cX8_init 59 = .ok (.lastore, 1) := by decide +kernel
theorem dX8_init_60 : decode cX8_init 60 = .ok (.iinc 1 1, 3) := by decide +kernel
theorem dX8_init_63 : decode cX8_init 63 = .ok (.goto (-18), 3) := by decide +kernel
theorem dX8_init_66 : decode cX8_init 66 = .ok (.return_, 1) := by decide +kernel
theorem dX8_keep_0 : decode cX8_keep 0 = .ok (.iload_n 1, 1) := by decide +kernel
theorem dX8_keep_1 : decode cX8_keep 1 = .ok (.invokestatic 35, 3) := by decide +kernel
theorem dX8_keep_4 : decode cX8_keep 4 = .ok (.ifCond .eq 26, 3) := by decide +kernel
theorem dX8_keep_7 : decode cX8_keep 7 = .ok (.aload_n 0, 1) := by decide +kernel
theorem dX8_keep_8 : decode cX8_keep 8 = .ok (.getfield 9, 3) := by decide +kernel
theorem dX8_keep_11 : decode cX8_keep 11 = .ok (.iload_n 1, 1) := by decide +kernel
theorem dX8_keep_12 : decode cX8_keep 12 = .ok (.lload_n 2, 1) := by decide +kernel
theorem dX8_keep_13 : decode cX8_keep 13 = .ok (.lastore, 1) := by decide +kernel
theorem dX8_keep_14 : decode cX8_keep 14 = .ok (.aload_n 0, 1) := by decide +kernel
theorem dX8_keep_15 : decode cX8_keep 15 = .ok (.getfield 15, 3) := by decide +kernel
theorem dX8_keep_18 : decode cX8_keep 18 = .ok (.iload_n 1, 1) := by decide +kernel
theorem dX8_keep_19 : decode cX8_keep 19 = .ok (.lload 4, 2) := by decide +kernel
theorem dX8_keep_21 : decode cX8_keep 21 = .ok (.lastore, 1) := by decide +kernel
theorem dX8_keep_22 : decode cX8_keep 22 = .ok (.aload_n 0, 1) := by decide +kernel
theorem dX8_keep_23 : decode cX8_keep 23 = .ok (.getfield 18, 3) := by decide +kernel
theorem dX8_keep_26 : decode cX8_keep 26 = .ok (.iload_n 1, 1) := by decide +kernel
theorem dX8_keep_27 : decode cX8_keep 27 = .ok (.lload 6, 2) := by decide +kernel
theorem dX8_keep_29 : decode cX8_keep 29 = .ok (.lastore, 1) := by decide +kernel
theorem dX8_keep_30 : decode cX8_keep 30 = .ok (.return_, 1) := by decide +kernel
theorem dX8_store_0 : decode cX8_store 0 = .ok (.aload_n 0, 1) := by decide +kernel
theorem dX8_store_1 : decode cX8_store 1 = .ok (.iload_n 1, 1) := by decide +kernel
theorem dX8_store_2 : decode cX8_store 2 = .ok (.aload_n 2, 1) := by decide +kernel
theorem dX8_store_3 : decode cX8_store 3 = .ok (.getfield 39, 3) := by decide +kernel
theorem dX8_store_6 : decode cX8_store 6 = .ok (.aload_n 2, 1) := by decide +kernel
theorem dX8_store_7 : decode cX8_store 7 = .ok (.getfield 43, 3) := by decide +kernel
theorem dX8_store_10 : decode cX8_store 10 = .ok (.aload_n 2, 1) := by decide +kernel
theorem dX8_store_11 : decode cX8_store 11 = .ok (.getfield 46, 3) := by decide +kernel
theorem dX8_store_14 : decode cX8_store 14 = .ok (.invokevirtual 49, 3) := by decide +kernel
theorem dX8_store_17 : decode cX8_store 17 = .ok (.return_, 1) := by decide +kernel
theorem dX8_load_0 : decode cX8_load 0 = .ok (.iload_n 1, 1) := by decide +kernel
theorem dX8_load_1 : decode cX8_load 1 = .ok (.invokestatic 35, 3) := by decide +kernel
theorem dX8_load_4 : decode cX8_load 4 = .ok (.ifCond .eq 36, 3) := by decide +kernel
theorem dX8_load_7 : decode cX8_load 7 = .ok (.aload_n 2, 1) := by decide +kernel
theorem dX8_load_8 : decode cX8_load 8 = .ok (.aload_n 0, 1) := by decide +kernel
theorem dX8_load_9 : decode cX8_load 9 = .ok (.getfield 9, 3) := by decide +kernel
theorem dX8_load_12 : decode cX8_load 12 = .ok (.iload_n 1, 1) := by decide +kernel
theorem dX8_load_13 : decode cX8_load 13 = .ok (.laload, 1) := by decide +kernel
theorem dX8_load_14 : decode cX8_load 14 = .ok (.putfield 39, 3) := by decide +kernel
theorem dX8_load_17 : decode cX8_load 17 = .ok (.aload_n 2, 1) := by decide +kernel
theorem dX8_load_18 : decode cX8_load 18 = .ok (.aload_n 0, 1) := by decide +kernel
theorem dX8_load_19 : decode cX8_load 19 = .ok (.getfield 15, 3) := by decide +kernel
theorem dX8_load_22 : decode cX8_load 22 = .ok (.iload_n 1, 1) := by decide +kernel
theorem dX8_load_23 : decode cX8_load 23 = .ok (.laload, 1) := by decide +kernel
theorem dX8_load_24 : decode cX8_load 24 = .ok (.putfield 43, 3) := by decide +kernel
theorem dX8_load_27 : decode cX8_load 27 = .ok (.aload_n 2, 1) := by decide +kernel
theorem dX8_load_28 : decode cX8_load 28 = .ok (.aload_n 0, 1) := by decide +kernel
theorem dX8_load_29 : decode cX8_load 29 = .ok (.getfield 18, 3) := by decide +kernel
theorem dX8_load_32 : decode cX8_load 32 = .ok (.iload_n 1, 1) := by decide +kernel
theorem dX8_load_33 : decode cX8_load 33 = .ok (.laload, 1) := by decide +kernel
theorem dX8_load_34 : decode cX8_load 34 = .ok (.putfield 46, 3) := by decide +kernel
theorem dX8_load_37 : decode cX8_load 37 = .ok (.goto 7, 3) := by decide +kernel
theorem dX8_load_40 : decode cX8_load 40 = .ok (.aload_n 2, 1) := by decide +kernel
theorem dX8_load_41 : decode cX8_load 41 = .ok (.invokevirtual 53, 3) := by decide +kernel
theorem dX8_load_44 : decode cX8_load 44 = .ok (.return_, 1) := by decide +kernel
theorem dX8_copyFrom_0 : decode cX8_copyFrom 0 = .ok (.aload_n 1, 1) := by decide +kernel
theorem dX8_copyFrom_1 : decode cX8_copyFrom 1 = .ok (.getfield 9, 3) := by decide +kernel
theorem dX8_copyFrom_4 : decode cX8_copyFrom 4 = .ok (.iconst 0, 1) := by decide +kernel
theorem dX8_copyFrom_5 : decode cX8_copyFrom 5 = .ok (.aload_n 0, 1) := by decide +kernel
theorem dX8_copyFrom_6 : decode cX8_copyFrom 6 = .ok (.getfield 9, 3) := by decide +kernel
theorem dX8_copyFrom_9 : decode cX8_copyFrom 9 = .ok (.iconst 0, 1) := by decide +kernel
theorem dX8_copyFrom_10 : decode cX8_copyFrom 10 = .ok (.bipush 24, 2) := by decide +kernel
theorem dX8_copyFrom_12 : decode cX8_copyFrom 12 = .ok (.invokestatic 56, 3) := by decide +kernel
theorem dX8_copyFrom_15 : decode cX8_copyFrom 15 = .ok (.aload_n 1, 1) := by decide +kernel
theorem dX8_copyFrom_16 : decode cX8_copyFrom 16 = .ok (.getfield 15, 3) := by decide +kernel
theorem dX8_copyFrom_19 : decode cX8_copyFrom 19 = .ok (.iconst 0, 1) := by decide +kernel
theorem dX8_copyFrom_20 : decode cX8_copyFrom 20 = .ok (.aload_n 0, 1) := by decide +kernel
theorem dX8_copyFrom_21 : decode cX8_copyFrom 21 = .ok (.getfield 15, 3) := by decide +kernel
theorem dX8_copyFrom_24 : decode cX8_copyFrom 24 = .ok (.iconst 0, 1) := by decide +kernel
theorem dX8_copyFrom_25 : decode cX8_copyFrom 25 = .ok (.bipush 24, 2) := by decide +kernel
theorem dX8_copyFrom_27 : decode cX8_copyFrom 27 = .ok (.invokestatic 56, 3) := by decide +kernel
theorem dX8_copyFrom_30 : decode cX8_copyFrom 30 = .ok (.aload_n 1, 1) := by decide +kernel
theorem dX8_copyFrom_31 : decode cX8_copyFrom 31 = .ok (.getfield 18, 3) := by decide +kernel
theorem dX8_copyFrom_34 : decode cX8_copyFrom 34 = .ok (.iconst 0, 1) := by decide +kernel
theorem dX8_copyFrom_35 : decode cX8_copyFrom 35 = .ok (.aload_n 0, 1) := by decide +kernel
theorem dX8_copyFrom_36 : decode cX8_copyFrom 36 = .ok (.getfield 18, 3) := by decide +kernel
theorem dX8_copyFrom_39 : decode cX8_copyFrom 39 = .ok (.iconst 0, 1) := by decide +kernel
theorem dX8_copyFrom_40 : decode cX8_copyFrom 40 = .ok (.bipush 24, 2) := by decide +kernel
theorem dX8_copyFrom_42 : decode cX8_copyFrom 42 = .ok (.invokestatic 56, 3) := by decide +kernel
theorem dX8_copyFrom_45 : decode cX8_copyFrom 45 = .ok (.aload_n 0, 1) := by decide +kernel
theorem dX8_copyFrom_46 : decode cX8_copyFrom 46 = .ok (.aload_n 1, 1) := by decide +kernel
theorem dX8_copyFrom_47 : decode cX8_copyFrom 47 = .ok (.getfield 21, 3) := by decide +kernel
theorem dX8_copyFrom_50 : decode cX8_copyFrom 50 = .ok (.aload_n 1, 1) := by decide +kernel
theorem dX8_copyFrom_51 : decode cX8_copyFrom 51 = .ok (.getfield 25, 3) := by decide +kernel
theorem dX8_copyFrom_54 : decode cX8_copyFrom 54 = .ok (.aload_n 1, 1) := by decide +kernel
theorem dX8_copyFrom_55 : decode cX8_copyFrom 55 = .ok (.getfield 28, 3) := by decide +kernel
theorem dX8_copyFrom_58 : decode cX8_copyFrom 58 = .ok (.aload_n 1, 1) := by decide +kernel
theorem dX8_copyFrom_59 : decode cX8_copyFrom 59 = .ok (.getfield 62, 3) := by decide +kernel
theorem dX8_copyFrom_62 : decode cX8_copyFrom 62 = .ok (.invokevirtual 65, 3) := by decide +kernel
theorem dX8_copyFrom_65 : decode cX8_copyFrom 65 = .ok (.return_, 1) := by decide +kernel
theorem dX8_setRecord_0 : decode cX8_setRecord 0 = .ok (.aload_n 0, 1) := by decide +kernel
theorem dX8_setRecord_1 : decode cX8_setRecord 1 = .ok (.iload_n 1, 1) := by decide +kernel
theorem dX8_setRecord_2 : decode cX8_setRecord 2 = .ok (.putfield 21, 3) := by decide +kernel
theorem dX8_setRecord_5 : decode cX8_setRecord 5 = .ok (.aload_n 0, 1) := by decide +kernel
theorem dX8_setRecord_6 : decode cX8_setRecord 6 = .ok (.iload_n 2, 1) := by decide +kernel
theorem dX8_setRecord_7 : decode cX8_setRecord 7 = .ok (.putfield 25, 3) := by decide +kernel
theorem dX8_setRecord_10 : decode cX8_setRecord 10 = .ok (.aload_n 0, 1) := by decide +kernel
theorem dX8_setRecord_11 : decode cX8_setRecord 11 = .ok (.iload_n 3, 1) := by decide +kernel
theorem dX8_setRecord_12 : decode cX8_setRecord 12 = .ok (.putfield 28, 3) := by decide +kernel
theorem dX8_setRecord_15 : decode cX8_setRecord 15 = .ok (.aload_n 0, 1) := by decide +kernel
theorem dX8_setRecord_16 : decode cX8_setRecord 16 = .ok (.lload 4, 2) := by decide +kernel
theorem dX8_setRecord_18 : decode cX8_setRecord 18 = .ok (.putfield 62, 3) := by decide +kernel
theorem dX8_setRecord_21 : decode cX8_setRecord 21 = .ok (.return_, 1) := by decide +kernel
theorem dX8_dropRecord_0 : decode cX8_dropRecord 0 = .ok (.aload_n 0, 1) := by decide +kernel
theorem dX8_dropRecord_1 : decode cX8_dropRecord 1 = .ok (.iconst 0, 1) := by decide +kernel
theorem dX8_dropRecord_2 : decode cX8_dropRecord 2 = .ok (.iconst (-1), 1) := by decide +kernel
theorem dX8_dropRecord_3 : decode cX8_dropRecord 3 = .ok (.iconst (-1), 1) := by decide +kernel
theorem dX8_dropRecord_4 : decode cX8_dropRecord 4 = .ok (.lconst 0, 1) := by decide +kernel
theorem dX8_dropRecord_5 : decode cX8_dropRecord 5 = .ok (.invokevirtual 65, 3) := by decide +kernel
theorem dX8_dropRecord_8 : decode cX8_dropRecord 8 = .ok (.return_, 1) := by decide +kernel
theorem dX8_isSameRecord_0 : decode cX8_isSameRecord 0 = .ok (.aload_n 0, 1) := by decide +kernel
theorem dX8_isSameRecord_1 : decode cX8_isSameRecord 1 = .ok (.getfield 21, 3) := by decide +kernel
theorem dX8_isSameRecord_4 : decode cX8_isSameRecord 4 = .ok (.aload_n 1, 1) := by decide +kernel
theorem dX8_isSameRecord_5 : decode cX8_isSameRecord 5 = .ok (.getfield 21, 3) := by decide +kernel
theorem dX8_isSameRecord_8 : decode cX8_isSameRecord 8 = .ok (.if_icmp .ne 41, 3) := by decide +kernel
theorem dX8_isSameRecord_11 : decode cX8_isSameRecord 11 = .ok (.aload_n 0, 1) := by decide +kernel
theorem dX8_isSameRecord_12 : decode cX8_isSameRecord 12 = .ok (.getfield 25, 3) := by decide +kernel
theorem dX8_isSameRecord_15 : decode cX8_isSameRecord 15 = .ok (.aload_n 1, 1) := by decide +kernel
theorem dX8_isSameRecord_16 : decode cX8_isSameRecord 16 = .ok (.getfield 25, 3) := by decide +kernel
theorem dX8_isSameRecord_19 : decode cX8_isSameRecord 19 = .ok (.if_icmp .ne 30, 3) := by decide +kernel
theorem dX8_isSameRecord_22 : decode cX8_isSameRecord 22 = .ok (.aload_n 0, 1) := by decide +kernel
theorem dX8_isSameRecord_23 : decode cX8_isSameRecord 23 = .ok (.getfield 28, 3) := by decide +kernel
theorem dX8_isSameRecord_26 : decode cX8_isSameRecord 26 = .ok (.aload_n 1, 1) := by decide +kernel
theorem dX8_isSameRecord_27 : decode cX8_isSameRecord 27 = .ok (.getfield 28, 3) := by decide +kernel
theorem dX8_isSameRecord_30 : decode cX8_isSameRecord 30 = .ok (.if_icmp .ne 19, 3) := by decide +kernel
theorem dX8_isSameRecord_33 : decode cX8_isSameRecord 33 = .ok (.aload_n 0, 1) := by decide +kernel
theorem dX8_isSameRecord_34 : decode cX8_isSameRecord 34 = .ok (.getfield 62, 3) := by decide +kernel
theorem dX8_isSameRecord_37 : decode cX8_isSameRecord 37 = .ok (.aload_n 1, 1) := by decide +kernel
theorem dX8_isSameRecord_38 : decode cX8_isSameRecord 38 = .ok (.getfield 62, 3) := by decide +kernel
theorem dX8_isSameRecord_41 : decode cX8_isSameRecord 41 = .ok (.lcmp, 1) := by decide +kernel
theorem dX8_isSameRecord_42 : decode cX8_isSameRecord 42 = .ok (.ifCond .ne 7, 3) := by decide +kernel
theorem dX8_isSameRecord_45 : decode cX8_isSameRecord 45 = .ok (.iconst 1, 1) := by decide +kernel
theorem dX8_isSameRecord_46 : decode cX8_isSameRecord 46 = .ok (.goto 4, 3) := by decide +kernel
theorem dX8_isSameRecord_49 : decode cX8_isSameRecord 49 = .ok (.iconst 0, 1) := by decide +kernel
theorem dX8_isSameRecord_50 : decode cX8_isSameRecord 50 = .ok (.ireturn, 1) := by decide +kernel
theorem dX8_isSameSpan_0 : decode cX8_isSameSpan 0 = .ok (.aload_n 0, 1) := by decide +kernel
theorem dX8_isSameSpan_1 : decode cX8_isSameSpan 1 = .ok (.getfield 9, 3) := by decide +kernel
theorem dX8_isSameSpan_4 : decode cX8_isSameSpan 4 = .ok (.iload_n 2, 1) := by decide +kernel
theorem dX8_isSameSpan_5 : decode cX8_isSameSpan 5 = .ok (.laload, 1) := by decide +kernel
theorem dX8_isSameSpan_6 : decode cX8_isSameSpan 6 = .ok (.aload_n 1, 1) := by decide +kernel
theorem dX8_isSameSpan_7 : decode cX8_isSameSpan 7 = .ok (.getfield 9, 3) := by decide +kernel
theorem dX8_isSameSpan_10 : decode cX8_isSameSpan 10 = .ok (.iload_n 2, 1) := by decide +kernel
theorem dX8_isSameSpan_11 : decode cX8_isSameSpan 11 = .ok (.laload, 1) := by decide +kernel
theorem dX8_isSameSpan_12 : decode cX8_isSameSpan 12 = .ok (.lcmp, 1) := by decide +kernel
theorem dX8_isSameSpan_13 : decode cX8_isSameSpan 13 = .ok (.ifCond .ne 39, 3) := by decide +kernel
theorem dX8_isSameSpan_16 : decode cX8_isSameSpan 16 = .ok (.aload_n 0, 1) := by decide +kernel
theorem dX8_isSameSpan_17 : decode cX8_isSameSpan 17 = .ok (.getfield 15, 3) := by decide +kernel
theorem dX8_isSameSpan_20 : decode cX8_isSameSpan 20 = .ok (.iload_n 2, 1) := by decide +kernel
theorem dX8_isSameSpan_21 : decode cX8_isSameSpan 21 = .ok (.laload, 1) := by decide +kernel
theorem dX8_isSameSpan_22 : decode cX8_isSameSpan 22 = .ok (.aload_n 1, 1) := by decide +kernel
theorem dX8_isSameSpan_23 : decode cX8_isSameSpan 23 = .ok (.getfield 15, 3) := by decide +kernel
theorem dX8_isSameSpan_26 : decode cX8_isSameSpan 26 = .ok (.iload_n 2, 1) := by decide +kernel
theorem dX8_isSameSpan_27 : decode cX8_isSameSpan 27 = .ok (.laload, 1) := by decide +kernel
theorem dX8_isSameSpan_28 : decode cX8_isSameSpan 28 = .ok (.lcmp, 1) := by decide +kernel
theorem dX8_isSameSpan_29 : decode cX8_isSameSpan 29 = .ok (.ifCond .ne 23, 3) := by decide +kernel
theorem dX8_isSameSpan_32 : decode cX8_isSameSpan 32 = .ok (.aload_n 0, 1) := by decide +kernel
theorem dX8_isSameSpan_33 : decode cX8_isSameSpan 33 = .ok (.getfield 18, 3) := by decide +kernel
theorem dX8_isSameSpan_36 : decode cX8_isSameSpan 36 = .ok (.iload_n 2, 1) := by decide +kernel
theorem dX8_isSameSpan_37 : decode cX8_isSameSpan 37 = .ok (.laload, 1) := by decide +kernel
theorem dX8_isSameSpan_38 : decode cX8_isSameSpan 38 = .ok (.aload_n 1, 1) := by decide +kernel
theorem dX8_isSameSpan_39 : decode cX8_isSameSpan 39 = .ok (.getfield 18, 3) := by decide +kernel
theorem dX8_isSameSpan_42 : decode cX8_isSameSpan 42 = .ok (.iload_n 2, 1) := by decide +kernel
theorem dX8_isSameSpan_43 : decode cX8_isSameSpan 43 = .ok (.laload, 1) := by decide +kernel
theorem dX8_isSameSpan_44 : decode cX8_isSameSpan 44 = .ok (.lcmp, 1) := by decide +kernel
theorem dX8_isSameSpan_45 : decode cX8_isSameSpan 45 = .ok (.ifCond .ne 7, 3) := by decide +kernel
theorem dX8_isSameSpan_48 : decode cX8_isSameSpan 48 = .ok (.iconst 1, 1) := by decide +kernel
theorem dX8_isSameSpan_49 : decode cX8_isSameSpan 49 = .ok (.goto 4, 3) := by decide +kernel
theorem dX8_isSameSpan_52 : decode cX8_isSameSpan 52 = .ok (.iconst 0, 1) := by decide +kernel
theorem dX8_isSameSpan_53 : decode cX8_isSameSpan 53 = .ok (.ireturn, 1) := by decide +kernel
theorem dX9_init_0 : decode cX9_init 0 = .ok (.aload_n 0, 1) := by decide +kernel
theorem dX9_init_1 : decode cX9_init 1 = .ok (.invokespecial 1, 3) := by decide +kernel
theorem dX9_init_4 : decode cX9_init 4 = .ok (.aload_n 0, 1) := by decide +kernel
theorem dX9_init_5 : decode cX9_init 5 = .ok (.new 7, 3) := by decide +kernel
theorem dX9_init_8 : decode cX9_init 8 = .ok (.dup, 1) := by decide +kernel
theorem dX9_init_9 : decode cX9_init 9 = .ok (.invokespecial 9, 3) := by decide +kernel
theorem dX9_init_12 : decode cX9_init 12 = .ok (.putfield 10, 3) := by decide +kernel
theorem dX9_init_15 : decode cX9_init 15 = .ok (.aload_n 0, 1) := by decide +kernel
theorem dX9_init_16 : decode cX9_init 16 = .ok (.new 16, 3) := by decide +kernel
theorem dX9_init_19 : decode cX9_init 19 = .ok (.dup, 1) := by decide +kernel
theorem dX9_init_20 : decode cX9_init 20 = .ok (.aload_n 0, 1) := by decide +kernel
theorem dX9_init_21 : decode cX9_init 21 = .ok (.getfield 10, 3) := by decide +kernel
theorem dX9_init_24 : decode cX9_init 24 = .ok (.invokespecial 18, 3) := by decide +kernel
theorem dX9_init_27 : decode cX9_init 27 = .ok (.putfield 21, 3) := by decide +kernel
theorem dX9_init_30 : decode cX9_init 30 = .ok (.aload_n 0, 1) := by decide +kernel
theorem dX9_init_31 : decode cX9_init 31 = .ok (.new 25, 3) := by decide +kernel
theorem dX9_init_34 : decode cX9_init 34 = .ok (.dup, 1) := by decide +kernel
theorem dX9_init_35 : decode cX9_init 35 = .ok (.invokespecial 27, 3) := by decide +kernel
theorem dX9_init_38 : decode cX9_init 38 = .ok (.putfield 28, 3) := by decide +kernel
theorem dX9_init_41 : decode cX9_init 41 = .ok (.aload_n 0, 1) := by decide +kernel
theorem dX9_init_42 : decode cX9_init 42 = .ok (.new 32, 3) := by decide +kernel
theorem dX9_init_45 : decode cX9_init 45 = .ok (.dup, 1) := by decide +kernel
theorem dX9_init_46 : decode cX9_init 46 = .ok (.aload_n 0, 1) := by decide +kernel
theorem dX9_init_47 : decode cX9_init 47 = .ok (.getfield 10, 3) := by decide +kernel
theorem dX9_init_50 : decode cX9_init 50 = .ok (.aload_n 0, 1) := by decide +kernel
theorem dX9_init_51 : decode cX9_init 51 = .ok (.getfield 21, 3) := by decide +kernel
theorem dX9_init_54 : decode cX9_init 54 = .ok (.invokespecial 34, 3) := by decide +kernel
theorem dX9_init_57 : decode cX9_init 57 = .ok (.putfield 37, 3) := by decide +kernel
theorem dX9_init_60 : decode cX9_init 60 = .ok (.aload_n 0, 1) := by decide +kernel
theorem dX9_init_61 : decode cX9_init 61 = .ok (.new 41, 3) := by decide +kernel
theorem dX9_init_64 : decode cX9_init 64 = .ok (.dup, 1) := by decide +kernel
theorem dX9_init_65 : decode cX9_init 65 = .ok (.aload_n 0, 1) := by decide +kernel
theorem dX9_init_66 : decode cX9_init 66 = .ok (.getfield 10, 3) := by decide +kernel
theorem dX9_init_69 : decode cX9_init 69 = .ok (.aload_n 0, 1) := by decide +kernel
theorem dX9_init_70 : decode cX9_init 70 = .ok (.getfield 21, 3) := by decide +kernel
theorem dX9_init_73 : decode cX9_init 73 = .ok (.invokespecial 43, 3) := by decide +kernel
theorem dX9_init_76 : decode cX9_init 76 = .ok (.putfield 44, 3) := by decide +kernel
theorem dX9_init_79 : decode cX9_init 79 = .ok (.return_, 1) := by decide +kernel
theorem dX9_feed_0 : decode cX9_feed 0 = .ok (.iload_n 1, 1) := by decide +kernel
theorem dX9_feed_1 : decode cX9_feed 1 = .ok (.ifCond .lt 9, 3) := by decide +kernel
theorem dX9_feed_4 : decode cX9_feed 4 = .ok (.iload_n 1, 1) := by decide +kernel
theorem dX9_feed_5 : decode cX9_feed 5 = .ok (.bipush 16, 2) := by decide +kernel
theorem dX9_feed_7 : decode cX9_feed 7 = .ok (.if_icmp .le 13, 3) := by decide +kernel
theorem dX9_feed_10 : decode cX9_feed 10 = .ok (.new 48, 3) := by decide +kernel
theorem dX9_feed_13 : decode cX9_feed 13 = .ok (.dup, 1) := by decide +kernel
theorem dX9_feed_14 : decode cX9_feed 14 = .ok (.ldc 50, 2) := by decide +kernel
theorem dX9_feed_16 : decode cX9_feed 16 = .ok (.invokespecial 52, 3) := by decide +kernel
theorem dX9_feed_19 : decode cX9_feed 19 = .ok (.athrow, 1) := by decide +kernel
theorem dX9_feed_20 : decode cX9_feed 20 = .ok (.aload_n 0, 1) := by decide +kernel
theorem dX9_feed_21 : decode cX9_feed 21 = .ok (.getfield 10, 3) := by decide +kernel
theorem dX9_feed_24 : decode cX9_feed 24 = .ok (.getfield 55, 3) := by decide +kernel
theorem dX9_feed_27 : decode cX9_feed 27 = .ok (.iload_n 1, 1) := by decide +kernel
theorem dX9_feed_28 : decode cX9_feed 28 = .ok (.iadd, 1) := by decide +kernel
theorem dX9_feed_29 : decode cX9_feed 29 = .ok (.sipush 200, 3) := by decide +kernel
theorem dX9_feed_32 : decode cX9_feed 32 = .ok (.if_icmp .le 13, 3) := by decide +kernel
theorem dX9_feed_35 : decode cX9_feed 35 = .ok (.new 59, 3) := by decide +kernel
theorem dX9_feed_38 : decode cX9_feed 38 = .ok (.dup, 1) := by decide +kernel
theorem dX9_feed_39 : decode cX9_feed 39 = .ok (.ldc 61, 2) := by decide +kernel
theorem dX9_feed_41 : decode cX9_feed 41 = .ok (.invokespecial 63, 3) := by decide +kernel
theorem dX9_feed_44 : decode cX9_feed 44 = .ok (.athrow, 1) := by decide +kernel
theorem dX9_feed_45 : decode cX9_feed 45 = .ok (.aload_n 0, 1) := by decide +kernel
theorem dX9_feed_46 : decode cX9_feed 46 = .ok (.getfield 10, 3) := by decide +kernel
theorem dX9_feed_49 : decode cX9_feed 49 = .ok (.iload_n 1, 1) := by decide +kernel
theorem dX9_feed_50 : decode cX9_feed 50 = .ok (.iconst 4, 1) := by decide +kernel
theorem dX9_feed_51 : decode cX9_feed 51 = .ok (.invokestatic 64, 3) := by decide +kernel
theorem dX9_feed_54 : decode cX9_feed 54 = .ok (.iload_n 2, 1) := by decide +kernel
theorem dX9_feed_55 : decode cX9_feed 55 = .ok (.invokevirtual 70, 3) := by decide +kernel
theorem dX9_feed_58 : decode cX9_feed 58 = .ok (.aload_n 0, 1) := by decide +kernel
theorem dX9_feed_59 : decode cX9_feed 59 = .ok (.getfield 10, 3) := by decide +kernel
theorem dX9_feed_62 : decode cX9_feed 62 = .ok (.iload_n 1, 1) := by decide +kernel
theorem dX9_feed_63 : decode cX9_feed 63 = .ok (.iconst 4, 1) := by decide +kernel
theorem dX9_feed_64 : decode cX9_feed 64 = .ok (.isub, 1) := by decide +kernel
theorem dX9_feed_65 : decode cX9_feed 65 = .ok (.iconst 4, 1) := by decide +kernel
theorem dX9_feed_66 : decode cX9_feed 66 = .ok (.invokestatic 64, 3) := by decide +kernel
theorem dX9_feed_69 : decode cX9_feed 69 = .ok (.iload_n 3, 1) := by decide +kernel
theorem dX9_feed_70 : decode cX9_feed 70 = .ok (.invokevirtual 70, 3) := by decide +kernel
theorem dX9_feed_73 : decode cX9_feed 73 = .ok (.aload_n 0, 1) := by decide +kernel
theorem dX9_feed_74 : decode cX9_feed 74 = .ok (.getfield 10, 3) := by decide +kernel
theorem dX9_feed_77 : decode cX9_feed 77 = .ok (.iload_n 1, 1) := by decide +kernel
theorem dX9_feed_78 : decode cX9_feed 78 = .ok (.bipush 8, 2) := by decide +kernel
theorem dX9_feed_80 : decode cX9_feed 80 = .ok (.isub, 1) := by decide +kernel
theorem dX9_feed_81 : decode cX9_feed 81 = .ok (.iconst 4, 1) := by decide +kernel
theorem dX9_feed_82 : decode cX9_feed 82 = .ok (.invokestatic 64, 3) := by decide +kernel
theorem dX9_feed_85 : decode cX9_feed 85 = .ok (.iload 4, 2) := by decide +kernel
theorem dX9_feed_87 : decode cX9_feed 87 = .ok (.invokevirtual 70, 3) := by decide +kernel
theorem dX9_feed_90 : decode cX9_feed 90 = .ok (.aload_n 0, 1) := by decide +kernel
theorem dX9_feed_91 : decode cX9_feed 91 = .ok (.getfield 10, 3) := by decide +kernel
theorem dX9_feed_94 : decode cX9_feed 94 = .ok (.iload_n 1, 1) := by decide +kernel
theorem dX9_feed_95 : decode cX9_feed 95 = .ok (.bipush 12, 2) := by decide +kernel
theorem dX9_feed_97 : decode cX9_feed 97 = .ok (.isub, 1) := by decide +kernel
theorem dX9_feed_98 : decode cX9_feed 98 = .ok (.iconst 4, 1) := by decide +kernel
theorem dX9_feed_99 : decode cX9_feed 99 = .ok (.invokestatic 64, 3) := by decide +kernel
theorem dX9_feed_102 : decode cX9_feed 102 = .ok (.iload 5, 2) := by decide +kernel
theorem dX9_feed_104 : decode cX9_feed 104 = .ok (.invokevirtual 70, 3) := by decide +kernel
theorem dX9_feed_107 : decode cX9_feed 107 = .ok (.aload_n 0, 1) := by decide +kernel
theorem dX9_feed_108 : decode cX9_feed 108 = .ok (.invokevirtual 74, 3) := by decide +kernel
theorem dX9_feed_111 : decode cX9_feed 111 = .ok (.aload_n 0, 1) := by decide +kernel
theorem dX9_feed_112 : decode cX9_feed 112 = .ok (.getfield 10, 3) := by decide +kernel
theorem dX9_feed_115 : decode cX9_feed 115 = .ok (.getfield 55, 3) := by decide +kernel
theorem dX9_feed_118 : decode cX9_feed 118 = .ok (.ireturn, 1) := by decide +kernel
theorem dX9_erase_0 : decode cX9_erase 0 = .ok (.aload_n 0, 1) := by decide +kernel
theorem dX9_erase_1 : decode cX9_erase 1 = .ok (.getfield 10, 3) := by decide +kernel
theorem dX9_erase_4 : decode cX9_erase 4 = .ok (.getfield 55, 3) := by decide +kernel
theorem dX9_erase_7 : decode cX9_erase 7 = .ok (.istore_n 1, 1) := by decide +kernel
theorem dX9_erase_8 : decode cX9_erase 8 = .ok (.aload_n 0, 1) := by decide +kernel
theorem dX9_erase_9 : decode cX9_erase 9 = .ok (.getfield 10, 3) := by decide +kernel
theorem dX9_erase_12 : decode cX9_erase 12 = .ok (.iconst 0, 1) := by decide +kernel
theorem dX9_erase_13 : decode cX9_erase 13 = .ok (.putfield 55, 3) := by decide +kernel
theorem dX9_erase_16 : decode cX9_erase 16 = .ok (.aload_n 0, 1) := by decide +kernel
theorem dX9_erase_17 : decode cX9_erase 17 = .ok (.invokevirtual 74, 3) := by decide +kernel
theorem dX9_erase_20 : decode cX9_erase 20 = .ok (.iload_n 1, 1) := by decide +kernel
theorem dX9_erase_21 : decode cX9_erase 21 = .ok (.ireturn, 1) := by decide +kernel
theorem dX9_given_0 : decode cX9_given 0 = .ok (.iload_n 1, 1) := by decide +kernel
theorem dX9_given_1 : decode cX9_given 1 = .ok (.invokestatic 77, 3) := by decide +kernel
theorem dX9_given_4 : decode cX9_given 4 = .ok (.lload_n 2, 1) := by decide +kernel
theorem dX9_given_5 : decode cX9_given 5 = .ok (.lload 4, 2) := by decide +kernel
theorem dX9_given_7 : decode cX9_given 7 = .ok (.lload 6, 2) := by decide +kernel
theorem dX9_given_9 : decode cX9_given 9 = .ok (.invokestatic 81, 3) := by decide +kernel
theorem dX9_given_12 : decode cX9_given 12 = .ok (.ifCond .ne 13, 3) := by decide +kernel
theorem dX9_given_15 : decode cX9_given 15 = .ok (.new 48, 3) := by decide +kernel
theorem dX9_given_18 : decode cX9_given 18 = .ok (.dup, 1) := by decide +kernel
theorem dX9_given_19 : decode cX9_given 19 = .ok (.ldc 87, 2) := by decide +kernel
theorem dX9_given_21 : decode cX9_given 21 = .ok (.invokespecial 52, 3) := by decide +kernel
theorem dX9_given_24 : decode cX9_given 24 = .ok (.athrow, 1) := by decide +kernel
theorem dX9_given_25 : decode cX9_given 25 = .ok (.aload_n 0, 1) := by decide +kernel
theorem dX9_given_26 : decode cX9_given 26 = .ok (.getfield 28, 3) := by decide +kernel
theorem dX9_given_29 : decode cX9_given 29 = .ok (.iload_n 1, 1) := by decide +kernel
theorem dX9_given_30 : decode cX9_given 30 = .ok (.lload_n 2, 1) := by decide +kernel
theorem dX9_given_31 : decode cX9_given 31 = .ok (.lload 4, 2) := by decide +kernel
theorem dX9_given_33 : decode cX9_given 33 = .ok (.lload 6, 2) := by decide +kernel
theorem dX9_given_35 : decode cX9_given 35 = .ok (.invokevirtual 89, 3) := by decide +kernel
theorem dX9_given_38 : decode cX9_given 38 = .ok (.return_, 1) := by decide +kernel
theorem dX9_any_0 : decode cX9_any 0 = .ok (.iload_n 1, 1) := by decide +kernel
theorem dX9_any_1 : decode cX9_any 1 = .ok (.invokestatic 77, 3) := by decide +kernel
theorem dX9_any_4 : decode cX9_any 4 = .ok (.aload_n 0, 1) := by decide +kernel
theorem dX9_any_5 : decode cX9_any 5 = .ok (.getfield 28, 3) := by decide +kernel
theorem dX9_any_8 : decode cX9_any 8 = .ok (.iload_n 1, 1) := by decide +kernel
theorem dX9_any_9 : decode cX9_any 9 = .ok (.lconst 0, 1) := by decide +kernel
theorem dX9_any_10 : decode cX9_any 10 = .ok (.lconst 0, 1) := by decide +kernel
theorem dX9_any_11 : decode cX9_any 11 = .ok (.ldc2_w 93, 3) := by decide +kernel
theorem dX9_any_14 : decode cX9_any 14 = .ok (.invokevirtual 89, 3) := by decide +kernel
theorem dX9_any_17 : decode cX9_any 17 = .ok (.return_, 1) := by decide +kernel
theorem dX9_decode_0 : decode cX9_decode 0 = .ok (.aload_n 0, 1) := by decide +kernel
theorem dX9_decode_1 : decode cX9_decode 1 = .ok (.iload_n 1, 1) := by decide +kernel
theorem dX9_decode_2 : decode cX9_decode 2 = .ok (.invokevirtual 95, 3) := by decide +kernel
theorem dX9_decode_5 : decode cX9_decode 5 = .ok (.iload_n 2, 1) := by decide +kernel
theorem dX9_decode_6 : decode cX9_decode 6 = .ok (.ifCond .lt 8, 3) := by decide +kernel
theorem dX9_decode_9 : decode cX9_decode 9 = .ok (.iload_n 2, 1) := by decide +kernel
theorem dX9_decode_10 : decode cX9_decode 10 = .ok (.iconst 5, 1) := by decide +kernel
theorem dX9_decode_11 : decode cX9_decode 11 = .ok (.if_icmp .le 13, 3) := by decide +kernel
theorem dX9_decode_14 : decode cX9_decode 14 = .ok (.new 48, 3) := by decide +kernel
theorem dX9_decode_17 : decode cX9_decode 17 = .ok (.dup, 1) := by decide +kernel
theorem dX9_decode_18 : decode cX9_decode 18 = .ok (.ldc 98, 2) := by decide +kernel
theorem dX9_decode_20 : decode cX9_decode 20 = .ok (.invokespecial 52, 3) := by decide +kernel
theorem dX9_decode_23 : decode cX9_decode 23 = .ok (.athrow, 1) := by decide +kernel
theorem dX9_decode_24 : decode cX9_decode 24 = .ok (.aload_n 0, 1) := by decide +kernel
theorem dX9_decode_25 : decode cX9_decode 25 = .ok (.getfield 21, 3) := by decide +kernel
theorem dX9_decode_28 : decode cX9_decode 28 = .ok (.iload_n 1, 1) := by decide +kernel
theorem dX9_decode_29 : decode cX9_decode 29 = .ok (.invokevirtual 100, 3) := by decide +kernel
theorem dX9_decode_32 : decode cX9_decode 32 = .ok (.aload_n 0, 1) := by decide +kernel
theorem dX9_decode_33 : decode cX9_decode 33 = .ok (.getfield 21, 3) := by decide +kernel
theorem dX9_decode_36 : decode cX9_decode 36 = .ok (.iload_n 2, 1) := by decide +kernel
theorem dX9_decode_37 : decode cX9_decode 37 = .ok (.invokevirtual 103, 3) := by decide +kernel
theorem dX9_decode_40 : decode cX9_decode 40 = .ok (.ireturn, 1) := by decide +kernel
theorem dX9_constant_0 : decode cX9_constant 0 = .ok (.aload_n 0, 1) := by decide +kernel
theorem dX9_constant_1 : decode cX9_constant 1 = .ok (.iload_n 1, 1) := by decide +kernel
theorem dX9_constant_2 : decode cX9_constant 2 = .ok (.invokevirtual 95, 3) := by decide +kernel
theorem dX9_constant_5 : decode cX9_constant 5 = .ok (.aload_n 0, 1) := by decide +kernel
theorem dX9_constant_6 : decode cX9_constant 6 = .ok (.getfield 21, 3) := by decide +kernel
theorem dX9_constant_9 : decode cX9_constant 9 = .ok (.iload_n 1, 1) := by decide +kernel
theorem dX9_constant_10 : decode cX9_constant 10 = .ok (.invokevirtual 100, 3) := by decide +kernel
theorem dX9_constant_13 : decode cX9_constant 13 = .ok (.aload_n 0, 1) := by decide +kernel
theorem dX9_constant_14 : decode cX9_constant 14 = .ok (.getfield 21, 3) := by decide +kernel
theorem dX9_constant_17 : decode cX9_constant 17 = .ok (.getfield 107, 3) := by decide +kernel
theorem dX9_constant_20 : decode cX9_constant 20 = .ok (.lreturn, 1) := by decide +kernel
theorem dX9_look_0 : decode cX9_look 0 = .ok (.aload_n 0, 1) := by decide +kernel
theorem dX9_look_1 : decode cX9_look 1 = .ok (.getfield 37, 3) := by decide +kernel
theorem dX9_look_4 : decode cX9_look 4 = .ok (.aload_n 0, 1) := by decide +kernel
theorem dX9_look_5 : decode cX9_look 5 = .ok (.getfield 28, 3) := by decide +kernel
theorem dX9_look_8 : decode cX9_look 8 = .ok (.invokevirtual 111, 3) := by decide +kernel
theorem dX9_look_11 : decode cX9_look 11 = .ok (.ireturn, 1) := by decide +kernel
theorem dX9_reached_0 : decode cX9_reached 0 = .ok (.aload_n 0, 1) := by decide +kernel
theorem dX9_reached_1 : decode cX9_reached 1 = .ok (.getfield 37, 3) := by decide +kernel
theorem dX9_reached_4 : decode cX9_reached 4 = .ok (.iload_n 1, 1) := by decide +kernel
theorem dX9_reached_5 : decode cX9_reached 5 = .ok (.invokevirtual 115, 3) := by decide +kernel
theorem dX9_reached_8 : decode cX9_reached 8 = .ok (.ireturn, 1) := by decide +kernel
theorem dX9_set_0 : decode cX9_set 0 = .ok (.iload_n 2, 1) := by decide +kernel
theorem dX9_set_1 : decode cX9_set 1 = .ok (.invokestatic 77, 3) := by decide +kernel
theorem dX9_set_4 : decode cX9_set 4 = .ok (.iload_n 3, 1) := by decide +kernel
theorem dX9_set_5 : decode cX9_set 5 = .ok (.ifCond .lt 8, 3) := by decide +kernel
theorem dX9_set_8 : decode cX9_set 8 = .ok (.iload_n 3, 1) := by decide +kernel
theorem dX9_set_9 : decode cX9_set 9 = .ok (.iconst 2, 1) := by decide +kernel
theorem dX9_set_10 : decode cX9_set 10 = .ok (.if_icmp .le 13, 3) := by decide +kernel
theorem dX9_set_13 : decode cX9_set 13 = .ok (.new 48, 3) := by decide +kernel
theorem dX9_set_16 : decode cX9_set 16 = .ok (.dup, 1) := by decide +kernel
theorem dX9_set_17 : decode cX9_set 17 = .ok (.ldc 118, 2) := by decide +kernel
theorem dX9_set_19 : decode cX9_set 19 = .ok (.invokespecial 52, 3) := by decide +kernel
theorem dX9_set_22 : decode cX9_set 22 = .ok (.athrow, 1) := by decide +kernel
theorem dX9_set_23 : decode cX9_set 23 = .ok (.aload_n 0, 1) := by decide +kernel
theorem dX9_set_24 : decode cX9_set 24 = .ok (.getfield 37, 3) := by decide +kernel
theorem dX9_set_27 : decode cX9_set 27 = .ok (.iload_n 1, 1) := by decide +kernel
theorem dX9_set_28 : decode cX9_set 28 = .ok (.invokevirtual 115, 3) := by decide +kernel
theorem dX9_set_31 : decode cX9_set 31 = .ok (.ifCond .ne 13, 3) := by decide +kernel
theorem dX9_set_34 : decode cX9_set 34 = .ok (.new 59, 3) := by decide +kernel
theorem dX9_set_37 : decode cX9_set 37 = .ok (.dup, 1) := by decide +kernel
theorem dX9_set_38 : decode cX9_set 38 = .ok (.ldc 120, 2) := by decide +kernel
theorem dX9_set_40 : decode cX9_set 40 = .ok (.invokespecial 63, 3) := by decide +kernel
theorem dX9_set_43 : decode cX9_set 43 = .ok (.athrow, 1) := by decide +kernel
theorem dX9_set_44 : decode cX9_set 44 = .ok (.aload_n 0, 1) := by decide +kernel
theorem dX9_set_45 : decode cX9_set 45 = .ok (.getfield 37, 3) := by decide +kernel
theorem dX9_set_48 : decode cX9_set 48 = .ok (.iload_n 1, 1) := by decide +kernel
theorem dX9_set_49 : decode cX9_set 49 = .ok (.iload_n 2, 1) := by decide +kernel
theorem dX9_set_50 : decode cX9_set 50 = .ok (.invokevirtual 122, 3) := by decide +kernel
theorem dX9_set_53 : decode cX9_set 53 = .ok (.astore 4, 2) := by decide +kernel
theorem dX9_set_55 : decode cX9_set 55 = .ok (.iload_n 3, 1) := by decide +kernel
theorem dX9_set_56 : decode cX9_set 56 = .ok (.ifCond .ne 11, 3) := by decide +kernel
theorem dX9_set_59 : decode cX9_set 59 = .ok (.aload 4, 2) := by decide +kernel
theorem dX9_set_61 : decode cX9_set 61 = .ok (.getfield 126, 3) := by decide +kernel
theorem dX9_set_64 : decode cX9_set 64 = .ok (.goto 21, 3) := by decide +kernel
theorem dX9_set_67 : decode cX9_set 67 = .ok (.iload_n 3, 1) := by decide +kernel
theorem dX9_set_68 : decode cX9_set 68 = .ok (.iconst 1, 1) := by decide +kernel
theorem dX9_set_69 : decode cX9_set 69 = .ok (.if_icmp .ne 11, 3) := by decide +kernel
theorem dX9_set_72 : decode cX9_set 72 = .ok (.aload 4, 2) := by decide +kernel
theorem dX9_set_74 : decode cX9_set 74 = .ok (.getfield 129, 3) := by decide +kernel
theorem dX9_set_77 : decode cX9_set 77 = .ok (.goto 8, 3) := by decide +kernel
theorem dX9_set_80 : decode cX9_set 80 = .ok (.aload 4, 2) := by decide +kernel
theorem dX9_set_82 : decode cX9_set 82 = .ok (.getfield 132, 3) := by decide +kernel
theorem dX9_set_85 : decode cX9_set 85 = .ok (.lreturn, 1) := by decide +kernel
theorem dX9_has_0 : decode cX9_has 0 = .ok (.iload_n 2, 1) := by decide +kernel
theorem dX9_has_1 : decode cX9_has 1 = .ok (.invokestatic 77, 3) := by decide +kernel
theorem dX9_has_4 : decode cX9_has 4 = .ok (.aload_n 0, 1) := by decide +kernel
theorem dX9_has_5 : decode cX9_has 5 = .ok (.getfield 37, 3) := by decide +kernel
theorem dX9_has_8 : decode cX9_has 8 = .ok (.iload_n 1, 1) := by decide +kernel
theorem dX9_has_9 : decode cX9_has 9 = .ok (.invokevirtual 115, 3) := by decide +kernel
theorem dX9_has_12 : decode cX9_has 12 = .ok (.ifCond .eq 23, 3) := by decide +kernel
theorem dX9_has_15 : decode cX9_has 15 = .ok (.aload_n 0, 1) := by decide +kernel
theorem dX9_has_16 : decode cX9_has 16 = .ok (.getfield 37, 3) := by decide +kernel
theorem dX9_has_19 : decode cX9_has 19 = .ok (.iload_n 1, 1) := by decide +kernel
theorem dX9_has_20 : decode cX9_has 20 = .ok (.iload_n 2, 1) := by decide +kernel
theorem dX9_has_21 : decode cX9_has 21 = .ok (.invokevirtual 122, 3) := by decide +kernel
theorem dX9_has_24 : decode cX9_has 24 = .ok (.lload_n 3, 1) := by decide +kernel
theorem dX9_has_25 : decode cX9_has 25 = .ok (.invokevirtual 135, 3) := by decide +kernel
theorem dX9_has_28 : decode cX9_has 28 = .ok (.ifCond .eq 7, 3) := by decide +kernel
theorem dX9_has_31 : decode cX9_has 31 = .ok (.iconst 1, 1) := by decide +kernel
theorem dX9_has_32 : decode cX9_has 32 = .ok (.goto 4, 3) := by decide +kernel
theorem dX9_has_35 : decode cX9_has 35 = .ok (.iconst 0, 1) := by decide +kernel
theorem dX9_has_36 : decode cX9_has 36 = .ok (.ireturn, 1) := by decide +kernel
theorem dX9_start_0 : decode cX9_start 0 = .ok (.aload_n 0, 1) := by decide +kernel
theorem dX9_start_1 : decode cX9_start 1 = .ok (.getfield 44, 3) := by decide +kernel
theorem dX9_start_4 : decode cX9_start 4 = .ok (.invokevirtual 139, 3) := by decide +kernel
theorem dX9_start_7 : decode cX9_start 7 = .ok (.return_, 1) := by decide +kernel
theorem dX9_put_0 : decode cX9_put 0 = .ok (.iload_n 1, 1) := by decide +kernel
theorem dX9_put_1 : decode cX9_put 1 = .ok (.invokestatic 77, 3) := by decide +kernel
theorem dX9_put_4 : decode cX9_put 4 = .ok (.aload_n 0, 1) := by decide +kernel
theorem dX9_put_5 : decode cX9_put 5 = .ok (.getfield 44, 3) := by decide +kernel
theorem dX9_put_8 : decode cX9_put 8 = .ok (.iload_n 1, 1) := by decide +kernel
theorem dX9_put_9 : decode cX9_put 9 = .ok (.lload_n 2, 1) := by decide +kernel
theorem dX9_put_10 : decode cX9_put 10 = .ok (.invokevirtual 142, 3) := by decide +kernel
theorem dX9_put_13 : decode cX9_put 13 = .ok (.return_, 1) := by decide +kernel
theorem dX9_go_0 : decode cX9_go 0 = .ok (.iload_n 1, 1) := by decide +kernel
theorem dX9_go_1 : decode cX9_go 1 = .ok (.iconst 1, 1) := by decide +kernel
theorem dX9_go_2 : decode cX9_go 2 = .ok (.if_icmp .lt 10, 3) := by decide +kernel
theorem dX9_go_5 : decode cX9_go 5 = .ok (.iload_n 1, 1) := by decide +kernel
theorem dX9_go_6 : decode cX9_go 6 = .ok (.sipush 1000, 3) := by decide +kernel
theorem dX9_go_9 : decode cX9_go 9 = .ok (.if_icmp .le 13, 3) := by decide +kernel
theorem dX9_go_12 : decode cX9_go 12 = .ok (.new 48, 3) := by decide +kernel
theorem dX9_go_15 : decode cX9_go 15 = .ok (.dup, 1) := by decide +kernel
theorem dX9_go_16 : decode cX9_go 16 = .ok (.ldc 146, 2) := by decide +kernel
theorem dX9_go_18 : decode cX9_go 18 = .ok (.invokespecial 52, 3) := by decide +kernel
theorem dX9_go_21 : decode cX9_go 21 = .ok (.athrow, 1) := by decide +kernel
theorem dX9_go_22 : decode cX9_go 22 = .ok (.aload_n 0, 1) := by decide +kernel
theorem dX9_go_23 : decode cX9_go 23 = .ok (.getfield 44, 3) := by decide +kernel
theorem dX9_go_26 : decode cX9_go 26 = .ok (.getfield 148, 3) := by decide +kernel
theorem dX9_go_29 : decode cX9_go 29 = .ok (.iconst (-1), 1) := by decide +kernel
theorem dX9_go_30 : decode cX9_go 30 = .ok (.if_icmp .ne 13, 3) := by decide +kernel
theorem dX9_go_33 : decode cX9_go 33 = .ok (.new 59, 3) := by decide +kernel
theorem dX9_go_36 : decode cX9_go 36 = .ok (.dup, 1) := by decide +kernel
theorem dX9_go_37 : decode cX9_go 37 = .ok (.ldc 151, 2) := by decide +kernel
theorem dX9_go_39 : decode cX9_go 39 = .ok (.invokespecial 63, 3) := by decide +kernel
theorem dX9_go_42 : decode cX9_go 42 = .ok (.athrow, 1) := by decide +kernel
theorem dX9_go_43 : decode cX9_go 43 = .ok (.iconst 0, 1) := by decide +kernel
theorem dX9_go_44 : decode cX9_go 44 = .ok (.istore_n 2, 1) := by decide +kernel
theorem dX9_go_45 : decode cX9_go 45 = .ok (.iconst 0, 1) := by decide +kernel
theorem dX9_go_46 : decode cX9_go 46 = .ok (.istore_n 3, 1) := by decide +kernel
theorem dX9_go_47 : decode cX9_go 47 = .ok (.iload_n 3, 1) := by decide +kernel
theorem dX9_go_48 : decode cX9_go 48 = .ok (.iload_n 1, 1) := by decide +kernel
theorem dX9_go_49 : decode cX9_go 49 = .ok (.if_icmp .ge 21, 3) := by decide +kernel
theorem dX9_go_52 : decode cX9_go 52 = .ok (.iload_n 2, 1) := by decide +kernel
theorem dX9_go_53 : decode cX9_go 53 = .ok (.ifCond .ne 17, 3) := by decide +kernel
theorem dX9_go_56 : decode cX9_go 56 = .ok (.aload_n 0, 1) := by decide +kernel
theorem dX9_go_57 : decode cX9_go 57 = .ok (.getfield 44, 3) := by decide +kernel
theorem dX9_go_60 : decode cX9_go 60 = .ok (.invokevirtual 153, 3) := by decide +kernel
theorem dX9_go_63 : decode cX9_go 63 = .ok (.istore_n 2, 1) := by decide +kernel
theorem dX9_go_64 : decode cX9_go 64 = .ok (.iinc 3 1, 3) := by decide +kernel
theorem dX9_go_67 : decode cX9_go 67 = .ok (.goto (-20), 3) := by decide +kernel
theorem dX9_go_70 : decode cX9_go 70 = .ok (.iload_n 2, 1) := by decide +kernel
theorem dX9_go_71 : decode cX9_go 71 = .ok (.ireturn, 1) := by decide +kernel
theorem dX9_at_0 : decode cX9_at 0 = .ok (.aload_n 0, 1) := by decide +kernel
theorem dX9_at_1 : decode cX9_at 1 = .ok (.getfield 44, 3) := by decide +kernel
theorem dX9_at_4 : decode cX9_at 4 = .ok (.getfield 148, 3) := by decide +kernel
theorem dX9_at_7 : decode cX9_at 7 = .ok (.ireturn, 1) := by decide +kernel
theorem dX9_value_0 : decode cX9_value 0 = .ok (.iload_n 1, 1) := by decide +kernel
theorem dX9_value_1 : decode cX9_value 1 = .ok (.invokestatic 77, 3) := by decide +kernel
theorem dX9_value_4 : decode cX9_value 4 = .ok (.aload_n 0, 1) := by decide +kernel
theorem dX9_value_5 : decode cX9_value 5 = .ok (.getfield 44, 3) := by decide +kernel
theorem dX9_value_8 : decode cX9_value 8 = .ok (.getfield 148, 3) := by decide +kernel
theorem dX9_value_11 : decode cX9_value 11 = .ok (.iconst (-1), 1) := by decide +kernel
theorem dX9_value_12 : decode cX9_value 12 = .ok (.if_icmp .ne 7, 3) := by decide +kernel
theorem dX9_value_15 : decode cX9_value 15 = .ok (.lconst 0, 1) := by decide +kernel
theorem dX9_value_16 : decode cX9_value 16 = .ok (.goto 11, 3) := by decide +kernel
theorem dX9_value_19 : decode cX9_value 19 = .ok (.aload_n 0, 1) := by decide +kernel
theorem dX9_value_20 : decode cX9_value 20 = .ok (.getfield 44, 3) := by decide +kernel
theorem dX9_value_23 : decode cX9_value 23 = .ok (.iload_n 1, 1) := by decide +kernel
theorem dX9_value_24 : decode cX9_value 24 = .ok (.invokevirtual 157, 3) := by decide +kernel
theorem dX9_value_27 : decode cX9_value 27 = .ok (.lreturn, 1) := by decide +kernel
theorem dX9_forgetFindings_0 : decode cX9_forgetFindings 0 = .ok (.aload_n 0, 1) := by decide +kernel
theorem dX9_forgetFindings_1 : decode cX9_forgetFindings 1 = .ok (.getfield 37, 3) := by decide +kernel
theorem dX9_forgetFindings_4 : decode cX9_forgetFindings 4 = .ok (.invokevirtual 161, 3) := by decide +kernel
theorem dX9_forgetFindings_7 : decode cX9_forgetFindings 7 = .ok (.aload_n 0, 1) := by decide +kernel
theorem dX9_forgetFindings_8 : decode cX9_forgetFindings 8 = .ok (.getfield 44, 3) := by decide +kernel
theorem dX9_forgetFindings_11 : decode cX9_forgetFindings 11 = .ok (.iconst (-1), 1) := by decide +kernel
theorem dX9_forgetFindings_12 : decode cX9_forgetFindings 12 = .ok (.putfield 148, 3) := by decide +kernel
theorem dX9_forgetFindings_15 : decode cX9_forgetFindings 15 = .ok (.return_, 1) := by decide +kernel
theorem dX9_requireByte_0 : decode cX9_requireByte 0 = .ok (.aload_n 0, 1) := by decide +kernel
theorem dX9_requireByte_1 : decode cX9_requireByte 1 = .ok (.getfield 10, 3) := by decide +kernel
theorem dX9_requireByte_4 : decode cX9_requireByte 4 = .ok (.iload_n 1, 1) := by decide +kernel
theorem dX9_requireByte_5 : decode cX9_requireByte 5 = .ok (.i2l, 1) := by decide +kernel
theorem dX9_requireByte_6 : decode cX9_requireByte 6 = .ok (.invokevirtual 164, 3) := by decide +kernel
theorem dX9_requireByte_9 : decode cX9_requireByte 9 = .ok (.ifCond .ne 13, 3) := by decide +kernel
theorem dX9_requireByte_12 : decode cX9_requireByte 12 = .ok (.new 48, 3) := by decide +kernel
theorem dX9_requireByte_15 : decode cX9_requireByte 15 = .ok (.dup, 1) := by decide +kernel
theorem dX9_requireByte_16 : decode cX9_requireByte 16 = .ok (.ldc 165, 2) := by decide +kernel
theorem dX9_requireByte_18 : decode cX9_requireByte 18 = .ok (.invokespecial 52, 3) := by decide +kernel
theorem dX9_requireByte_21 : decode cX9_requireByte 21 = .ok (.athrow, 1) := by decide +kernel
theorem dX9_requireByte_22 : decode cX9_requireByte 22 = .ok (.return_, 1) := by decide +kernel
theorem dX9_requireLocation_0 : decode cX9_requireLocation 0 = .ok (.iload_n 0, 1) := by decide +kernel
theorem dX9_requireLocation_1 : decode cX9_requireLocation 1 = .ok (.invokestatic 167, 3) := by decide +kernel
theorem dX9_requireLocation_4 : decode cX9_requireLocation 4 = .ok (.ifCond .ne 13, 3) := by decide +kernel
theorem dX9_requireLocation_7 : decode cX9_requireLocation 7 = .ok (.new 48, 3) := by decide +kernel
theorem dX9_requireLocation_10 : decode cX9_requireLocation 10 = .ok (.dup, 1) := by decide +kernel
theorem dX9_requireLocation_11 : decode cX9_requireLocation 11 = .ok (.ldc 171, 2) := by decide +kernel
theorem dX9_requireLocation_13 : decode cX9_requireLocation 13 = .ok (.invokespecial 52, 3) := by decide +kernel
theorem dX9_requireLocation_16 : decode cX9_requireLocation 16 = .ok (.athrow, 1) := by decide +kernel
theorem dX9_requireLocation_17 : decode cX9_requireLocation 17 = .ok (.return_, 1) := by decide +kernel
theorem dX9_isLocation_0 : decode cX9_isLocation 0 = .ok (.iload_n 0, 1) := by decide +kernel
theorem dX9_isLocation_1 : decode cX9_isLocation 1 = .ok (.ifCond .lt 13, 3) := by decide +kernel
theorem dX9_isLocation_4 : decode cX9_isLocation 4 = .ok (.iload_n 0, 1) := by decide +kernel
theorem dX9_isLocation_5 : decode cX9_isLocation 5 = .ok (.bipush 24, 2) := by decide +kernel
theorem dX9_isLocation_7 : decode cX9_isLocation 7 = .ok (.if_icmp .ge 7, 3) := by decide +kernel
theorem dX9_isLocation_10 : decode cX9_isLocation 10 = .ok (.iconst 1, 1) := by decide +kernel
theorem dX9_isLocation_11 : decode cX9_isLocation 11 = .ok (.goto 4, 3) := by decide +kernel
theorem dX9_isLocation_14 : decode cX9_isLocation 14 = .ok (.iconst 0, 1) := by decide +kernel
theorem dX9_isLocation_15 : decode cX9_isLocation 15 = .ok (.ireturn, 1) := by decide +kernel
theorem dJ6_numberOfLeadingZeros_0f7a4_0 : decode cJ6_numberOfLeadingZeros_0f7a4 0 = .ok (.iload_n 0, 1) := by decide +kernel
theorem dJ6_numberOfLeadingZeros_0f7a4_1 : decode cJ6_numberOfLeadingZeros_0f7a4 1 = .ok (.ifCond .gt 14, 3) := by decide +kernel
theorem dJ6_numberOfLeadingZeros_0f7a4_4 : decode cJ6_numberOfLeadingZeros_0f7a4 4 = .ok (.iload_n 0, 1) := by decide +kernel
theorem dJ6_numberOfLeadingZeros_0f7a4_5 : decode cJ6_numberOfLeadingZeros_0f7a4 5 = .ok (.ifCond .ne 8, 3) := by decide +kernel
theorem dJ6_numberOfLeadingZeros_0f7a4_8 : decode cJ6_numberOfLeadingZeros_0f7a4 8 = .ok (.bipush 32, 2) := by decide +kernel
theorem dJ6_numberOfLeadingZeros_0f7a4_10 : decode cJ6_numberOfLeadingZeros_0f7a4 10 = .ok (.goto 4, 3) := by decide +kernel
theorem dJ6_numberOfLeadingZeros_0f7a4_13 : decode cJ6_numberOfLeadingZeros_0f7a4 13 = .ok (.iconst 0, 1) := by decide +kernel
theorem dJ6_numberOfLeadingZeros_0f7a4_14 : decode cJ6_numberOfLeadingZeros_0f7a4 14 = .ok (.ireturn, 1) := by decide +kernel
theorem dJ6_numberOfLeadingZeros_0f7a4_15 : decode cJ6_numberOfLeadingZeros_0f7a4 15 = .ok (.bipush 31, 2) := by decide +kernel
theorem dJ6_numberOfLeadingZeros_0f7a4_17 : decode cJ6_numberOfLeadingZeros_0f7a4 17 = .ok (.istore_n 1, 1) := by decide +kernel
theorem dJ6_numberOfLeadingZeros_0f7a4_18 : decode cJ6_numberOfLeadingZeros_0f7a4 18 = .ok (.iload_n 0, 1) := by decide +kernel
theorem dJ6_numberOfLeadingZeros_0f7a4_19 : decode cJ6_numberOfLeadingZeros_0f7a4 19 = .ok (.ldc_w 264, 3) := by decide +kernel
theorem dJ6_numberOfLeadingZeros_0f7a4_22 : decode cJ6_numberOfLeadingZeros_0f7a4 22 = .ok (.if_icmp .lt 11, 3) := by decide +kernel
theorem dJ6_numberOfLeadingZeros_0f7a4_25 : decode cJ6_numberOfLeadingZeros_0f7a4 25 = .ok (.iinc 1 (-16), 3) := by decide +kernel
theorem dJ6_numberOfLeadingZeros_0f7a4_28 : decode cJ6_numberOfLeadingZeros_0f7a4 28 = .ok (.iload_n 0, 1) := by decide +kernel
theorem dJ6_numberOfLeadingZeros_0f7a4_29 : decode cJ6_numberOfLeadingZeros_0f7a4 29 = .ok (.bipush 16, 2) := by decide +kernel
theorem dJ6_numberOfLeadingZeros_0f7a4_31 : decode cJ6_numberOfLeadingZeros_0f7a4 31 = .ok (.iushr, 1) := by decide +kernel
theorem dJ6_numberOfLeadingZeros_0f7a4_32 : decode cJ6_numberOfLeadingZeros_0f7a4 32 = .ok (.istore_n 0, 1) := by decide +kernel
theorem dJ6_numberOfLeadingZeros_0f7a4_33 : decode cJ6_numberOfLeadingZeros_0f7a4 33 = .ok (.iload_n 0, 1) := by decide +kernel
theorem dJ6_numberOfLeadingZeros_0f7a4_34 : decode cJ6_numberOfLeadingZeros_0f7a4 34 = .ok (.sipush 256, 3) := by decide +kernel
theorem dJ6_numberOfLeadingZeros_0f7a4_37 : decode cJ6_numberOfLeadingZeros_0f7a4 37 = .ok (.if_icmp .lt 11, 3) := by decide +kernel
theorem dJ6_numberOfLeadingZeros_0f7a4_40 : decode cJ6_numberOfLeadingZeros_0f7a4 40 = .ok (.iinc 1 (-8), 3) := by decide +kernel
theorem dJ6_numberOfLeadingZeros_0f7a4_43 : decode cJ6_numberOfLeadingZeros_0f7a4 43 = .ok (.iload_n 0, 1) := by decide +kernel
theorem dJ6_numberOfLeadingZeros_0f7a4_44 : decode cJ6_numberOfLeadingZeros_0f7a4 44 = .ok (.bipush 8, 2) := by decide +kernel
theorem dJ6_numberOfLeadingZeros_0f7a4_46 : decode cJ6_numberOfLeadingZeros_0f7a4 46 = .ok (.iushr, 1) := by decide +kernel
theorem dJ6_numberOfLeadingZeros_0f7a4_47 : decode cJ6_numberOfLeadingZeros_0f7a4 47 = .ok (.istore_n 0, 1) := by decide +kernel
theorem dJ6_numberOfLeadingZeros_0f7a4_48 : decode cJ6_numberOfLeadingZeros_0f7a4 48 = .ok (.iload_n 0, 1) := by decide +kernel
theorem dJ6_numberOfLeadingZeros_0f7a4_49 : decode cJ6_numberOfLeadingZeros_0f7a4 49 = .ok (.bipush 16, 2) := by decide +kernel
theorem dJ6_numberOfLeadingZeros_0f7a4_51 : decode cJ6_numberOfLeadingZeros_0f7a4 51 = .ok (.if_icmp .lt 10, 3) := by decide +kernel
theorem dJ6_numberOfLeadingZeros_0f7a4_54 : decode cJ6_numberOfLeadingZeros_0f7a4 54 = .ok (.iinc 1 (-4), 3) := by decide +kernel
theorem dJ6_numberOfLeadingZeros_0f7a4_57 : decode cJ6_numberOfLeadingZeros_0f7a4 57 = .ok (.iload_n 0, 1) := by decide +kernel
theorem dJ6_numberOfLeadingZeros_0f7a4_58 : decode cJ6_numberOfLeadingZeros_0f7a4 58 = .ok (.iconst 4, 1) := by decide +kernel
theorem dJ6_numberOfLeadingZeros_0f7a4_59 : decode cJ6_numberOfLeadingZeros_0f7a4 59 = .ok (.iushr, 1) := by decide +kernel
theorem dJ6_numberOfLeadingZeros_0f7a4_60 : decode cJ6_numberOfLeadingZeros_0f7a4 60 = .ok (.istore_n 0, 1) := by decide +kernel
theorem dJ6_numberOfLeadingZeros_0f7a4_61 : decode cJ6_numberOfLeadingZeros_0f7a4 61 = .ok (.iload_n 0, 1) := by decide +kernel
theorem dJ6_numberOfLeadingZeros_0f7a4_62 : decode cJ6_numberOfLeadingZeros_0f7a4 62 = .ok (.iconst 4, 1) := by decide +kernel
theorem dJ6_numberOfLeadingZeros_0f7a4_63 : decode cJ6_numberOfLeadingZeros_0f7a4 63 = .ok (.if_icmp .lt 10, 3) := by decide +kernel
theorem dJ6_numberOfLeadingZeros_0f7a4_66 : decode cJ6_numberOfLeadingZeros_0f7a4 66 = .ok (.iinc 1 (-2), 3) := by decide +kernel
theorem dJ6_numberOfLeadingZeros_0f7a4_69 : decode cJ6_numberOfLeadingZeros_0f7a4 69 = .ok (.iload_n 0, 1) := by decide +kernel
theorem dJ6_numberOfLeadingZeros_0f7a4_70 : decode cJ6_numberOfLeadingZeros_0f7a4 70 = .ok (.iconst 2, 1) := by decide +kernel
theorem dJ6_numberOfLeadingZeros_0f7a4_71 : decode cJ6_numberOfLeadingZeros_0f7a4 71 = .ok (.iushr, 1) := by decide +kernel
theorem dJ6_numberOfLeadingZeros_0f7a4_72 : decode cJ6_numberOfLeadingZeros_0f7a4 72 = .ok (.istore_n 0, 1) := by decide +kernel
theorem dJ6_numberOfLeadingZeros_0f7a4_73 : decode cJ6_numberOfLeadingZeros_0f7a4 73 = .ok (.iload_n 1, 1) := by decide +kernel
theorem dJ6_numberOfLeadingZeros_0f7a4_74 : decode cJ6_numberOfLeadingZeros_0f7a4 74 = .ok (.iload_n 0, 1) := by decide +kernel
theorem dJ6_numberOfLeadingZeros_0f7a4_75 : decode cJ6_numberOfLeadingZeros_0f7a4 75 = .ok (.iconst 1, 1) := by decide +kernel
theorem dJ6_numberOfLeadingZeros_0f7a4_76 : decode cJ6_numberOfLeadingZeros_0f7a4 76 = .ok (.iushr, 1) := by decide +kernel
theorem dJ6_numberOfLeadingZeros_0f7a4_77 : decode cJ6_numberOfLeadingZeros_0f7a4 77 = .ok (.isub, 1) := by decide +kernel
theorem dJ6_numberOfLeadingZeros_0f7a4_78 : decode cJ6_numberOfLeadingZeros_0f7a4 78 = .ok (.ireturn, 1) := by decide +kernel
theorem dJ13_compare_74951_0 : decode cJ13_compare_74951 0 = .ok (.lload_n 0, 1) := by decide +kernel
theorem dJ13_compare_74951_1 : decode cJ13_compare_74951 1 = .ok (.lload_n 2, 1) := by decide +kernel
theorem dJ13_compare_74951_2 : decode cJ13_compare_74951 2 = .ok (.lcmp, 1) := by decide +kernel
theorem dJ13_compare_74951_3 : decode cJ13_compare_74951 3 = .ok (.ifCond .ge 7, 3) := by decide +kernel
theorem dJ13_compare_74951_6 : decode cJ13_compare_74951 6 = .ok (.iconst (-1), 1) := by decide +kernel
theorem dJ13_compare_74951_7 : decode cJ13_compare_74951 7 = .ok (.goto 14, 3) := by decide +kernel
theorem dJ13_compare_74951_10 : decode cJ13_compare_74951 10 = .ok (.lload_n 0, 1) := by decide +kernel
theorem dJ13_compare_74951_11 : decode cJ13_compare_74951 11 = .ok (.lload_n 2, 1) := by decide +kernel
theorem dJ13_compare_74951_12 : decode cJ13_compare_74951 12 = .ok (.lcmp, 1) := by decide +kernel
theorem dJ13_compare_74951_13 : decode cJ13_compare_74951 13 = .ok (.ifCond .ne 7, 3) := by decide +kernel
theorem dJ13_compare_74951_16 : decode cJ13_compare_74951 16 = .ok (.iconst 0, 1) := by decide +kernel
theorem dJ13_compare_74951_17 : decode cJ13_compare_74951 17 = .ok (.goto 4, 3) := by decide +kernel
theorem dJ13_compare_74951_20 : decode cJ13_compare_74951 20 = .ok (.iconst 1, 1) := by decide +kernel
theorem dJ13_compare_74951_21 : decode cJ13_compare_74951 21 = .ok (.ireturn, 1) := by decide +kernel
theorem dJ13_compareUnsigned_74951_0 : decode cJ13_compareUnsigned_74951 0 = .ok (.lload_n 0, 1) := by decide +kernel
theorem dJ13_compareUnsigned_74951_1 : decode cJ13_compareUnsigned_74951 1 = .ok (.ldc2_w 168, 3) := by decide +kernel
theorem dJ13_compareUnsigned_74951_4 : decode cJ13_compareUnsigned_74951 4 = .ok (.ladd, 1) := by decide +kernel
theorem dJ13_compareUnsigned_74951_5 : decode cJ13_compareUnsigned_74951 5 = .ok (.lload_n 2, 1) := by decide +kernel
theorem dJ13_compareUnsigned_74951_6 : decode cJ13_compareUnsigned_74951 6 = .ok (.ldc2_w 168, 3) := by decide +kernel
theorem dJ13_compareUnsigned_74951_9 : decode cJ13_compareUnsigned_74951 9 = .ok (.ladd, 1) := by decide +kernel
theorem dJ13_compareUnsigned_74951_10 : decode cJ13_compareUnsigned_74951 10 = .ok (.invokestatic 302, 3) := by decide +kernel
theorem dJ13_compareUnsigned_74951_13 : decode cJ13_compareUnsigned_74951 13 = .ok (.ireturn, 1) := by decide +kernel
theorem dJ13_highestOneBit_067f4_0 : decode cJ13_highestOneBit_067f4 0 = .ok (.lload_n 0, 1) := by decide +kernel
theorem dJ13_highestOneBit_067f4_1 : decode cJ13_highestOneBit_067f4 1 = .ok (.ldc2_w 168, 3) := by decide +kernel
theorem dJ13_highestOneBit_067f4_4 : decode cJ13_highestOneBit_067f4 4 = .ok (.lload_n 0, 1) := by decide +kernel
theorem dJ13_highestOneBit_067f4_5 : decode cJ13_highestOneBit_067f4 5 = .ok (.invokestatic 98, 3) := by decide +kernel
theorem dJ13_highestOneBit_067f4_8 : decode cJ13_highestOneBit_067f4 8 = .ok (.lushr, 1) := by decide +kernel
theorem dJ13_highestOneBit_067f4_9 : decode cJ13_highestOneBit_067f4 9 = .ok (.land, 1) := by decide +kernel
theorem dJ13_highestOneBit_067f4_10 : decode cJ13_highestOneBit_067f4 10 = .ok (.lreturn, 1) := by decide +kernel
theorem dJ13_lowestOneBit_067f4_0 : decode cJ13_lowestOneBit_067f4 0 = .ok (.lload_n 0, 1) := by decide +kernel
theorem dJ13_lowestOneBit_067f4_1 : decode cJ13_lowestOneBit_067f4 1 = .ok (.lload_n 0, 1) := by decide +kernel
theorem dJ13_lowestOneBit_067f4_2 : decode cJ13_lowestOneBit_067f4 2 = .ok (.lneg, 1) := by decide +kernel
theorem dJ13_lowestOneBit_067f4_3 : decode cJ13_lowestOneBit_067f4 3 = .ok (.land, 1) := by decide +kernel
theorem dJ13_lowestOneBit_067f4_4 : decode cJ13_lowestOneBit_067f4 4 = .ok (.lreturn, 1) := by decide +kernel
theorem dJ13_numberOfLeadingZeros_95d88_0 : decode cJ13_numberOfLeadingZeros_95d88 0 = .ok (.lload_n 0, 1) := by decide +kernel
theorem dJ13_numberOfLeadingZeros_95d88_1 : decode cJ13_numberOfLeadingZeros_95d88 1 = .ok (.bipush 32, 2) := by decide +kernel
theorem dJ13_numberOfLeadingZeros_95d88_3 : decode cJ13_numberOfLeadingZeros_95d88 3 = .ok (.lushr, 1) := by decide +kernel
theorem dJ13_numberOfLeadingZeros_95d88_4 : decode cJ13_numberOfLeadingZeros_95d88 4 = .ok (.l2i, 1) := by decide +kernel
theorem dJ13_numberOfLeadingZeros_95d88_5 : decode cJ13_numberOfLeadingZeros_95d88 5 = .ok (.istore_n 2, 1) := by decide +kernel
theorem dJ13_numberOfLeadingZeros_95d88_6 : decode cJ13_numberOfLeadingZeros_95d88 6 = .ok (.iload_n 2, 1) := by decide +kernel
theorem dJ13_numberOfLeadingZeros_95d88_7 : decode cJ13_numberOfLeadingZeros_95d88 7 = .ok (.ifCond .ne 14, 3) := by decide +kernel
theorem dJ13_numberOfLeadingZeros_95d88_10 : decode cJ13_numberOfLeadingZeros_95d88 10 = .ok (.bipush 32, 2) := by decide +kernel
theorem dJ13_numberOfLeadingZeros_95d88_12 : decode cJ13_numberOfLeadingZeros_95d88 12 = .ok (.lload_n 0, 1) := by decide +kernel
theorem dJ13_numberOfLeadingZeros_95d88_13 : decode cJ13_numberOfLeadingZeros_95d88 13 = .ok (.l2i, 1) := by decide +kernel
theorem dJ13_numberOfLeadingZeros_95d88_14 : decode cJ13_numberOfLeadingZeros_95d88 14 = .ok (.invokestatic 308, 3) := by decide +kernel
theorem dJ13_numberOfLeadingZeros_95d88_17 : decode cJ13_numberOfLeadingZeros_95d88 17 = .ok (.iadd, 1) := by decide +kernel
theorem dJ13_numberOfLeadingZeros_95d88_18 : decode cJ13_numberOfLeadingZeros_95d88 18 = .ok (.goto 7, 3) := by decide +kernel
theorem dJ13_numberOfLeadingZeros_95d88_21 : decode cJ13_numberOfLeadingZeros_95d88 21 = .ok (.iload_n 2, 1) := by decide +kernel
theorem dJ13_numberOfLeadingZeros_95d88_22 : decode cJ13_numberOfLeadingZeros_95d88 22 = .ok (.invokestatic 308, 3) := by decide +kernel
theorem dJ13_numberOfLeadingZeros_95d88_25 : decode cJ13_numberOfLeadingZeros_95d88 25 = .ok (.ireturn, 1) := by decide +kernel
theorem dJ9_floorMod_f86c9_0 : decode cJ9_floorMod_f86c9 0 = .ok (.lload_n 0, 1) := by decide +kernel
theorem dJ9_floorMod_f86c9_1 : decode cJ9_floorMod_f86c9 1 = .ok (.lload_n 2, 1) := by decide +kernel
theorem dJ9_floorMod_f86c9_2 : decode cJ9_floorMod_f86c9 2 = .ok (.lrem, 1) := by decide +kernel
theorem dJ9_floorMod_f86c9_3 : decode cJ9_floorMod_f86c9 3 = .ok (.lstore 4, 2) := by decide +kernel
theorem dJ9_floorMod_f86c9_5 : decode cJ9_floorMod_f86c9 5 = .ok (.lload_n 0, 1) := by decide +kernel
theorem dJ9_floorMod_f86c9_6 : decode cJ9_floorMod_f86c9 6 = .ok (.lload_n 2, 1) := by decide +kernel
theorem dJ9_floorMod_f86c9_7 : decode cJ9_floorMod_f86c9 7 = .ok (.lxor, 1) := by decide +kernel
theorem dJ9_floorMod_f86c9_8 : decode cJ9_floorMod_f86c9 8 = .ok (.lconst 0, 1) := by decide +kernel
theorem dJ9_floorMod_f86c9_9 : decode cJ9_floorMod_f86c9 9 = .ok (.lcmp, 1) := by decide +kernel
theorem dJ9_floorMod_f86c9_10 : decode cJ9_floorMod_f86c9 10 = .ok (.ifCond .ge 15, 3) := by decide +kernel
theorem dJ9_floorMod_f86c9_13 : decode cJ9_floorMod_f86c9 13 = .ok (.lload 4, 2) := by decide +kernel
theorem dJ9_floorMod_f86c9_15 : decode cJ9_floorMod_f86c9 15 = .ok (.lconst 0, 1) := by decide +kernel
theorem dJ9_floorMod_f86c9_16 : decode cJ9_floorMod_f86c9 16 = .ok (.lcmp, 1) := by decide +kernel
theorem dJ9_floorMod_f86c9_17 : decode cJ9_floorMod_f86c9 17 = .ok (.ifCond .eq 8, 3) := by decide +kernel
theorem dJ9_floorMod_f86c9_20 : decode cJ9_floorMod_f86c9 20 = .ok (.lload 4, 2) := by decide +kernel
theorem dJ9_floorMod_f86c9_22 : decode cJ9_floorMod_f86c9 22 = .ok (.lload_n 2, 1) := by decide +kernel
theorem dJ9_floorMod_f86c9_23 : decode cJ9_floorMod_f86c9 23 = .ok (.ladd, 1) := by decide +kernel
theorem dJ9_floorMod_f86c9_24 : decode cJ9_floorMod_f86c9 24 = .ok (.lreturn, 1) := by decide +kernel
theorem dJ9_floorMod_f86c9_25 : decode cJ9_floorMod_f86c9 25 = .ok (.lload 4, 2) := by decide +kernel
theorem dJ9_floorMod_f86c9_27 : decode cJ9_floorMod_f86c9 27 = .ok (.lreturn, 1) := by decide +kernel
theorem dJ9_max_f86c9_0 : decode cJ9_max_f86c9 0 = .ok (.lload_n 0, 1) := by decide +kernel
theorem dJ9_max_f86c9_1 : decode cJ9_max_f86c9 1 = .ok (.lload_n 2, 1) := by decide +kernel
theorem dJ9_max_f86c9_2 : decode cJ9_max_f86c9 2 = .ok (.lcmp, 1) := by decide +kernel
theorem dJ9_max_f86c9_3 : decode cJ9_max_f86c9 3 = .ok (.ifCond .lt 7, 3) := by decide +kernel
theorem dJ9_max_f86c9_6 : decode cJ9_max_f86c9 6 = .ok (.lload_n 0, 1) := by decide +kernel
theorem dJ9_max_f86c9_7 : decode cJ9_max_f86c9 7 = .ok (.goto 4, 3) := by decide +kernel
theorem dJ9_max_f86c9_10 : decode cJ9_max_f86c9 10 = .ok (.lload_n 2, 1) := by decide +kernel
theorem dJ9_max_f86c9_11 : decode cJ9_max_f86c9 11 = .ok (.lreturn, 1) := by decide +kernel
theorem dJ9_min_7cf53_0 : decode cJ9_min_7cf53 0 = .ok (.iload_n 0, 1) := by decide +kernel
theorem dJ9_min_7cf53_1 : decode cJ9_min_7cf53 1 = .ok (.iload_n 1, 1) := by decide +kernel
theorem dJ9_min_7cf53_2 : decode cJ9_min_7cf53 2 = .ok (.if_icmp .gt 7, 3) := by decide +kernel
theorem dJ9_min_7cf53_5 : decode cJ9_min_7cf53 5 = .ok (.iload_n 0, 1) := by decide +kernel
theorem dJ9_min_7cf53_6 : decode cJ9_min_7cf53 6 = .ok (.goto 4, 3) := by decide +kernel
theorem dJ9_min_7cf53_9 : decode cJ9_min_7cf53 9 = .ok (.iload_n 1, 1) := by decide +kernel
theorem dJ9_min_7cf53_10 : decode cJ9_min_7cf53 10 = .ok (.ireturn, 1) := by decide +kernel
theorem dJ9_min_f86c9_0 : decode cJ9_min_f86c9 0 = .ok (.lload_n 0, 1) := by decide +kernel
theorem dJ9_min_f86c9_1 : decode cJ9_min_f86c9 1 = .ok (.lload_n 2, 1) := by decide +kernel
theorem dJ9_min_f86c9_2 : decode cJ9_min_f86c9 2 = .ok (.lcmp, 1) := by decide +kernel
theorem dJ9_min_f86c9_3 : decode cJ9_min_f86c9 3 = .ok (.ifCond .gt 7, 3) := by decide +kernel
theorem dJ9_min_f86c9_6 : decode cJ9_min_f86c9 6 = .ok (.lload_n 0, 1) := by decide +kernel
theorem dJ9_min_f86c9_7 : decode cJ9_min_f86c9 7 = .ok (.goto 4, 3) := by decide +kernel
theorem dJ9_min_f86c9_10 : decode cJ9_min_f86c9 10 = .ok (.lload_n 2, 1) := by decide +kernel
theorem dJ9_min_f86c9_11 : decode cJ9_min_f86c9 11 = .ok (.lreturn, 1) := by decide +kernel
