theorem dX10_init_0 : decode cX10_init 0 = .ok (.aload_n 0, 1) := by decide +kernel
theorem dX10_init_1 : decode cX10_init 1 = .ok (.invokespecial 1, 3) := by decide +kernel
theorem dX10_init_4 : decode cX10_init 4 = .ok (.aload_n 0, 1) := by decide +kernel
theorem dX10_init_5 : decode cX10_init 5 = .ok (.sipush 200, 3) := by decide +kernel
theorem dX10_init_8 : decode cX10_init 8 = .ok (.newarray .int, 2) := by decide +kernel
theorem dX10_init_10 : decode cX10_init 10 = .ok (.putfield 7, 3) := by decide +kernel
theorem dX10_init_13 : decode cX10_init 13 = .ok (.aload_n 0, 1) := by decide +kernel
theorem dX10_init_14 : decode cX10_init 14 = .ok (.sipush 4940, 3) := by decide +kernel
theorem dX10_init_17 : decode cX10_init 17 = .ok (.newarray .int, 2) := by decide +kernel
theorem dX10_init_19 : decode cX10_init 19 = .ok (.putfield 13, 3) := by decide +kernel
theorem dX10_init_22 : decode cX10_init 22 = .ok (.aload_n 0, 1) := by decide +kernel
theorem dX10_init_23 : decode cX10_init 23 = .ok (.sipush 4940, 3) := by decide +kernel
theorem dX10_init_26 : decode cX10_init 26 = .ok (.newarray .long, 2) := by decide +kernel
theorem dX10_init_28 : decode cX10_init 28 = .ok (.putfield 16, 3) := by decide +kernel
theorem dX10_init_31 : decode cX10_init 31 = .ok (.aload_n 0, 1) := by decide +kernel
theorem dX10_init_32 : decode cX10_init 32 = .ok (.sipush 4940, 3) := by decide +kernel
theorem dX10_init_35 : decode cX10_init 35 = .ok (.newarray .long, 2) := by decide +kernel
theorem dX10_init_37 : decode cX10_init 37 = .ok (.putfield 20, 3) := by decide +kernel
theorem dX10_init_40 : decode cX10_init 40 = .ok (.aload_n 0, 1) := by decide +kernel
theorem dX10_init_41 : decode cX10_init 41 = .ok (.sipush 4940, 3) := by decide +kernel
theorem dX10_init_44 : decode cX10_init 44 = .ok (.newarray .long, 2) := by decide +kernel
theorem dX10_init_46 : decode cX10_init 46 = .ok (.putfield 23, 3) := by decide +kernel
theorem dX10_init_49 : decode cX10_init 49 = .ok (.aload_n 0, 1) := by decide +kernel
theorem dX10_init_50 : decode cX10_init 50 = .ok (.sipush 201, 3) := by decide +kernel
theorem dX10_init_53 : decode cX10_init 53 = .ok (.newarray .int, 2) := by decide +kernel
theorem dX10_init_55 : decode cX10_init 55 = .ok (.putfield 26, 3) := by decide +kernel
theorem dX10_init_58 : decode cX10_init 58 = .ok (.aload_n 0, 1) := by decide +kernel
theorem dX10_init_59 : decode cX10_init 59 = .ok (.sipush 201, 3) := by decide +kernel
theorem dX10_init_62 : decode cX10_init 62 = .ok (.newarray .boolean, 2) := by decide +kernel
theorem dX10_init_64 : decode cX10_init 64 = .ok (.putfield 29, 3) := by decide +kernel
theorem dX10_init_67 : decode cX10_init 67 = .ok (.aload_n 0, 1) := by decide +kernel
theorem dX10_init_68 : decode cX10_init 68 = .ok (.sipush 202, 3) := by decide +kernel
theorem dX10_init_71 : decode cX10_init 71 = .ok (.newarray .int, 2) := by decide +kernel
theorem dX10_init_73 : decode cX10_init 73 = .ok (.putfield 33, 3) := by decide +kernel
theorem dX10_init_76 : decode cX10_init 76 = .ok (.aload_n 0, 1) := by decide +kernel
theorem dX10_init_77 : decode cX10_init 77 = .ok (.sipush 202, 3) := by decide +kernel
theorem dX10_init_80 : decode cX10_init 80 = .ok (.newarray .int, 2) := by decide +kernel
theorem dX10_init_82 : decode cX10_init 82 = .ok (.putfield 36, 3) := by decide +kernel
theorem dX10_init_85 : decode cX10_init 85 = .ok (.aload_n 0, 1) := by decide +kernel
theorem dX10_init_86 : decode cX10_init 86 = .ok (.sipush 202, 3) := by decide +kernel
theorem dX10_init_89 : decode cX10_init 89 = .ok (.newarray .int, 2) := by decide +kernel
theorem dX10_init_91 : decode cX10_init 91 = .ok (.putfield 39, 3) := by decide +kernel
theorem dX10_init_94 : decode cX10_init 94 = .ok (.aload_n 0, 1) := by decide +kernel
theorem dX10_init_95 : decode cX10_init 95 = .ok (.sipush 202, 3) := by decide +kernel
theorem dX10_init_98 : decode cX10_init 98 = .ok (.newarray .long, 2) := by decide +kernel
theorem dX10_init_100 : decode cX10_init 100 = .ok (.putfield 42, 3) := by decide +kernel
theorem dX10_init_103 : decode cX10_init 103 = .ok (.aload_n 0, 1) := by decide +kernel
theorem dX10_init_104 : decode cX10_init 104 = .ok (.iconst (-1), 1) := by decide +kernel
theorem dX10_init_105 : decode cX10_init 105 = .ok (.putfield 45, 3) := by decide +kernel
theorem dX10_init_108 : decode cX10_init 108 = .ok (.aload_n 0, 1) := by decide +kernel
theorem dX10_init_109 : decode cX10_init 109 = .ok (.bipush 24, 2) := by decide +kernel
theorem dX10_init_111 : decode cX10_init 111 = .ok (.newarray .long, 2) := by decide +kernel
theorem dX10_init_113 : decode cX10_init 113 = .ok (.putfield 49, 3) := by decide +kernel
theorem dX10_init_116 : decode cX10_init 116 = .ok (.aload_n 0, 1) := by decide +kernel
theorem dX10_init_117 : decode cX10_init 117 = .ok (.bipush 24, 2) := by decide +kernel
theorem dX10_init_119 : decode cX10_init 119 = .ok (.newarray .long, 2) := by decide +kernel
theorem dX10_init_121 : decode cX10_init 121 = .ok (.putfield 52, 3) := by decide +kernel
theorem dX10_init_124 : decode cX10_init 124 = .ok (.iconst 0, 1) := by decide +kernel
theorem dX10_init_125 : decode cX10_init 125 = .ok (.istore_n 1, 1) := by decide +kernel
theorem dX10_init_126 : decode cX10_init 126 = .ok (.iload_n 1, 1) := by decide +kernel
theorem dX10_init_127 : decode cX10_init 127 = .ok (.bipush 24, 2) := by decide +kernel
theorem dX10_init_129 : decode cX10_init 129 = .ok (.if_icmp .ge 20, 3) := by decide +kernel
theorem dX10_init_132 : decode cX10_init 132 = .ok (.aload_n 0, 1) := by decide +kernel
theorem dX10_init_133 : decode cX10_init 133 = .ok (.getfield 13, 3) := by decide +kernel
theorem dX10_init_136 : decode cX10_init 136 = .ok (.sipush 4880, 3) := by decide +kernel
theorem dX10_init_139 : decode cX10_init 139 = .ok (.iload_n 1, 1) := by decide +kernel
theorem dX10_init_140 : decode cX10_init 140 = .ok (.iadd, 1) := by decide +kernel
theorem dX10_init_141 : decode cX10_init 141 = .ok (.iconst 2, 1) := by decide +kernel
theorem dX10_init_142 : decode cX10_init 142 = .ok (.iastore, 1) := by decide +kernel
theorem dX10_init_143 : decode cX10_init 143 = .ok (.iinc 1 1, 3) := by decide +kernel
theorem dX10_init_146 : decode cX10_init 146 = .ok (.goto (-20), 3) := by decide +kernel
theorem dX10_init_149 : decode cX10_init 149 = .ok (.return_, 1) := by decide +kernel
theorem dX10_thrown_0 : decode cX10_thrown 0 = .ok (.aload_n 0, 1) := by decide +kernel
theorem dX10_thrown_1 : decode cX10_thrown 1 = .ok (.getfield 55, 3) := by decide +kernel
theorem dX10_thrown_4 : decode cX10_thrown 4 = .ok (.ireturn, 1) := by decide +kernel
theorem dX10_refused_0 : decode cX10_refused 0 = .ok (.aload_n 0, 1) := by decide +kernel
theorem dX10_refused_1 : decode cX10_refused 1 = .ok (.iload_n 1, 1) := by decide +kernel
theorem dX10_refused_2 : decode cX10_refused 2 = .ok (.putfield 55, 3) := by decide +kernel
theorem dX10_refused_5 : decode cX10_refused 5 = .ok (.iload_n 1, 1) := by decide +kernel
theorem dX10_refused_6 : decode cX10_refused 6 = .ok (.ifCond .le 7, 3) := by decide +kernel
theorem dX10_refused_9 : decode cX10_refused 9 = .ok (.iconst 1, 1) := by decide +kernel
theorem dX10_refused_10 : decode cX10_refused 10 = .ok (.goto 4, 3) := by decide +kernel
theorem dX10_refused_13 : decode cX10_refused 13 = .ok (.iconst 0, 1) := by decide +kernel
theorem dX10_refused_14 : decode cX10_refused 14 = .ok (.ireturn, 1) := by decide +kernel
theorem dX10_isIn_0 : decode cX10_isIn 0 = .ok (.lload_n 0, 1) := by decide +kernel
theorem dX10_isIn_1 : decode cX10_isIn 1 = .ok (.lload_n 2, 1) := by decide +kernel
theorem dX10_isIn_2 : decode cX10_isIn 2 = .ok (.lcmp, 1) := by decide +kernel
theorem dX10_isIn_3 : decode cX10_isIn 3 = .ok (.ifCond .lt 14, 3) := by decide +kernel
theorem dX10_isIn_6 : decode cX10_isIn 6 = .ok (.lload_n 0, 1) := by decide +kernel
theorem dX10_isIn_7 : decode cX10_isIn 7 = .ok (.lload 4, 2) := by decide +kernel
theorem dX10_isIn_9 : decode cX10_isIn 9 = .ok (.lcmp, 1) := by decide +kernel
theorem dX10_isIn_10 : decode cX10_isIn 10 = .ok (.ifCond .gt 7, 3) := by decide +kernel
theorem dX10_isIn_13 : decode cX10_isIn 13 = .ok (.iconst 1, 1) := by decide +kernel
theorem dX10_isIn_14 : decode cX10_isIn 14 = .ok (.goto 4, 3) := by decide +kernel
theorem dX10_isIn_17 : decode cX10_isIn 17 = .ok (.iconst 0, 1) := by decide +kernel
theorem dX10_isIn_18 : decode cX10_isIn 18 = .ok (.ireturn, 1) := by decide +kernel
theorem dX10_forget_0 : decode cX10_forget 0 = .ok (.aload_n 0, 1) := by decide +kernel
theorem dX10_forget_1 : decode cX10_forget 1 = .ok (.iconst 0, 1) := by decide +kernel
theorem dX10_forget_2 : decode cX10_forget 2 = .ok (.putfield 58, 3) := by decide +kernel
theorem dX10_forget_5 : decode cX10_forget 5 = .ok (.iconst 0, 1) := by decide +kernel
theorem dX10_forget_6 : decode cX10_forget 6 = .ok (.istore_n 1, 1) := by decide +kernel
theorem dX10_forget_7 : decode cX10_forget 7 = .ok (.iload_n 1, 1) := by decide +kernel
theorem dX10_forget_8 : decode cX10_forget 8 = .ok (.sipush 200, 3) := by decide +kernel
theorem dX10_forget_11 : decode cX10_forget 11 = .ok (.if_icmp .gt 23, 3) := by decide +kernel
theorem dX10_forget_14 : decode cX10_forget 14 = .ok (.aload_n 0, 1) := by decide +kernel
theorem dX10_forget_15 : decode cX10_forget 15 = .ok (.getfield 26, 3) := by decide +kernel
theorem dX10_forget_18 : decode cX10_forget 18 = .ok (.iload_n 1, 1) := by decide +kernel
theorem dX10_forget_19 : decode cX10_forget 19 = .ok (.iconst 0, 1) := by decide +kernel
theorem dX10_forget_20 : decode cX10_forget 20 = .ok (.iastore, 1) := by decide +kernel
theorem dX10_forget_21 : decode cX10_forget 21 = .ok (.aload_n 0, 1) := by decide +kernel
theorem dX10_forget_22 : decode cX10_forget 22 = .ok (.getfield 29, 3) := by decide +kernel
theorem dX10_forget_25 : decode cX10_forget 25 = .ok (.iload_n 1, 1) := by decide +kernel
theorem dX10_forget_26 : decode cX10_forget 26 = .ok (.iconst 0, 1) := by decide +kernel
theorem dX10_forget_27 : decode cX10_forget 27 = .ok (.bastore, 1) := by decide +kernel
theorem dX10_forget_28 : decode cX10_forget 28 = .ok (.iinc 1 1, 3) := by decide +kernel
theorem dX10_forget_31 : decode cX10_forget 31 = .ok (.goto (-24), 3) := by decide +kernel
theorem dX10_forget_34 : decode cX10_forget 34 = .ok (.aload_n 0, 1) := by decide +kernel
theorem dX10_forget_35 : decode cX10_forget 35 = .ok (.iconst 0, 1) := by decide +kernel
theorem dX10_forget_36 : decode cX10_forget 36 = .ok (.putfield 62, 3) := by decide +kernel
theorem dX10_forget_39 : decode cX10_forget 39 = .ok (.aload_n 0, 1) := by decide +kernel
theorem dX10_forget_40 : decode cX10_forget 40 = .ok (.iconst (-1), 1) := by decide +kernel
theorem dX10_forget_41 : decode cX10_forget 41 = .ok (.putfield 45, 3) := by decide +kernel
theorem dX10_forget_44 : decode cX10_forget 44 = .ok (.return_, 1) := by decide +kernel
theorem dX10_feed_0 : decode cX10_feed 0 = .ok (.aload_n 0, 1) := by decide +kernel
theorem dX10_feed_1 : decode cX10_feed 1 = .ok (.iload_n 1, 1) := by decide +kernel
theorem dX10_feed_2 : decode cX10_feed 2 = .ok (.i2l, 1) := by decide +kernel
theorem dX10_feed_3 : decode cX10_feed 3 = .ok (.lconst 0, 1) := by decide +kernel
theorem dX10_feed_4 : decode cX10_feed 4 = .ok (.ldc2_w 65, 3) := by decide +kernel
theorem dX10_feed_7 : decode cX10_feed 7 = .ok (.invokestatic 67, 3) := by decide +kernel
theorem dX10_feed_10 : decode cX10_feed 10 = .ok (.ifCond .ne 7, 3) := by decide +kernel
theorem dX10_feed_13 : decode cX10_feed 13 = .ok (.iconst 1, 1) := by decide +kernel
theorem dX10_feed_14 : decode cX10_feed 14 = .ok (.goto 20, 3) := by decide +kernel
theorem dX10_feed_17 : decode cX10_feed 17 = .ok (.aload_n 0, 1) := by decide +kernel
theorem dX10_feed_18 : decode cX10_feed 18 = .ok (.getfield 71, 3) := by decide +kernel
theorem dX10_feed_21 : decode cX10_feed 21 = .ok (.iload_n 1, 1) := by decide +kernel
theorem dX10_feed_22 : decode cX10_feed 22 = .ok (.iadd, 1) := by decide +kernel
theorem dX10_feed_23 : decode cX10_feed 23 = .ok (.sipush 200, 3) := by decide +kernel
theorem dX10_feed_26 : decode cX10_feed 26 = .ok (.if_icmp .le 7, 3) := by decide +kernel
theorem dX10_feed_29 : decode cX10_feed 29 = .ok (.iconst 2, 1) := by decide +kernel
theorem dX10_feed_30 : decode cX10_feed 30 = .ok (.goto 4, 3) := by decide +kernel
theorem dX10_feed_33 : decode cX10_feed 33 = .ok (.iconst 0, 1) := by decide +kernel
theorem dX10_feed_34 : decode cX10_feed 34 = .ok (.invokevirtual 74, 3) := by decide +kernel
theorem dX10_feed_37 : decode cX10_feed 37 = .ok (.ifCond .eq 5, 3) := by decide +kernel
theorem dX10_feed_40 : decode cX10_feed 40 = .ok (.iconst 0, 1) := by decide +kernel
theorem dX10_feed_41 : decode cX10_feed 41 = .ok (.ireturn, 1) := by decide +kernel
theorem dX10_feed_42 : decode cX10_feed 42 = .ok (.aload_n 0, 1) := by decide +kernel
theorem dX10_feed_43 : decode cX10_feed 43 = .ok (.invokevirtual 78, 3) := by decide +kernel
theorem dX10_feed_46 : decode cX10_feed 46 = .ok (.iconst 0, 1) := by decide +kernel
theorem dX10_feed_47 : decode cX10_feed 47 = .ok (.istore 6, 2) := by decide +kernel
theorem dX10_feed_49 : decode cX10_feed 49 = .ok (.iload 6, 2) := by decide +kernel
theorem dX10_feed_51 : decode cX10_feed 51 = .ok (.iload_n 1, 1) := by decide +kernel
theorem dX10_feed_52 : decode cX10_feed 52 = .ok (.if_icmp .ge 82, 3) := by decide +kernel
theorem dX10_feed_55 : decode cX10_feed 55 = .ok (.iload 6, 2) := by decide +kernel
theorem dX10_feed_57 : decode cX10_feed 57 = .ok (.iconst 4, 1) := by decide +kernel
theorem dX10_feed_58 : decode cX10_feed 58 = .ok (.if_icmp .ge 7, 3) := by decide +kernel
theorem dX10_feed_61 : decode cX10_feed 61 = .ok (.iload_n 2, 1) := by decide +kernel
theorem dX10_feed_62 : decode cX10_feed 62 = .ok (.goto 28, 3) := by decide +kernel
theorem dX10_feed_65 : decode cX10_feed 65 = .ok (.iload 6, 2) := by decide +kernel
theorem dX10_feed_67 : decode cX10_feed 67 = .ok (.bipush 8, 2) := by decide +kernel
theorem dX10_feed_69 : decode cX10_feed 69 = .ok (.if_icmp .ge 7, 3) := by decide +kernel
theorem dX10_feed_72 : decode cX10_feed 72 = .ok (.iload_n 3, 1) := by decide +kernel
theorem dX10_feed_73 : decode cX10_feed 73 = .ok (.goto 17, 3) := by decide +kernel
theorem dX10_feed_76 : decode cX10_feed 76 = .ok (.iload 6, 2) := by decide +kernel
theorem dX10_feed_78 : decode cX10_feed 78 = .ok (.bipush 12, 2) := by decide +kernel
theorem dX10_feed_80 : decode cX10_feed 80 = .ok (.if_icmp .ge 8, 3) := by decide +kernel
theorem dX10_feed_83 : decode cX10_feed 83 = .ok (.iload 4, 2) := by decide +kernel
theorem dX10_feed_85 : decode cX10_feed 85 = .ok (.goto 5, 3) := by decide +kernel
theorem dX10_feed_88 : decode cX10_feed 88 = .ok (.iload 5, 2) := by decide +kernel
theorem dX10_feed_90 : decode cX10_feed 90 = .ok (.istore 7, 2) := by decide +kernel
theorem dX10_feed_92 : decode cX10_feed 92 = .ok (.aload_n 0, 1) := by decide +kernel
theorem dX10_feed_93 : decode cX10_feed 93 = .ok (.getfield 7, 3) := by decide +kernel
theorem dX10_feed_96 : decode cX10_feed 96 = .ok (.aload_n 0, 1) := by decide +kernel
theorem dX10_feed_97 : decode cX10_feed 97 = .ok (.getfield 71, 3) := by decide +kernel
theorem dX10_feed_100 : decode cX10_feed 100 = .ok (.iload 7, 2) := by decide +kernel
theorem dX10_feed_102 : decode cX10_feed 102 = .ok (.bipush 24, 2) := by decide +kernel
theorem dX10_feed_104 : decode cX10_feed 104 = .ok (.bipush 8, 2) := by decide +kernel
theorem dX10_feed_106 : decode cX10_feed 106 = .ok (.iload 6, 2) := by decide +kernel
theorem dX10_feed_108 : decode cX10_feed 108 = .ok (.iconst 4, 1) := by decide +kernel
theorem dX10_feed_109 : decode cX10_feed 109 = .ok (.irem, 1) := by decide +kernel
theorem dX10_feed_110 : decode cX10_feed 110 = .ok (.imul, 1) := by decide +kernel
theorem dX10_feed_111 : decode cX10_feed 111 = .ok (.isub, 1) := by decide +kernel
theorem dX10_feed_112 : decode cX10_feed 112 = .ok (.ishr, 1) := by decide +kernel
theorem dX10_feed_113 : decode cX10_feed 113 = .ok (.sipush 255, 3) := by decide +kernel
theorem dX10_feed_116 : decode cX10_feed 116 = .ok (.iand, 1) := by decide +kernel
theorem dX10_feed_117 : decode cX10_feed 117 = .ok (.iastore, 1) := by decide +kernel
theorem dX10_feed_118 : decode cX10_feed 118 = .ok (.aload_n 0, 1) := by decide +kernel
theorem dX10_feed_119 : decode cX10_feed 119 = .ok (.dup, 1) := by decide +kernel
theorem dX10_feed_120 : decode cX10_feed 120 = .ok (.getfield 71, 3) := by decide +kernel
theorem dX10_feed_123 : decode cX10_feed 123 = .ok (.iconst 1, 1) := by decide +kernel
theorem dX10_feed_124 : decode cX10_feed 124 = .ok (.iadd, 1) := by decide +kernel
theorem dX10_feed_125 : decode cX10_feed 125 = .ok (.putfield 71, 3) := by decide +kernel
theorem dX10_feed_128 : decode cX10_feed 128 = .ok (.iinc 6 1, 3) := by decide +kernel
theorem dX10_feed_131 : decode cX10_feed 131 = .ok (.goto (-82), 3) := by decide +kernel
theorem dX10_feed_134 : decode cX10_feed 134 = .ok (.aload_n 0, 1) := by decide +kernel
theorem dX10_feed_135 : decode cX10_feed 135 = .ok (.getfield 71, 3) := by decide +kernel
theorem dX10_feed_138 : decode cX10_feed 138 = .ok (.ireturn, 1) := by decide +kernel
theorem dX10_erase_0 : decode cX10_erase 0 = .ok (.aload_n 0, 1) := by decide +kernel
theorem dX10_erase_1 : decode cX10_erase 1 = .ok (.iconst 0, 1) := by decide +kernel
theorem dX10_erase_2 : decode cX10_erase 2 = .ok (.putfield 55, 3) := by decide +kernel
theorem dX10_erase_5 : decode cX10_erase 5 = .ok (.aload_n 0, 1) := by decide +kernel
theorem dX10_erase_6 : decode cX10_erase 6 = .ok (.invokevirtual 78, 3) := by decide +kernel
theorem dX10_erase_9 : decode cX10_erase 9 = .ok (.aload_n 0, 1) := by decide +kernel
theorem dX10_erase_10 : decode cX10_erase 10 = .ok (.getfield 71, 3) := by decide +kernel
theorem dX10_erase_13 : decode cX10_erase 13 = .ok (.istore_n 1, 1) := by decide +kernel
theorem dX10_erase_14 : decode cX10_erase 14 = .ok (.aload_n 0, 1) := by decide +kernel
theorem dX10_erase_15 : decode cX10_erase 15 = .ok (.iconst 0, 1) := by decide +kernel
theorem dX10_erase_16 : decode cX10_erase 16 = .ok (.putfield 71, 3) := by decide +kernel
theorem dX10_erase_19 : decode cX10_erase 19 = .ok (.iload_n 1, 1) := by decide +kernel
theorem dX10_erase_20 : decode cX10_erase 20 = .ok (.ireturn, 1) := by decide +kernel
theorem dX10_next_0 : decode cX10_next 0 = .ok (.aload_n 0, 1) := by decide +kernel
theorem dX10_next_1 : decode cX10_next 1 = .ok (.getfield 81, 3) := by decide +kernel
theorem dX10_next_4 : decode cX10_next 4 = .ok (.aload_n 0, 1) := by decide +kernel
theorem dX10_next_5 : decode cX10_next 5 = .ok (.getfield 71, 3) := by decide +kernel
theorem dX10_next_8 : decode cX10_next 8 = .ok (.if_icmp .lt 10, 3) := by decide +kernel
theorem dX10_next_11 : decode cX10_next 11 = .ok (.aload_n 0, 1) := by decide +kernel
theorem dX10_next_12 : decode cX10_next 12 = .ok (.iconst 1, 1) := by decide +kernel
theorem dX10_next_13 : decode cX10_next 13 = .ok (.putfield 84, 3) := by decide +kernel
theorem dX10_next_16 : decode cX10_next 16 = .ok (.iconst 0, 1) := by decide +kernel
theorem dX10_next_17 : decode cX10_next 17 = .ok (.ireturn, 1) := by decide +kernel
theorem dX10_next_18 : decode cX10_next 18 = .ok (.aload_n 0, 1) := by decide +kernel
theorem dX10_next_19 : decode cX10_next 19 = .ok (.dup, 1) := by decide +kernel
theorem dX10_next_20 : decode cX10_next 20 = .ok (.getfield 81, 3) := by decide +kernel
theorem dX10_next_23 : decode cX10_next 23 = .ok (.iconst 1, 1) := by decide +kernel
theorem dX10_next_24 : decode cX10_next 24 = .ok (.iadd, 1) := by decide +kernel
theorem dX10_next_25 : decode cX10_next 25 = .ok (.putfield 81, 3) := by decide +kernel
theorem dX10_next_28 : decode cX10_next 28 = .ok (.aload_n 0, 1) := by decide +kernel
theorem dX10_next_29 : decode cX10_next 29 = .ok (.getfield 7, 3) := by decide +kernel
theorem dX10_next_32 : decode cX10_next 32 = .ok (.aload_n 0, 1) := by decide +kernel
theorem dX10_next_33 : decode cX10_next 33 = .ok (.getfield 81, 3) := by decide +kernel
theorem dX10_next_36 : decode cX10_next 36 = .ok (.iconst 1, 1) := by decide +kernel
theorem dX10_next_37 : decode cX10_next 37 = .ok (.isub, 1) := by decide +kernel
theorem dX10_next_38 : decode cX10_next 38 = .ok (.iaload, 1) := by decide +kernel
theorem dX10_next_39 : decode cX10_next 39 = .ok (.ireturn, 1) := by decide +kernel
theorem dX10_number_0 : decode cX10_number 0 = .ok (.lconst 0, 1) := by decide +kernel
theorem dX10_number_1 : decode cX10_number 1 = .ok (.lstore_n 2, 1) := by decide +kernel
theorem dX10_number_2 : decode cX10_number 2 = .ok (.iconst 0, 1) := by decide +kernel
theorem dX10_number_3 : decode cX10_number 3 = .ok (.istore 4, 2) := by decide +kernel
theorem dX10_number_5 : decode cX10_number 5 = .ok (.iload 4, 2) := by decide +kernel
theorem dX10_number_7 : decode cX10_number 7 = .ok (.iload_n 1, 1) := by decide +kernel
theorem dX10_number_8 : decode cX10_number 8 = .ok (.if_icmp .ge 23, 3) := by decide +kernel
theorem dX10_number_11 : decode cX10_number 11 = .ok (.lload_n 2, 1) := by decide +kernel
theorem dX10_number_12 : decode cX10_number 12 = .ok (.aload_n 0, 1) := by decide +kernel
theorem dX10_number_13 : decode cX10_number 13 = .ok (.invokevirtual 87, 3) := by decide +kernel
theorem dX10_number_16 : decode cX10_number 16 = .ok (.i2l, 1) := by decide +kernel
theorem dX10_number_17 : decode cX10_number 17 = .ok (.bipush 8, 2) := by decide +kernel
theorem dX10_number_19 : decode cX10_number 19 = .ok (.iload 4, 2) := by decide +kernel
theorem dX10_number_21 : decode cX10_number 21 = .ok (.imul, 1) := by decide +kernel
theorem dX10_number_22 : decode cX10_number 22 = .ok (.lshl, 1) := by decide +kernel
theorem dX10_number_23 : decode cX10_number 23 = .ok (.lor, 1) := by decide +kernel
theorem dX10_number_24 : decode cX10_number 24 = .ok (.lstore_n 2, 1) := by decide +kernel
theorem dX10_number_25 : decode cX10_number 25 = .ok (.iinc 4 1, 3) := by decide +kernel
theorem dX10_number_28 : decode cX10_number 28 = .ok (.goto (-23), 3) := by decide +kernel
theorem dX10_number_31 : decode cX10_number 31 = .ok (.bipush 64, 2) := by decide +kernel
theorem dX10_number_33 : decode cX10_number 33 = .ok (.bipush 8, 2) := by decide +kernel
theorem dX10_number_35 : decode cX10_number 35 = .ok (.iload_n 1, 1) := by decide +kernel
theorem dX10_number_36 : decode cX10_number 36 = .ok (.imul, 1) := by decide +kernel
theorem dX10_number_37 : decode cX10_number 37 = .ok (.isub, 1) := by decide +kernel
theorem dX10_number_38 : decode cX10_number 38 = .ok (.istore 4, 2) := by decide +kernel
theorem dX10_number_40 : decode cX10_number 40 = .ok (.lload_n 2, 1) := by decide +kernel
theorem dX10_number_41 : decode cX10_number 41 = .ok (.iload 4, 2) := by decide +kernel
theorem dX10_number_43 : decode cX10_number 43 = .ok (.lshl, 1) := by decide +kernel
theorem dX10_number_44 : decode cX10_number 44 = .ok (.iload 4, 2) := by decide +kernel
theorem dX10_number_46 : decode cX10_number 46 = .ok (.lshr, 1) := by decide +kernel
theorem dX10_number_47 : decode cX10_number 47 = .ok (.lreturn, 1) := by decide +kernel
theorem dX10_readPlaces_0 : decode cX10_readPlaces 0 = .ok (.aload_n 0, 1) := by decide +kernel
theorem dX10_readPlaces_1 : decode cX10_readPlaces 1 = .ok (.invokevirtual 87, 3) := by decide +kernel
theorem dX10_readPlaces_4 : decode cX10_readPlaces 4 = .ok (.istore_n 2, 1) := by decide +kernel
theorem dX10_readPlaces_5 : decode cX10_readPlaces 5 = .ok (.aload_n 0, 1) := by decide +kernel
theorem dX10_readPlaces_6 : decode cX10_readPlaces 6 = .ok (.iload_n 2, 1) := by decide +kernel
theorem dX10_readPlaces_7 : decode cX10_readPlaces 7 = .ok (.bipush 6, 2) := by decide +kernel
theorem dX10_readPlaces_9 : decode cX10_readPlaces 9 = .ok (.ishr, 1) := by decide +kernel
theorem dX10_readPlaces_10 : decode cX10_readPlaces 10 = .ok (.putfield 91, 3) := by decide +kernel
theorem dX10_readPlaces_13 : decode cX10_readPlaces 13 = .ok (.aload_n 0, 1) := by decide +kernel
theorem dX10_readPlaces_14 : decode cX10_readPlaces 14 = .ok (.iload_n 2, 1) := by decide +kernel
theorem dX10_readPlaces_15 : decode cX10_readPlaces 15 = .ok (.iconst 3, 1) := by decide +kernel
theorem dX10_readPlaces_16 : decode cX10_readPlaces 16 = .ok (.ishr, 1) := by decide +kernel
theorem dX10_readPlaces_17 : decode cX10_readPlaces 17 = .ok (.bipush 7, 2) := by decide +kernel
theorem dX10_readPlaces_19 : decode cX10_readPlaces 19 = .ok (.iand, 1) := by decide +kernel
theorem dX10_readPlaces_20 : decode cX10_readPlaces 20 = .ok (.putfield 94, 3) := by decide +kernel
theorem dX10_readPlaces_23 : decode cX10_readPlaces 23 = .ok (.aload_n 0, 1) := by decide +kernel
theorem dX10_readPlaces_24 : decode cX10_readPlaces 24 = .ok (.aload_n 0, 1) := by decide +kernel
theorem dX10_readPlaces_25 : decode cX10_readPlaces 25 = .ok (.getfield 94, 3) := by decide +kernel
theorem dX10_readPlaces_28 : decode cX10_readPlaces 28 = .ok (.iload_n 1, 1) := by decide +kernel
theorem dX10_readPlaces_29 : decode cX10_readPlaces 29 = .ok (.iconst 4, 1) := by decide +kernel
theorem dX10_readPlaces_30 : decode cX10_readPlaces 30 = .ok (.iand, 1) := by decide +kernel
theorem dX10_readPlaces_31 : decode cX10_readPlaces 31 = .ok (.ifCond .eq 8, 3) := by decide +kernel
theorem dX10_readPlaces_34 : decode cX10_readPlaces 34 = .ok (.bipush 8, 2) := by decide +kernel
theorem dX10_readPlaces_36 : decode cX10_readPlaces 36 = .ok (.goto 4, 3) := by decide +kernel
theorem dX10_readPlaces_39 : decode cX10_readPlaces 39 = .ok (.iconst 0, 1) := by decide +kernel
theorem dX10_readPlaces_40 : decode cX10_readPlaces 40 = .ok (.iadd, 1) := by decide +kernel
theorem dX10_readPlaces_41 : decode cX10_readPlaces 41 = .ok (.putfield 97, 3) := by decide +kernel
theorem dX10_readPlaces_44 : decode cX10_readPlaces 44 = .ok (.aload_n 0, 1) := by decide +kernel
theorem dX10_readPlaces_45 : decode cX10_readPlaces 45 = .ok (.iload_n 2, 1) := by decide +kernel
theorem dX10_readPlaces_46 : decode cX10_readPlaces 46 = .ok (.bipush 7, 2) := by decide +kernel
theorem dX10_readPlaces_48 : decode cX10_readPlaces 48 = .ok (.iand, 1) := by decide +kernel
theorem dX10_readPlaces_49 : decode cX10_readPlaces 49 = .ok (.putfield 100, 3) := by decide +kernel
theorem dX10_readPlaces_52 : decode cX10_readPlaces 52 = .ok (.aload_n 0, 1) := by decide +kernel
theorem dX10_readPlaces_53 : decode cX10_readPlaces 53 = .ok (.getfield 91, 3) := by decide +kernel
theorem dX10_readPlaces_56 : decode cX10_readPlaces 56 = .ok (.iconst 3, 1) := by decide +kernel
theorem dX10_readPlaces_57 : decode cX10_readPlaces 57 = .ok (.if_icmp .ne 27, 3) := by decide +kernel
theorem dX10_readPlaces_60 : decode cX10_readPlaces 60 = .ok (.aload_n 0, 1) := by decide +kernel
theorem dX10_readPlaces_61 : decode cX10_readPlaces 61 = .ok (.aload_n 0, 1) := by decide +kernel
theorem dX10_readPlaces_62 : decode cX10_readPlaces 62 = .ok (.getfield 100, 3) := by decide +kernel
theorem dX10_readPlaces_65 : decode cX10_readPlaces 65 = .ok (.iload_n 1, 1) := by decide +kernel
theorem dX10_readPlaces_66 : decode cX10_readPlaces 66 = .ok (.iconst 1, 1) := by decide +kernel
theorem dX10_readPlaces_67 : decode cX10_readPlaces 67 = .ok (.iand, 1) := by decide +kernel
theorem dX10_readPlaces_68 : decode cX10_readPlaces 68 = .ok (.ifCond .eq 8, 3) := by decide +kernel
theorem dX10_readPlaces_71 : decode cX10_readPlaces 71 = .ok (.bipush 8, 2) := by decide +kernel
theorem dX10_readPlaces_73 : decode cX10_readPlaces 73 = .ok (.goto 4, 3) := by decide +kernel
theorem dX10_readPlaces_76 : decode cX10_readPlaces 76 = .ok (.iconst 0, 1) := by decide +kernel
theorem dX10_readPlaces_77 : decode cX10_readPlaces 77 = .ok (.iadd, 1) := by decide +kernel
theorem dX10_readPlaces_78 : decode cX10_readPlaces 78 = .ok (.putfield 100, 3) := by decide +kernel
theorem dX10_readPlaces_81 : decode cX10_readPlaces 81 = .ok (.goto 94, 3) := by decide +kernel
theorem dX10_readPlaces_84 : decode cX10_readPlaces 84 = .ok (.aload_n 0, 1) := by decide +kernel
theorem dX10_readPlaces_85 : decode cX10_readPlaces 85 = .ok (.getfield 91, 3) := by decide +kernel
theorem dX10_readPlaces_88 : decode cX10_readPlaces 88 = .ok (.iconst 1, 1) := by decide +kernel
theorem dX10_readPlaces_89 : decode cX10_readPlaces 89 = .ok (.if_icmp .ne 81, 3) := by decide +kernel
theorem dX10_readPlaces_92 : decode cX10_readPlaces 92 = .ok (.aload_n 0, 1) := by decide +kernel
theorem dX10_readPlaces_93 : decode cX10_readPlaces 93 = .ok (.getfield 100, 3) := by decide +kernel
theorem dX10_readPlaces_96 : decode cX10_readPlaces 96 = .ok (.iconst 5, 1) := by decide +kernel
theorem dX10_readPlaces_97 : decode cX10_readPlaces 97 = .ok (.if_icmp .ne 73, 3) := by decide +kernel
theorem dX10_readPlaces_100 : decode cX10_readPlaces 100 = .ok (.iload_n 1, 1) := by decide +kernel
theorem dX10_readPlaces_101 : decode cX10_readPlaces 101 = .ok (.iconst 1, 1) := by decide +kernel
theorem dX10_readPlaces_102 : decode cX10_readPlaces 102 = .ok (.iand, 1) := by decide +kernel
theorem dX10_readPlaces_103 : decode cX10_readPlaces 103 = .ok (.ifCond .ne 67, 3) := by decide +kernel
theorem dX10_readPlaces_106 : decode cX10_readPlaces 106 = .ok (.iload_n 1, 1) := by decide +kernel
theorem dX10_readPlaces_107 : decode cX10_readPlaces 107 = .ok (.bipush 8, 2) := by decide +kernel
theorem dX10_readPlaces_109 : decode cX10_readPlaces 109 = .ok (.iand, 1) := by decide +kernel
theorem dX10_readPlaces_110 : decode cX10_readPlaces 110 = .ok (.ifCond .eq 60, 3) := by decide +kernel
theorem dX10_readPlaces_113 : decode cX10_readPlaces 113 = .ok (.aload_n 0, 1) := by decide +kernel
theorem dX10_readPlaces_114 : decode cX10_readPlaces 114 = .ok (.iconst 1, 1) := by decide +kernel
theorem dX10_readPlaces_115 : decode cX10_readPlaces 115 = .ok (.invokevirtual 103, 3) := by decide +kernel
theorem dX10_readPlaces_118 : decode cX10_readPlaces 118 = .ok (.l2i, 1) := by decide +kernel
theorem dX10_readPlaces_119 : decode cX10_readPlaces 119 = .ok (.ineg, 1) := by decide +kernel
theorem dX10_readPlaces_120 : decode cX10_readPlaces 120 = .ok (.istore_n 3, 1) := by decide +kernel
theorem dX10_readPlaces_121 : decode cX10_readPlaces 121 = .ok (.aload_n 0, 1) := by decide +kernel
theorem dX10_readPlaces_122 : decode cX10_readPlaces 122 = .ok (.aload_n 0, 1) := by decide +kernel
theorem dX10_readPlaces_123 : decode cX10_readPlaces 123 = .ok (.getfield 84, 3) := by decide +kernel
theorem dX10_readPlaces_126 : decode cX10_readPlaces 126 = .ok (.ifCond .ne 22, 3) := by decide +kernel
theorem dX10_readPlaces_129 : decode cX10_readPlaces 129 = .ok (.iload_n 3, 1) := by decide +kernel
theorem dX10_readPlaces_130 : decode cX10_readPlaces 130 = .ok (.bipush 8, 2) := by decide +kernel
theorem dX10_readPlaces_132 : decode cX10_readPlaces 132 = .ok (.if_icmp .lt 16, 3) := by decide +kernel
theorem dX10_readPlaces_135 : decode cX10_readPlaces 135 = .ok (.iload_n 3, 1) := by decide +kernel
theorem dX10_readPlaces_136 : decode cX10_readPlaces 136 = .ok (.bipush 64, 2) := by decide +kernel
theorem dX10_readPlaces_138 : decode cX10_readPlaces 138 = .ok (.if_icmp .gt 10, 3) := by decide +kernel
theorem dX10_readPlaces_141 : decode cX10_readPlaces 141 = .ok (.iload_n 3, 1) := by decide +kernel
theorem dX10_readPlaces_142 : decode cX10_readPlaces 142 = .ok (.bipush 8, 2) := by decide +kernel
theorem dX10_readPlaces_144 : decode cX10_readPlaces 144 = .ok (.irem, 1) := by decide +kernel
theorem dX10_readPlaces_145 : decode cX10_readPlaces 145 = .ok (.ifCond .eq 7, 3) := by decide +kernel
theorem dX10_readPlaces_148 : decode cX10_readPlaces 148 = .ok (.iconst 1, 1) := by decide +kernel
theorem dX10_readPlaces_149 : decode cX10_readPlaces 149 = .ok (.goto 4, 3) := by decide +kernel
theorem dX10_readPlaces_152 : decode cX10_readPlaces 152 = .ok (.iconst 0, 1) := by decide +kernel
theorem dX10_readPlaces_153 : decode cX10_readPlaces 153 = .ok (.putfield 84, 3) := by decide +kernel
theorem dX10_readPlaces_156 : decode cX10_readPlaces 156 = .ok (.aload_n 0, 1) := by decide +kernel
theorem dX10_readPlaces_157 : decode cX10_readPlaces 157 = .ok (.bipush 15, 2) := by decide +kernel
theorem dX10_readPlaces_159 : decode cX10_readPlaces 159 = .ok (.iload_n 3, 1) := by decide +kernel
theorem dX10_readPlaces_160 : decode cX10_readPlaces 160 = .ok (.bipush 8, 2) := by decide +kernel
theorem dX10_readPlaces_162 : decode cX10_readPlaces 162 = .ok (.idiv, 1) := by decide +kernel
theorem dX10_readPlaces_163 : decode cX10_readPlaces 163 = .ok (.iadd, 1) := by decide +kernel
theorem dX10_readPlaces_164 : decode cX10_readPlaces 164 = .ok (.putfield 100, 3) := by decide +kernel
theorem dX10_readPlaces_167 : decode cX10_readPlaces 167 = .ok (.goto 8, 3) := by decide +kernel
theorem dX10_readPlaces_170 : decode cX10_readPlaces 170 = .ok (.aload_n 0, 1) := by decide +kernel
theorem dX10_readPlaces_171 : decode cX10_readPlaces 171 = .ok (.iconst 1, 1) := by decide +kernel
theorem dX10_readPlaces_172 : decode cX10_readPlaces 172 = .ok (.putfield 84, 3) := by decide +kernel
theorem dX10_readPlaces_175 : decode cX10_readPlaces 175 = .ok (.return_, 1) := by decide +kernel
theorem dX10_take_0 : decode cX10_take 0 = .ok (.aload_n 0, 1) := by decide +kernel
theorem dX10_take_1 : decode cX10_take 1 = .ok (.iload_n 1, 1) := by decide +kernel
theorem dX10_take_2 : decode cX10_take 2 = .ok (.putfield 107, 3) := by decide +kernel
theorem dX10_take_5 : decode cX10_take 5 = .ok (.aload_n 0, 1) := by decide +kernel
theorem dX10_take_6 : decode cX10_take 6 = .ok (.iload_n 2, 1) := by decide +kernel
theorem dX10_take_7 : decode cX10_take 7 = .ok (.putfield 110, 3) := by decide +kernel
theorem dX10_take_10 : decode cX10_take 10 = .ok (.aload_n 0, 1) := by decide +kernel
theorem dX10_take_11 : decode cX10_take 11 = .ok (.iload_n 3, 1) := by decide +kernel
theorem dX10_take_12 : decode cX10_take 12 = .ok (.putfield 113, 3) := by decide +kernel
theorem dX10_take_15 : decode cX10_take 15 = .ok (.return_, 1) := by decide +kernel
theorem dX10_isSimple_0 : decode cX10_isSimple 0 = .ok (.iload_n 0, 1) := by decide +kernel
theorem dX10_isSimple_1 : decode cX10_isSimple 1 = .ok (.iconst 2, 1) := by decide +kernel
theorem dX10_isSimple_2 : decode cX10_isSimple 2 = .ok (.if_icmp .eq 12, 3) := by decide +kernel
theorem dX10_isSimple_5 : decode cX10_isSimple 5 = .ok (.iload_n 0, 1) := by decide +kernel
theorem dX10_isSimple_6 : decode cX10_isSimple 6 = .ok (.iconst 3, 1) := by decide +kernel
theorem dX10_isSimple_7 : decode cX10_isSimple 7 = .ok (.if_icmp .eq 7, 3) := by decide +kernel
theorem dX10_isSimple_10 : decode cX10_isSimple 10 = .ok (.iconst 1, 1) := by decide +kernel
theorem dX10_isSimple_11 : decode cX10_isSimple 11 = .ok (.goto 4, 3) := by decide +kernel
theorem dX10_isSimple_14 : decode cX10_isSimple 14 = .ok (.iconst 0, 1) := by decide +kernel
theorem dX10_isSimple_15 : decode cX10_isSimple 15 = .ok (.ireturn, 1) := by decide +kernel
theorem dX10_read_0 : decode cX10_read 0 = .ok (.aload_n 0, 1) := by decide +kernel
theorem dX10_read_1 : decode cX10_read 1 = .ok (.iload_n 1, 1) := by decide +kernel
theorem dX10_read_2 : decode cX10_read 2 = .ok (.putfield 81, 3) := by decide +kernel
theorem dX10_read_5 : decode cX10_read 5 = .ok (.aload_n 0, 1) := by decide +kernel
theorem dX10_read_6 : decode cX10_read 6 = .ok (.iconst 0, 1) := by decide +kernel
theorem dX10_read_7 : decode cX10_read 7 = .ok (.putfield 84, 3) := by decide +kernel
theorem dX10_read_10 : decode cX10_read 10 = .ok (.aload_n 0, 1) := by decide +kernel
theorem dX10_read_11 : decode cX10_read 11 = .ok (.lconst 0, 1) := by decide +kernel
theorem dX10_read_12 : decode cX10_read 12 = .ok (.putfield 116, 3) := by decide +kernel
theorem dX10_read_15 : decode cX10_read 15 = .ok (.aload_n 0, 1) := by decide +kernel
theorem dX10_read_16 : decode cX10_read 16 = .ok (.iconst 0, 1) := by decide +kernel
theorem dX10_read_17 : decode cX10_read 17 = .ok (.putfield 120, 3) := by decide +kernel
theorem dX10_read_20 : decode cX10_read 20 = .ok (.aload_n 0, 1) := by decide +kernel
theorem dX10_read_21 : decode cX10_read 21 = .ok (.bipush 21, 2) := by decide +kernel
theorem dX10_read_23 : decode cX10_read 23 = .ok (.iconst (-1), 1) := by decide +kernel
theorem dX10_read_24 : decode cX10_read 24 = .ok (.iconst (-1), 1) := by decide +kernel
theorem dX10_read_25 : decode cX10_read 25 = .ok (.invokevirtual 123, 3) := by decide +kernel
theorem dX10_read_28 : decode cX10_read 28 = .ok (.aload_n 0, 1) := by decide +kernel
theorem dX10_read_29 : decode cX10_read 29 = .ok (.invokevirtual 87, 3) := by decide +kernel
theorem dX10_read_32 : decode cX10_read 32 = .ok (.istore_n 2, 1) := by decide +kernel
theorem dX10_read_33 : decode cX10_read 33 = .ok (.iconst 0, 1) := by decide +kernel
theorem dX10_read_34 : decode cX10_read 34 = .ok (.istore_n 3, 1) := by decide +kernel
theorem dX10_read_35 : decode cX10_read 35 = .ok (.iload_n 2, 1) := by decide +kernel
theorem dX10_read_36 : decode cX10_read 36 = .ok (.bipush 64, 2) := by decide +kernel
theorem dX10_read_38 : decode cX10_read 38 = .ok (.if_icmp .lt 38, 3) := by decide +kernel
theorem dX10_read_41 : decode cX10_read 41 = .ok (.iload_n 2, 1) := by decide +kernel
theorem dX10_read_42 : decode cX10_read 42 = .ok (.bipush 80, 2) := by decide +kernel
theorem dX10_read_44 : decode cX10_read 44 = .ok (.if_icmp .ge 32, 3) := by decide +kernel
theorem dX10_read_47 : decode cX10_read 47 = .ok (.iload_n 2, 1) := by decide +kernel
theorem dX10_read_48 : decode cX10_read 48 = .ok (.istore_n 3, 1) := by decide +kernel
theorem dX10_read_49 : decode cX10_read 49 = .ok (.aload_n 0, 1) := by decide +kernel
theorem dX10_read_50 : decode cX10_read 50 = .ok (.aload_n 0, 1) := by decide +kernel
theorem dX10_read_51 : decode cX10_read 51 = .ok (.getfield 84, 3) := by decide +kernel
theorem dX10_read_54 : decode cX10_read 54 = .ok (.ifCond .ne 9, 3) := by decide +kernel
theorem dX10_read_57 : decode cX10_read 57 = .ok (.iload_n 2, 1) := by decide +kernel
theorem dX10_read_58 : decode cX10_read 58 = .ok (.iconst 2, 1) := by decide +kernel
theorem dX10_read_59 : decode cX10_read 59 = .ok (.iand, 1) := by decide +kernel
theorem dX10_read_60 : decode cX10_read 60 = .ok (.ifCond .eq 7, 3) := by decide +kernel
theorem dX10_read_63 : decode cX10_read 63 = .ok (.iconst 1, 1) := by decide +kernel
theorem dX10_read_64 : decode cX10_read 64 = .ok (.goto 4, 3) := by decide +kernel
theorem dX10_read_67 : decode cX10_read 67 = .ok (.iconst 0, 1) := by decide +kernel
theorem dX10_read_68 : decode cX10_read 68 = .ok (.putfield 84, 3) := by decide +kernel
theorem dX10_read_71 : decode cX10_read 71 = .ok (.aload_n 0, 1) := by decide +kernel
theorem dX10_read_72 : decode cX10_read 72 = .ok (.invokevirtual 87, 3) := by decide +kernel
theorem dX10_read_75 : decode cX10_read 75 = .ok (.istore_n 2, 1) := by decide +kernel
theorem dX10_read_76 : decode cX10_read 76 = .ok (.aload_n 0, 1) := by decide +kernel
theorem dX10_read_77 : decode cX10_read 77 = .ok (.iload_n 3, 1) := by decide +kernel
theorem dX10_read_78 : decode cX10_read 78 = .ok (.bipush 8, 2) := by decide +kernel
theorem dX10_read_80 : decode cX10_read 80 = .ok (.iand, 1) := by decide +kernel
theorem dX10_read_81 : decode cX10_read 81 = .ok (.ifCond .eq 8, 3) := by decide +kernel
theorem dX10_read_84 : decode cX10_read 84 = .ok (.bipush 64, 2) := by decide +kernel
theorem dX10_read_86 : decode cX10_read 86 = .ok (.goto 5, 3) := by decide +kernel
theorem dX10_read_89 : decode cX10_read 89 = .ok (.bipush 32, 2) := by decide +kernel
theorem dX10_read_91 : decode cX10_read 91 = .ok (.putfield 127, 3) := by decide +kernel
theorem dX10_read_94 : decode cX10_read 94 = .ok (.aload_n 0, 1) := by decide +kernel
theorem dX10_read_95 : decode cX10_read 95 = .ok (.getfield 84, 3) := by decide +kernel
theorem dX10_read_98 : decode cX10_read 98 = .ok (.ifCond .ne 9, 3) := by decide +kernel
theorem dX10_read_101 : decode cX10_read 101 = .ok (.aload_n 0, 1) := by decide +kernel
theorem dX10_read_102 : decode cX10_read 102 = .ok (.iload_n 2, 1) := by decide +kernel
theorem dX10_read_103 : decode cX10_read 103 = .ok (.iload_n 3, 1) := by decide +kernel
theorem dX10_read_104 : decode cX10_read 104 = .ok (.invokevirtual 130, 3) := by decide +kernel
theorem dX10_read_107 : decode cX10_read 107 = .ok (.aload_n 0, 1) := by decide +kernel
theorem dX10_read_108 : decode cX10_read 108 = .ok (.getfield 107, 3) := by decide +kernel
theorem dX10_read_111 : decode cX10_read 111 = .ok (.bipush 7, 2) := by decide +kernel
theorem dX10_read_113 : decode cX10_read 113 = .ok (.if_icmp .eq 25, 3) := by decide +kernel
theorem dX10_read_116 : decode cX10_read 116 = .ok (.aload_n 0, 1) := by decide +kernel
theorem dX10_read_117 : decode cX10_read 117 = .ok (.getfield 107, 3) := by decide +kernel
theorem dX10_read_120 : decode cX10_read 120 = .ok (.bipush 8, 2) := by decide +kernel
theorem dX10_read_122 : decode cX10_read 122 = .ok (.if_icmp .eq 16, 3) := by decide +kernel
theorem dX10_read_125 : decode cX10_read 125 = .ok (.aload_n 0, 1) := by decide +kernel
theorem dX10_read_126 : decode cX10_read 126 = .ok (.getfield 107, 3) := by decide +kernel
theorem dX10_read_129 : decode cX10_read 129 = .ok (.bipush 19, 2) := by decide +kernel
theorem dX10_read_131 : decode cX10_read 131 = .ok (.if_icmp .ge 7, 3) := by decide +kernel
theorem dX10_read_134 : decode cX10_read 134 = .ok (.iconst 1, 1) := by decide +kernel
theorem dX10_read_135 : decode cX10_read 135 = .ok (.goto 4, 3) := by decide +kernel
theorem dX10_read_138 : decode cX10_read 138 = .ok (.iconst 0, 1) := by decide +kernel
theorem dX10_read_139 : decode cX10_read 139 = .ok (.istore 4, 2) := by decide +kernel
theorem dX10_read_141 : decode cX10_read 141 = .ok (.aload_n 0, 1) := by decide +kernel
theorem dX10_read_142 : decode cX10_read 142 = .ok (.aload_n 0, 1) := by decide +kernel
theorem dX10_read_143 : decode cX10_read 143 = .ok (.getfield 84, 3) := by decide +kernel
theorem dX10_read_146 : decode cX10_read 146 = .ok (.ifCond .ne 24, 3) := by decide +kernel
theorem dX10_read_149 : decode cX10_read 149 = .ok (.iload 4, 2) := by decide +kernel
theorem dX10_read_151 : decode cX10_read 151 = .ok (.ifCond .eq 23, 3) := by decide +kernel
theorem dX10_read_154 : decode cX10_read 154 = .ok (.aload_n 0, 1) := by decide +kernel
theorem dX10_read_155 : decode cX10_read 155 = .ok (.getfield 110, 3) := by decide +kernel
theorem dX10_read_158 : decode cX10_read 158 = .ok (.iconst 4, 1) := by decide +kernel
theorem dX10_read_159 : decode cX10_read 159 = .ok (.if_icmp .eq 11, 3) := by decide +kernel
theorem dX10_read_162 : decode cX10_read 162 = .ok (.aload_n 0, 1) := by decide +kernel
theorem dX10_read_163 : decode cX10_read 163 = .ok (.getfield 110, 3) := by decide +kernel
theorem dX10_read_166 : decode cX10_read 166 = .ok (.iconst 5, 1) := by decide +kernel
theorem dX10_read_167 : decode cX10_read 167 = .ok (.if_icmp .ne 7, 3) := by decide +kernel
theorem dX10_read_170 : decode cX10_read 170 = .ok (.iconst 1, 1) := by decide +kernel
theorem dX10_read_171 : decode cX10_read 171 = .ok (.goto 4, 3) := by decide +kernel
theorem dX10_read_174 : decode cX10_read 174 = .ok (.iconst 0, 1) := by decide +kernel
theorem dX10_read_175 : decode cX10_read 175 = .ok (.putfield 84, 3) := by decide +kernel
theorem dX10_read_178 : decode cX10_read 178 = .ok (.aload_n 0, 1) := by decide +kernel
theorem dX10_read_179 : decode cX10_read 179 = .ok (.aload_n 0, 1) := by decide +kernel
theorem dX10_read_180 : decode cX10_read 180 = .ok (.getfield 81, 3) := by decide +kernel
theorem dX10_read_183 : decode cX10_read 183 = .ok (.iload_n 1, 1) := by decide +kernel
theorem dX10_read_184 : decode cX10_read 184 = .ok (.isub, 1) := by decide +kernel
theorem dX10_read_185 : decode cX10_read 185 = .ok (.putfield 134, 3) := by decide +kernel
theorem dX10_read_188 : decode cX10_read 188 = .ok (.aload_n 0, 1) := by decide +kernel
theorem dX10_read_189 : decode cX10_read 189 = .ok (.getfield 107, 3) := by decide +kernel
theorem dX10_read_192 : decode cX10_read 192 = .ok (.bipush 19, 2) := by decide +kernel
theorem dX10_read_194 : decode cX10_read 194 = .ok (.if_icmp .lt 8, 3) := by decide +kernel
theorem dX10_read_197 : decode cX10_read 197 = .ok (.aload_n 0, 1) := by decide +kernel
theorem dX10_read_198 : decode cX10_read 198 = .ok (.iconst 0, 1) := by decide +kernel
theorem dX10_read_199 : decode cX10_read 199 = .ok (.putfield 127, 3) := by decide +kernel
theorem dX10_read_202 : decode cX10_read 202 = .ok (.aload_n 0, 1) := by decide +kernel
theorem dX10_read_203 : decode cX10_read 203 = .ok (.getfield 84, 3) := by decide +kernel
theorem dX10_read_206 : decode cX10_read 206 = .ok (.ifCond .ne 7, 3) := by decide +kernel
theorem dX10_read_209 : decode cX10_read 209 = .ok (.iconst 1, 1) := by decide +kernel
theorem dX10_read_210 : decode cX10_read 210 = .ok (.goto 4, 3) := by decide +kernel
theorem dX10_read_213 : decode cX10_read 213 = .ok (.iconst 0, 1) := by decide +kernel
theorem dX10_read_214 : decode cX10_read 214 = .ok (.ireturn, 1) := by decide +kernel
theorem dX10_readRest_0 : decode cX10_readRest 0 = .ok (.iload_n 1, 1) := by decide +kernel
theorem dX10_readRest_1 : decode cX10_readRest 1 = .ok (.bipush 64, 2) := by decide +kernel
theorem dX10_readRest_3 : decode cX10_readRest 3 = .ok (.if_icmp .ge 99, 3) := by decide +kernel
theorem dX10_readRest_6 : decode cX10_readRest 6 = .ok (.iload_n 1, 1) := by decide +kernel
theorem dX10_readRest_7 : decode cX10_readRest 7 = .ok (.bipush 8, 2) := by decide +kernel
theorem dX10_readRest_9 : decode cX10_readRest 9 = .ok (.irem, 1) := by decide +kernel
theorem dX10_readRest_10 : decode cX10_readRest 10 = .ok (.iconst 1, 1) := by decide +kernel
theorem dX10_readRest_11 : decode cX10_readRest 11 = .ok (.if_icmp .eq 11, 3) := by decide +kernel
theorem dX10_readRest_14 : decode cX10_readRest 14 = .ok (.iload_n 1, 1) := by decide +kernel
theorem dX10_readRest_15 : decode cX10_readRest 15 = .ok (.bipush 8, 2) := by decide +kernel
theorem dX10_readRest_17 : decode cX10_readRest 17 = .ok (.irem, 1) := by decide +kernel
theorem dX10_readRest_18 : decode cX10_readRest 18 = .ok (.iconst 3, 1) := by decide +kernel
theorem dX10_readRest_19 : decode cX10_readRest 19 = .ok (.if_icmp .ne 83, 3) := by decide +kernel
theorem dX10_readRest_22 : decode cX10_readRest 22 = .ok (.aload_n 0, 1) := by decide +kernel
theorem dX10_readRest_23 : decode cX10_readRest 23 = .ok (.iload_n 2, 1) := by decide +kernel
theorem dX10_readRest_24 : decode cX10_readRest 24 = .ok (.invokevirtual 137, 3) := by decide +kernel
theorem dX10_readRest_27 : decode cX10_readRest 27 = .ok (.aload_n 0, 1) := by decide +kernel
theorem dX10_readRest_28 : decode cX10_readRest 28 = .ok (.aload_n 0, 1) := by decide +kernel
theorem dX10_readRest_29 : decode cX10_readRest 29 = .ok (.getfield 84, 3) := by decide +kernel
theorem dX10_readRest_32 : decode cX10_readRest 32 = .ok (.ifCond .ne 13, 3) := by decide +kernel
theorem dX10_readRest_35 : decode cX10_readRest 35 = .ok (.iload_n 1, 1) := by decide +kernel
theorem dX10_readRest_36 : decode cX10_readRest 36 = .ok (.bipush 8, 2) := by decide +kernel
theorem dX10_readRest_38 : decode cX10_readRest 38 = .ok (.idiv, 1) := by decide +kernel
theorem dX10_readRest_39 : decode cX10_readRest 39 = .ok (.invokestatic 141, 3) := by decide +kernel
theorem dX10_readRest_42 : decode cX10_readRest 42 = .ok (.ifCond .ne 7, 3) := by decide +kernel
theorem dX10_readRest_45 : decode cX10_readRest 45 = .ok (.iconst 1, 1) := by decide +kernel
theorem dX10_readRest_46 : decode cX10_readRest 46 = .ok (.goto 4, 3) := by decide +kernel
theorem dX10_readRest_49 : decode cX10_readRest 49 = .ok (.iconst 0, 1) := by decide +kernel
theorem dX10_readRest_50 : decode cX10_readRest 50 = .ok (.putfield 84, 3) := by decide +kernel
theorem dX10_readRest_53 : decode cX10_readRest 53 = .ok (.aload_n 0, 1) := by decide +kernel
theorem dX10_readRest_54 : decode cX10_readRest 54 = .ok (.iload_n 1, 1) := by decide +kernel
theorem dX10_readRest_55 : decode cX10_readRest 55 = .ok (.bipush 8, 2) := by decide +kernel
theorem dX10_readRest_57 : decode cX10_readRest 57 = .ok (.idiv, 1) := by decide +kernel
theorem dX10_readRest_58 : decode cX10_readRest 58 = .ok (.iload_n 1, 1) := by decide +kernel
theorem dX10_readRest_59 : decode cX10_readRest 59 = .ok (.bipush 8, 2) := by decide +kernel
theorem dX10_readRest_61 : decode cX10_readRest 61 = .ok (.irem, 1) := by decide +kernel
theorem dX10_readRest_62 : decode cX10_readRest 62 = .ok (.iconst 1, 1) := by decide +kernel
theorem dX10_readRest_63 : decode cX10_readRest 63 = .ok (.if_icmp .ne 10, 3) := by decide +kernel
theorem dX10_readRest_66 : decode cX10_readRest 66 = .ok (.aload_n 0, 1) := by decide +kernel
theorem dX10_readRest_67 : decode cX10_readRest 67 = .ok (.getfield 100, 3) := by decide +kernel
theorem dX10_readRest_70 : decode cX10_readRest 70 = .ok (.goto 7, 3) := by decide +kernel
theorem dX10_readRest_73 : decode cX10_readRest 73 = .ok (.aload_n 0, 1) := by decide +kernel
theorem dX10_readRest_74 : decode cX10_readRest 74 = .ok (.getfield 97, 3) := by decide +kernel
theorem dX10_readRest_77 : decode cX10_readRest 77 = .ok (.iload_n 1, 1) := by decide +kernel
theorem dX10_readRest_78 : decode cX10_readRest 78 = .ok (.bipush 8, 2) := by decide +kernel
theorem dX10_readRest_80 : decode cX10_readRest 80 = .ok (.irem, 1) := by decide +kernel
theorem dX10_readRest_81 : decode cX10_readRest 81 = .ok (.iconst 1, 1) := by decide +kernel
theorem dX10_readRest_82 : decode cX10_readRest 82 = .ok (.if_icmp .ne 10, 3) := by decide +kernel
theorem dX10_readRest_85 : decode cX10_readRest 85 = .ok (.aload_n 0, 1) := by decide +kernel
theorem dX10_readRest_86 : decode cX10_readRest 86 = .ok (.getfield 97, 3) := by decide +kernel
theorem dX10_readRest_89 : decode cX10_readRest 89 = .ok (.goto 7, 3) := by decide +kernel
theorem dX10_readRest_92 : decode cX10_readRest 92 = .ok (.aload_n 0, 1) := by decide +kernel
theorem dX10_readRest_93 : decode cX10_readRest 93 = .ok (.getfield 100, 3) := by decide +kernel
theorem dX10_readRest_96 : decode cX10_readRest 96 = .ok (.invokevirtual 123, 3) := by decide +kernel
theorem dX10_readRest_99 : decode cX10_readRest 99 = .ok (.goto 667, 3) := by decide +kernel
theorem dX10_readRest_102 : decode cX10_readRest 102 = .ok (.iload_n 1, 1) := by decide +kernel
theorem dX10_readRest_103 : decode cX10_readRest 103 = .ok (.sipush 129, 3) := by decide +kernel
theorem dX10_readRest_106 : decode cX10_readRest 106 = .ok (.if_icmp .eq 10, 3) := by decide +kernel
theorem dX10_readRest_109 : decode cX10_readRest 109 = .ok (.iload_n 1, 1) := by decide +kernel
theorem dX10_readRest_110 : decode cX10_readRest 110 = .ok (.sipush 131, 3) := by decide +kernel
theorem dX10_readRest_113 : decode cX10_readRest 113 = .ok (.if_icmp .ne 70, 3) := by decide +kernel
theorem dX10_readRest_116 : decode cX10_readRest 116 = .ok (.aload_n 0, 1) := by decide +kernel
theorem dX10_readRest_117 : decode cX10_readRest 117 = .ok (.iload_n 2, 1) := by decide +kernel
theorem dX10_readRest_118 : decode cX10_readRest 118 = .ok (.invokevirtual 137, 3) := by decide +kernel
theorem dX10_readRest_121 : decode cX10_readRest 121 = .ok (.aload_n 0, 1) := by decide +kernel
theorem dX10_readRest_122 : decode cX10_readRest 122 = .ok (.aload_n 0, 1) := by decide +kernel
theorem dX10_readRest_123 : decode cX10_readRest 123 = .ok (.getfield 84, 3) := by decide +kernel
theorem dX10_readRest_126 : decode cX10_readRest 126 = .ok (.ifCond .ne 13, 3) := by decide +kernel
theorem dX10_readRest_129 : decode cX10_readRest 129 = .ok (.aload_n 0, 1) := by decide +kernel
theorem dX10_readRest_130 : decode cX10_readRest 130 = .ok (.getfield 94, 3) := by decide +kernel
theorem dX10_readRest_133 : decode cX10_readRest 133 = .ok (.invokestatic 141, 3) := by decide +kernel
theorem dX10_readRest_136 : decode cX10_readRest 136 = .ok (.ifCond .ne 7, 3) := by decide +kernel
theorem dX10_readRest_139 : decode cX10_readRest 139 = .ok (.iconst 1, 1) := by decide +kernel
theorem dX10_readRest_140 : decode cX10_readRest 140 = .ok (.goto 4, 3) := by decide +kernel
theorem dX10_readRest_143 : decode cX10_readRest 143 = .ok (.iconst 0, 1) := by decide +kernel
theorem dX10_readRest_144 : decode cX10_readRest 144 = .ok (.putfield 84, 3) := by decide +kernel
theorem dX10_readRest_147 : decode cX10_readRest 147 = .ok (.aload_n 0, 1) := by decide +kernel
theorem dX10_readRest_148 : decode cX10_readRest 148 = .ok (.aload_n 0, 1) := by decide +kernel
theorem dX10_readRest_149 : decode cX10_readRest 149 = .ok (.getfield 94, 3) := by decide +kernel
theorem dX10_readRest_152 : decode cX10_readRest 152 = .ok (.aload_n 0, 1) := by decide +kernel
theorem dX10_readRest_153 : decode cX10_readRest 153 = .ok (.getfield 100, 3) := by decide +kernel
theorem dX10_readRest_156 : decode cX10_readRest 156 = .ok (.iconst (-1), 1) := by decide +kernel
theorem dX10_readRest_157 : decode cX10_readRest 157 = .ok (.invokevirtual 123, 3) := by decide +kernel
theorem dX10_readRest_160 : decode cX10_readRest 160 = .ok (.aload_n 0, 1) := by decide +kernel
theorem dX10_readRest_161 : decode cX10_readRest 161 = .ok (.aload_n 0, 1) := by decide +kernel
theorem dX10_readRest_162 : decode cX10_readRest 162 = .ok (.iload_n 1, 1) := by decide +kernel
theorem dX10_readRest_163 : decode cX10_readRest 163 = .ok (.sipush 129, 3) := by decide +kernel
theorem dX10_readRest_166 : decode cX10_readRest 166 = .ok (.if_icmp .ne 7, 3) := by decide +kernel
theorem dX10_readRest_169 : decode cX10_readRest 169 = .ok (.iconst 4, 1) := by decide +kernel
theorem dX10_readRest_170 : decode cX10_readRest 170 = .ok (.goto 4, 3) := by decide +kernel
theorem dX10_readRest_173 : decode cX10_readRest 173 = .ok (.iconst 1, 1) := by decide +kernel
theorem dX10_readRest_174 : decode cX10_readRest 174 = .ok (.invokevirtual 103, 3) := by decide +kernel
theorem dX10_readRest_177 : decode cX10_readRest 177 = .ok (.putfield 116, 3) := by decide +kernel
theorem dX10_readRest_180 : decode cX10_readRest 180 = .ok (.goto 586, 3) := by decide +kernel
theorem dX10_readRest_183 : decode cX10_readRest 183 = .ok (.iload_n 1, 1) := by decide +kernel
theorem dX10_readRest_184 : decode cX10_readRest 184 = .ok (.sipush 133, 3) := by decide +kernel
theorem dX10_readRest_187 : decode cX10_readRest 187 = .ok (.if_icmp .ne 25, 3) := by decide +kernel
theorem dX10_readRest_190 : decode cX10_readRest 190 = .ok (.aload_n 0, 1) := by decide +kernel
theorem dX10_readRest_191 : decode cX10_readRest 191 = .ok (.iload_n 2, 1) := by decide +kernel
theorem dX10_readRest_192 : decode cX10_readRest 192 = .ok (.invokevirtual 137, 3) := by decide +kernel
theorem dX10_readRest_195 : decode cX10_readRest 195 = .ok (.aload_n 0, 1) := by decide +kernel
theorem dX10_readRest_196 : decode cX10_readRest 196 = .ok (.bipush 8, 2) := by decide +kernel
theorem dX10_readRest_198 : decode cX10_readRest 198 = .ok (.aload_n 0, 1) := by decide +kernel
theorem dX10_readRest_199 : decode cX10_readRest 199 = .ok (.getfield 100, 3) := by decide +kernel
theorem dX10_readRest_202 : decode cX10_readRest 202 = .ok (.aload_n 0, 1) := by decide +kernel
theorem dX10_readRest_203 : decode cX10_readRest 203 = .ok (.getfield 97, 3) := by decide +kernel
theorem dX10_readRest_206 : decode cX10_readRest 206 = .ok (.invokevirtual 123, 3) := by decide +kernel
theorem dX10_readRest_209 : decode cX10_readRest 209 = .ok (.goto 557, 3) := by decide +kernel
theorem dX10_readRest_212 : decode cX10_readRest 212 = .ok (.iload_n 1, 1) := by decide +kernel
theorem dX10_readRest_213 : decode cX10_readRest 213 = .ok (.sipush 247, 3) := by decide +kernel
theorem dX10_readRest_216 : decode cX10_readRest 216 = .ok (.if_icmp .ne 99, 3) := by decide +kernel
theorem dX10_readRest_219 : decode cX10_readRest 219 = .ok (.aload_n 0, 1) := by decide +kernel
theorem dX10_readRest_220 : decode cX10_readRest 220 = .ok (.iload_n 2, 1) := by decide +kernel
theorem dX10_readRest_221 : decode cX10_readRest 221 = .ok (.invokevirtual 137, 3) := by decide +kernel
theorem dX10_readRest_224 : decode cX10_readRest 224 = .ok (.aload_n 0, 1) := by decide +kernel
theorem dX10_readRest_225 : decode cX10_readRest 225 = .ok (.aload_n 0, 1) := by decide +kernel
theorem dX10_readRest_226 : decode cX10_readRest 226 = .ok (.getfield 84, 3) := by decide +kernel
theorem dX10_readRest_229 : decode cX10_readRest 229 = .ok (.ifCond .ne 19, 3) := by decide +kernel
theorem dX10_readRest_232 : decode cX10_readRest 232 = .ok (.aload_n 0, 1) := by decide +kernel
theorem dX10_readRest_233 : decode cX10_readRest 233 = .ok (.getfield 94, 3) := by decide +kernel
theorem dX10_readRest_236 : decode cX10_readRest 236 = .ok (.iconst 1, 1) := by decide +kernel
theorem dX10_readRest_237 : decode cX10_readRest 237 = .ok (.if_icmp .eq 11, 3) := by decide +kernel
theorem dX10_readRest_240 : decode cX10_readRest 240 = .ok (.aload_n 0, 1) := by decide +kernel
theorem dX10_readRest_241 : decode cX10_readRest 241 = .ok (.getfield 94, 3) := by decide +kernel
theorem dX10_readRest_244 : decode cX10_readRest 244 = .ok (.iconst 3, 1) := by decide +kernel
theorem dX10_readRest_245 : decode cX10_readRest 245 = .ok (.if_icmp .le 7, 3) := by decide +kernel
theorem dX10_readRest_248 : decode cX10_readRest 248 = .ok (.iconst 1, 1) := by decide +kernel
theorem dX10_readRest_249 : decode cX10_readRest 249 = .ok (.goto 4, 3) := by decide +kernel
theorem dX10_readRest_252 : decode cX10_readRest 252 = .ok (.iconst 0, 1) := by decide +kernel
theorem dX10_readRest_253 : decode cX10_readRest 253 = .ok (.putfield 84, 3) := by decide +kernel
theorem dX10_readRest_256 : decode cX10_readRest 256 = .ok (.aload_n 0, 1) := by decide +kernel
theorem dX10_readRest_257 : decode cX10_readRest 257 = .ok (.aload_n 0, 1) := by decide +kernel
theorem dX10_readRest_258 : decode cX10_readRest 258 = .ok (.getfield 94, 3) := by decide +kernel
theorem dX10_readRest_261 : decode cX10_readRest 261 = .ok (.ifCond .ne 8, 3) := by decide +kernel
theorem dX10_readRest_264 : decode cX10_readRest 264 = .ok (.bipush 8, 2) := by decide +kernel
theorem dX10_readRest_266 : decode cX10_readRest 266 = .ok (.goto 18, 3) := by decide +kernel
theorem dX10_readRest_269 : decode cX10_readRest 269 = .ok (.aload_n 0, 1) := by decide +kernel
theorem dX10_readRest_270 : decode cX10_readRest 270 = .ok (.getfield 94, 3) := by decide +kernel
theorem dX10_readRest_273 : decode cX10_readRest 273 = .ok (.iconst 2, 1) := by decide +kernel
theorem dX10_readRest_274 : decode cX10_readRest 274 = .ok (.if_icmp .ne 8, 3) := by decide +kernel
theorem dX10_readRest_277 : decode cX10_readRest 277 = .ok (.bipush 9, 2) := by decide +kernel
theorem dX10_readRest_279 : decode cX10_readRest 279 = .ok (.goto 5, 3) := by decide +kernel
theorem dX10_readRest_282 : decode cX10_readRest 282 = .ok (.bipush 10, 2) := by decide +kernel
theorem dX10_readRest_284 : decode cX10_readRest 284 = .ok (.aload_n 0, 1) := by decide +kernel
theorem dX10_readRest_285 : decode cX10_readRest 285 = .ok (.getfield 100, 3) := by decide +kernel
theorem dX10_readRest_288 : decode cX10_readRest 288 = .ok (.iconst (-1), 1) := by decide +kernel
theorem dX10_readRest_289 : decode cX10_readRest 289 = .ok (.invokevirtual 123, 3) := by decide +kernel
theorem dX10_readRest_292 : decode cX10_readRest 292 = .ok (.aload_n 0, 1) := by decide +kernel
theorem dX10_readRest_293 : decode cX10_readRest 293 = .ok (.aload_n 0, 1) := by decide +kernel
theorem dX10_readRest_294 : decode cX10_readRest 294 = .ok (.getfield 94, 3) := by decide +kernel
theorem dX10_readRest_297 : decode cX10_readRest 297 = .ok (.ifCond .ne 11, 3) := by decide +kernel
theorem dX10_readRest_300 : decode cX10_readRest 300 = .ok (.aload_n 0, 1) := by decide +kernel
theorem dX10_readRest_301 : decode cX10_readRest 301 = .ok (.iconst 4, 1) := by decide +kernel
theorem dX10_readRest_302 : decode cX10_readRest 302 = .ok (.invokevirtual 103, 3) := by decide +kernel
theorem dX10_readRest_305 : decode cX10_readRest 305 = .ok (.goto 4, 3) := by decide +kernel
theorem dX10_readRest_308 : decode cX10_readRest 308 = .ok (.lconst 0, 1) := by decide +kernel
theorem dX10_readRest_309 : decode cX10_readRest 309 = .ok (.putfield 116, 3) := by decide +kernel
theorem dX10_readRest_312 : decode cX10_readRest 312 = .ok (.goto 454, 3) := by decide +kernel
theorem dX10_readRest_315 : decode cX10_readRest 315 = .ok (.iload_n 1, 1) := by decide +kernel
theorem dX10_readRest_316 : decode cX10_readRest 316 = .ok (.sipush 255, 3) := by decide +kernel
theorem dX10_readRest_319 : decode cX10_readRest 319 = .ok (.if_icmp .ne 58, 3) := by decide +kernel
theorem dX10_readRest_322 : decode cX10_readRest 322 = .ok (.aload_n 0, 1) := by decide +kernel
theorem dX10_readRest_323 : decode cX10_readRest 323 = .ok (.iload_n 2, 1) := by decide +kernel
theorem dX10_readRest_324 : decode cX10_readRest 324 = .ok (.invokevirtual 137, 3) := by decide +kernel
theorem dX10_readRest_327 : decode cX10_readRest 327 = .ok (.aload_n 0, 1) := by decide +kernel
theorem dX10_readRest_328 : decode cX10_readRest 328 = .ok (.aload_n 0, 1) := by decide +kernel
theorem dX10_readRest_329 : decode cX10_readRest 329 = .ok (.getfield 84, 3) := by decide +kernel
theorem dX10_readRest_332 : decode cX10_readRest 332 = .ok (.ifCond .ne 11, 3) := by decide +kernel
theorem dX10_readRest_335 : decode cX10_readRest 335 = .ok (.aload_n 0, 1) := by decide +kernel
theorem dX10_readRest_336 : decode cX10_readRest 336 = .ok (.getfield 94, 3) := by decide +kernel
theorem dX10_readRest_339 : decode cX10_readRest 339 = .ok (.iconst 1, 1) := by decide +kernel
theorem dX10_readRest_340 : decode cX10_readRest 340 = .ok (.if_icmp .le 7, 3) := by decide +kernel
theorem dX10_readRest_343 : decode cX10_readRest 343 = .ok (.iconst 1, 1) := by decide +kernel
theorem dX10_readRest_344 : decode cX10_readRest 344 = .ok (.goto 4, 3) := by decide +kernel
theorem dX10_readRest_347 : decode cX10_readRest 347 = .ok (.iconst 0, 1) := by decide +kernel
theorem dX10_readRest_348 : decode cX10_readRest 348 = .ok (.putfield 84, 3) := by decide +kernel
theorem dX10_readRest_351 : decode cX10_readRest 351 = .ok (.aload_n 0, 1) := by decide +kernel
theorem dX10_readRest_352 : decode cX10_readRest 352 = .ok (.aload_n 0, 1) := by decide +kernel
theorem dX10_readRest_353 : decode cX10_readRest 353 = .ok (.getfield 94, 3) := by decide +kernel
theorem dX10_readRest_356 : decode cX10_readRest 356 = .ok (.ifCond .ne 8, 3) := by decide +kernel
theorem dX10_readRest_359 : decode cX10_readRest 359 = .ok (.bipush 11, 2) := by decide +kernel
theorem dX10_readRest_361 : decode cX10_readRest 361 = .ok (.goto 5, 3) := by decide +kernel
theorem dX10_readRest_364 : decode cX10_readRest 364 = .ok (.bipush 12, 2) := by decide +kernel
theorem dX10_readRest_366 : decode cX10_readRest 366 = .ok (.aload_n 0, 1) := by decide +kernel
theorem dX10_readRest_367 : decode cX10_readRest 367 = .ok (.getfield 100, 3) := by decide +kernel
theorem dX10_readRest_370 : decode cX10_readRest 370 = .ok (.iconst (-1), 1) := by decide +kernel
theorem dX10_readRest_371 : decode cX10_readRest 371 = .ok (.invokevirtual 123, 3) := by decide +kernel
theorem dX10_readRest_374 : decode cX10_readRest 374 = .ok (.goto 392, 3) := by decide +kernel
theorem dX10_readRest_377 : decode cX10_readRest 377 = .ok (.iload_n 1, 1) := by decide +kernel
theorem dX10_readRest_378 : decode cX10_readRest 378 = .ok (.sipush 137, 3) := by decide +kernel
theorem dX10_readRest_381 : decode cX10_readRest 381 = .ok (.if_icmp .eq 10, 3) := by decide +kernel
theorem dX10_readRest_384 : decode cX10_readRest 384 = .ok (.iload_n 1, 1) := by decide +kernel
theorem dX10_readRest_385 : decode cX10_readRest 385 = .ok (.sipush 139, 3) := by decide +kernel
theorem dX10_readRest_388 : decode cX10_readRest 388 = .ok (.if_icmp .ne 53, 3) := by decide +kernel
theorem dX10_readRest_391 : decode cX10_readRest 391 = .ok (.aload_n 0, 1) := by decide +kernel
theorem dX10_readRest_392 : decode cX10_readRest 392 = .ok (.iload_n 2, 1) := by decide +kernel
theorem dX10_readRest_393 : decode cX10_readRest 393 = .ok (.invokevirtual 137, 3) := by decide +kernel
theorem dX10_readRest_396 : decode cX10_readRest 396 = .ok (.aload_n 0, 1) := by decide +kernel
theorem dX10_readRest_397 : decode cX10_readRest 397 = .ok (.bipush 13, 2) := by decide +kernel
theorem dX10_readRest_399 : decode cX10_readRest 399 = .ok (.iload_n 1, 1) := by decide +kernel
theorem dX10_readRest_400 : decode cX10_readRest 400 = .ok (.sipush 137, 3) := by decide +kernel
theorem dX10_readRest_403 : decode cX10_readRest 403 = .ok (.if_icmp .ne 10, 3) := by decide +kernel
theorem dX10_readRest_406 : decode cX10_readRest 406 = .ok (.aload_n 0, 1) := by decide +kernel
theorem dX10_readRest_407 : decode cX10_readRest 407 = .ok (.getfield 100, 3) := by decide +kernel
theorem dX10_readRest_410 : decode cX10_readRest 410 = .ok (.goto 7, 3) := by decide +kernel
theorem dX10_readRest_413 : decode cX10_readRest 413 = .ok (.aload_n 0, 1) := by decide +kernel
theorem dX10_readRest_414 : decode cX10_readRest 414 = .ok (.getfield 97, 3) := by decide +kernel
theorem dX10_readRest_417 : decode cX10_readRest 417 = .ok (.iload_n 1, 1) := by decide +kernel
theorem dX10_readRest_418 : decode cX10_readRest 418 = .ok (.sipush 137, 3) := by decide +kernel
theorem dX10_readRest_421 : decode cX10_readRest 421 = .ok (.if_icmp .ne 10, 3) := by decide +kernel
theorem dX10_readRest_424 : decode cX10_readRest 424 = .ok (.aload_n 0, 1) := by decide +kernel
theorem dX10_readRest_425 : decode cX10_readRest 425 = .ok (.getfield 97, 3) := by decide +kernel
theorem dX10_readRest_428 : decode cX10_readRest 428 = .ok (.goto 7, 3) := by decide +kernel
theorem dX10_readRest_431 : decode cX10_readRest 431 = .ok (.aload_n 0, 1) := by decide +kernel
theorem dX10_readRest_432 : decode cX10_readRest 432 = .ok (.getfield 100, 3) := by decide +kernel
theorem dX10_readRest_435 : decode cX10_readRest 435 = .ok (.invokevirtual 123, 3) := by decide +kernel
theorem dX10_readRest_438 : decode cX10_readRest 438 = .ok (.goto 328, 3) := by decide +kernel
theorem dX10_readRest_441 : decode cX10_readRest 441 = .ok (.iload_n 1, 1) := by decide +kernel
theorem dX10_readRest_442 : decode cX10_readRest 442 = .ok (.sipush 199, 3) := by decide +kernel
theorem dX10_readRest_445 : decode cX10_readRest 445 = .ok (.if_icmp .ne 54, 3) := by decide +kernel
theorem dX10_readRest_448 : decode cX10_readRest 448 = .ok (.aload_n 0, 1) := by decide +kernel
theorem dX10_readRest_449 : decode cX10_readRest 449 = .ok (.iload_n 2, 1) := by decide +kernel
theorem dX10_readRest_450 : decode cX10_readRest 450 = .ok (.invokevirtual 137, 3) := by decide +kernel
theorem dX10_readRest_453 : decode cX10_readRest 453 = .ok (.aload_n 0, 1) := by decide +kernel
theorem dX10_readRest_454 : decode cX10_readRest 454 = .ok (.aload_n 0, 1) := by decide +kernel
theorem dX10_readRest_455 : decode cX10_readRest 455 = .ok (.getfield 84, 3) := by decide +kernel
theorem dX10_readRest_458 : decode cX10_readRest 458 = .ok (.ifCond .ne 10, 3) := by decide +kernel
theorem dX10_readRest_461 : decode cX10_readRest 461 = .ok (.aload_n 0, 1) := by decide +kernel
theorem dX10_readRest_462 : decode cX10_readRest 462 = .ok (.getfield 94, 3) := by decide +kernel
theorem dX10_readRest_465 : decode cX10_readRest 465 = .ok (.ifCond .eq 7, 3) := by decide +kernel
theorem dX10_readRest_468 : decode cX10_readRest 468 = .ok (.iconst 1, 1) := by decide +kernel
theorem dX10_readRest_469 : decode cX10_readRest 469 = .ok (.goto 4, 3) := by decide +kernel
theorem dX10_readRest_472 : decode cX10_readRest 472 = .ok (.iconst 0, 1) := by decide +kernel
theorem dX10_readRest_473 : decode cX10_readRest 473 = .ok (.putfield 84, 3) := by decide +kernel
theorem dX10_readRest_476 : decode cX10_readRest 476 = .ok (.aload_n 0, 1) := by decide +kernel
theorem dX10_readRest_477 : decode cX10_readRest 477 = .ok (.bipush 13, 2) := by decide +kernel
theorem dX10_readRest_479 : decode cX10_readRest 479 = .ok (.aload_n 0, 1) := by decide +kernel
theorem dX10_readRest_480 : decode cX10_readRest 480 = .ok (.getfield 100, 3) := by decide +kernel
theorem dX10_readRest_483 : decode cX10_readRest 483 = .ok (.iconst (-1), 1) := by decide +kernel
theorem dX10_readRest_484 : decode cX10_readRest 484 = .ok (.invokevirtual 123, 3) := by decide +kernel
theorem dX10_readRest_487 : decode cX10_readRest 487 = .ok (.aload_n 0, 1) := by decide +kernel
theorem dX10_readRest_488 : decode cX10_readRest 488 = .ok (.aload_n 0, 1) := by decide +kernel
theorem dX10_readRest_489 : decode cX10_readRest 489 = .ok (.iconst 4, 1) := by decide +kernel
theorem dX10_readRest_490 : decode cX10_readRest 490 = .ok (.invokevirtual 103, 3) := by decide +kernel
theorem dX10_readRest_493 : decode cX10_readRest 493 = .ok (.putfield 116, 3) := by decide +kernel
theorem dX10_readRest_496 : decode cX10_readRest 496 = .ok (.goto 270, 3) := by decide +kernel
theorem dX10_readRest_499 : decode cX10_readRest 499 = .ok (.iload_n 1, 1) := by decide +kernel
theorem dX10_readRest_500 : decode cX10_readRest 500 = .ok (.sipush 184, 3) := by decide +kernel
theorem dX10_readRest_503 : decode cX10_readRest 503 = .ok (.if_icmp .lt 61, 3) := by decide +kernel
theorem dX10_readRest_506 : decode cX10_readRest 506 = .ok (.iload_n 1, 1) := by decide +kernel
theorem dX10_readRest_507 : decode cX10_readRest 507 = .ok (.sipush 192, 3) := by decide +kernel
theorem dX10_readRest_510 : decode cX10_readRest 510 = .ok (.if_icmp .ge 54, 3) := by decide +kernel
theorem dX10_readRest_513 : decode cX10_readRest 513 = .ok (.aload_n 0, 1) := by decide +kernel
theorem dX10_readRest_514 : decode cX10_readRest 514 = .ok (.bipush 13, 2) := by decide +kernel
theorem dX10_readRest_516 : decode cX10_readRest 516 = .ok (.iload_n 1, 1) := by decide +kernel
theorem dX10_readRest_517 : decode cX10_readRest 517 = .ok (.sipush 184, 3) := by decide +kernel
theorem dX10_readRest_520 : decode cX10_readRest 520 = .ok (.isub, 1) := by decide +kernel
theorem dX10_readRest_521 : decode cX10_readRest 521 = .ok (.iload_n 2, 1) := by decide +kernel
theorem dX10_readRest_522 : decode cX10_readRest 522 = .ok (.iconst 1, 1) := by decide +kernel
theorem dX10_readRest_523 : decode cX10_readRest 523 = .ok (.iand, 1) := by decide +kernel
theorem dX10_readRest_524 : decode cX10_readRest 524 = .ok (.ifCond .eq 8, 3) := by decide +kernel
theorem dX10_readRest_527 : decode cX10_readRest 527 = .ok (.bipush 8, 2) := by decide +kernel
theorem dX10_readRest_529 : decode cX10_readRest 529 = .ok (.goto 4, 3) := by decide +kernel
theorem dX10_readRest_532 : decode cX10_readRest 532 = .ok (.iconst 0, 1) := by decide +kernel
theorem dX10_readRest_533 : decode cX10_readRest 533 = .ok (.iadd, 1) := by decide +kernel
theorem dX10_readRest_534 : decode cX10_readRest 534 = .ok (.iconst (-1), 1) := by decide +kernel
theorem dX10_readRest_535 : decode cX10_readRest 535 = .ok (.invokevirtual 123, 3) := by decide +kernel
theorem dX10_readRest_538 : decode cX10_readRest 538 = .ok (.aload_n 0, 1) := by decide +kernel
theorem dX10_readRest_539 : decode cX10_readRest 539 = .ok (.aload_n 0, 1) := by decide +kernel
theorem dX10_readRest_540 : decode cX10_readRest 540 = .ok (.aload_n 0, 1) := by decide +kernel
theorem dX10_readRest_541 : decode cX10_readRest 541 = .ok (.getfield 127, 3) := by decide +kernel
theorem dX10_readRest_544 : decode cX10_readRest 544 = .ok (.bipush 64, 2) := by decide +kernel
theorem dX10_readRest_546 : decode cX10_readRest 546 = .ok (.if_icmp .ne 8, 3) := by decide +kernel
theorem dX10_readRest_549 : decode cX10_readRest 549 = .ok (.bipush 8, 2) := by decide +kernel
theorem dX10_readRest_551 : decode cX10_readRest 551 = .ok (.goto 4, 3) := by decide +kernel
theorem dX10_readRest_554 : decode cX10_readRest 554 = .ok (.iconst 4, 1) := by decide +kernel
theorem dX10_readRest_555 : decode cX10_readRest 555 = .ok (.invokevirtual 103, 3) := by decide +kernel
theorem dX10_readRest_558 : decode cX10_readRest 558 = .ok (.putfield 116, 3) := by decide +kernel
theorem dX10_readRest_561 : decode cX10_readRest 561 = .ok (.goto 205, 3) := by decide +kernel
theorem dX10_readRest_564 : decode cX10_readRest 564 = .ok (.iload_n 1, 1) := by decide +kernel
theorem dX10_readRest_565 : decode cX10_readRest 565 = .ok (.sipush 193, 3) := by decide +kernel
theorem dX10_readRest_568 : decode cX10_readRest 568 = .ok (.if_icmp .ne 114, 3) := by decide +kernel
theorem dX10_readRest_571 : decode cX10_readRest 571 = .ok (.aload_n 0, 1) := by decide +kernel
theorem dX10_readRest_572 : decode cX10_readRest 572 = .ok (.iload_n 2, 1) := by decide +kernel
theorem dX10_readRest_573 : decode cX10_readRest 573 = .ok (.invokevirtual 137, 3) := by decide +kernel
theorem dX10_readRest_576 : decode cX10_readRest 576 = .ok (.aload_n 0, 1) := by decide +kernel
theorem dX10_readRest_577 : decode cX10_readRest 577 = .ok (.aload_n 0, 1) := by decide +kernel
theorem dX10_readRest_578 : decode cX10_readRest 578 = .ok (.getfield 84, 3) := by decide +kernel
theorem dX10_readRest_581 : decode cX10_readRest 581 = .ok (.ifCond .ne 28, 3) := by decide +kernel
theorem dX10_readRest_584 : decode cX10_readRest 584 = .ok (.aload_n 0, 1) := by decide +kernel
theorem dX10_readRest_585 : decode cX10_readRest 585 = .ok (.getfield 94, 3) := by decide +kernel
theorem dX10_readRest_588 : decode cX10_readRest 588 = .ok (.iconst 4, 1) := by decide +kernel
theorem dX10_readRest_589 : decode cX10_readRest 589 = .ok (.if_icmp .eq 24, 3) := by decide +kernel
theorem dX10_readRest_592 : decode cX10_readRest 592 = .ok (.aload_n 0, 1) := by decide +kernel
theorem dX10_readRest_593 : decode cX10_readRest 593 = .ok (.getfield 94, 3) := by decide +kernel
theorem dX10_readRest_596 : decode cX10_readRest 596 = .ok (.iconst 5, 1) := by decide +kernel
theorem dX10_readRest_597 : decode cX10_readRest 597 = .ok (.if_icmp .eq 16, 3) := by decide +kernel
theorem dX10_readRest_600 : decode cX10_readRest 600 = .ok (.aload_n 0, 1) := by decide +kernel
theorem dX10_readRest_601 : decode cX10_readRest 601 = .ok (.getfield 94, 3) := by decide +kernel
theorem dX10_readRest_604 : decode cX10_readRest 604 = .ok (.bipush 7, 2) := by decide +kernel
theorem dX10_readRest_606 : decode cX10_readRest 606 = .ok (.if_icmp .eq 7, 3) := by decide +kernel
theorem dX10_readRest_609 : decode cX10_readRest 609 = .ok (.iconst 1, 1) := by decide +kernel
theorem dX10_readRest_610 : decode cX10_readRest 610 = .ok (.goto 4, 3) := by decide +kernel
theorem dX10_readRest_613 : decode cX10_readRest 613 = .ok (.iconst 0, 1) := by decide +kernel
theorem dX10_readRest_614 : decode cX10_readRest 614 = .ok (.putfield 84, 3) := by decide +kernel
theorem dX10_readRest_617 : decode cX10_readRest 617 = .ok (.aload_n 0, 1) := by decide +kernel
theorem dX10_readRest_618 : decode cX10_readRest 618 = .ok (.aload_n 0, 1) := by decide +kernel
theorem dX10_readRest_619 : decode cX10_readRest 619 = .ok (.getfield 94, 3) := by decide +kernel
theorem dX10_readRest_622 : decode cX10_readRest 622 = .ok (.iconst 4, 1) := by decide +kernel
theorem dX10_readRest_623 : decode cX10_readRest 623 = .ok (.if_icmp .ne 8, 3) := by decide +kernel
theorem dX10_readRest_626 : decode cX10_readRest 626 = .ok (.bipush 14, 2) := by decide +kernel
theorem dX10_readRest_628 : decode cX10_readRest 628 = .ok (.goto 18, 3) := by decide +kernel
theorem dX10_readRest_631 : decode cX10_readRest 631 = .ok (.aload_n 0, 1) := by decide +kernel
theorem dX10_readRest_632 : decode cX10_readRest 632 = .ok (.getfield 94, 3) := by decide +kernel
theorem dX10_readRest_635 : decode cX10_readRest 635 = .ok (.iconst 5, 1) := by decide +kernel
theorem dX10_readRest_636 : decode cX10_readRest 636 = .ok (.if_icmp .ne 8, 3) := by decide +kernel
theorem dX10_readRest_639 : decode cX10_readRest 639 = .ok (.bipush 15, 2) := by decide +kernel
theorem dX10_readRest_641 : decode cX10_readRest 641 = .ok (.goto 5, 3) := by decide +kernel
theorem dX10_readRest_644 : decode cX10_readRest 644 = .ok (.bipush 16, 2) := by decide +kernel
theorem dX10_readRest_646 : decode cX10_readRest 646 = .ok (.aload_n 0, 1) := by decide +kernel
theorem dX10_readRest_647 : decode cX10_readRest 647 = .ok (.getfield 100, 3) := by decide +kernel
theorem dX10_readRest_650 : decode cX10_readRest 650 = .ok (.iconst (-1), 1) := by decide +kernel
theorem dX10_readRest_651 : decode cX10_readRest 651 = .ok (.invokevirtual 123, 3) := by decide +kernel
theorem dX10_readRest_654 : decode cX10_readRest 654 = .ok (.aload_n 0, 1) := by decide +kernel
theorem dX10_readRest_655 : decode cX10_readRest 655 = .ok (.aload_n 0, 1) := by decide +kernel
theorem dX10_readRest_656 : decode cX10_readRest 656 = .ok (.invokevirtual 87, 3) := by decide +kernel
theorem dX10_readRest_659 : decode cX10_readRest 659 = .ok (.aload_n 0, 1) := by decide +kernel
theorem dX10_readRest_660 : decode cX10_readRest 660 = .ok (.getfield 127, 3) := by decide +kernel
theorem dX10_readRest_663 : decode cX10_readRest 663 = .ok (.bipush 64, 2) := by decide +kernel
theorem dX10_readRest_665 : decode cX10_readRest 665 = .ok (.if_icmp .ne 8, 3) := by decide +kernel
theorem dX10_readRest_668 : decode cX10_readRest 668 = .ok (.bipush 63, 2) := by decide +kernel
theorem dX10_readRest_670 : decode cX10_readRest 670 = .ok (.goto 5, 3) := by decide +kernel
theorem dX10_readRest_673 : decode cX10_readRest 673 = .ok (.bipush 31, 2) := by decide +kernel
theorem dX10_readRest_675 : decode cX10_readRest 675 = .ok (.iand, 1) := by decide +kernel
theorem dX10_readRest_676 : decode cX10_readRest 676 = .ok (.putfield 120, 3) := by decide +kernel
theorem dX10_readRest_679 : decode cX10_readRest 679 = .ok (.goto 87, 3) := by decide +kernel
theorem dX10_readRest_682 : decode cX10_readRest 682 = .ok (.iload_n 1, 1) := by decide +kernel
theorem dX10_readRest_683 : decode cX10_readRest 683 = .ok (.bipush 99, 2) := by decide +kernel
theorem dX10_readRest_685 : decode cX10_readRest 685 = .ok (.if_icmp .ne 58, 3) := by decide +kernel
theorem dX10_readRest_688 : decode cX10_readRest 688 = .ok (.aload_n 0, 1) := by decide +kernel
theorem dX10_readRest_689 : decode cX10_readRest 689 = .ok (.iload_n 2, 1) := by decide +kernel
theorem dX10_readRest_690 : decode cX10_readRest 690 = .ok (.invokevirtual 137, 3) := by decide +kernel
theorem dX10_readRest_693 : decode cX10_readRest 693 = .ok (.aload_n 0, 1) := by decide +kernel
theorem dX10_readRest_694 : decode cX10_readRest 694 = .ok (.aload_n 0, 1) := by decide +kernel
theorem dX10_readRest_695 : decode cX10_readRest 695 = .ok (.getfield 84, 3) := by decide +kernel
theorem dX10_readRest_698 : decode cX10_readRest 698 = .ok (.ifCond .ne 20, 3) := by decide +kernel
theorem dX10_readRest_701 : decode cX10_readRest 701 = .ok (.aload_n 0, 1) := by decide +kernel
theorem dX10_readRest_702 : decode cX10_readRest 702 = .ok (.getfield 127, 3) := by decide +kernel
theorem dX10_readRest_705 : decode cX10_readRest 705 = .ok (.bipush 32, 2) := by decide +kernel
theorem dX10_readRest_707 : decode cX10_readRest 707 = .ok (.if_icmp .eq 11, 3) := by decide +kernel
theorem dX10_readRest_710 : decode cX10_readRest 710 = .ok (.aload_n 0, 1) := by decide +kernel
theorem dX10_readRest_711 : decode cX10_readRest 711 = .ok (.getfield 91, 3) := by decide +kernel
theorem dX10_readRest_714 : decode cX10_readRest 714 = .ok (.iconst 3, 1) := by decide +kernel
theorem dX10_readRest_715 : decode cX10_readRest 715 = .ok (.if_icmp .eq 7, 3) := by decide +kernel
theorem dX10_readRest_718 : decode cX10_readRest 718 = .ok (.iconst 1, 1) := by decide +kernel
theorem dX10_readRest_719 : decode cX10_readRest 719 = .ok (.goto 4, 3) := by decide +kernel
theorem dX10_readRest_722 : decode cX10_readRest 722 = .ok (.iconst 0, 1) := by decide +kernel
theorem dX10_readRest_723 : decode cX10_readRest 723 = .ok (.putfield 84, 3) := by decide +kernel
theorem dX10_readRest_726 : decode cX10_readRest 726 = .ok (.aload_n 0, 1) := by decide +kernel
theorem dX10_readRest_727 : decode cX10_readRest 727 = .ok (.bipush 18, 2) := by decide +kernel
theorem dX10_readRest_729 : decode cX10_readRest 729 = .ok (.aload_n 0, 1) := by decide +kernel
theorem dX10_readRest_730 : decode cX10_readRest 730 = .ok (.getfield 97, 3) := by decide +kernel
theorem dX10_readRest_733 : decode cX10_readRest 733 = .ok (.aload_n 0, 1) := by decide +kernel
theorem dX10_readRest_734 : decode cX10_readRest 734 = .ok (.getfield 100, 3) := by decide +kernel
theorem dX10_readRest_737 : decode cX10_readRest 737 = .ok (.invokevirtual 123, 3) := by decide +kernel
theorem dX10_readRest_740 : decode cX10_readRest 740 = .ok (.goto 26, 3) := by decide +kernel
theorem dX10_readRest_743 : decode cX10_readRest 743 = .ok (.iload_n 1, 1) := by decide +kernel
theorem dX10_readRest_744 : decode cX10_readRest 744 = .ok (.bipush 15, 2) := by decide +kernel
theorem dX10_readRest_746 : decode cX10_readRest 746 = .ok (.if_icmp .ne 15, 3) := by decide +kernel
theorem dX10_readRest_749 : decode cX10_readRest 749 = .ok (.aload_n 0, 1) := by decide +kernel
theorem dX10_readRest_750 : decode cX10_readRest 750 = .ok (.aload_n 0, 1) := by decide +kernel
theorem dX10_readRest_751 : decode cX10_readRest 751 = .ok (.invokevirtual 87, 3) := by decide +kernel
theorem dX10_readRest_754 : decode cX10_readRest 754 = .ok (.iload_n 2, 1) := by decide +kernel
theorem dX10_readRest_755 : decode cX10_readRest 755 = .ok (.invokevirtual 144, 3) := by decide +kernel
theorem dX10_readRest_758 : decode cX10_readRest 758 = .ok (.goto 8, 3) := by decide +kernel
theorem dX10_readRest_761 : decode cX10_readRest 761 = .ok (.aload_n 0, 1) := by decide +kernel
theorem dX10_readRest_762 : decode cX10_readRest 762 = .ok (.iload_n 1, 1) := by decide +kernel
theorem dX10_readRest_763 : decode cX10_readRest 763 = .ok (.invokevirtual 147, 3) := by decide +kernel
theorem dX10_readRest_766 : decode cX10_readRest 766 = .ok (.return_, 1) := by decide +kernel
theorem dX10_readTwo_0 : decode cX10_readTwo 0 = .ok (.iload_n 1, 1) := by decide +kernel
theorem dX10_readTwo_1 : decode cX10_readTwo 1 = .ok (.sipush 175, 3) := by decide +kernel
theorem dX10_readTwo_4 : decode cX10_readTwo 4 = .ok (.if_icmp .ne 25, 3) := by decide +kernel
theorem dX10_readTwo_7 : decode cX10_readTwo 7 = .ok (.aload_n 0, 1) := by decide +kernel
theorem dX10_readTwo_8 : decode cX10_readTwo 8 = .ok (.iload_n 2, 1) := by decide +kernel
theorem dX10_readTwo_9 : decode cX10_readTwo 9 = .ok (.invokevirtual 137, 3) := by decide +kernel
theorem dX10_readTwo_12 : decode cX10_readTwo 12 = .ok (.aload_n 0, 1) := by decide +kernel
theorem dX10_readTwo_13 : decode cX10_readTwo 13 = .ok (.bipush 17, 2) := by decide +kernel
theorem dX10_readTwo_15 : decode cX10_readTwo 15 = .ok (.aload_n 0, 1) := by decide +kernel
theorem dX10_readTwo_16 : decode cX10_readTwo 16 = .ok (.getfield 97, 3) := by decide +kernel
theorem dX10_readTwo_19 : decode cX10_readTwo 19 = .ok (.aload_n 0, 1) := by decide +kernel
theorem dX10_readTwo_20 : decode cX10_readTwo 20 = .ok (.getfield 100, 3) := by decide +kernel
theorem dX10_readTwo_23 : decode cX10_readTwo 23 = .ok (.invokevirtual 123, 3) := by decide +kernel
theorem dX10_readTwo_26 : decode cX10_readTwo 26 = .ok (.goto 13, 3) := by decide +kernel
theorem dX10_readTwo_29 : decode cX10_readTwo 29 = .ok (.aload_n 0, 1) := by decide +kernel
theorem dX10_readTwo_30 : decode cX10_readTwo 30 = .ok (.iload_n 1, 1) := by decide +kernel
theorem dX10_readTwo_31 : decode cX10_readTwo 31 = .ok (.sipush 128, 3) := by decide +kernel
theorem dX10_readTwo_34 : decode cX10_readTwo 34 = .ok (.isub, 1) := by decide +kernel
theorem dX10_readTwo_35 : decode cX10_readTwo 35 = .ok (.iconst 4, 1) := by decide +kernel
theorem dX10_readTwo_36 : decode cX10_readTwo 36 = .ok (.invokevirtual 150, 3) := by decide +kernel
theorem dX10_readTwo_39 : decode cX10_readTwo 39 = .ok (.return_, 1) := by decide +kernel
theorem dX10_readIf_0 : decode cX10_readIf 0 = .ok (.aload_n 0, 1) := by decide +kernel
theorem dX10_readIf_1 : decode cX10_readIf 1 = .ok (.aload_n 0, 1) := by decide +kernel
theorem dX10_readIf_2 : decode cX10_readIf 2 = .ok (.getfield 84, 3) := by decide +kernel
theorem dX10_readIf_5 : decode cX10_readIf 5 = .ok (.ifCond .ne 25, 3) := by decide +kernel
theorem dX10_readIf_8 : decode cX10_readIf 8 = .ok (.iload_n 1, 1) := by decide +kernel
theorem dX10_readIf_9 : decode cX10_readIf 9 = .ok (.ifCond .lt 21, 3) := by decide +kernel
theorem dX10_readIf_12 : decode cX10_readIf 12 = .ok (.iload_n 1, 1) := by decide +kernel
theorem dX10_readIf_13 : decode cX10_readIf 13 = .ok (.bipush 15, 2) := by decide +kernel
theorem dX10_readIf_15 : decode cX10_readIf 15 = .ok (.if_icmp .gt 15, 3) := by decide +kernel
theorem dX10_readIf_18 : decode cX10_readIf 18 = .ok (.iload_n 1, 1) := by decide +kernel
theorem dX10_readIf_19 : decode cX10_readIf 19 = .ok (.bipush 10, 2) := by decide +kernel
theorem dX10_readIf_21 : decode cX10_readIf 21 = .ok (.if_icmp .eq 9, 3) := by decide +kernel
theorem dX10_readIf_24 : decode cX10_readIf 24 = .ok (.iload_n 1, 1) := by decide +kernel
theorem dX10_readIf_25 : decode cX10_readIf 25 = .ok (.bipush 11, 2) := by decide +kernel
theorem dX10_readIf_27 : decode cX10_readIf 27 = .ok (.if_icmp .ne 7, 3) := by decide +kernel
theorem dX10_readIf_30 : decode cX10_readIf 30 = .ok (.iconst 1, 1) := by decide +kernel
theorem dX10_readIf_31 : decode cX10_readIf 31 = .ok (.goto 4, 3) := by decide +kernel
theorem dX10_readIf_34 : decode cX10_readIf 34 = .ok (.iconst 0, 1) := by decide +kernel
theorem dX10_readIf_35 : decode cX10_readIf 35 = .ok (.putfield 84, 3) := by decide +kernel
theorem dX10_readIf_38 : decode cX10_readIf 38 = .ok (.aload_n 0, 1) := by decide +kernel
theorem dX10_readIf_39 : decode cX10_readIf 39 = .ok (.bipush 19, 2) := by decide +kernel
theorem dX10_readIf_41 : decode cX10_readIf 41 = .ok (.putfield 107, 3) := by decide +kernel
theorem dX10_readIf_44 : decode cX10_readIf 44 = .ok (.aload_n 0, 1) := by decide +kernel
theorem dX10_readIf_45 : decode cX10_readIf 45 = .ok (.iload_n 1, 1) := by decide +kernel
theorem dX10_readIf_46 : decode cX10_readIf 46 = .ok (.putfield 120, 3) := by decide +kernel
theorem dX10_readIf_49 : decode cX10_readIf 49 = .ok (.aload_n 0, 1) := by decide +kernel
theorem dX10_readIf_50 : decode cX10_readIf 50 = .ok (.aload_n 0, 1) := by decide +kernel
theorem dX10_readIf_51 : decode cX10_readIf 51 = .ok (.iload_n 2, 1) := by decide +kernel
theorem dX10_readIf_52 : decode cX10_readIf 52 = .ok (.invokevirtual 103, 3) := by decide +kernel
theorem dX10_readIf_55 : decode cX10_readIf 55 = .ok (.putfield 116, 3) := by decide +kernel
theorem dX10_readIf_58 : decode cX10_readIf 58 = .ok (.aload_n 0, 1) := by decide +kernel
theorem dX10_readIf_59 : decode cX10_readIf 59 = .ok (.aload_n 0, 1) := by decide +kernel
theorem dX10_readIf_60 : decode cX10_readIf 60 = .ok (.getfield 116, 3) := by decide +kernel
theorem dX10_readIf_63 : decode cX10_readIf 63 = .ok (.aload_n 0, 1) := by decide +kernel
theorem dX10_readIf_64 : decode cX10_readIf 64 = .ok (.getfield 81, 3) := by decide +kernel
theorem dX10_readIf_67 : decode cX10_readIf 67 = .ok (.i2l, 1) := by decide +kernel
theorem dX10_readIf_68 : decode cX10_readIf 68 = .ok (.ladd, 1) := by decide +kernel
theorem dX10_readIf_69 : decode cX10_readIf 69 = .ok (.putfield 116, 3) := by decide +kernel
theorem dX10_readIf_72 : decode cX10_readIf 72 = .ok (.return_, 1) := by decide +kernel
theorem dX10_readJumps_0 : decode cX10_readJumps 0 = .ok (.iload_n 1, 1) := by decide +kernel
theorem dX10_readJumps_1 : decode cX10_readJumps 1 = .ok (.bipush 112, 2) := by decide +kernel
theorem dX10_readJumps_3 : decode cX10_readJumps 3 = .ok (.if_icmp .lt 22, 3) := by decide +kernel
theorem dX10_readJumps_6 : decode cX10_readJumps 6 = .ok (.iload_n 1, 1) := by decide +kernel
theorem dX10_readJumps_7 : decode cX10_readJumps 7 = .ok (.sipush 128, 3) := by decide +kernel
theorem dX10_readJumps_10 : decode cX10_readJumps 10 = .ok (.if_icmp .ge 15, 3) := by decide +kernel
theorem dX10_readJumps_13 : decode cX10_readJumps 13 = .ok (.aload_n 0, 1) := by decide +kernel
theorem dX10_readJumps_14 : decode cX10_readJumps 14 = .ok (.iload_n 1, 1) := by decide +kernel
theorem dX10_readJumps_15 : decode cX10_readJumps 15 = .ok (.bipush 112, 2) := by decide +kernel
theorem dX10_readJumps_17 : decode cX10_readJumps 17 = .ok (.isub, 1) := by decide +kernel
theorem dX10_readJumps_18 : decode cX10_readJumps 18 = .ok (.iconst 1, 1) := by decide +kernel
theorem dX10_readJumps_19 : decode cX10_readJumps 19 = .ok (.invokevirtual 150, 3) := by decide +kernel
theorem dX10_readJumps_22 : decode cX10_readJumps 22 = .ok (.goto 95, 3) := by decide +kernel
theorem dX10_readJumps_25 : decode cX10_readJumps 25 = .ok (.iload_n 1, 1) := by decide +kernel
theorem dX10_readJumps_26 : decode cX10_readJumps 26 = .ok (.sipush 235, 3) := by decide +kernel
theorem dX10_readJumps_29 : decode cX10_readJumps 29 = .ok (.if_icmp .eq 10, 3) := by decide +kernel
theorem dX10_readJumps_32 : decode cX10_readJumps 32 = .ok (.iload_n 1, 1) := by decide +kernel
theorem dX10_readJumps_33 : decode cX10_readJumps 33 = .ok (.sipush 233, 3) := by decide +kernel
theorem dX10_readJumps_36 : decode cX10_readJumps 36 = .ok (.if_icmp .ne 46, 3) := by decide +kernel
theorem dX10_readJumps_39 : decode cX10_readJumps 39 = .ok (.aload_n 0, 1) := by decide +kernel
theorem dX10_readJumps_40 : decode cX10_readJumps 40 = .ok (.bipush 20, 2) := by decide +kernel
theorem dX10_readJumps_42 : decode cX10_readJumps 42 = .ok (.putfield 107, 3) := by decide +kernel
theorem dX10_readJumps_45 : decode cX10_readJumps 45 = .ok (.aload_n 0, 1) := by decide +kernel
theorem dX10_readJumps_46 : decode cX10_readJumps 46 = .ok (.aload_n 0, 1) := by decide +kernel
theorem dX10_readJumps_47 : decode cX10_readJumps 47 = .ok (.iload_n 1, 1) := by decide +kernel
theorem dX10_readJumps_48 : decode cX10_readJumps 48 = .ok (.sipush 235, 3) := by decide +kernel
theorem dX10_readJumps_51 : decode cX10_readJumps 51 = .ok (.if_icmp .ne 7, 3) := by decide +kernel
theorem dX10_readJumps_54 : decode cX10_readJumps 54 = .ok (.iconst 1, 1) := by decide +kernel
theorem dX10_readJumps_55 : decode cX10_readJumps 55 = .ok (.goto 4, 3) := by decide +kernel
theorem dX10_readJumps_58 : decode cX10_readJumps 58 = .ok (.iconst 4, 1) := by decide +kernel
theorem dX10_readJumps_59 : decode cX10_readJumps 59 = .ok (.invokevirtual 103, 3) := by decide +kernel
theorem dX10_readJumps_62 : decode cX10_readJumps 62 = .ok (.putfield 116, 3) := by decide +kernel
theorem dX10_readJumps_65 : decode cX10_readJumps 65 = .ok (.aload_n 0, 1) := by decide +kernel
theorem dX10_readJumps_66 : decode cX10_readJumps 66 = .ok (.aload_n 0, 1) := by decide +kernel
theorem dX10_readJumps_67 : decode cX10_readJumps 67 = .ok (.getfield 116, 3) := by decide +kernel
theorem dX10_readJumps_70 : decode cX10_readJumps 70 = .ok (.aload_n 0, 1) := by decide +kernel
theorem dX10_readJumps_71 : decode cX10_readJumps 71 = .ok (.getfield 81, 3) := by decide +kernel
theorem dX10_readJumps_74 : decode cX10_readJumps 74 = .ok (.i2l, 1) := by decide +kernel
theorem dX10_readJumps_75 : decode cX10_readJumps 75 = .ok (.ladd, 1) := by decide +kernel
theorem dX10_readJumps_76 : decode cX10_readJumps 76 = .ok (.putfield 116, 3) := by decide +kernel
theorem dX10_readJumps_79 : decode cX10_readJumps 79 = .ok (.goto 38, 3) := by decide +kernel
theorem dX10_readJumps_82 : decode cX10_readJumps 82 = .ok (.iload_n 1, 1) := by decide +kernel
theorem dX10_readJumps_83 : decode cX10_readJumps 83 = .ok (.sipush 195, 3) := by decide +kernel
theorem dX10_readJumps_86 : decode cX10_readJumps 86 = .ok (.if_icmp .eq 10, 3) := by decide +kernel
theorem dX10_readJumps_89 : decode cX10_readJumps 89 = .ok (.iload_n 1, 1) := by decide +kernel
theorem dX10_readJumps_90 : decode cX10_readJumps 90 = .ok (.sipush 244, 3) := by decide +kernel
theorem dX10_readJumps_93 : decode cX10_readJumps 93 = .ok (.if_icmp .ne 12, 3) := by decide +kernel
theorem dX10_readJumps_96 : decode cX10_readJumps 96 = .ok (.aload_n 0, 1) := by decide +kernel
theorem dX10_readJumps_97 : decode cX10_readJumps 97 = .ok (.bipush 22, 2) := by decide +kernel
theorem dX10_readJumps_99 : decode cX10_readJumps 99 = .ok (.putfield 107, 3) := by decide +kernel
theorem dX10_readJumps_102 : decode cX10_readJumps 102 = .ok (.goto 15, 3) := by decide +kernel
theorem dX10_readJumps_105 : decode cX10_readJumps 105 = .ok (.iload_n 1, 1) := by decide +kernel
theorem dX10_readJumps_106 : decode cX10_readJumps 106 = .ok (.sipush 144, 3) := by decide +kernel
theorem dX10_readJumps_109 : decode cX10_readJumps 109 = .ok (.if_icmp .eq 8, 3) := by decide +kernel
theorem dX10_readJumps_112 : decode cX10_readJumps 112 = .ok (.aload_n 0, 1) := by decide +kernel
theorem dX10_readJumps_113 : decode cX10_readJumps 113 = .ok (.iconst 1, 1) := by decide +kernel
theorem dX10_readJumps_114 : decode cX10_readJumps 114 = .ok (.putfield 84, 3) := by decide +kernel
theorem dX10_readJumps_117 : decode cX10_readJumps 117 = .ok (.return_, 1) := by decide +kernel
theorem dX10_decode_0 : decode cX10_decode 0 = .ok (.aload_n 0, 1) := by decide +kernel
theorem dX10_decode_1 : decode cX10_decode 1 = .ok (.iload_n 1, 1) := by decide +kernel
theorem dX10_decode_2 : decode cX10_decode 2 = .ok (.i2l, 1) := by decide +kernel
theorem dX10_decode_3 : decode cX10_decode 3 = .ok (.lconst 0, 1) := by decide +kernel
theorem dX10_decode_4 : decode cX10_decode 4 = .ok (.aload_n 0, 1) := by decide +kernel
theorem dX10_decode_5 : decode cX10_decode 5 = .ok (.getfield 71, 3) := by decide +kernel
theorem dX10_decode_8 : decode cX10_decode 8 = .ok (.iconst 1, 1) := by decide +kernel
theorem dX10_decode_9 : decode cX10_decode 9 = .ok (.isub, 1) := by decide +kernel
theorem dX10_decode_10 : decode cX10_decode 10 = .ok (.i2l, 1) := by decide +kernel
theorem dX10_decode_11 : decode cX10_decode 11 = .ok (.invokestatic 67, 3) := by decide +kernel
theorem dX10_decode_14 : decode cX10_decode 14 = .ok (.ifCond .eq 19, 3) := by decide +kernel
theorem dX10_decode_17 : decode cX10_decode 17 = .ok (.iload_n 2, 1) := by decide +kernel
theorem dX10_decode_18 : decode cX10_decode 18 = .ok (.i2l, 1) := by decide +kernel
theorem dX10_decode_19 : decode cX10_decode 19 = .ok (.lconst 0, 1) := by decide +kernel
theorem dX10_decode_20 : decode cX10_decode 20 = .ok (.ldc2_w 153, 3) := by decide +kernel
theorem dX10_decode_23 : decode cX10_decode 23 = .ok (.invokestatic 67, 3) := by decide +kernel
theorem dX10_decode_26 : decode cX10_decode 26 = .ok (.ifCond .eq 7, 3) := by decide +kernel
theorem dX10_decode_29 : decode cX10_decode 29 = .ok (.iconst 0, 1) := by decide +kernel
theorem dX10_decode_30 : decode cX10_decode 30 = .ok (.goto 4, 3) := by decide +kernel
theorem dX10_decode_33 : decode cX10_decode 33 = .ok (.iconst 1, 1) := by decide +kernel
theorem dX10_decode_34 : decode cX10_decode 34 = .ok (.invokevirtual 74, 3) := by decide +kernel
theorem dX10_decode_37 : decode cX10_decode 37 = .ok (.ifCond .eq 5, 3) := by decide +kernel
theorem dX10_decode_40 : decode cX10_decode 40 = .ok (.iconst 0, 1) := by decide +kernel
theorem dX10_decode_41 : decode cX10_decode 41 = .ok (.ireturn, 1) := by decide +kernel
theorem dX10_decode_42 : decode cX10_decode 42 = .ok (.aload_n 0, 1) := by decide +kernel
theorem dX10_decode_43 : decode cX10_decode 43 = .ok (.iload_n 1, 1) := by decide +kernel
theorem dX10_decode_44 : decode cX10_decode 44 = .ok (.invokevirtual 155, 3) := by decide +kernel
theorem dX10_decode_47 : decode cX10_decode 47 = .ok (.ifCond .ne 5, 3) := by decide +kernel
theorem dX10_decode_50 : decode cX10_decode 50 = .ok (.iconst (-1), 1) := by decide +kernel
theorem dX10_decode_51 : decode cX10_decode 51 = .ok (.ireturn, 1) := by decide +kernel
theorem dX10_decode_52 : decode cX10_decode 52 = .ok (.iload_n 2, 1) := by decide +kernel
theorem dX10_decode_53 : decode cX10_decode 53 = .ok (.ifCond .ne 10, 3) := by decide +kernel
theorem dX10_decode_56 : decode cX10_decode 56 = .ok (.aload_n 0, 1) := by decide +kernel
theorem dX10_decode_57 : decode cX10_decode 57 = .ok (.getfield 134, 3) := by decide +kernel
theorem dX10_decode_60 : decode cX10_decode 60 = .ok (.goto 55, 3) := by decide +kernel
theorem dX10_decode_63 : decode cX10_decode 63 = .ok (.iload_n 2, 1) := by decide +kernel
theorem dX10_decode_64 : decode cX10_decode 64 = .ok (.iconst 1, 1) := by decide +kernel
theorem dX10_decode_65 : decode cX10_decode 65 = .ok (.if_icmp .ne 10, 3) := by decide +kernel
theorem dX10_decode_68 : decode cX10_decode 68 = .ok (.aload_n 0, 1) := by decide +kernel
theorem dX10_decode_69 : decode cX10_decode 69 = .ok (.getfield 107, 3) := by decide +kernel
theorem dX10_decode_72 : decode cX10_decode 72 = .ok (.goto 43, 3) := by decide +kernel
theorem dX10_decode_75 : decode cX10_decode 75 = .ok (.iload_n 2, 1) := by decide +kernel
theorem dX10_decode_76 : decode cX10_decode 76 = .ok (.iconst 2, 1) := by decide +kernel
theorem dX10_decode_77 : decode cX10_decode 77 = .ok (.if_icmp .ne 10, 3) := by decide +kernel
theorem dX10_decode_80 : decode cX10_decode 80 = .ok (.aload_n 0, 1) := by decide +kernel
theorem dX10_decode_81 : decode cX10_decode 81 = .ok (.getfield 127, 3) := by decide +kernel
theorem dX10_decode_84 : decode cX10_decode 84 = .ok (.goto 31, 3) := by decide +kernel
theorem dX10_decode_87 : decode cX10_decode 87 = .ok (.iload_n 2, 1) := by decide +kernel
theorem dX10_decode_88 : decode cX10_decode 88 = .ok (.iconst 3, 1) := by decide +kernel
theorem dX10_decode_89 : decode cX10_decode 89 = .ok (.if_icmp .ne 10, 3) := by decide +kernel
theorem dX10_decode_92 : decode cX10_decode 92 = .ok (.aload_n 0, 1) := by decide +kernel
theorem dX10_decode_93 : decode cX10_decode 93 = .ok (.getfield 110, 3) := by decide +kernel
theorem dX10_decode_96 : decode cX10_decode 96 = .ok (.goto 19, 3) := by decide +kernel
theorem dX10_decode_99 : decode cX10_decode 99 = .ok (.iload_n 2, 1) := by decide +kernel
theorem dX10_decode_100 : decode cX10_decode 100 = .ok (.iconst 4, 1) := by decide +kernel
theorem dX10_decode_101 : decode cX10_decode 101 = .ok (.if_icmp .ne 10, 3) := by decide +kernel
theorem dX10_decode_104 : decode cX10_decode 104 = .ok (.aload_n 0, 1) := by decide +kernel
theorem dX10_decode_105 : decode cX10_decode 105 = .ok (.getfield 113, 3) := by decide +kernel
theorem dX10_decode_108 : decode cX10_decode 108 = .ok (.goto 7, 3) := by decide +kernel
theorem dX10_decode_111 : decode cX10_decode 111 = .ok (.aload_n 0, 1) := by decide +kernel
theorem dX10_decode_112 : decode cX10_decode 112 = .ok (.getfield 120, 3) := by decide +kernel
theorem dX10_decode_115 : decode cX10_decode 115 = .ok (.ireturn, 1) := by decide +kernel
theorem dX10_constant_0 : decode cX10_constant 0 = .ok (.aload_n 0, 1) := by decide +kernel
theorem dX10_constant_1 : decode cX10_constant 1 = .ok (.iload_n 1, 1) := by decide +kernel
theorem dX10_constant_2 : decode cX10_constant 2 = .ok (.i2l, 1) := by decide +kernel
theorem dX10_constant_3 : decode cX10_constant 3 = .ok (.lconst 0, 1) := by decide +kernel
theorem dX10_constant_4 : decode cX10_constant 4 = .ok (.aload_n 0, 1) := by decide +kernel
theorem dX10_constant_5 : decode cX10_constant 5 = .ok (.getfield 71, 3) := by decide +kernel
theorem dX10_constant_8 : decode cX10_constant 8 = .ok (.iconst 1, 1) := by decide +kernel
theorem dX10_constant_9 : decode cX10_constant 9 = .ok (.isub, 1) := by decide +kernel
theorem dX10_constant_10 : decode cX10_constant 10 = .ok (.i2l, 1) := by decide +kernel
theorem dX10_constant_11 : decode cX10_constant 11 = .ok (.invokestatic 67, 3) := by decide +kernel
theorem dX10_constant_14 : decode cX10_constant 14 = .ok (.ifCond .eq 7, 3) := by decide +kernel
theorem dX10_constant_17 : decode cX10_constant 17 = .ok (.iconst 0, 1) := by decide +kernel
theorem dX10_constant_18 : decode cX10_constant 18 = .ok (.goto 4, 3) := by decide +kernel
theorem dX10_constant_21 : decode cX10_constant 21 = .ok (.iconst 1, 1) := by decide +kernel
theorem dX10_constant_22 : decode cX10_constant 22 = .ok (.invokevirtual 74, 3) := by decide +kernel
theorem dX10_constant_25 : decode cX10_constant 25 = .ok (.ifCond .eq 5, 3) := by decide +kernel
theorem dX10_constant_28 : decode cX10_constant 28 = .ok (.lconst 0, 1) := by decide +kernel
theorem dX10_constant_29 : decode cX10_constant 29 = .ok (.lreturn, 1) := by decide +kernel
theorem dX10_constant_30 : decode cX10_constant 30 = .ok (.aload_n 0, 1) := by decide +kernel
theorem dX10_constant_31 : decode cX10_constant 31 = .ok (.iload_n 1, 1) := by decide +kernel
theorem dX10_constant_32 : decode cX10_constant 32 = .ok (.invokevirtual 155, 3) := by decide +kernel
theorem dX10_constant_35 : decode cX10_constant 35 = .ok (.ifCond .eq 10, 3) := by decide +kernel
theorem dX10_constant_38 : decode cX10_constant 38 = .ok (.aload_n 0, 1) := by decide +kernel
theorem dX10_constant_39 : decode cX10_constant 39 = .ok (.getfield 116, 3) := by decide +kernel
theorem dX10_constant_42 : decode cX10_constant 42 = .ok (.goto 4, 3) := by decide +kernel
theorem dX10_constant_45 : decode cX10_constant 45 = .ok (.lconst 0, 1) := by decide +kernel
theorem dX10_constant_46 : decode cX10_constant 46 = .ok (.lreturn, 1) := by decide +kernel
theorem dX10_gcd_0 : decode cX10_gcd 0 = .ok (.lload_n 0, 1) := by decide +kernel
theorem dX10_gcd_1 : decode cX10_gcd 1 = .ok (.lconst 0, 1) := by decide +kernel
theorem dX10_gcd_2 : decode cX10_gcd 2 = .ok (.lcmp, 1) := by decide +kernel
theorem dX10_gcd_3 : decode cX10_gcd 3 = .ok (.ifCond .ge 8, 3) := by decide +kernel
theorem dX10_gcd_6 : decode cX10_gcd 6 = .ok (.lload_n 0, 1) := by decide +kernel
theorem dX10_gcd_7 : decode cX10_gcd 7 = .ok (.lneg, 1) := by decide +kernel
theorem dX10_gcd_8 : decode cX10_gcd 8 = .ok (.goto 4, 3) := by decide +kernel
theorem dX10_gcd_11 : decode cX10_gcd 11 = .ok (.lload_n 0, 1) := by decide +kernel
theorem dX10_gcd_12 : decode cX10_gcd 12 = .ok (.lstore 4, 2) := by decide +kernel
theorem dX10_gcd_14 : decode cX10_gcd 14 = .ok (.lload_n 2, 1) := by decide +kernel
theorem dX10_gcd_15 : decode cX10_gcd 15 = .ok (.lconst 0, 1) := by decide +kernel
theorem dX10_gcd_16 : decode cX10_gcd 16 = .ok (.lcmp, 1) := by decide +kernel
theorem dX10_gcd_17 : decode cX10_gcd 17 = .ok (.ifCond .ge 8, 3) := by decide +kernel
theorem dX10_gcd_20 : decode cX10_gcd 20 = .ok (.lload_n 2, 1) := by decide +kernel
theorem dX10_gcd_21 : decode cX10_gcd 21 = .ok (.lneg, 1) := by decide +kernel
theorem dX10_gcd_22 : decode cX10_gcd 22 = .ok (.goto 4, 3) := by decide +kernel
theorem dX10_gcd_25 : decode cX10_gcd 25 = .ok (.lload_n 2, 1) := by decide +kernel
theorem dX10_gcd_26 : decode cX10_gcd 26 = .ok (.lstore 6, 2) := by decide +kernel
theorem dX10_gcd_28 : decode cX10_gcd 28 = .ok (.lload 6, 2) := by decide +kernel
theorem dX10_gcd_30 : decode cX10_gcd 30 = .ok (.lconst 0, 1) := by decide +kernel
theorem dX10_gcd_31 : decode cX10_gcd 31 = .ok (.lcmp, 1) := by decide +kernel
theorem dX10_gcd_32 : decode cX10_gcd 32 = .ok (.ifCond .eq 21, 3) := by decide +kernel
theorem dX10_gcd_35 : decode cX10_gcd 35 = .ok (.lload 4, 2) := by decide +kernel
theorem dX10_gcd_37 : decode cX10_gcd 37 = .ok (.lload 6, 2) := by decide +kernel
theorem dX10_gcd_39 : decode cX10_gcd 39 = .ok (.lrem, 1) := by decide +kernel
theorem dX10_gcd_40 : decode cX10_gcd 40 = .ok (.lstore 8, 2) := by decide +kernel
theorem dX10_gcd_42 : decode cX10_gcd 42 = .ok (.lload 6, 2) := by decide +kernel
theorem dX10_gcd_44 : decode cX10_gcd 44 = .ok (.lstore 4, 2) := by decide +kernel
theorem dX10_gcd_46 : decode cX10_gcd 46 = .ok (.lload 8, 2) := by decide +kernel
theorem dX10_gcd_48 : decode cX10_gcd 48 = .ok (.lstore 6, 2) := by decide +kernel
theorem dX10_gcd_50 : decode cX10_gcd 50 = .ok (.goto (-22), 3) := by decide +kernel
theorem dX10_gcd_53 : decode cX10_gcd 53 = .ok (.lload 4, 2) := by decide +kernel
theorem dX10_gcd_55 : decode cX10_gcd 55 = .ok (.lreturn, 1) := by decide +kernel
theorem dX10_make_0 : decode cX10_make 0 = .ok (.iload_n 2, 1) := by decide +kernel
theorem dX10_make_1 : decode cX10_make 1 = .ok (.iconst 1, 1) := by decide +kernel
theorem dX10_make_2 : decode cX10_make 2 = .ok (.if_icmp .ne 41, 3) := by decide +kernel
theorem dX10_make_5 : decode cX10_make 5 = .ok (.lload_n 3, 1) := by decide +kernel
theorem dX10_make_6 : decode cX10_make 6 = .ok (.ldc2_w 158, 3) := by decide +kernel
theorem dX10_make_9 : decode cX10_make 9 = .ok (.lcmp, 1) := by decide +kernel
theorem dX10_make_10 : decode cX10_make 10 = .ok (.ifCond .lt 29, 3) := by decide +kernel
theorem dX10_make_13 : decode cX10_make 13 = .ok (.lload 5, 2) := by decide +kernel
theorem dX10_make_15 : decode cX10_make 15 = .ok (.ldc2_w 160, 3) := by decide +kernel
theorem dX10_make_18 : decode cX10_make 18 = .ok (.lcmp, 1) := by decide +kernel
theorem dX10_make_19 : decode cX10_make 19 = .ok (.ifCond .gt 20, 3) := by decide +kernel
theorem dX10_make_22 : decode cX10_make 22 = .ok (.lload 5, 2) := by decide +kernel
theorem dX10_make_24 : decode cX10_make 24 = .ok (.ldc2_w 158, 3) := by decide +kernel
theorem dX10_make_27 : decode cX10_make 27 = .ok (.lcmp, 1) := by decide +kernel
theorem dX10_make_28 : decode cX10_make 28 = .ok (.ifCond .lt 11, 3) := by decide +kernel
theorem dX10_make_31 : decode cX10_make 31 = .ok (.lload_n 3, 1) := by decide +kernel
theorem dX10_make_32 : decode cX10_make 32 = .ok (.ldc2_w 160, 3) := by decide +kernel
theorem dX10_make_35 : decode cX10_make 35 = .ok (.lcmp, 1) := by decide +kernel
theorem dX10_make_36 : decode cX10_make 36 = .ok (.ifCond .le 7, 3) := by decide +kernel
theorem dX10_make_39 : decode cX10_make 39 = .ok (.iconst 1, 1) := by decide +kernel
theorem dX10_make_40 : decode cX10_make 40 = .ok (.goto 4, 3) := by decide +kernel
theorem dX10_make_43 : decode cX10_make 43 = .ok (.iconst 0, 1) := by decide +kernel
theorem dX10_make_44 : decode cX10_make 44 = .ok (.istore 9, 2) := by decide +kernel
theorem dX10_make_46 : decode cX10_make 46 = .ok (.aload_n 0, 1) := by decide +kernel
theorem dX10_make_47 : decode cX10_make 47 = .ok (.getfield 13, 3) := by decide +kernel
theorem dX10_make_50 : decode cX10_make 50 = .ok (.iload_n 1, 1) := by decide +kernel
theorem dX10_make_51 : decode cX10_make 51 = .ok (.iload 9, 2) := by decide +kernel
theorem dX10_make_53 : decode cX10_make 53 = .ok (.ifCond .eq 7, 3) := by decide +kernel
theorem dX10_make_56 : decode cX10_make 56 = .ok (.iconst 2, 1) := by decide +kernel
theorem dX10_make_57 : decode cX10_make 57 = .ok (.goto 4, 3) := by decide +kernel
theorem dX10_make_60 : decode cX10_make 60 = .ok (.iload_n 2, 1) := by decide +kernel
theorem dX10_make_61 : decode cX10_make 61 = .ok (.iastore, 1) := by decide +kernel
theorem dX10_make_62 : decode cX10_make 62 = .ok (.aload_n 0, 1) := by decide +kernel
theorem dX10_make_63 : decode cX10_make 63 = .ok (.getfield 16, 3) := by decide +kernel
theorem dX10_make_66 : decode cX10_make 66 = .ok (.iload_n 1, 1) := by decide +kernel
theorem dX10_make_67 : decode cX10_make 67 = .ok (.lload_n 3, 1) := by decide +kernel
theorem dX10_make_68 : decode cX10_make 68 = .ok (.lastore, 1) := by decide +kernel
theorem dX10_make_69 : decode cX10_make 69 = .ok (.aload_n 0, 1) := by decide +kernel
theorem dX10_make_70 : decode cX10_make 70 = .ok (.getfield 20, 3) := by decide +kernel
theorem dX10_make_73 : decode cX10_make 73 = .ok (.iload_n 1, 1) := by decide +kernel
theorem dX10_make_74 : decode cX10_make 74 = .ok (.lload 5, 2) := by decide +kernel
theorem dX10_make_76 : decode cX10_make 76 = .ok (.lastore, 1) := by decide +kernel
theorem dX10_make_77 : decode cX10_make 77 = .ok (.aload_n 0, 1) := by decide +kernel
theorem dX10_make_78 : decode cX10_make 78 = .ok (.getfield 23, 3) := by decide +kernel
theorem dX10_make_81 : decode cX10_make 81 = .ok (.iload_n 1, 1) := by decide +kernel
theorem dX10_make_82 : decode cX10_make 82 = .ok (.lload_n 3, 1) := by decide +kernel
theorem dX10_make_83 : decode cX10_make 83 = .ok (.lload 5, 2) := by decide +kernel
theorem dX10_make_85 : decode cX10_make 85 = .ok (.lcmp, 1) := by decide +kernel
theorem dX10_make_86 : decode cX10_make 86 = .ok (.ifCond .ne 7, 3) := by decide +kernel
theorem dX10_make_89 : decode cX10_make 89 = .ok (.lconst 0, 1) := by decide +kernel
theorem dX10_make_90 : decode cX10_make 90 = .ok (.goto 5, 3) := by decide +kernel
theorem dX10_make_93 : decode cX10_make 93 = .ok (.lload 7, 2) := by decide +kernel
theorem dX10_make_95 : decode cX10_make 95 = .ok (.lastore, 1) := by decide +kernel
theorem dX10_make_96 : decode cX10_make 96 = .ok (.return_, 1) := by decide +kernel
theorem dX10_copy_0 : decode cX10_copy 0 = .ok (.aload_n 0, 1) := by decide +kernel
theorem dX10_copy_1 : decode cX10_copy 1 = .ok (.getfield 13, 3) := by decide +kernel
theorem dX10_copy_4 : decode cX10_copy 4 = .ok (.iload_n 1, 1) := by decide +kernel
theorem dX10_copy_5 : decode cX10_copy 5 = .ok (.aload_n 0, 1) := by decide +kernel
theorem dX10_copy_6 : decode cX10_copy 6 = .ok (.getfield 13, 3) := by decide +kernel
theorem dX10_copy_9 : decode cX10_copy 9 = .ok (.iload_n 2, 1) := by decide +kernel
theorem dX10_copy_10 : decode cX10_copy 10 = .ok (.iaload, 1) := by decide +kernel
theorem dX10_copy_11 : decode cX10_copy 11 = .ok (.iastore, 1) := by decide +kernel
theorem dX10_copy_12 : decode cX10_copy 12 = .ok (.aload_n 0, 1) := by decide +kernel
theorem dX10_copy_13 : decode cX10_copy 13 = .ok (.getfield 16, 3) := by decide +kernel
theorem dX10_copy_16 : decode cX10_copy 16 = .ok (.iload_n 1, 1) := by decide +kernel
theorem dX10_copy_17 : decode cX10_copy 17 = .ok (.aload_n 0, 1) := by decide +kernel
theorem dX10_copy_18 : decode cX10_copy 18 = .ok (.getfield 16, 3) := by decide +kernel
theorem dX10_copy_21 : decode cX10_copy 21 = .ok (.iload_n 2, 1) := by decide +kernel
theorem dX10_copy_22 : decode cX10_copy 22 = .ok (.laload, 1) := by decide +kernel
theorem dX10_copy_23 : decode cX10_copy 23 = .ok (.lastore, 1) := by decide +kernel
theorem dX10_copy_24 : decode cX10_copy 24 = .ok (.aload_n 0, 1) := by decide +kernel
theorem dX10_copy_25 : decode cX10_copy 25 = .ok (.getfield 20, 3) := by decide +kernel
theorem dX10_copy_28 : decode cX10_copy 28 = .ok (.iload_n 1, 1) := by decide +kernel
theorem dX10_copy_29 : decode cX10_copy 29 = .ok (.aload_n 0, 1) := by decide +kernel
theorem dX10_copy_30 : decode cX10_copy 30 = .ok (.getfield 20, 3) := by decide +kernel
theorem dX10_copy_33 : decode cX10_copy 33 = .ok (.iload_n 2, 1) := by decide +kernel
theorem dX10_copy_34 : decode cX10_copy 34 = .ok (.laload, 1) := by decide +kernel
theorem dX10_copy_35 : decode cX10_copy 35 = .ok (.lastore, 1) := by decide +kernel
theorem dX10_copy_36 : decode cX10_copy 36 = .ok (.aload_n 0, 1) := by decide +kernel
theorem dX10_copy_37 : decode cX10_copy 37 = .ok (.getfield 23, 3) := by decide +kernel
theorem dX10_copy_40 : decode cX10_copy 40 = .ok (.iload_n 1, 1) := by decide +kernel
theorem dX10_copy_41 : decode cX10_copy 41 = .ok (.aload_n 0, 1) := by decide +kernel
theorem dX10_copy_42 : decode cX10_copy 42 = .ok (.getfield 23, 3) := by decide +kernel
theorem dX10_copy_45 : decode cX10_copy 45 = .ok (.iload_n 2, 1) := by decide +kernel
theorem dX10_copy_46 : decode cX10_copy 46 = .ok (.laload, 1) := by decide +kernel
theorem dX10_copy_47 : decode cX10_copy 47 = .ok (.lastore, 1) := by decide +kernel
theorem dX10_copy_48 : decode cX10_copy 48 = .ok (.return_, 1) := by decide +kernel
theorem dX10_isSame_0 : decode cX10_isSame 0 = .ok (.aload_n 0, 1) := by decide +kernel
theorem dX10_isSame_1 : decode cX10_isSame 1 = .ok (.getfield 13, 3) := by decide +kernel
theorem dX10_isSame_4 : decode cX10_isSame 4 = .ok (.iload_n 1, 1) := by decide +kernel
theorem dX10_isSame_5 : decode cX10_isSame 5 = .ok (.iaload, 1) := by decide +kernel
theorem dX10_isSame_6 : decode cX10_isSame 6 = .ok (.aload_n 0, 1) := by decide +kernel
theorem dX10_isSame_7 : decode cX10_isSame 7 = .ok (.getfield 13, 3) := by decide +kernel
theorem dX10_isSame_10 : decode cX10_isSame 10 = .ok (.iload_n 2, 1) := by decide +kernel
theorem dX10_isSame_11 : decode cX10_isSame 11 = .ok (.iaload, 1) := by decide +kernel
theorem dX10_isSame_12 : decode cX10_isSame 12 = .ok (.if_icmp .ne 65, 3) := by decide +kernel
theorem dX10_isSame_15 : decode cX10_isSame 15 = .ok (.aload_n 0, 1) := by decide +kernel
theorem dX10_isSame_16 : decode cX10_isSame 16 = .ok (.getfield 13, 3) := by decide +kernel
theorem dX10_isSame_19 : decode cX10_isSame 19 = .ok (.iload_n 1, 1) := by decide +kernel
theorem dX10_isSame_20 : decode cX10_isSame 20 = .ok (.iaload, 1) := by decide +kernel
theorem dX10_isSame_21 : decode cX10_isSame 21 = .ok (.iconst 1, 1) := by decide +kernel
theorem dX10_isSame_22 : decode cX10_isSame 22 = .ok (.if_icmp .ne 51, 3) := by decide +kernel
theorem dX10_isSame_25 : decode cX10_isSame 25 = .ok (.aload_n 0, 1) := by decide +kernel
theorem dX10_isSame_26 : decode cX10_isSame 26 = .ok (.getfield 16, 3) := by decide +kernel
theorem dX10_isSame_29 : decode cX10_isSame 29 = .ok (.iload_n 1, 1) := by decide +kernel
theorem dX10_isSame_30 : decode cX10_isSame 30 = .ok (.laload, 1) := by decide +kernel
theorem dX10_isSame_31 : decode cX10_isSame 31 = .ok (.aload_n 0, 1) := by decide +kernel
theorem dX10_isSame_32 : decode cX10_isSame 32 = .ok (.getfield 16, 3) := by decide +kernel
theorem dX10_isSame_35 : decode cX10_isSame 35 = .ok (.iload_n 2, 1) := by decide +kernel
theorem dX10_isSame_36 : decode cX10_isSame 36 = .ok (.laload, 1) := by decide +kernel
theorem dX10_isSame_37 : decode cX10_isSame 37 = .ok (.lcmp, 1) := by decide +kernel
theorem dX10_isSame_38 : decode cX10_isSame 38 = .ok (.ifCond .ne 39, 3) := by decide +kernel
theorem dX10_isSame_41 : decode cX10_isSame 41 = .ok (.aload_n 0, 1) := by decide +kernel
theorem dX10_isSame_42 : decode cX10_isSame 42 = .ok (.getfield 20, 3) := by decide +kernel
theorem dX10_isSame_45 : decode cX10_isSame 45 = .ok (.iload_n 1, 1) := by decide +kernel
theorem dX10_isSame_46 : decode cX10_isSame 46 = .ok (.laload, 1) := by decide +kernel
theorem dX10_isSame_47 : decode cX10_isSame 47 = .ok (.aload_n 0, 1) := by decide +kernel
theorem dX10_isSame_48 : decode cX10_isSame 48 = .ok (.getfield 20, 3) := by decide +kernel
theorem dX10_isSame_51 : decode cX10_isSame 51 = .ok (.iload_n 2, 1) := by decide +kernel
theorem dX10_isSame_52 : decode cX10_isSame 52 = .ok (.laload, 1) := by decide +kernel
theorem dX10_isSame_53 : decode cX10_isSame 53 = .ok (.lcmp, 1) := by decide +kernel
theorem dX10_isSame_54 : decode cX10_isSame 54 = .ok (.ifCond .ne 23, 3) := by decide +kernel
theorem dX10_isSame_57 : decode cX10_isSame 57 = .ok (.aload_n 0, 1) := by decide +kernel
theorem dX10_isSame_58 : decode cX10_isSame 58 = .ok (.getfield 23, 3) := by decide +kernel
theorem dX10_isSame_61 : decode cX10_isSame 61 = .ok (.iload_n 1, 1) := by decide +kernel
theorem dX10_isSame_62 : decode cX10_isSame 62 = .ok (.laload, 1) := by decide +kernel
theorem dX10_isSame_63 : decode cX10_isSame 63 = .ok (.aload_n 0, 1) := by decide +kernel
theorem dX10_isSame_64 : decode cX10_isSame 64 = .ok (.getfield 23, 3) := by decide +kernel
theorem dX10_isSame_67 : decode cX10_isSame 67 = .ok (.iload_n 2, 1) := by decide +kernel
theorem dX10_isSame_68 : decode cX10_isSame 68 = .ok (.laload, 1) := by decide +kernel
theorem dX10_isSame_69 : decode cX10_isSame 69 = .ok (.lcmp, 1) := by decide +kernel
theorem dX10_isSame_70 : decode cX10_isSame 70 = .ok (.ifCond .ne 7, 3) := by decide +kernel
theorem dX10_isSame_73 : decode cX10_isSame 73 = .ok (.iconst 1, 1) := by decide +kernel
theorem dX10_isSame_74 : decode cX10_isSame 74 = .ok (.goto 4, 3) := by decide +kernel
theorem dX10_isSame_77 : decode cX10_isSame 77 = .ok (.iconst 0, 1) := by decide +kernel
theorem dX10_isSame_78 : decode cX10_isSame 78 = .ok (.ireturn, 1) := by decide +kernel
theorem dX10_isOne_0 : decode cX10_isOne 0 = .ok (.aload_n 0, 1) := by decide +kernel
theorem dX10_isOne_1 : decode cX10_isOne 1 = .ok (.getfield 13, 3) := by decide +kernel
theorem dX10_isOne_4 : decode cX10_isOne 4 = .ok (.iload_n 1, 1) := by decide +kernel
theorem dX10_isOne_5 : decode cX10_isOne 5 = .ok (.iaload, 1) := by decide +kernel
theorem dX10_isOne_6 : decode cX10_isOne 6 = .ok (.iconst 1, 1) := by decide +kernel
theorem dX10_isOne_7 : decode cX10_isOne 7 = .ok (.if_icmp .ne 23, 3) := by decide +kernel
theorem dX10_isOne_10 : decode cX10_isOne 10 = .ok (.aload_n 0, 1) := by decide +kernel
theorem dX10_isOne_11 : decode cX10_isOne 11 = .ok (.getfield 16, 3) := by decide +kernel
theorem dX10_isOne_14 : decode cX10_isOne 14 = .ok (.iload_n 1, 1) := by decide +kernel
theorem dX10_isOne_15 : decode cX10_isOne 15 = .ok (.laload, 1) := by decide +kernel
theorem dX10_isOne_16 : decode cX10_isOne 16 = .ok (.aload_n 0, 1) := by decide +kernel
theorem dX10_isOne_17 : decode cX10_isOne 17 = .ok (.getfield 20, 3) := by decide +kernel
theorem dX10_isOne_20 : decode cX10_isOne 20 = .ok (.iload_n 1, 1) := by decide +kernel
theorem dX10_isOne_21 : decode cX10_isOne 21 = .ok (.laload, 1) := by decide +kernel
theorem dX10_isOne_22 : decode cX10_isOne 22 = .ok (.lcmp, 1) := by decide +kernel
theorem dX10_isOne_23 : decode cX10_isOne 23 = .ok (.ifCond .ne 7, 3) := by decide +kernel
theorem dX10_isOne_26 : decode cX10_isOne 26 = .ok (.iconst 1, 1) := by decide +kernel
theorem dX10_isOne_27 : decode cX10_isOne 27 = .ok (.goto 4, 3) := by decide +kernel
theorem dX10_isOne_30 : decode cX10_isOne 30 = .ok (.iconst 0, 1) := by decide +kernel
theorem dX10_isOne_31 : decode cX10_isOne 31 = .ok (.ireturn, 1) := by decide +kernel
theorem dX10_isNumber_0 : decode cX10_isNumber 0 = .ok (.aload_n 0, 1) := by decide +kernel
theorem dX10_isNumber_1 : decode cX10_isNumber 1 = .ok (.iload_n 1, 1) := by decide +kernel
theorem dX10_isNumber_2 : decode cX10_isNumber 2 = .ok (.invokevirtual 162, 3) := by decide +kernel
theorem dX10_isNumber_5 : decode cX10_isNumber 5 = .ok (.ifCond .eq 18, 3) := by decide +kernel
theorem dX10_isNumber_8 : decode cX10_isNumber 8 = .ok (.aload_n 0, 1) := by decide +kernel
theorem dX10_isNumber_9 : decode cX10_isNumber 9 = .ok (.getfield 16, 3) := by decide +kernel
theorem dX10_isNumber_12 : decode cX10_isNumber 12 = .ok (.iload_n 1, 1) := by decide +kernel
theorem dX10_isNumber_13 : decode cX10_isNumber 13 = .ok (.laload, 1) := by decide +kernel
theorem dX10_isNumber_14 : decode cX10_isNumber 14 = .ok (.lload_n 2, 1) := by decide +kernel
theorem dX10_isNumber_15 : decode cX10_isNumber 15 = .ok (.lcmp, 1) := by decide +kernel
theorem dX10_isNumber_16 : decode cX10_isNumber 16 = .ok (.ifCond .ne 7, 3) := by decide +kernel
theorem dX10_isNumber_19 : decode cX10_isNumber 19 = .ok (.iconst 1, 1) := by decide +kernel
theorem dX10_isNumber_20 : decode cX10_isNumber 20 = .ok (.goto 4, 3) := by decide +kernel
theorem dX10_isNumber_23 : decode cX10_isNumber 23 = .ok (.iconst 0, 1) := by decide +kernel
theorem dX10_isNumber_24 : decode cX10_isNumber 24 = .ok (.ireturn, 1) := by decide +kernel
theorem dX10_one_0 : decode cX10_one 0 = .ok (.aload_n 0, 1) := by decide +kernel
theorem dX10_one_1 : decode cX10_one 1 = .ok (.iload_n 1, 1) := by decide +kernel
theorem dX10_one_2 : decode cX10_one 2 = .ok (.iconst 1, 1) := by decide +kernel
theorem dX10_one_3 : decode cX10_one 3 = .ok (.lload_n 2, 1) := by decide +kernel
theorem dX10_one_4 : decode cX10_one 4 = .ok (.lload_n 2, 1) := by decide +kernel
theorem dX10_one_5 : decode cX10_one 5 = .ok (.lconst 0, 1) := by decide +kernel
theorem dX10_one_6 : decode cX10_one 6 = .ok (.invokevirtual 165, 3) := by decide +kernel
theorem dX10_one_9 : decode cX10_one 9 = .ok (.return_, 1) := by decide +kernel
theorem dX10_contains_0 : decode cX10_contains 0 = .ok (.aload_n 0, 1) := by decide +kernel
theorem dX10_contains_1 : decode cX10_contains 1 = .ok (.getfield 13, 3) := by decide +kernel
theorem dX10_contains_4 : decode cX10_contains 4 = .ok (.iload_n 1, 1) := by decide +kernel
theorem dX10_contains_5 : decode cX10_contains 5 = .ok (.iaload, 1) := by decide +kernel
theorem dX10_contains_6 : decode cX10_contains 6 = .ok (.iconst 2, 1) := by decide +kernel
theorem dX10_contains_7 : decode cX10_contains 7 = .ok (.if_icmp .eq 63, 3) := by decide +kernel
theorem dX10_contains_10 : decode cX10_contains 10 = .ok (.aload_n 0, 1) := by decide +kernel
theorem dX10_contains_11 : decode cX10_contains 11 = .ok (.getfield 13, 3) := by decide +kernel
theorem dX10_contains_14 : decode cX10_contains 14 = .ok (.iload_n 1, 1) := by decide +kernel
theorem dX10_contains_15 : decode cX10_contains 15 = .ok (.iaload, 1) := by decide +kernel
theorem dX10_contains_16 : decode cX10_contains 16 = .ok (.iconst 1, 1) := by decide +kernel
theorem dX10_contains_17 : decode cX10_contains 17 = .ok (.if_icmp .ne 57, 3) := by decide +kernel
theorem dX10_contains_20 : decode cX10_contains 20 = .ok (.lload_n 2, 1) := by decide +kernel
theorem dX10_contains_21 : decode cX10_contains 21 = .ok (.aload_n 0, 1) := by decide +kernel
theorem dX10_contains_22 : decode cX10_contains 22 = .ok (.getfield 16, 3) := by decide +kernel
theorem dX10_contains_25 : decode cX10_contains 25 = .ok (.iload_n 1, 1) := by decide +kernel
theorem dX10_contains_26 : decode cX10_contains 26 = .ok (.laload, 1) := by decide +kernel
theorem dX10_contains_27 : decode cX10_contains 27 = .ok (.aload_n 0, 1) := by decide +kernel
theorem dX10_contains_28 : decode cX10_contains 28 = .ok (.getfield 20, 3) := by decide +kernel
theorem dX10_contains_31 : decode cX10_contains 31 = .ok (.iload_n 1, 1) := by decide +kernel
theorem dX10_contains_32 : decode cX10_contains 32 = .ok (.laload, 1) := by decide +kernel
theorem dX10_contains_33 : decode cX10_contains 33 = .ok (.invokestatic 67, 3) := by decide +kernel
theorem dX10_contains_36 : decode cX10_contains 36 = .ok (.ifCond .eq 38, 3) := by decide +kernel
theorem dX10_contains_39 : decode cX10_contains 39 = .ok (.aload_n 0, 1) := by decide +kernel
theorem dX10_contains_40 : decode cX10_contains 40 = .ok (.getfield 23, 3) := by decide +kernel
theorem dX10_contains_43 : decode cX10_contains 43 = .ok (.iload_n 1, 1) := by decide +kernel
theorem dX10_contains_44 : decode cX10_contains 44 = .ok (.laload, 1) := by decide +kernel
theorem dX10_contains_45 : decode cX10_contains 45 = .ok (.lconst 0, 1) := by decide +kernel
theorem dX10_contains_46 : decode cX10_contains 46 = .ok (.lcmp, 1) := by decide +kernel
theorem dX10_contains_47 : decode cX10_contains 47 = .ok (.ifCond .eq 23, 3) := by decide +kernel
theorem dX10_contains_50 : decode cX10_contains 50 = .ok (.lload_n 2, 1) := by decide +kernel
theorem dX10_contains_51 : decode cX10_contains 51 = .ok (.aload_n 0, 1) := by decide +kernel
theorem dX10_contains_52 : decode cX10_contains 52 = .ok (.getfield 16, 3) := by decide +kernel
theorem dX10_contains_55 : decode cX10_contains 55 = .ok (.iload_n 1, 1) := by decide +kernel
theorem dX10_contains_56 : decode cX10_contains 56 = .ok (.laload, 1) := by decide +kernel
theorem dX10_contains_57 : decode cX10_contains 57 = .ok (.lsub, 1) := by decide +kernel
theorem dX10_contains_58 : decode cX10_contains 58 = .ok (.aload_n 0, 1) := by decide +kernel
theorem dX10_contains_59 : decode cX10_contains 59 = .ok (.getfield 23, 3) := by decide +kernel
theorem dX10_contains_62 : decode cX10_contains 62 = .ok (.iload_n 1, 1) := by decide +kernel
theorem dX10_contains_63 : decode cX10_contains 63 = .ok (.laload, 1) := by decide +kernel
theorem dX10_contains_64 : decode cX10_contains 64 = .ok (.lrem, 1) := by decide +kernel
theorem dX10_contains_65 : decode cX10_contains 65 = .ok (.lconst 0, 1) := by decide +kernel
theorem dX10_contains_66 : decode cX10_contains 66 = .ok (.lcmp, 1) := by decide +kernel
theorem dX10_contains_67 : decode cX10_contains 67 = .ok (.ifCond .ne 7, 3) := by decide +kernel
theorem dX10_contains_70 : decode cX10_contains 70 = .ok (.iconst 1, 1) := by decide +kernel
theorem dX10_contains_71 : decode cX10_contains 71 = .ok (.goto 4, 3) := by decide +kernel
theorem dX10_contains_74 : decode cX10_contains 74 = .ok (.iconst 0, 1) := by decide +kernel
theorem dX10_contains_75 : decode cX10_contains 75 = .ok (.ireturn, 1) := by decide +kernel
theorem dX10_isPlain_0 : decode cX10_isPlain 0 = .ok (.aload_n 0, 1) := by decide +kernel
theorem dX10_isPlain_1 : decode cX10_isPlain 1 = .ok (.getfield 13, 3) := by decide +kernel
theorem dX10_isPlain_4 : decode cX10_isPlain 4 = .ok (.iload_n 2, 1) := by decide +kernel
theorem dX10_isPlain_5 : decode cX10_isPlain 5 = .ok (.iaload, 1) := by decide +kernel
theorem dX10_isPlain_6 : decode cX10_isPlain 6 = .ok (.ifCond .eq 12, 3) := by decide +kernel
theorem dX10_isPlain_9 : decode cX10_isPlain 9 = .ok (.aload_n 0, 1) := by decide +kernel
theorem dX10_isPlain_10 : decode cX10_isPlain 10 = .ok (.getfield 13, 3) := by decide +kernel
theorem dX10_isPlain_13 : decode cX10_isPlain 13 = .ok (.iload_n 3, 1) := by decide +kernel
theorem dX10_isPlain_14 : decode cX10_isPlain 14 = .ok (.iaload, 1) := by decide +kernel
theorem dX10_isPlain_15 : decode cX10_isPlain 15 = .ok (.ifCond .ne 12, 3) := by decide +kernel
theorem dX10_isPlain_18 : decode cX10_isPlain 18 = .ok (.aload_n 0, 1) := by decide +kernel
theorem dX10_isPlain_19 : decode cX10_isPlain 19 = .ok (.getfield 13, 3) := by decide +kernel
theorem dX10_isPlain_22 : decode cX10_isPlain 22 = .ok (.iload_n 1, 1) := by decide +kernel
theorem dX10_isPlain_23 : decode cX10_isPlain 23 = .ok (.iconst 0, 1) := by decide +kernel
theorem dX10_isPlain_24 : decode cX10_isPlain 24 = .ok (.iastore, 1) := by decide +kernel
theorem dX10_isPlain_25 : decode cX10_isPlain 25 = .ok (.iconst 1, 1) := by decide +kernel
theorem dX10_isPlain_26 : decode cX10_isPlain 26 = .ok (.ireturn, 1) := by decide +kernel
theorem dX10_isPlain_27 : decode cX10_isPlain 27 = .ok (.aload_n 0, 1) := by decide +kernel
theorem dX10_isPlain_28 : decode cX10_isPlain 28 = .ok (.getfield 13, 3) := by decide +kernel
theorem dX10_isPlain_31 : decode cX10_isPlain 31 = .ok (.iload_n 2, 1) := by decide +kernel
theorem dX10_isPlain_32 : decode cX10_isPlain 32 = .ok (.iaload, 1) := by decide +kernel
theorem dX10_isPlain_33 : decode cX10_isPlain 33 = .ok (.iconst 2, 1) := by decide +kernel
theorem dX10_isPlain_34 : decode cX10_isPlain 34 = .ok (.if_icmp .eq 13, 3) := by decide +kernel
theorem dX10_isPlain_37 : decode cX10_isPlain 37 = .ok (.aload_n 0, 1) := by decide +kernel
theorem dX10_isPlain_38 : decode cX10_isPlain 38 = .ok (.getfield 13, 3) := by decide +kernel
theorem dX10_isPlain_41 : decode cX10_isPlain 41 = .ok (.iload_n 3, 1) := by decide +kernel
theorem dX10_isPlain_42 : decode cX10_isPlain 42 = .ok (.iaload, 1) := by decide +kernel
theorem dX10_isPlain_43 : decode cX10_isPlain 43 = .ok (.iconst 2, 1) := by decide +kernel
theorem dX10_isPlain_44 : decode cX10_isPlain 44 = .ok (.if_icmp .ne 12, 3) := by decide +kernel
theorem dX10_isPlain_47 : decode cX10_isPlain 47 = .ok (.aload_n 0, 1) := by decide +kernel
theorem dX10_isPlain_48 : decode cX10_isPlain 48 = .ok (.getfield 13, 3) := by decide +kernel
theorem dX10_isPlain_51 : decode cX10_isPlain 51 = .ok (.iload_n 1, 1) := by decide +kernel
theorem dX10_isPlain_52 : decode cX10_isPlain 52 = .ok (.iconst 2, 1) := by decide +kernel
theorem dX10_isPlain_53 : decode cX10_isPlain 53 = .ok (.iastore, 1) := by decide +kernel
theorem dX10_isPlain_54 : decode cX10_isPlain 54 = .ok (.iconst 1, 1) := by decide +kernel
theorem dX10_isPlain_55 : decode cX10_isPlain 55 = .ok (.ireturn, 1) := by decide +kernel
theorem dX10_isPlain_56 : decode cX10_isPlain 56 = .ok (.iconst 0, 1) := by decide +kernel
theorem dX10_isPlain_57 : decode cX10_isPlain 57 = .ok (.ireturn, 1) := by decide +kernel
theorem dX10_join_0 : decode cX10_join 0 = .ok (.aload_n 0, 1) := by decide +kernel
theorem dX10_join_1 : decode cX10_join 1 = .ok (.getfield 13, 3) := by decide +kernel
theorem dX10_join_4 : decode cX10_join 4 = .ok (.iload_n 2, 1) := by decide +kernel
theorem dX10_join_5 : decode cX10_join 5 = .ok (.iaload, 1) := by decide +kernel
theorem dX10_join_6 : decode cX10_join 6 = .ok (.ifCond .eq 12, 3) := by decide +kernel
theorem dX10_join_9 : decode cX10_join 9 = .ok (.aload_n 0, 1) := by decide +kernel
theorem dX10_join_10 : decode cX10_join 10 = .ok (.getfield 13, 3) := by decide +kernel
theorem dX10_join_13 : decode cX10_join 13 = .ok (.iload_n 3, 1) := by decide +kernel
theorem dX10_join_14 : decode cX10_join 14 = .ok (.iaload, 1) := by decide +kernel
theorem dX10_join_15 : decode cX10_join 15 = .ok (.ifCond .ne 25, 3) := by decide +kernel
theorem dX10_join_18 : decode cX10_join 18 = .ok (.aload_n 0, 1) := by decide +kernel
theorem dX10_join_19 : decode cX10_join 19 = .ok (.iload_n 1, 1) := by decide +kernel
theorem dX10_join_20 : decode cX10_join 20 = .ok (.aload_n 0, 1) := by decide +kernel
theorem dX10_join_21 : decode cX10_join 21 = .ok (.getfield 13, 3) := by decide +kernel
theorem dX10_join_24 : decode cX10_join 24 = .ok (.iload_n 2, 1) := by decide +kernel
theorem dX10_join_25 : decode cX10_join 25 = .ok (.iaload, 1) := by decide +kernel
theorem dX10_join_26 : decode cX10_join 26 = .ok (.ifCond .ne 7, 3) := by decide +kernel
theorem dX10_join_29 : decode cX10_join 29 = .ok (.iload_n 3, 1) := by decide +kernel
theorem dX10_join_30 : decode cX10_join 30 = .ok (.goto 4, 3) := by decide +kernel
theorem dX10_join_33 : decode cX10_join 33 = .ok (.iload_n 2, 1) := by decide +kernel
theorem dX10_join_34 : decode cX10_join 34 = .ok (.invokevirtual 169, 3) := by decide +kernel
theorem dX10_join_37 : decode cX10_join 37 = .ok (.goto 140, 3) := by decide +kernel
theorem dX10_join_40 : decode cX10_join 40 = .ok (.aload_n 0, 1) := by decide +kernel
theorem dX10_join_41 : decode cX10_join 41 = .ok (.getfield 13, 3) := by decide +kernel
theorem dX10_join_44 : decode cX10_join 44 = .ok (.iload_n 2, 1) := by decide +kernel
theorem dX10_join_45 : decode cX10_join 45 = .ok (.iaload, 1) := by decide +kernel
theorem dX10_join_46 : decode cX10_join 46 = .ok (.iconst 2, 1) := by decide +kernel
theorem dX10_join_47 : decode cX10_join 47 = .ok (.if_icmp .eq 13, 3) := by decide +kernel
theorem dX10_join_50 : decode cX10_join 50 = .ok (.aload_n 0, 1) := by decide +kernel
theorem dX10_join_51 : decode cX10_join 51 = .ok (.getfield 13, 3) := by decide +kernel
theorem dX10_join_54 : decode cX10_join 54 = .ok (.iload_n 3, 1) := by decide +kernel
theorem dX10_join_55 : decode cX10_join 55 = .ok (.iaload, 1) := by decide +kernel
theorem dX10_join_56 : decode cX10_join 56 = .ok (.iconst 2, 1) := by decide +kernel
theorem dX10_join_57 : decode cX10_join 57 = .ok (.if_icmp .ne 13, 3) := by decide +kernel
theorem dX10_join_60 : decode cX10_join 60 = .ok (.aload_n 0, 1) := by decide +kernel
theorem dX10_join_61 : decode cX10_join 61 = .ok (.getfield 13, 3) := by decide +kernel
theorem dX10_join_64 : decode cX10_join 64 = .ok (.iload_n 1, 1) := by decide +kernel
theorem dX10_join_65 : decode cX10_join 65 = .ok (.iconst 2, 1) := by decide +kernel
theorem dX10_join_66 : decode cX10_join 66 = .ok (.iastore, 1) := by decide +kernel
theorem dX10_join_67 : decode cX10_join 67 = .ok (.goto 110, 3) := by decide +kernel
theorem dX10_join_70 : decode cX10_join 70 = .ok (.aload_n 0, 1) := by decide +kernel
theorem dX10_join_71 : decode cX10_join 71 = .ok (.getfield 16, 3) := by decide +kernel
theorem dX10_join_74 : decode cX10_join 74 = .ok (.iload_n 2, 1) := by decide +kernel
theorem dX10_join_75 : decode cX10_join 75 = .ok (.laload, 1) := by decide +kernel
theorem dX10_join_76 : decode cX10_join 76 = .ok (.aload_n 0, 1) := by decide +kernel
theorem dX10_join_77 : decode cX10_join 77 = .ok (.getfield 16, 3) := by decide +kernel
theorem dX10_join_80 : decode cX10_join 80 = .ok (.iload_n 3, 1) := by decide +kernel
theorem dX10_join_81 : decode cX10_join 81 = .ok (.laload, 1) := by decide +kernel
theorem dX10_join_82 : decode cX10_join 82 = .ok (.lcmp, 1) := by decide +kernel
theorem dX10_join_83 : decode cX10_join 83 = .ok (.ifCond .ge 12, 3) := by decide +kernel
theorem dX10_join_86 : decode cX10_join 86 = .ok (.aload_n 0, 1) := by decide +kernel
theorem dX10_join_87 : decode cX10_join 87 = .ok (.getfield 16, 3) := by decide +kernel
theorem dX10_join_90 : decode cX10_join 90 = .ok (.iload_n 2, 1) := by decide +kernel
theorem dX10_join_91 : decode cX10_join 91 = .ok (.laload, 1) := by decide +kernel
theorem dX10_join_92 : decode cX10_join 92 = .ok (.goto 9, 3) := by decide +kernel
theorem dX10_join_95 : decode cX10_join 95 = .ok (.aload_n 0, 1) := by decide +kernel
theorem dX10_join_96 : decode cX10_join 96 = .ok (.getfield 16, 3) := by decide +kernel
theorem dX10_join_99 : decode cX10_join 99 = .ok (.iload_n 3, 1) := by decide +kernel
theorem dX10_join_100 : decode cX10_join 100 = .ok (.laload, 1) := by decide +kernel
theorem dX10_join_101 : decode cX10_join 101 = .ok (.lstore 4, 2) := by decide +kernel
theorem dX10_join_103 : decode cX10_join 103 = .ok (.aload_n 0, 1) := by decide +kernel
theorem dX10_join_104 : decode cX10_join 104 = .ok (.getfield 20, 3) := by decide +kernel
theorem dX10_join_107 : decode cX10_join 107 = .ok (.iload_n 2, 1) := by decide +kernel
theorem dX10_join_108 : decode cX10_join 108 = .ok (.laload, 1) := by decide +kernel
theorem dX10_join_109 : decode cX10_join 109 = .ok (.aload_n 0, 1) := by decide +kernel
theorem dX10_join_110 : decode cX10_join 110 = .ok (.getfield 20, 3) := by decide +kernel
theorem dX10_join_113 : decode cX10_join 113 = .ok (.iload_n 3, 1) := by decide +kernel
theorem dX10_join_114 : decode cX10_join 114 = .ok (.laload, 1) := by decide +kernel
theorem dX10_join_115 : decode cX10_join 115 = .ok (.lcmp, 1) := by decide +kernel
theorem dX10_join_116 : decode cX10_join 116 = .ok (.ifCond .le 12, 3) := by decide +kernel
theorem dX10_join_119 : decode cX10_join 119 = .ok (.aload_n 0, 1) := by decide +kernel
theorem dX10_join_120 : decode cX10_join 120 = .ok (.getfield 20, 3) := by decide +kernel
theorem dX10_join_123 : decode cX10_join 123 = .ok (.iload_n 2, 1) := by decide +kernel
theorem dX10_join_124 : decode cX10_join 124 = .ok (.laload, 1) := by decide +kernel
theorem dX10_join_125 : decode cX10_join 125 = .ok (.goto 9, 3) := by decide +kernel
theorem dX10_join_128 : decode cX10_join 128 = .ok (.aload_n 0, 1) := by decide +kernel
theorem dX10_join_129 : decode cX10_join 129 = .ok (.getfield 20, 3) := by decide +kernel
theorem dX10_join_132 : decode cX10_join 132 = .ok (.iload_n 3, 1) := by decide +kernel
theorem dX10_join_133 : decode cX10_join 133 = .ok (.laload, 1) := by decide +kernel
theorem dX10_join_134 : decode cX10_join 134 = .ok (.lstore 6, 2) := by decide +kernel
theorem dX10_join_136 : decode cX10_join 136 = .ok (.aload_n 0, 1) := by decide +kernel
theorem dX10_join_137 : decode cX10_join 137 = .ok (.iload_n 1, 1) := by decide +kernel
theorem dX10_join_138 : decode cX10_join 138 = .ok (.iconst 1, 1) := by decide +kernel
theorem dX10_join_139 : decode cX10_join 139 = .ok (.lload 4, 2) := by decide +kernel
theorem dX10_join_141 : decode cX10_join 141 = .ok (.lload 6, 2) := by decide +kernel
theorem dX10_join_143 : decode cX10_join 143 = .ok (.aload_n 0, 1) := by decide +kernel
theorem dX10_join_144 : decode cX10_join 144 = .ok (.getfield 23, 3) := by decide +kernel
theorem dX10_join_147 : decode cX10_join 147 = .ok (.iload_n 2, 1) := by decide +kernel
theorem dX10_join_148 : decode cX10_join 148 = .ok (.laload, 1) := by decide +kernel
theorem dX10_join_149 : decode cX10_join 149 = .ok (.aload_n 0, 1) := by decide +kernel
theorem dX10_join_150 : decode cX10_join 150 = .ok (.getfield 23, 3) := by decide +kernel
theorem dX10_join_153 : decode cX10_join 153 = .ok (.iload_n 3, 1) := by decide +kernel
theorem dX10_join_154 : decode cX10_join 154 = .ok (.laload, 1) := by decide +kernel
theorem dX10_join_155 : decode cX10_join 155 = .ok (.invokestatic 172, 3) := by decide +kernel
theorem dX10_join_158 : decode cX10_join 158 = .ok (.aload_n 0, 1) := by decide +kernel
theorem dX10_join_159 : decode cX10_join 159 = .ok (.getfield 16, 3) := by decide +kernel
theorem dX10_join_162 : decode cX10_join 162 = .ok (.iload_n 2, 1) := by decide +kernel
theorem dX10_join_163 : decode cX10_join 163 = .ok (.laload, 1) := by decide +kernel
theorem dX10_join_164 : decode cX10_join 164 = .ok (.aload_n 0, 1) := by decide +kernel
theorem dX10_join_165 : decode cX10_join 165 = .ok (.getfield 16, 3) := by decide +kernel
theorem dX10_join_168 : decode cX10_join 168 = .ok (.iload_n 3, 1) := by decide +kernel
theorem dX10_join_169 : decode cX10_join 169 = .ok (.laload, 1) := by decide +kernel
theorem dX10_join_170 : decode cX10_join 170 = .ok (.lsub, 1) := by decide +kernel
theorem dX10_join_171 : decode cX10_join 171 = .ok (.invokestatic 172, 3) := by decide +kernel
theorem dX10_join_174 : decode cX10_join 174 = .ok (.invokevirtual 165, 3) := by decide +kernel
theorem dX10_join_177 : decode cX10_join 177 = .ok (.return_, 1) := by decide +kernel
theorem dX10_widen_0 : decode cX10_widen 0 = .ok (.aload_n 0, 1) := by decide +kernel
theorem dX10_widen_1 : decode cX10_widen 1 = .ok (.sipush 4930, 3) := by decide +kernel
theorem dX10_widen_4 : decode cX10_widen 4 = .ok (.iload_n 2, 1) := by decide +kernel
theorem dX10_widen_5 : decode cX10_widen 5 = .ok (.iload_n 3, 1) := by decide +kernel
theorem dX10_widen_6 : decode cX10_widen 6 = .ok (.invokevirtual 176, 3) := by decide +kernel
theorem dX10_widen_9 : decode cX10_widen 9 = .ok (.aload_n 0, 1) := by decide +kernel
theorem dX10_widen_10 : decode cX10_widen 10 = .ok (.getfield 13, 3) := by decide +kernel
theorem dX10_widen_13 : decode cX10_widen 13 = .ok (.sipush 4930, 3) := by decide +kernel
theorem dX10_widen_16 : decode cX10_widen 16 = .ok (.iaload, 1) := by decide +kernel
theorem dX10_widen_17 : decode cX10_widen 17 = .ok (.iconst 1, 1) := by decide +kernel
theorem dX10_widen_18 : decode cX10_widen 18 = .ok (.if_icmp .ne 148, 3) := by decide +kernel
theorem dX10_widen_21 : decode cX10_widen 21 = .ok (.aload_n 0, 1) := by decide +kernel
theorem dX10_widen_22 : decode cX10_widen 22 = .ok (.getfield 13, 3) := by decide +kernel
theorem dX10_widen_25 : decode cX10_widen 25 = .ok (.iload_n 2, 1) := by decide +kernel
theorem dX10_widen_26 : decode cX10_widen 26 = .ok (.iaload, 1) := by decide +kernel
theorem dX10_widen_27 : decode cX10_widen 27 = .ok (.iconst 1, 1) := by decide +kernel
theorem dX10_widen_28 : decode cX10_widen 28 = .ok (.if_icmp .ne 138, 3) := by decide +kernel
theorem dX10_widen_31 : decode cX10_widen 31 = .ok (.aload_n 0, 1) := by decide +kernel
theorem dX10_widen_32 : decode cX10_widen 32 = .ok (.getfield 13, 3) := by decide +kernel
theorem dX10_widen_35 : decode cX10_widen 35 = .ok (.iload_n 3, 1) := by decide +kernel
theorem dX10_widen_36 : decode cX10_widen 36 = .ok (.iaload, 1) := by decide +kernel
theorem dX10_widen_37 : decode cX10_widen 37 = .ok (.iconst 1, 1) := by decide +kernel
theorem dX10_widen_38 : decode cX10_widen 38 = .ok (.if_icmp .ne 128, 3) := by decide +kernel
theorem dX10_widen_41 : decode cX10_widen 41 = .ok (.aload_n 0, 1) := by decide +kernel
theorem dX10_widen_42 : decode cX10_widen 42 = .ok (.getfield 23, 3) := by decide +kernel
theorem dX10_widen_45 : decode cX10_widen 45 = .ok (.sipush 4930, 3) := by decide +kernel
theorem dX10_widen_48 : decode cX10_widen 48 = .ok (.laload, 1) := by decide +kernel
theorem dX10_widen_49 : decode cX10_widen 49 = .ok (.lconst 0, 1) := by decide +kernel
theorem dX10_widen_50 : decode cX10_widen 50 = .ok (.lcmp, 1) := by decide +kernel
theorem dX10_widen_51 : decode cX10_widen 51 = .ok (.ifCond .le 115, 3) := by decide +kernel
theorem dX10_widen_54 : decode cX10_widen 54 = .ok (.aload_n 0, 1) := by decide +kernel
theorem dX10_widen_55 : decode cX10_widen 55 = .ok (.getfield 23, 3) := by decide +kernel
theorem dX10_widen_58 : decode cX10_widen 58 = .ok (.sipush 4930, 3) := by decide +kernel
theorem dX10_widen_61 : decode cX10_widen 61 = .ok (.laload, 1) := by decide +kernel
theorem dX10_widen_62 : decode cX10_widen 62 = .ok (.lstore 4, 2) := by decide +kernel
theorem dX10_widen_64 : decode cX10_widen 64 = .ok (.aload_n 0, 1) := by decide +kernel
theorem dX10_widen_65 : decode cX10_widen 65 = .ok (.getfield 16, 3) := by decide +kernel
theorem dX10_widen_68 : decode cX10_widen 68 = .ok (.sipush 4930, 3) := by decide +kernel
theorem dX10_widen_71 : decode cX10_widen 71 = .ok (.laload, 1) := by decide +kernel
theorem dX10_widen_72 : decode cX10_widen 72 = .ok (.lstore 6, 2) := by decide +kernel
theorem dX10_widen_74 : decode cX10_widen 74 = .ok (.aload_n 0, 1) := by decide +kernel
theorem dX10_widen_75 : decode cX10_widen 75 = .ok (.getfield 20, 3) := by decide +kernel
theorem dX10_widen_78 : decode cX10_widen 78 = .ok (.sipush 4930, 3) := by decide +kernel
theorem dX10_widen_81 : decode cX10_widen 81 = .ok (.laload, 1) := by decide +kernel
theorem dX10_widen_82 : decode cX10_widen 82 = .ok (.lstore 8, 2) := by decide +kernel
theorem dX10_widen_84 : decode cX10_widen 84 = .ok (.lload 6, 2) := by decide +kernel
theorem dX10_widen_86 : decode cX10_widen 86 = .ok (.aload_n 0, 1) := by decide +kernel
theorem dX10_widen_87 : decode cX10_widen 87 = .ok (.getfield 16, 3) := by decide +kernel
theorem dX10_widen_90 : decode cX10_widen 90 = .ok (.iload_n 2, 1) := by decide +kernel
theorem dX10_widen_91 : decode cX10_widen 91 = .ok (.laload, 1) := by decide +kernel
theorem dX10_widen_92 : decode cX10_widen 92 = .ok (.lcmp, 1) := by decide +kernel
theorem dX10_widen_93 : decode cX10_widen 93 = .ok (.ifCond .ge 21, 3) := by decide +kernel
theorem dX10_widen_96 : decode cX10_widen 96 = .ok (.lload 6, 2) := by decide +kernel
theorem dX10_widen_98 : decode cX10_widen 98 = .ok (.lload 6, 2) := by decide +kernel
theorem dX10_widen_100 : decode cX10_widen 100 = .ok (.ldc2_w 160, 3) := by decide +kernel
theorem dX10_widen_103 : decode cX10_widen 103 = .ok (.ladd, 1) := by decide +kernel
theorem dX10_widen_104 : decode cX10_widen 104 = .ok (.lload 4, 2) := by decide +kernel
theorem dX10_widen_106 : decode cX10_widen 106 = .ok (.ldiv, 1) := by decide +kernel
theorem dX10_widen_107 : decode cX10_widen 107 = .ok (.lload 4, 2) := by decide +kernel
theorem dX10_widen_109 : decode cX10_widen 109 = .ok (.lmul, 1) := by decide +kernel
theorem dX10_widen_110 : decode cX10_widen 110 = .ok (.lsub, 1) := by decide +kernel
theorem dX10_widen_111 : decode cX10_widen 111 = .ok (.goto 5, 3) := by decide +kernel
theorem dX10_widen_114 : decode cX10_widen 114 = .ok (.lload 6, 2) := by decide +kernel
theorem dX10_widen_116 : decode cX10_widen 116 = .ok (.lstore 10, 2) := by decide +kernel
theorem dX10_widen_118 : decode cX10_widen 118 = .ok (.lload 8, 2) := by decide +kernel
theorem dX10_widen_120 : decode cX10_widen 120 = .ok (.aload_n 0, 1) := by decide +kernel
theorem dX10_widen_121 : decode cX10_widen 121 = .ok (.getfield 20, 3) := by decide +kernel
theorem dX10_widen_124 : decode cX10_widen 124 = .ok (.iload_n 2, 1) := by decide +kernel
theorem dX10_widen_125 : decode cX10_widen 125 = .ok (.laload, 1) := by decide +kernel
theorem dX10_widen_126 : decode cX10_widen 126 = .ok (.lcmp, 1) := by decide +kernel
theorem dX10_widen_127 : decode cX10_widen 127 = .ok (.ifCond .le 21, 3) := by decide +kernel
theorem dX10_widen_130 : decode cX10_widen 130 = .ok (.lload 8, 2) := by decide +kernel
theorem dX10_widen_132 : decode cX10_widen 132 = .ok (.ldc2_w 160, 3) := by decide +kernel
theorem dX10_widen_135 : decode cX10_widen 135 = .ok (.lload 8, 2) := by decide +kernel
theorem dX10_widen_137 : decode cX10_widen 137 = .ok (.lsub, 1) := by decide +kernel
theorem dX10_widen_138 : decode cX10_widen 138 = .ok (.lload 4, 2) := by decide +kernel
theorem dX10_widen_140 : decode cX10_widen 140 = .ok (.ldiv, 1) := by decide +kernel
theorem dX10_widen_141 : decode cX10_widen 141 = .ok (.lload 4, 2) := by decide +kernel
theorem dX10_widen_143 : decode cX10_widen 143 = .ok (.lmul, 1) := by decide +kernel
theorem dX10_widen_144 : decode cX10_widen 144 = .ok (.ladd, 1) := by decide +kernel
theorem dX10_widen_145 : decode cX10_widen 145 = .ok (.goto 5, 3) := by decide +kernel
theorem dX10_widen_148 : decode cX10_widen 148 = .ok (.lload 8, 2) := by decide +kernel
theorem dX10_widen_150 : decode cX10_widen 150 = .ok (.lstore 12, 2) := by decide +kernel
theorem dX10_widen_152 : decode cX10_widen 152 = .ok (.aload_n 0, 1) := by decide +kernel
theorem dX10_widen_153 : decode cX10_widen 153 = .ok (.sipush 4930, 3) := by decide +kernel
theorem dX10_widen_156 : decode cX10_widen 156 = .ok (.iconst 1, 1) := by decide +kernel
theorem dX10_widen_157 : decode cX10_widen 157 = .ok (.lload 10, 2) := by decide +kernel
theorem dX10_widen_159 : decode cX10_widen 159 = .ok (.lload 12, 2) := by decide +kernel
theorem dX10_widen_161 : decode cX10_widen 161 = .ok (.lload 4, 2) := by decide +kernel
theorem dX10_widen_163 : decode cX10_widen 163 = .ok (.invokevirtual 165, 3) := by decide +kernel
theorem dX10_widen_166 : decode cX10_widen 166 = .ok (.aload_n 0, 1) := by decide +kernel
theorem dX10_widen_167 : decode cX10_widen 167 = .ok (.iload_n 1, 1) := by decide +kernel
theorem dX10_widen_168 : decode cX10_widen 168 = .ok (.sipush 4930, 3) := by decide +kernel
theorem dX10_widen_171 : decode cX10_widen 171 = .ok (.invokevirtual 169, 3) := by decide +kernel
theorem dX10_widen_174 : decode cX10_widen 174 = .ok (.return_, 1) := by decide +kernel
theorem dX10_cut_0 : decode cX10_cut 0 = .ok (.aload_n 0, 1) := by decide +kernel
theorem dX10_cut_1 : decode cX10_cut 1 = .ok (.getfield 13, 3) := by decide +kernel
theorem dX10_cut_4 : decode cX10_cut 4 = .ok (.iload_n 2, 1) := by decide +kernel
theorem dX10_cut_5 : decode cX10_cut 5 = .ok (.iaload, 1) := by decide +kernel
theorem dX10_cut_6 : decode cX10_cut 6 = .ok (.iconst 1, 1) := by decide +kernel
theorem dX10_cut_7 : decode cX10_cut 7 = .ok (.if_icmp .eq 10, 3) := by decide +kernel
theorem dX10_cut_10 : decode cX10_cut 10 = .ok (.aload_n 0, 1) := by decide +kernel
theorem dX10_cut_11 : decode cX10_cut 11 = .ok (.iload_n 1, 1) := by decide +kernel
theorem dX10_cut_12 : decode cX10_cut 12 = .ok (.iload_n 2, 1) := by decide +kernel
theorem dX10_cut_13 : decode cX10_cut 13 = .ok (.invokevirtual 169, 3) := by decide +kernel
theorem dX10_cut_16 : decode cX10_cut 16 = .ok (.return_, 1) := by decide +kernel
theorem dX10_cut_17 : decode cX10_cut 17 = .ok (.aload_n 0, 1) := by decide +kernel
theorem dX10_cut_18 : decode cX10_cut 18 = .ok (.getfield 16, 3) := by decide +kernel
theorem dX10_cut_21 : decode cX10_cut 21 = .ok (.iload_n 2, 1) := by decide +kernel
theorem dX10_cut_22 : decode cX10_cut 22 = .ok (.laload, 1) := by decide +kernel
theorem dX10_cut_23 : decode cX10_cut 23 = .ok (.lstore 9, 2) := by decide +kernel
theorem dX10_cut_25 : decode cX10_cut 25 = .ok (.aload_n 0, 1) := by decide +kernel
theorem dX10_cut_26 : decode cX10_cut 26 = .ok (.getfield 20, 3) := by decide +kernel
theorem dX10_cut_29 : decode cX10_cut 29 = .ok (.iload_n 2, 1) := by decide +kernel
theorem dX10_cut_30 : decode cX10_cut 30 = .ok (.laload, 1) := by decide +kernel
theorem dX10_cut_31 : decode cX10_cut 31 = .ok (.lstore 11, 2) := by decide +kernel
theorem dX10_cut_33 : decode cX10_cut 33 = .ok (.aload_n 0, 1) := by decide +kernel
theorem dX10_cut_34 : decode cX10_cut 34 = .ok (.getfield 23, 3) := by decide +kernel
theorem dX10_cut_37 : decode cX10_cut 37 = .ok (.iload_n 2, 1) := by decide +kernel
theorem dX10_cut_38 : decode cX10_cut 38 = .ok (.laload, 1) := by decide +kernel
theorem dX10_cut_39 : decode cX10_cut 39 = .ok (.lstore 13, 2) := by decide +kernel
theorem dX10_cut_41 : decode cX10_cut 41 = .ok (.iload_n 3, 1) := by decide +kernel
theorem dX10_cut_42 : decode cX10_cut 42 = .ok (.ifCond .eq 60, 3) := by decide +kernel
theorem dX10_cut_45 : decode cX10_cut 45 = .ok (.lload 4, 2) := by decide +kernel
theorem dX10_cut_47 : decode cX10_cut 47 = .ok (.lload 9, 2) := by decide +kernel
theorem dX10_cut_49 : decode cX10_cut 49 = .ok (.lcmp, 1) := by decide +kernel
theorem dX10_cut_50 : decode cX10_cut 50 = .ok (.ifCond .le 52, 3) := by decide +kernel
theorem dX10_cut_53 : decode cX10_cut 53 = .ok (.lload 4, 2) := by decide +kernel
theorem dX10_cut_55 : decode cX10_cut 55 = .ok (.lload 11, 2) := by decide +kernel
theorem dX10_cut_57 : decode cX10_cut 57 = .ok (.lcmp, 1) := by decide +kernel
theorem dX10_cut_58 : decode cX10_cut 58 = .ok (.ifCond .le 11, 3) := by decide +kernel
theorem dX10_cut_61 : decode cX10_cut 61 = .ok (.aload_n 0, 1) := by decide +kernel
theorem dX10_cut_62 : decode cX10_cut 62 = .ok (.getfield 13, 3) := by decide +kernel
theorem dX10_cut_65 : decode cX10_cut 65 = .ok (.iload_n 1, 1) := by decide +kernel
theorem dX10_cut_66 : decode cX10_cut 66 = .ok (.iconst 0, 1) := by decide +kernel
theorem dX10_cut_67 : decode cX10_cut 67 = .ok (.iastore, 1) := by decide +kernel
theorem dX10_cut_68 : decode cX10_cut 68 = .ok (.return_, 1) := by decide +kernel
theorem dX10_cut_69 : decode cX10_cut 69 = .ok (.lload 13, 2) := by decide +kernel
theorem dX10_cut_71 : decode cX10_cut 71 = .ok (.lconst 0, 1) := by decide +kernel
theorem dX10_cut_72 : decode cX10_cut 72 = .ok (.lcmp, 1) := by decide +kernel
theorem dX10_cut_73 : decode cX10_cut 73 = .ok (.ifCond .ne 8, 3) := by decide +kernel
theorem dX10_cut_76 : decode cX10_cut 76 = .ok (.lload 9, 2) := by decide +kernel
theorem dX10_cut_78 : decode cX10_cut 78 = .ok (.goto 22, 3) := by decide +kernel
theorem dX10_cut_81 : decode cX10_cut 81 = .ok (.lload 9, 2) := by decide +kernel
theorem dX10_cut_83 : decode cX10_cut 83 = .ok (.lload 4, 2) := by decide +kernel
theorem dX10_cut_85 : decode cX10_cut 85 = .ok (.lload 9, 2) := by decide +kernel
theorem dX10_cut_87 : decode cX10_cut 87 = .ok (.lsub, 1) := by decide +kernel
theorem dX10_cut_88 : decode cX10_cut 88 = .ok (.lload 13, 2) := by decide +kernel
theorem dX10_cut_90 : decode cX10_cut 90 = .ok (.ladd, 1) := by decide +kernel
theorem dX10_cut_91 : decode cX10_cut 91 = .ok (.lconst 1, 1) := by decide +kernel
theorem dX10_cut_92 : decode cX10_cut 92 = .ok (.lsub, 1) := by decide +kernel
theorem dX10_cut_93 : decode cX10_cut 93 = .ok (.lload 13, 2) := by decide +kernel
theorem dX10_cut_95 : decode cX10_cut 95 = .ok (.ldiv, 1) := by decide +kernel
theorem dX10_cut_96 : decode cX10_cut 96 = .ok (.lload 13, 2) := by decide +kernel
theorem dX10_cut_98 : decode cX10_cut 98 = .ok (.lmul, 1) := by decide +kernel
theorem dX10_cut_99 : decode cX10_cut 99 = .ok (.ladd, 1) := by decide +kernel
theorem dX10_cut_100 : decode cX10_cut 100 = .ok (.lstore 9, 2) := by decide +kernel
theorem dX10_cut_102 : decode cX10_cut 102 = .ok (.iload 6, 2) := by decide +kernel
theorem dX10_cut_104 : decode cX10_cut 104 = .ok (.ifCond .eq 64, 3) := by decide +kernel
theorem dX10_cut_107 : decode cX10_cut 107 = .ok (.lload 7, 2) := by decide +kernel
theorem dX10_cut_109 : decode cX10_cut 109 = .ok (.lload 11, 2) := by decide +kernel
theorem dX10_cut_111 : decode cX10_cut 111 = .ok (.lcmp, 1) := by decide +kernel
theorem dX10_cut_112 : decode cX10_cut 112 = .ok (.ifCond .ge 56, 3) := by decide +kernel
theorem dX10_cut_115 : decode cX10_cut 115 = .ok (.lload 7, 2) := by decide +kernel
theorem dX10_cut_117 : decode cX10_cut 117 = .ok (.aload_n 0, 1) := by decide +kernel
theorem dX10_cut_118 : decode cX10_cut 118 = .ok (.getfield 16, 3) := by decide +kernel
theorem dX10_cut_121 : decode cX10_cut 121 = .ok (.iload_n 2, 1) := by decide +kernel
theorem dX10_cut_122 : decode cX10_cut 122 = .ok (.laload, 1) := by decide +kernel
theorem dX10_cut_123 : decode cX10_cut 123 = .ok (.lcmp, 1) := by decide +kernel
theorem dX10_cut_124 : decode cX10_cut 124 = .ok (.ifCond .ge 11, 3) := by decide +kernel
theorem dX10_cut_127 : decode cX10_cut 127 = .ok (.aload_n 0, 1) := by decide +kernel
theorem dX10_cut_128 : decode cX10_cut 128 = .ok (.getfield 13, 3) := by decide +kernel
theorem dX10_cut_131 : decode cX10_cut 131 = .ok (.iload_n 1, 1) := by decide +kernel
theorem dX10_cut_132 : decode cX10_cut 132 = .ok (.iconst 0, 1) := by decide +kernel
theorem dX10_cut_133 : decode cX10_cut 133 = .ok (.iastore, 1) := by decide +kernel
theorem dX10_cut_134 : decode cX10_cut 134 = .ok (.return_, 1) := by decide +kernel
theorem dX10_cut_135 : decode cX10_cut 135 = .ok (.lload 13, 2) := by decide +kernel
theorem dX10_cut_137 : decode cX10_cut 137 = .ok (.lconst 0, 1) := by decide +kernel
theorem dX10_cut_138 : decode cX10_cut 138 = .ok (.lcmp, 1) := by decide +kernel
theorem dX10_cut_139 : decode cX10_cut 139 = .ok (.ifCond .ne 8, 3) := by decide +kernel
theorem dX10_cut_142 : decode cX10_cut 142 = .ok (.lload 11, 2) := by decide +kernel
theorem dX10_cut_144 : decode cX10_cut 144 = .ok (.goto 22, 3) := by decide +kernel
theorem dX10_cut_147 : decode cX10_cut 147 = .ok (.lload 11, 2) := by decide +kernel
theorem dX10_cut_149 : decode cX10_cut 149 = .ok (.lload 11, 2) := by decide +kernel
theorem dX10_cut_151 : decode cX10_cut 151 = .ok (.lload 7, 2) := by decide +kernel
theorem dX10_cut_153 : decode cX10_cut 153 = .ok (.lsub, 1) := by decide +kernel
theorem dX10_cut_154 : decode cX10_cut 154 = .ok (.lload 13, 2) := by decide +kernel
theorem dX10_cut_156 : decode cX10_cut 156 = .ok (.ladd, 1) := by decide +kernel
theorem dX10_cut_157 : decode cX10_cut 157 = .ok (.lconst 1, 1) := by decide +kernel
theorem dX10_cut_158 : decode cX10_cut 158 = .ok (.lsub, 1) := by decide +kernel
theorem dX10_cut_159 : decode cX10_cut 159 = .ok (.lload 13, 2) := by decide +kernel
theorem dX10_cut_161 : decode cX10_cut 161 = .ok (.ldiv, 1) := by decide +kernel
theorem dX10_cut_162 : decode cX10_cut 162 = .ok (.lload 13, 2) := by decide +kernel
theorem dX10_cut_164 : decode cX10_cut 164 = .ok (.lmul, 1) := by decide +kernel
theorem dX10_cut_165 : decode cX10_cut 165 = .ok (.lsub, 1) := by decide +kernel
theorem dX10_cut_166 : decode cX10_cut 166 = .ok (.lstore 11, 2) := by decide +kernel
theorem dX10_cut_168 : decode cX10_cut 168 = .ok (.lload 9, 2) := by decide +kernel
theorem dX10_cut_170 : decode cX10_cut 170 = .ok (.lload 11, 2) := by decide +kernel
theorem dX10_cut_172 : decode cX10_cut 172 = .ok (.lcmp, 1) := by decide +kernel
theorem dX10_cut_173 : decode cX10_cut 173 = .ok (.ifCond .le 13, 3) := by decide +kernel
theorem dX10_cut_176 : decode cX10_cut 176 = .ok (.aload_n 0, 1) := by decide +kernel
theorem dX10_cut_177 : decode cX10_cut 177 = .ok (.getfield 13, 3) := by decide +kernel
theorem dX10_cut_180 : decode cX10_cut 180 = .ok (.iload_n 1, 1) := by decide +kernel
theorem dX10_cut_181 : decode cX10_cut 181 = .ok (.iconst 0, 1) := by decide +kernel
theorem dX10_cut_182 : decode cX10_cut 182 = .ok (.iastore, 1) := by decide +kernel
theorem dX10_cut_183 : decode cX10_cut 183 = .ok (.goto 15, 3) := by decide +kernel
theorem dX10_cut_186 : decode cX10_cut 186 = .ok (.aload_n 0, 1) := by decide +kernel
theorem dX10_cut_187 : decode cX10_cut 187 = .ok (.iload_n 1, 1) := by decide +kernel
theorem dX10_cut_188 : decode cX10_cut 188 = .ok (.iconst 1, 1) := by decide +kernel
theorem dX10_cut_189 : decode cX10_cut 189 = .ok (.lload 9, 2) := by decide +kernel
theorem dX10_cut_191 : decode cX10_cut 191 = .ok (.lload 11, 2) := by decide +kernel
theorem dX10_cut_193 : decode cX10_cut 193 = .ok (.lload 13, 2) := by decide +kernel
theorem dX10_cut_195 : decode cX10_cut 195 = .ok (.invokevirtual 165, 3) := by decide +kernel
theorem dX10_cut_198 : decode cX10_cut 198 = .ok (.return_, 1) := by decide +kernel
theorem dX10_add_0 : decode cX10_add 0 = .ok (.aload_n 0, 1) := by decide +kernel
theorem dX10_add_1 : decode cX10_add 1 = .ok (.iload_n 1, 1) := by decide +kernel
theorem dX10_add_2 : decode cX10_add 2 = .ok (.iload_n 2, 1) := by decide +kernel
theorem dX10_add_3 : decode cX10_add 3 = .ok (.iload_n 3, 1) := by decide +kernel
theorem dX10_add_4 : decode cX10_add 4 = .ok (.invokevirtual 179, 3) := by decide +kernel
theorem dX10_add_7 : decode cX10_add 7 = .ok (.ifCond .ne 50, 3) := by decide +kernel
theorem dX10_add_10 : decode cX10_add 10 = .ok (.aload_n 0, 1) := by decide +kernel
theorem dX10_add_11 : decode cX10_add 11 = .ok (.iload_n 1, 1) := by decide +kernel
theorem dX10_add_12 : decode cX10_add 12 = .ok (.iconst 1, 1) := by decide +kernel
theorem dX10_add_13 : decode cX10_add 13 = .ok (.aload_n 0, 1) := by decide +kernel
theorem dX10_add_14 : decode cX10_add 14 = .ok (.getfield 16, 3) := by decide +kernel
theorem dX10_add_17 : decode cX10_add 17 = .ok (.iload_n 2, 1) := by decide +kernel
theorem dX10_add_18 : decode cX10_add 18 = .ok (.laload, 1) := by decide +kernel
theorem dX10_add_19 : decode cX10_add 19 = .ok (.aload_n 0, 1) := by decide +kernel
theorem dX10_add_20 : decode cX10_add 20 = .ok (.getfield 16, 3) := by decide +kernel
theorem dX10_add_23 : decode cX10_add 23 = .ok (.iload_n 3, 1) := by decide +kernel
theorem dX10_add_24 : decode cX10_add 24 = .ok (.laload, 1) := by decide +kernel
theorem dX10_add_25 : decode cX10_add 25 = .ok (.ladd, 1) := by decide +kernel
theorem dX10_add_26 : decode cX10_add 26 = .ok (.aload_n 0, 1) := by decide +kernel
theorem dX10_add_27 : decode cX10_add 27 = .ok (.getfield 20, 3) := by decide +kernel
theorem dX10_add_30 : decode cX10_add 30 = .ok (.iload_n 2, 1) := by decide +kernel
theorem dX10_add_31 : decode cX10_add 31 = .ok (.laload, 1) := by decide +kernel
theorem dX10_add_32 : decode cX10_add 32 = .ok (.aload_n 0, 1) := by decide +kernel
theorem dX10_add_33 : decode cX10_add 33 = .ok (.getfield 20, 3) := by decide +kernel
theorem dX10_add_36 : decode cX10_add 36 = .ok (.iload_n 3, 1) := by decide +kernel
theorem dX10_add_37 : decode cX10_add 37 = .ok (.laload, 1) := by decide +kernel
theorem dX10_add_38 : decode cX10_add 38 = .ok (.ladd, 1) := by decide +kernel
theorem dX10_add_39 : decode cX10_add 39 = .ok (.aload_n 0, 1) := by decide +kernel
theorem dX10_add_40 : decode cX10_add 40 = .ok (.getfield 23, 3) := by decide +kernel
theorem dX10_add_43 : decode cX10_add 43 = .ok (.iload_n 2, 1) := by decide +kernel
theorem dX10_add_44 : decode cX10_add 44 = .ok (.laload, 1) := by decide +kernel
theorem dX10_add_45 : decode cX10_add 45 = .ok (.aload_n 0, 1) := by decide +kernel
theorem dX10_add_46 : decode cX10_add 46 = .ok (.getfield 23, 3) := by decide +kernel
theorem dX10_add_49 : decode cX10_add 49 = .ok (.iload_n 3, 1) := by decide +kernel
theorem dX10_add_50 : decode cX10_add 50 = .ok (.laload, 1) := by decide +kernel
theorem dX10_add_51 : decode cX10_add 51 = .ok (.invokestatic 172, 3) := by decide +kernel
theorem dX10_add_54 : decode cX10_add 54 = .ok (.invokevirtual 165, 3) := by decide +kernel
theorem dX10_add_57 : decode cX10_add 57 = .ok (.return_, 1) := by decide +kernel
theorem dX10_negate_0 : decode cX10_negate 0 = .ok (.aload_n 0, 1) := by decide +kernel
theorem dX10_negate_1 : decode cX10_negate 1 = .ok (.getfield 13, 3) := by decide +kernel
theorem dX10_negate_4 : decode cX10_negate 4 = .ok (.iload_n 2, 1) := by decide +kernel
theorem dX10_negate_5 : decode cX10_negate 5 = .ok (.iaload, 1) := by decide +kernel
theorem dX10_negate_6 : decode cX10_negate 6 = .ok (.iconst 1, 1) := by decide +kernel
theorem dX10_negate_7 : decode cX10_negate 7 = .ok (.if_icmp .ne 32, 3) := by decide +kernel
theorem dX10_negate_10 : decode cX10_negate 10 = .ok (.aload_n 0, 1) := by decide +kernel
theorem dX10_negate_11 : decode cX10_negate 11 = .ok (.iload_n 1, 1) := by decide +kernel
theorem dX10_negate_12 : decode cX10_negate 12 = .ok (.iconst 1, 1) := by decide +kernel
theorem dX10_negate_13 : decode cX10_negate 13 = .ok (.aload_n 0, 1) := by decide +kernel
theorem dX10_negate_14 : decode cX10_negate 14 = .ok (.getfield 20, 3) := by decide +kernel
theorem dX10_negate_17 : decode cX10_negate 17 = .ok (.iload_n 2, 1) := by decide +kernel
theorem dX10_negate_18 : decode cX10_negate 18 = .ok (.laload, 1) := by decide +kernel
theorem dX10_negate_19 : decode cX10_negate 19 = .ok (.lneg, 1) := by decide +kernel
theorem dX10_negate_20 : decode cX10_negate 20 = .ok (.aload_n 0, 1) := by decide +kernel
theorem dX10_negate_21 : decode cX10_negate 21 = .ok (.getfield 16, 3) := by decide +kernel
theorem dX10_negate_24 : decode cX10_negate 24 = .ok (.iload_n 2, 1) := by decide +kernel
theorem dX10_negate_25 : decode cX10_negate 25 = .ok (.laload, 1) := by decide +kernel
theorem dX10_negate_26 : decode cX10_negate 26 = .ok (.lneg, 1) := by decide +kernel
theorem dX10_negate_27 : decode cX10_negate 27 = .ok (.aload_n 0, 1) := by decide +kernel
theorem dX10_negate_28 : decode cX10_negate 28 = .ok (.getfield 23, 3) := by decide +kernel
theorem dX10_negate_31 : decode cX10_negate 31 = .ok (.iload_n 2, 1) := by decide +kernel
theorem dX10_negate_32 : decode cX10_negate 32 = .ok (.laload, 1) := by decide +kernel
theorem dX10_negate_33 : decode cX10_negate 33 = .ok (.invokevirtual 165, 3) := by decide +kernel
theorem dX10_negate_36 : decode cX10_negate 36 = .ok (.goto 15, 3) := by decide +kernel
theorem dX10_negate_39 : decode cX10_negate 39 = .ok (.aload_n 0, 1) := by decide +kernel
theorem dX10_negate_40 : decode cX10_negate 40 = .ok (.getfield 13, 3) := by decide +kernel
theorem dX10_negate_43 : decode cX10_negate 43 = .ok (.iload_n 1, 1) := by decide +kernel
theorem dX10_negate_44 : decode cX10_negate 44 = .ok (.aload_n 0, 1) := by decide +kernel
theorem dX10_negate_45 : decode cX10_negate 45 = .ok (.getfield 13, 3) := by decide +kernel
theorem dX10_negate_48 : decode cX10_negate 48 = .ok (.iload_n 2, 1) := by decide +kernel
theorem dX10_negate_49 : decode cX10_negate 49 = .ok (.iaload, 1) := by decide +kernel
theorem dX10_negate_50 : decode cX10_negate 50 = .ok (.iastore, 1) := by decide +kernel
theorem dX10_negate_51 : decode cX10_negate 51 = .ok (.return_, 1) := by decide +kernel
theorem dX10_subtract_0 : decode cX10_subtract 0 = .ok (.aload_n 0, 1) := by decide +kernel
theorem dX10_subtract_1 : decode cX10_subtract 1 = .ok (.sipush 4930, 3) := by decide +kernel
theorem dX10_subtract_4 : decode cX10_subtract 4 = .ok (.iload_n 3, 1) := by decide +kernel
theorem dX10_subtract_5 : decode cX10_subtract 5 = .ok (.invokevirtual 183, 3) := by decide +kernel
theorem dX10_subtract_8 : decode cX10_subtract 8 = .ok (.aload_n 0, 1) := by decide +kernel
theorem dX10_subtract_9 : decode cX10_subtract 9 = .ok (.iload_n 1, 1) := by decide +kernel
theorem dX10_subtract_10 : decode cX10_subtract 10 = .ok (.iload_n 2, 1) := by decide +kernel
theorem dX10_subtract_11 : decode cX10_subtract 11 = .ok (.sipush 4930, 3) := by decide +kernel
theorem dX10_subtract_14 : decode cX10_subtract 14 = .ok (.invokevirtual 186, 3) := by decide +kernel
theorem dX10_subtract_17 : decode cX10_subtract 17 = .ok (.return_, 1) := by decide +kernel
theorem dX10_times_0 : decode cX10_times 0 = .ok (.aload_n 0, 1) := by decide +kernel
theorem dX10_times_1 : decode cX10_times 1 = .ok (.getfield 13, 3) := by decide +kernel
theorem dX10_times_4 : decode cX10_times 4 = .ok (.iload_n 2, 1) := by decide +kernel
theorem dX10_times_5 : decode cX10_times 5 = .ok (.iaload, 1) := by decide +kernel
theorem dX10_times_6 : decode cX10_times 6 = .ok (.ifCond .eq 12, 3) := by decide +kernel
theorem dX10_times_9 : decode cX10_times 9 = .ok (.aload_n 0, 1) := by decide +kernel
theorem dX10_times_10 : decode cX10_times 10 = .ok (.getfield 13, 3) := by decide +kernel
theorem dX10_times_13 : decode cX10_times 13 = .ok (.iload_n 3, 1) := by decide +kernel
theorem dX10_times_14 : decode cX10_times 14 = .ok (.iaload, 1) := by decide +kernel
theorem dX10_times_15 : decode cX10_times 15 = .ok (.ifCond .ne 13, 3) := by decide +kernel
theorem dX10_times_18 : decode cX10_times 18 = .ok (.aload_n 0, 1) := by decide +kernel
theorem dX10_times_19 : decode cX10_times 19 = .ok (.getfield 13, 3) := by decide +kernel
theorem dX10_times_22 : decode cX10_times 22 = .ok (.iload_n 1, 1) := by decide +kernel
theorem dX10_times_23 : decode cX10_times 23 = .ok (.iconst 0, 1) := by decide +kernel
theorem dX10_times_24 : decode cX10_times 24 = .ok (.iastore, 1) := by decide +kernel
theorem dX10_times_25 : decode cX10_times 25 = .ok (.goto 324, 3) := by decide +kernel
theorem dX10_times_28 : decode cX10_times 28 = .ok (.aload_n 0, 1) := by decide +kernel
theorem dX10_times_29 : decode cX10_times 29 = .ok (.iload_n 2, 1) := by decide +kernel
theorem dX10_times_30 : decode cX10_times 30 = .ok (.lconst 0, 1) := by decide +kernel
theorem dX10_times_31 : decode cX10_times 31 = .ok (.invokevirtual 189, 3) := by decide +kernel
theorem dX10_times_34 : decode cX10_times 34 = .ok (.ifCond .ne 12, 3) := by decide +kernel
theorem dX10_times_37 : decode cX10_times 37 = .ok (.aload_n 0, 1) := by decide +kernel
theorem dX10_times_38 : decode cX10_times 38 = .ok (.iload_n 3, 1) := by decide +kernel
theorem dX10_times_39 : decode cX10_times 39 = .ok (.lconst 0, 1) := by decide +kernel
theorem dX10_times_40 : decode cX10_times 40 = .ok (.invokevirtual 189, 3) := by decide +kernel
theorem dX10_times_43 : decode cX10_times 43 = .ok (.ifCond .eq 12, 3) := by decide +kernel
theorem dX10_times_46 : decode cX10_times 46 = .ok (.aload_n 0, 1) := by decide +kernel
theorem dX10_times_47 : decode cX10_times 47 = .ok (.iload_n 1, 1) := by decide +kernel
theorem dX10_times_48 : decode cX10_times 48 = .ok (.lconst 0, 1) := by decide +kernel
theorem dX10_times_49 : decode cX10_times 49 = .ok (.invokevirtual 193, 3) := by decide +kernel
theorem dX10_times_52 : decode cX10_times 52 = .ok (.goto 297, 3) := by decide +kernel
theorem dX10_times_55 : decode cX10_times 55 = .ok (.aload_n 0, 1) := by decide +kernel
theorem dX10_times_56 : decode cX10_times 56 = .ok (.iload_n 1, 1) := by decide +kernel
theorem dX10_times_57 : decode cX10_times 57 = .ok (.iload_n 2, 1) := by decide +kernel
theorem dX10_times_58 : decode cX10_times 58 = .ok (.iload_n 3, 1) := by decide +kernel
theorem dX10_times_59 : decode cX10_times 59 = .ok (.invokevirtual 179, 3) := by decide +kernel
theorem dX10_times_62 : decode cX10_times 62 = .ok (.ifCond .ne 287, 3) := by decide +kernel
theorem dX10_times_65 : decode cX10_times 65 = .ok (.ldc2_w 197, 3) := by decide +kernel
theorem dX10_times_68 : decode cX10_times 68 = .ok (.lstore 4, 2) := by decide +kernel
theorem dX10_times_70 : decode cX10_times 70 = .ok (.aload_n 0, 1) := by decide +kernel
theorem dX10_times_71 : decode cX10_times 71 = .ok (.getfield 16, 3) := by decide +kernel
theorem dX10_times_74 : decode cX10_times 74 = .ok (.iload_n 2, 1) := by decide +kernel
theorem dX10_times_75 : decode cX10_times 75 = .ok (.laload, 1) := by decide +kernel
theorem dX10_times_76 : decode cX10_times 76 = .ok (.lload 4, 2) := by decide +kernel
theorem dX10_times_78 : decode cX10_times 78 = .ok (.lneg, 1) := by decide +kernel
theorem dX10_times_79 : decode cX10_times 79 = .ok (.lcmp, 1) := by decide +kernel
theorem dX10_times_80 : decode cX10_times 80 = .ok (.ifCond .lt 40, 3) := by decide +kernel
theorem dX10_times_83 : decode cX10_times 83 = .ok (.aload_n 0, 1) := by decide +kernel
theorem dX10_times_84 : decode cX10_times 84 = .ok (.getfield 20, 3) := by decide +kernel
theorem dX10_times_87 : decode cX10_times 87 = .ok (.iload_n 2, 1) := by decide +kernel
theorem dX10_times_88 : decode cX10_times 88 = .ok (.laload, 1) := by decide +kernel
theorem dX10_times_89 : decode cX10_times 89 = .ok (.lload 4, 2) := by decide +kernel
theorem dX10_times_91 : decode cX10_times 91 = .ok (.lcmp, 1) := by decide +kernel
theorem dX10_times_92 : decode cX10_times 92 = .ok (.ifCond .gt 28, 3) := by decide +kernel
theorem dX10_times_95 : decode cX10_times 95 = .ok (.aload_n 0, 1) := by decide +kernel
theorem dX10_times_96 : decode cX10_times 96 = .ok (.getfield 16, 3) := by decide +kernel
theorem dX10_times_99 : decode cX10_times 99 = .ok (.iload_n 3, 1) := by decide +kernel
theorem dX10_times_100 : decode cX10_times 100 = .ok (.laload, 1) := by decide +kernel
theorem dX10_times_101 : decode cX10_times 101 = .ok (.lload 4, 2) := by decide +kernel
theorem dX10_times_103 : decode cX10_times 103 = .ok (.lneg, 1) := by decide +kernel
theorem dX10_times_104 : decode cX10_times 104 = .ok (.lcmp, 1) := by decide +kernel
theorem dX10_times_105 : decode cX10_times 105 = .ok (.ifCond .lt 15, 3) := by decide +kernel
theorem dX10_times_108 : decode cX10_times 108 = .ok (.aload_n 0, 1) := by decide +kernel
theorem dX10_times_109 : decode cX10_times 109 = .ok (.getfield 20, 3) := by decide +kernel
theorem dX10_times_112 : decode cX10_times 112 = .ok (.iload_n 3, 1) := by decide +kernel
theorem dX10_times_113 : decode cX10_times 113 = .ok (.laload, 1) := by decide +kernel
theorem dX10_times_114 : decode cX10_times 114 = .ok (.lload 4, 2) := by decide +kernel
theorem dX10_times_116 : decode cX10_times 116 = .ok (.lcmp, 1) := by decide +kernel
theorem dX10_times_117 : decode cX10_times 117 = .ok (.ifCond .le 11, 3) := by decide +kernel
theorem dX10_times_120 : decode cX10_times 120 = .ok (.aload_n 0, 1) := by decide +kernel
theorem dX10_times_121 : decode cX10_times 121 = .ok (.getfield 13, 3) := by decide +kernel
theorem dX10_times_124 : decode cX10_times 124 = .ok (.iload_n 1, 1) := by decide +kernel
theorem dX10_times_125 : decode cX10_times 125 = .ok (.iconst 2, 1) := by decide +kernel
theorem dX10_times_126 : decode cX10_times 126 = .ok (.iastore, 1) := by decide +kernel
theorem dX10_times_127 : decode cX10_times 127 = .ok (.return_, 1) := by decide +kernel
theorem dX10_times_128 : decode cX10_times 128 = .ok (.aload_n 0, 1) := by decide +kernel
theorem dX10_times_129 : decode cX10_times 129 = .ok (.getfield 16, 3) := by decide +kernel
theorem dX10_times_132 : decode cX10_times 132 = .ok (.iload_n 2, 1) := by decide +kernel
theorem dX10_times_133 : decode cX10_times 133 = .ok (.laload, 1) := by decide +kernel
theorem dX10_times_134 : decode cX10_times 134 = .ok (.aload_n 0, 1) := by decide +kernel
theorem dX10_times_135 : decode cX10_times 135 = .ok (.getfield 16, 3) := by decide +kernel
theorem dX10_times_138 : decode cX10_times 138 = .ok (.iload_n 3, 1) := by decide +kernel
theorem dX10_times_139 : decode cX10_times 139 = .ok (.laload, 1) := by decide +kernel
theorem dX10_times_140 : decode cX10_times 140 = .ok (.lmul, 1) := by decide +kernel
theorem dX10_times_141 : decode cX10_times 141 = .ok (.lstore 6, 2) := by decide +kernel
theorem dX10_times_143 : decode cX10_times 143 = .ok (.aload_n 0, 1) := by decide +kernel
theorem dX10_times_144 : decode cX10_times 144 = .ok (.getfield 16, 3) := by decide +kernel
theorem dX10_times_147 : decode cX10_times 147 = .ok (.iload_n 2, 1) := by decide +kernel
theorem dX10_times_148 : decode cX10_times 148 = .ok (.laload, 1) := by decide +kernel
theorem dX10_times_149 : decode cX10_times 149 = .ok (.aload_n 0, 1) := by decide +kernel
theorem dX10_times_150 : decode cX10_times 150 = .ok (.getfield 20, 3) := by decide +kernel
theorem dX10_times_153 : decode cX10_times 153 = .ok (.iload_n 3, 1) := by decide +kernel
theorem dX10_times_154 : decode cX10_times 154 = .ok (.laload, 1) := by decide +kernel
theorem dX10_times_155 : decode cX10_times 155 = .ok (.lmul, 1) := by decide +kernel
theorem dX10_times_156 : decode cX10_times 156 = .ok (.lstore 8, 2) := by decide +kernel
theorem dX10_times_158 : decode cX10_times 158 = .ok (.aload_n 0, 1) := by decide +kernel
theorem dX10_times_159 : decode cX10_times 159 = .ok (.getfield 20, 3) := by decide +kernel
theorem dX10_times_162 : decode cX10_times 162 = .ok (.iload_n 2, 1) := by decide +kernel
theorem dX10_times_163 : decode cX10_times 163 = .ok (.laload, 1) := by decide +kernel
theorem dX10_times_164 : decode cX10_times 164 = .ok (.aload_n 0, 1) := by decide +kernel
theorem dX10_times_165 : decode cX10_times 165 = .ok (.getfield 16, 3) := by decide +kernel
theorem dX10_times_168 : decode cX10_times 168 = .ok (.iload_n 3, 1) := by decide +kernel
theorem dX10_times_169 : decode cX10_times 169 = .ok (.laload, 1) := by decide +kernel
theorem dX10_times_170 : decode cX10_times 170 = .ok (.lmul, 1) := by decide +kernel
theorem dX10_times_171 : decode cX10_times 171 = .ok (.lstore 10, 2) := by decide +kernel
theorem dX10_times_173 : decode cX10_times 173 = .ok (.aload_n 0, 1) := by decide +kernel
theorem dX10_times_174 : decode cX10_times 174 = .ok (.getfield 20, 3) := by decide +kernel
theorem dX10_times_177 : decode cX10_times 177 = .ok (.iload_n 2, 1) := by decide +kernel
theorem dX10_times_178 : decode cX10_times 178 = .ok (.laload, 1) := by decide +kernel
theorem dX10_times_179 : decode cX10_times 179 = .ok (.aload_n 0, 1) := by decide +kernel
theorem dX10_times_180 : decode cX10_times 180 = .ok (.getfield 20, 3) := by decide +kernel
theorem dX10_times_183 : decode cX10_times 183 = .ok (.iload_n 3, 1) := by decide +kernel
theorem dX10_times_184 : decode cX10_times 184 = .ok (.laload, 1) := by decide +kernel
theorem dX10_times_185 : decode cX10_times 185 = .ok (.lmul, 1) := by decide +kernel
theorem dX10_times_186 : decode cX10_times 186 = .ok (.lstore 12, 2) := by decide +kernel
theorem dX10_times_188 : decode cX10_times 188 = .ok (.lload 6, 2) := by decide +kernel
theorem dX10_times_190 : decode cX10_times 190 = .ok (.lload 8, 2) := by decide +kernel
theorem dX10_times_192 : decode cX10_times 192 = .ok (.lcmp, 1) := by decide +kernel
theorem dX10_times_193 : decode cX10_times 193 = .ok (.ifCond .ge 8, 3) := by decide +kernel
theorem dX10_times_196 : decode cX10_times 196 = .ok (.lload 6, 2) := by decide +kernel
theorem dX10_times_198 : decode cX10_times 198 = .ok (.goto 5, 3) := by decide +kernel
theorem dX10_times_201 : decode cX10_times 201 = .ok (.lload 8, 2) := by decide +kernel
theorem dX10_times_203 : decode cX10_times 203 = .ok (.lstore 14, 2) := by decide +kernel
theorem dX10_times_205 : decode cX10_times 205 = .ok (.lload 10, 2) := by decide +kernel
theorem dX10_times_207 : decode cX10_times 207 = .ok (.lload 14, 2) := by decide +kernel
theorem dX10_times_209 : decode cX10_times 209 = .ok (.lcmp, 1) := by decide +kernel
theorem dX10_times_210 : decode cX10_times 210 = .ok (.ifCond .ge 8, 3) := by decide +kernel
theorem dX10_times_213 : decode cX10_times 213 = .ok (.lload 10, 2) := by decide +kernel
theorem dX10_times_215 : decode cX10_times 215 = .ok (.goto 5, 3) := by decide +kernel
theorem dX10_times_218 : decode cX10_times 218 = .ok (.lload 14, 2) := by decide +kernel
theorem dX10_times_220 : decode cX10_times 220 = .ok (.lstore 14, 2) := by decide +kernel
theorem dX10_times_222 : decode cX10_times 222 = .ok (.lload 12, 2) := by decide +kernel
theorem dX10_times_224 : decode cX10_times 224 = .ok (.lload 14, 2) := by decide +kernel
theorem dX10_times_226 : decode cX10_times 226 = .ok (.lcmp, 1) := by decide +kernel
theorem dX10_times_227 : decode cX10_times 227 = .ok (.ifCond .ge 8, 3) := by decide +kernel
theorem dX10_times_230 : decode cX10_times 230 = .ok (.lload 12, 2) := by decide +kernel
theorem dX10_times_232 : decode cX10_times 232 = .ok (.goto 5, 3) := by decide +kernel
theorem dX10_times_235 : decode cX10_times 235 = .ok (.lload 14, 2) := by decide +kernel
theorem dX10_times_237 : decode cX10_times 237 = .ok (.lstore 14, 2) := by decide +kernel
theorem dX10_times_239 : decode cX10_times 239 = .ok (.lload 6, 2) := by decide +kernel
theorem dX10_times_241 : decode cX10_times 241 = .ok (.lload 8, 2) := by decide +kernel
theorem dX10_times_243 : decode cX10_times 243 = .ok (.lcmp, 1) := by decide +kernel
theorem dX10_times_244 : decode cX10_times 244 = .ok (.ifCond .le 8, 3) := by decide +kernel
theorem dX10_times_247 : decode cX10_times 247 = .ok (.lload 6, 2) := by decide +kernel
theorem dX10_times_249 : decode cX10_times 249 = .ok (.goto 5, 3) := by decide +kernel
theorem dX10_times_252 : decode cX10_times 252 = .ok (.lload 8, 2) := by decide +kernel
theorem dX10_times_254 : decode cX10_times 254 = .ok (.lstore 16, 2) := by decide +kernel
theorem dX10_times_256 : decode cX10_times 256 = .ok (.lload 10, 2) := by decide +kernel
theorem dX10_times_258 : decode cX10_times 258 = .ok (.lload 16, 2) := by decide +kernel
theorem dX10_times_260 : decode cX10_times 260 = .ok (.lcmp, 1) := by decide +kernel
theorem dX10_times_261 : decode cX10_times 261 = .ok (.ifCond .le 8, 3) := by decide +kernel
theorem dX10_times_264 : decode cX10_times 264 = .ok (.lload 10, 2) := by decide +kernel
theorem dX10_times_266 : decode cX10_times 266 = .ok (.goto 5, 3) := by decide +kernel
theorem dX10_times_269 : decode cX10_times 269 = .ok (.lload 16, 2) := by decide +kernel
theorem dX10_times_271 : decode cX10_times 271 = .ok (.lstore 16, 2) := by decide +kernel
theorem dX10_times_273 : decode cX10_times 273 = .ok (.lload 12, 2) := by decide +kernel
theorem dX10_times_275 : decode cX10_times 275 = .ok (.lload 16, 2) := by decide +kernel
theorem dX10_times_277 : decode cX10_times 277 = .ok (.lcmp, 1) := by decide +kernel
theorem dX10_times_278 : decode cX10_times 278 = .ok (.ifCond .le 8, 3) := by decide +kernel
theorem dX10_times_281 : decode cX10_times 281 = .ok (.lload 12, 2) := by decide +kernel
theorem dX10_times_283 : decode cX10_times 283 = .ok (.goto 5, 3) := by decide +kernel
theorem dX10_times_286 : decode cX10_times 286 = .ok (.lload 16, 2) := by decide +kernel
theorem dX10_times_288 : decode cX10_times 288 = .ok (.lstore 16, 2) := by decide +kernel
theorem dX10_times_290 : decode cX10_times 290 = .ok (.aload_n 0, 1) := by decide +kernel
theorem dX10_times_291 : decode cX10_times 291 = .ok (.getfield 23, 3) := by decide +kernel
theorem dX10_times_294 : decode cX10_times 294 = .ok (.iload_n 2, 1) := by decide +kernel
theorem dX10_times_295 : decode cX10_times 295 = .ok (.laload, 1) := by decide +kernel
theorem dX10_times_296 : decode cX10_times 296 = .ok (.aload_n 0, 1) := by decide +kernel
theorem dX10_times_297 : decode cX10_times 297 = .ok (.getfield 16, 3) := by decide +kernel
theorem dX10_times_300 : decode cX10_times 300 = .ok (.iload_n 3, 1) := by decide +kernel
theorem dX10_times_301 : decode cX10_times 301 = .ok (.laload, 1) := by decide +kernel
theorem dX10_times_302 : decode cX10_times 302 = .ok (.lmul, 1) := by decide +kernel
theorem dX10_times_303 : decode cX10_times 303 = .ok (.aload_n 0, 1) := by decide +kernel
theorem dX10_times_304 : decode cX10_times 304 = .ok (.getfield 23, 3) := by decide +kernel
theorem dX10_times_307 : decode cX10_times 307 = .ok (.iload_n 3, 1) := by decide +kernel
theorem dX10_times_308 : decode cX10_times 308 = .ok (.laload, 1) := by decide +kernel
theorem dX10_times_309 : decode cX10_times 309 = .ok (.aload_n 0, 1) := by decide +kernel
theorem dX10_times_310 : decode cX10_times 310 = .ok (.getfield 16, 3) := by decide +kernel
theorem dX10_times_313 : decode cX10_times 313 = .ok (.iload_n 2, 1) := by decide +kernel
theorem dX10_times_314 : decode cX10_times 314 = .ok (.laload, 1) := by decide +kernel
theorem dX10_times_315 : decode cX10_times 315 = .ok (.lmul, 1) := by decide +kernel
theorem dX10_times_316 : decode cX10_times 316 = .ok (.invokestatic 172, 3) := by decide +kernel
theorem dX10_times_319 : decode cX10_times 319 = .ok (.aload_n 0, 1) := by decide +kernel
theorem dX10_times_320 : decode cX10_times 320 = .ok (.getfield 23, 3) := by decide +kernel
theorem dX10_times_323 : decode cX10_times 323 = .ok (.iload_n 2, 1) := by decide +kernel
theorem dX10_times_324 : decode cX10_times 324 = .ok (.laload, 1) := by decide +kernel
theorem dX10_times_325 : decode cX10_times 325 = .ok (.aload_n 0, 1) := by decide +kernel
theorem dX10_times_326 : decode cX10_times 326 = .ok (.getfield 23, 3) := by decide +kernel
theorem dX10_times_329 : decode cX10_times 329 = .ok (.iload_n 3, 1) := by decide +kernel
theorem dX10_times_330 : decode cX10_times 330 = .ok (.laload, 1) := by decide +kernel
theorem dX10_times_331 : decode cX10_times 331 = .ok (.lmul, 1) := by decide +kernel
theorem dX10_times_332 : decode cX10_times 332 = .ok (.invokestatic 172, 3) := by decide +kernel
theorem dX10_times_335 : decode cX10_times 335 = .ok (.lstore 18, 2) := by decide +kernel
theorem dX10_times_337 : decode cX10_times 337 = .ok (.aload_n 0, 1) := by decide +kernel
theorem dX10_times_338 : decode cX10_times 338 = .ok (.iload_n 1, 1) := by decide +kernel
theorem dX10_times_339 : decode cX10_times 339 = .ok (.iconst 1, 1) := by decide +kernel
theorem dX10_times_340 : decode cX10_times 340 = .ok (.lload 14, 2) := by decide +kernel
theorem dX10_times_342 : decode cX10_times 342 = .ok (.lload 16, 2) := by decide +kernel
theorem dX10_times_344 : decode cX10_times 344 = .ok (.lload 18, 2) := by decide +kernel
theorem dX10_times_346 : decode cX10_times 346 = .ok (.invokevirtual 165, 3) := by decide +kernel
theorem dX10_times_349 : decode cX10_times 349 = .ok (.return_, 1) := by decide +kernel
theorem dX10_and_0 : decode cX10_and 0 = .ok (.aload_n 0, 1) := by decide +kernel
theorem dX10_and_1 : decode cX10_and 1 = .ok (.getfield 13, 3) := by decide +kernel
theorem dX10_and_4 : decode cX10_and 4 = .ok (.iload_n 2, 1) := by decide +kernel
theorem dX10_and_5 : decode cX10_and 5 = .ok (.iaload, 1) := by decide +kernel
theorem dX10_and_6 : decode cX10_and 6 = .ok (.ifCond .eq 12, 3) := by decide +kernel
theorem dX10_and_9 : decode cX10_and 9 = .ok (.aload_n 0, 1) := by decide +kernel
theorem dX10_and_10 : decode cX10_and 10 = .ok (.getfield 13, 3) := by decide +kernel
theorem dX10_and_13 : decode cX10_and 13 = .ok (.iload_n 3, 1) := by decide +kernel
theorem dX10_and_14 : decode cX10_and 14 = .ok (.iaload, 1) := by decide +kernel
theorem dX10_and_15 : decode cX10_and 15 = .ok (.ifCond .ne 11, 3) := by decide +kernel
theorem dX10_and_18 : decode cX10_and 18 = .ok (.aload_n 0, 1) := by decide +kernel
theorem dX10_and_19 : decode cX10_and 19 = .ok (.getfield 13, 3) := by decide +kernel
theorem dX10_and_22 : decode cX10_and 22 = .ok (.iload_n 1, 1) := by decide +kernel
theorem dX10_and_23 : decode cX10_and 23 = .ok (.iconst 0, 1) := by decide +kernel
theorem dX10_and_24 : decode cX10_and 24 = .ok (.iastore, 1) := by decide +kernel
theorem dX10_and_25 : decode cX10_and 25 = .ok (.return_, 1) := by decide +kernel
theorem dX10_and_26 : decode cX10_and 26 = .ok (.aload_n 0, 1) := by decide +kernel
theorem dX10_and_27 : decode cX10_and 27 = .ok (.iload_n 2, 1) := by decide +kernel
theorem dX10_and_28 : decode cX10_and 28 = .ok (.invokevirtual 162, 3) := by decide +kernel
theorem dX10_and_31 : decode cX10_and 31 = .ok (.ifCond .eq 30, 3) := by decide +kernel
theorem dX10_and_34 : decode cX10_and 34 = .ok (.aload_n 0, 1) := by decide +kernel
theorem dX10_and_35 : decode cX10_and 35 = .ok (.iload_n 3, 1) := by decide +kernel
theorem dX10_and_36 : decode cX10_and 36 = .ok (.invokevirtual 162, 3) := by decide +kernel
theorem dX10_and_39 : decode cX10_and 39 = .ok (.ifCond .eq 22, 3) := by decide +kernel
theorem dX10_and_42 : decode cX10_and 42 = .ok (.aload_n 0, 1) := by decide +kernel
theorem dX10_and_43 : decode cX10_and 43 = .ok (.iload_n 1, 1) := by decide +kernel
theorem dX10_and_44 : decode cX10_and 44 = .ok (.aload_n 0, 1) := by decide +kernel
theorem dX10_and_45 : decode cX10_and 45 = .ok (.getfield 16, 3) := by decide +kernel
theorem dX10_and_48 : decode cX10_and 48 = .ok (.iload_n 2, 1) := by decide +kernel
theorem dX10_and_49 : decode cX10_and 49 = .ok (.laload, 1) := by decide +kernel
theorem dX10_and_50 : decode cX10_and 50 = .ok (.aload_n 0, 1) := by decide +kernel
theorem dX10_and_51 : decode cX10_and 51 = .ok (.getfield 16, 3) := by decide +kernel
theorem dX10_and_54 : decode cX10_and 54 = .ok (.iload_n 3, 1) := by decide +kernel
theorem dX10_and_55 : decode cX10_and 55 = .ok (.laload, 1) := by decide +kernel
theorem dX10_and_56 : decode cX10_and 56 = .ok (.land, 1) := by decide +kernel
theorem dX10_and_57 : decode cX10_and 57 = .ok (.invokevirtual 193, 3) := by decide +kernel
theorem dX10_and_60 : decode cX10_and 60 = .ok (.return_, 1) := by decide +kernel
theorem dX10_and_61 : decode cX10_and 61 = .ok (.aload_n 0, 1) := by decide +kernel
theorem dX10_and_62 : decode cX10_and 62 = .ok (.getfield 13, 3) := by decide +kernel
theorem dX10_and_65 : decode cX10_and 65 = .ok (.iload_n 2, 1) := by decide +kernel
theorem dX10_and_66 : decode cX10_and 66 = .ok (.iaload, 1) := by decide +kernel
theorem dX10_and_67 : decode cX10_and 67 = .ok (.iconst 1, 1) := by decide +kernel
theorem dX10_and_68 : decode cX10_and 68 = .ok (.if_icmp .ne 18, 3) := by decide +kernel
theorem dX10_and_71 : decode cX10_and 71 = .ok (.aload_n 0, 1) := by decide +kernel
theorem dX10_and_72 : decode cX10_and 72 = .ok (.getfield 16, 3) := by decide +kernel
theorem dX10_and_75 : decode cX10_and 75 = .ok (.iload_n 2, 1) := by decide +kernel
theorem dX10_and_76 : decode cX10_and 76 = .ok (.laload, 1) := by decide +kernel
theorem dX10_and_77 : decode cX10_and 77 = .ok (.lconst 0, 1) := by decide +kernel
theorem dX10_and_78 : decode cX10_and 78 = .ok (.lcmp, 1) := by decide +kernel
theorem dX10_and_79 : decode cX10_and 79 = .ok (.ifCond .lt 7, 3) := by decide +kernel
theorem dX10_and_82 : decode cX10_and 82 = .ok (.iconst 1, 1) := by decide +kernel
theorem dX10_and_83 : decode cX10_and 83 = .ok (.goto 4, 3) := by decide +kernel
theorem dX10_and_86 : decode cX10_and 86 = .ok (.iconst 0, 1) := by decide +kernel
theorem dX10_and_87 : decode cX10_and 87 = .ok (.istore 4, 2) := by decide +kernel
theorem dX10_and_89 : decode cX10_and 89 = .ok (.aload_n 0, 1) := by decide +kernel
theorem dX10_and_90 : decode cX10_and 90 = .ok (.getfield 13, 3) := by decide +kernel
theorem dX10_and_93 : decode cX10_and 93 = .ok (.iload_n 3, 1) := by decide +kernel
theorem dX10_and_94 : decode cX10_and 94 = .ok (.iaload, 1) := by decide +kernel
theorem dX10_and_95 : decode cX10_and 95 = .ok (.iconst 1, 1) := by decide +kernel
theorem dX10_and_96 : decode cX10_and 96 = .ok (.if_icmp .ne 18, 3) := by decide +kernel
theorem dX10_and_99 : decode cX10_and 99 = .ok (.aload_n 0, 1) := by decide +kernel
theorem dX10_and_100 : decode cX10_and 100 = .ok (.getfield 16, 3) := by decide +kernel
theorem dX10_and_103 : decode cX10_and 103 = .ok (.iload_n 3, 1) := by decide +kernel
theorem dX10_and_104 : decode cX10_and 104 = .ok (.laload, 1) := by decide +kernel
theorem dX10_and_105 : decode cX10_and 105 = .ok (.lconst 0, 1) := by decide +kernel
theorem dX10_and_106 : decode cX10_and 106 = .ok (.lcmp, 1) := by decide +kernel
theorem dX10_and_107 : decode cX10_and 107 = .ok (.ifCond .lt 7, 3) := by decide +kernel
theorem dX10_and_110 : decode cX10_and 110 = .ok (.iconst 1, 1) := by decide +kernel
theorem dX10_and_111 : decode cX10_and 111 = .ok (.goto 4, 3) := by decide +kernel
theorem dX10_and_114 : decode cX10_and 114 = .ok (.iconst 0, 1) := by decide +kernel
theorem dX10_and_115 : decode cX10_and 115 = .ok (.istore 5, 2) := by decide +kernel
theorem dX10_and_117 : decode cX10_and 117 = .ok (.iload 4, 2) := by decide +kernel
theorem dX10_and_119 : decode cX10_and 119 = .ok (.ifCond .ne 16, 3) := by decide +kernel
theorem dX10_and_122 : decode cX10_and 122 = .ok (.iload 5, 2) := by decide +kernel
theorem dX10_and_124 : decode cX10_and 124 = .ok (.ifCond .ne 11, 3) := by decide +kernel
theorem dX10_and_127 : decode cX10_and 127 = .ok (.aload_n 0, 1) := by decide +kernel
theorem dX10_and_128 : decode cX10_and 128 = .ok (.getfield 13, 3) := by decide +kernel
theorem dX10_and_131 : decode cX10_and 131 = .ok (.iload_n 1, 1) := by decide +kernel
theorem dX10_and_132 : decode cX10_and 132 = .ok (.iconst 2, 1) := by decide +kernel
theorem dX10_and_133 : decode cX10_and 133 = .ok (.iastore, 1) := by decide +kernel
theorem dX10_and_134 : decode cX10_and 134 = .ok (.return_, 1) := by decide +kernel
theorem dX10_and_135 : decode cX10_and 135 = .ok (.iload 4, 2) := by decide +kernel
theorem dX10_and_137 : decode cX10_and 137 = .ok (.ifCond .eq 33, 3) := by decide +kernel
theorem dX10_and_140 : decode cX10_and 140 = .ok (.iload 5, 2) := by decide +kernel
theorem dX10_and_142 : decode cX10_and 142 = .ok (.ifCond .eq 19, 3) := by decide +kernel
theorem dX10_and_145 : decode cX10_and 145 = .ok (.aload_n 0, 1) := by decide +kernel
theorem dX10_and_146 : decode cX10_and 146 = .ok (.getfield 20, 3) := by decide +kernel
theorem dX10_and_149 : decode cX10_and 149 = .ok (.iload_n 2, 1) := by decide +kernel
theorem dX10_and_150 : decode cX10_and 150 = .ok (.laload, 1) := by decide +kernel
theorem dX10_and_151 : decode cX10_and 151 = .ok (.aload_n 0, 1) := by decide +kernel
theorem dX10_and_152 : decode cX10_and 152 = .ok (.getfield 20, 3) := by decide +kernel
theorem dX10_and_155 : decode cX10_and 155 = .ok (.iload_n 3, 1) := by decide +kernel
theorem dX10_and_156 : decode cX10_and 156 = .ok (.laload, 1) := by decide +kernel
theorem dX10_and_157 : decode cX10_and 157 = .ok (.lcmp, 1) := by decide +kernel
theorem dX10_and_158 : decode cX10_and 158 = .ok (.ifCond .ge 12, 3) := by decide +kernel
theorem dX10_and_161 : decode cX10_and 161 = .ok (.aload_n 0, 1) := by decide +kernel
theorem dX10_and_162 : decode cX10_and 162 = .ok (.getfield 20, 3) := by decide +kernel
theorem dX10_and_165 : decode cX10_and 165 = .ok (.iload_n 2, 1) := by decide +kernel
theorem dX10_and_166 : decode cX10_and 166 = .ok (.laload, 1) := by decide +kernel
theorem dX10_and_167 : decode cX10_and 167 = .ok (.goto 9, 3) := by decide +kernel
theorem dX10_and_170 : decode cX10_and 170 = .ok (.aload_n 0, 1) := by decide +kernel
theorem dX10_and_171 : decode cX10_and 171 = .ok (.getfield 20, 3) := by decide +kernel
theorem dX10_and_174 : decode cX10_and 174 = .ok (.iload_n 3, 1) := by decide +kernel
theorem dX10_and_175 : decode cX10_and 175 = .ok (.laload, 1) := by decide +kernel
theorem dX10_and_176 : decode cX10_and 176 = .ok (.lstore 6, 2) := by decide +kernel
theorem dX10_and_178 : decode cX10_and 178 = .ok (.aload_n 0, 1) := by decide +kernel
theorem dX10_and_179 : decode cX10_and 179 = .ok (.iload_n 1, 1) := by decide +kernel
theorem dX10_and_180 : decode cX10_and 180 = .ok (.iconst 1, 1) := by decide +kernel
theorem dX10_and_181 : decode cX10_and 181 = .ok (.lconst 0, 1) := by decide +kernel
theorem dX10_and_182 : decode cX10_and 182 = .ok (.lload 6, 2) := by decide +kernel
theorem dX10_and_184 : decode cX10_and 184 = .ok (.aload_n 0, 1) := by decide +kernel
theorem dX10_and_185 : decode cX10_and 185 = .ok (.iload_n 2, 1) := by decide +kernel
theorem dX10_and_186 : decode cX10_and 186 = .ok (.lload 6, 2) := by decide +kernel
theorem dX10_and_188 : decode cX10_and 188 = .ok (.invokevirtual 189, 3) := by decide +kernel
theorem dX10_and_191 : decode cX10_and 191 = .ok (.ifCond .ne 13, 3) := by decide +kernel
theorem dX10_and_194 : decode cX10_and 194 = .ok (.aload_n 0, 1) := by decide +kernel
theorem dX10_and_195 : decode cX10_and 195 = .ok (.iload_n 3, 1) := by decide +kernel
theorem dX10_and_196 : decode cX10_and 196 = .ok (.lload 6, 2) := by decide +kernel
theorem dX10_and_198 : decode cX10_and 198 = .ok (.invokevirtual 189, 3) := by decide +kernel
theorem dX10_and_201 : decode cX10_and 201 = .ok (.ifCond .eq 12, 3) := by decide +kernel
theorem dX10_and_204 : decode cX10_and 204 = .ok (.lload 6, 2) := by decide +kernel
theorem dX10_and_206 : decode cX10_and 206 = .ok (.lload 6, 2) := by decide +kernel
theorem dX10_and_208 : decode cX10_and 208 = .ok (.lneg, 1) := by decide +kernel
theorem dX10_and_209 : decode cX10_and 209 = .ok (.land, 1) := by decide +kernel
theorem dX10_and_210 : decode cX10_and 210 = .ok (.goto 4, 3) := by decide +kernel
theorem dX10_and_213 : decode cX10_and 213 = .ok (.lconst 1, 1) := by decide +kernel
theorem dX10_and_214 : decode cX10_and 214 = .ok (.invokevirtual 165, 3) := by decide +kernel
theorem dX10_and_217 : decode cX10_and 217 = .ok (.return_, 1) := by decide +kernel
theorem dX10_or_0 : decode cX10_or 0 = .ok (.aload_n 0, 1) := by decide +kernel
theorem dX10_or_1 : decode cX10_or 1 = .ok (.getfield 13, 3) := by decide +kernel
theorem dX10_or_4 : decode cX10_or 4 = .ok (.iload_n 2, 1) := by decide +kernel
theorem dX10_or_5 : decode cX10_or 5 = .ok (.iaload, 1) := by decide +kernel
theorem dX10_or_6 : decode cX10_or 6 = .ok (.ifCond .eq 12, 3) := by decide +kernel
theorem dX10_or_9 : decode cX10_or 9 = .ok (.aload_n 0, 1) := by decide +kernel
theorem dX10_or_10 : decode cX10_or 10 = .ok (.getfield 13, 3) := by decide +kernel
theorem dX10_or_13 : decode cX10_or 13 = .ok (.iload_n 3, 1) := by decide +kernel
theorem dX10_or_14 : decode cX10_or 14 = .ok (.iaload, 1) := by decide +kernel
theorem dX10_or_15 : decode cX10_or 15 = .ok (.ifCond .ne 11, 3) := by decide +kernel
theorem dX10_or_18 : decode cX10_or 18 = .ok (.aload_n 0, 1) := by decide +kernel
theorem dX10_or_19 : decode cX10_or 19 = .ok (.getfield 13, 3) := by decide +kernel
theorem dX10_or_22 : decode cX10_or 22 = .ok (.iload_n 1, 1) := by decide +kernel
theorem dX10_or_23 : decode cX10_or 23 = .ok (.iconst 0, 1) := by decide +kernel
theorem dX10_or_24 : decode cX10_or 24 = .ok (.iastore, 1) := by decide +kernel
theorem dX10_or_25 : decode cX10_or 25 = .ok (.return_, 1) := by decide +kernel
theorem dX10_or_26 : decode cX10_or 26 = .ok (.aload_n 0, 1) := by decide +kernel
theorem dX10_or_27 : decode cX10_or 27 = .ok (.iload_n 2, 1) := by decide +kernel
theorem dX10_or_28 : decode cX10_or 28 = .ok (.invokevirtual 162, 3) := by decide +kernel
theorem dX10_or_31 : decode cX10_or 31 = .ok (.ifCond .eq 51, 3) := by decide +kernel
theorem dX10_or_34 : decode cX10_or 34 = .ok (.aload_n 0, 1) := by decide +kernel
theorem dX10_or_35 : decode cX10_or 35 = .ok (.iload_n 3, 1) := by decide +kernel
theorem dX10_or_36 : decode cX10_or 36 = .ok (.invokevirtual 162, 3) := by decide +kernel
theorem dX10_or_39 : decode cX10_or 39 = .ok (.ifCond .eq 43, 3) := by decide +kernel
theorem dX10_or_42 : decode cX10_or 42 = .ok (.aload_n 0, 1) := by decide +kernel
theorem dX10_or_43 : decode cX10_or 43 = .ok (.iload_n 1, 1) := by decide +kernel
theorem dX10_or_44 : decode cX10_or 44 = .ok (.iload 4, 2) := by decide +kernel
theorem dX10_or_46 : decode cX10_or 46 = .ok (.ifCond .eq 19, 3) := by decide +kernel
theorem dX10_or_49 : decode cX10_or 49 = .ok (.aload_n 0, 1) := by decide +kernel
theorem dX10_or_50 : decode cX10_or 50 = .ok (.getfield 16, 3) := by decide +kernel
theorem dX10_or_53 : decode cX10_or 53 = .ok (.iload_n 2, 1) := by decide +kernel
theorem dX10_or_54 : decode cX10_or 54 = .ok (.laload, 1) := by decide +kernel
theorem dX10_or_55 : decode cX10_or 55 = .ok (.aload_n 0, 1) := by decide +kernel
theorem dX10_or_56 : decode cX10_or 56 = .ok (.getfield 16, 3) := by decide +kernel
theorem dX10_or_59 : decode cX10_or 59 = .ok (.iload_n 3, 1) := by decide +kernel
theorem dX10_or_60 : decode cX10_or 60 = .ok (.laload, 1) := by decide +kernel
theorem dX10_or_61 : decode cX10_or 61 = .ok (.lxor, 1) := by decide +kernel
theorem dX10_or_62 : decode cX10_or 62 = .ok (.goto 16, 3) := by decide +kernel
theorem dX10_or_65 : decode cX10_or 65 = .ok (.aload_n 0, 1) := by decide +kernel
theorem dX10_or_66 : decode cX10_or 66 = .ok (.getfield 16, 3) := by decide +kernel
theorem dX10_or_69 : decode cX10_or 69 = .ok (.iload_n 2, 1) := by decide +kernel
theorem dX10_or_70 : decode cX10_or 70 = .ok (.laload, 1) := by decide +kernel
theorem dX10_or_71 : decode cX10_or 71 = .ok (.aload_n 0, 1) := by decide +kernel
theorem dX10_or_72 : decode cX10_or 72 = .ok (.getfield 16, 3) := by decide +kernel
theorem dX10_or_75 : decode cX10_or 75 = .ok (.iload_n 3, 1) := by decide +kernel
theorem dX10_or_76 : decode cX10_or 76 = .ok (.laload, 1) := by decide +kernel
theorem dX10_or_77 : decode cX10_or 77 = .ok (.lor, 1) := by decide +kernel
theorem dX10_or_78 : decode cX10_or 78 = .ok (.invokevirtual 193, 3) := by decide +kernel
theorem dX10_or_81 : decode cX10_or 81 = .ok (.return_, 1) := by decide +kernel
theorem dX10_or_82 : decode cX10_or 82 = .ok (.aload_n 0, 1) := by decide +kernel
theorem dX10_or_83 : decode cX10_or 83 = .ok (.getfield 13, 3) := by decide +kernel
theorem dX10_or_86 : decode cX10_or 86 = .ok (.iload_n 2, 1) := by decide +kernel
theorem dX10_or_87 : decode cX10_or 87 = .ok (.iaload, 1) := by decide +kernel
theorem dX10_or_88 : decode cX10_or 88 = .ok (.iconst 2, 1) := by decide +kernel
theorem dX10_or_89 : decode cX10_or 89 = .ok (.if_icmp .eq 35, 3) := by decide +kernel
theorem dX10_or_92 : decode cX10_or 92 = .ok (.aload_n 0, 1) := by decide +kernel
theorem dX10_or_93 : decode cX10_or 93 = .ok (.getfield 13, 3) := by decide +kernel
theorem dX10_or_96 : decode cX10_or 96 = .ok (.iload_n 3, 1) := by decide +kernel
theorem dX10_or_97 : decode cX10_or 97 = .ok (.iaload, 1) := by decide +kernel
theorem dX10_or_98 : decode cX10_or 98 = .ok (.iconst 2, 1) := by decide +kernel
theorem dX10_or_99 : decode cX10_or 99 = .ok (.if_icmp .eq 25, 3) := by decide +kernel
theorem dX10_or_102 : decode cX10_or 102 = .ok (.aload_n 0, 1) := by decide +kernel
theorem dX10_or_103 : decode cX10_or 103 = .ok (.getfield 16, 3) := by decide +kernel
theorem dX10_or_106 : decode cX10_or 106 = .ok (.iload_n 2, 1) := by decide +kernel
theorem dX10_or_107 : decode cX10_or 107 = .ok (.laload, 1) := by decide +kernel
theorem dX10_or_108 : decode cX10_or 108 = .ok (.lconst 0, 1) := by decide +kernel
theorem dX10_or_109 : decode cX10_or 109 = .ok (.lcmp, 1) := by decide +kernel
theorem dX10_or_110 : decode cX10_or 110 = .ok (.ifCond .lt 14, 3) := by decide +kernel
theorem dX10_or_113 : decode cX10_or 113 = .ok (.aload_n 0, 1) := by decide +kernel
theorem dX10_or_114 : decode cX10_or 114 = .ok (.getfield 16, 3) := by decide +kernel
theorem dX10_or_117 : decode cX10_or 117 = .ok (.iload_n 3, 1) := by decide +kernel
theorem dX10_or_118 : decode cX10_or 118 = .ok (.laload, 1) := by decide +kernel
theorem dX10_or_119 : decode cX10_or 119 = .ok (.lconst 0, 1) := by decide +kernel
theorem dX10_or_120 : decode cX10_or 120 = .ok (.lcmp, 1) := by decide +kernel
theorem dX10_or_121 : decode cX10_or 121 = .ok (.ifCond .ge 11, 3) := by decide +kernel
theorem dX10_or_124 : decode cX10_or 124 = .ok (.aload_n 0, 1) := by decide +kernel
theorem dX10_or_125 : decode cX10_or 125 = .ok (.getfield 13, 3) := by decide +kernel
theorem dX10_or_128 : decode cX10_or 128 = .ok (.iload_n 1, 1) := by decide +kernel
theorem dX10_or_129 : decode cX10_or 129 = .ok (.iconst 2, 1) := by decide +kernel
theorem dX10_or_130 : decode cX10_or 130 = .ok (.iastore, 1) := by decide +kernel
theorem dX10_or_131 : decode cX10_or 131 = .ok (.return_, 1) := by decide +kernel
theorem dX10_or_132 : decode cX10_or 132 = .ok (.aload_n 0, 1) := by decide +kernel
theorem dX10_or_133 : decode cX10_or 133 = .ok (.getfield 20, 3) := by decide +kernel
theorem dX10_or_136 : decode cX10_or 136 = .ok (.iload_n 2, 1) := by decide +kernel
theorem dX10_or_137 : decode cX10_or 137 = .ok (.laload, 1) := by decide +kernel
theorem dX10_or_138 : decode cX10_or 138 = .ok (.aload_n 0, 1) := by decide +kernel
theorem dX10_or_139 : decode cX10_or 139 = .ok (.getfield 20, 3) := by decide +kernel
theorem dX10_or_142 : decode cX10_or 142 = .ok (.iload_n 3, 1) := by decide +kernel
theorem dX10_or_143 : decode cX10_or 143 = .ok (.laload, 1) := by decide +kernel
theorem dX10_or_144 : decode cX10_or 144 = .ok (.lcmp, 1) := by decide +kernel
theorem dX10_or_145 : decode cX10_or 145 = .ok (.ifCond .le 12, 3) := by decide +kernel
theorem dX10_or_148 : decode cX10_or 148 = .ok (.aload_n 0, 1) := by decide +kernel
theorem dX10_or_149 : decode cX10_or 149 = .ok (.getfield 20, 3) := by decide +kernel
theorem dX10_or_152 : decode cX10_or 152 = .ok (.iload_n 2, 1) := by decide +kernel
theorem dX10_or_153 : decode cX10_or 153 = .ok (.laload, 1) := by decide +kernel
theorem dX10_or_154 : decode cX10_or 154 = .ok (.goto 9, 3) := by decide +kernel
theorem dX10_or_157 : decode cX10_or 157 = .ok (.aload_n 0, 1) := by decide +kernel
theorem dX10_or_158 : decode cX10_or 158 = .ok (.getfield 20, 3) := by decide +kernel
theorem dX10_or_161 : decode cX10_or 161 = .ok (.iload_n 3, 1) := by decide +kernel
theorem dX10_or_162 : decode cX10_or 162 = .ok (.laload, 1) := by decide +kernel
theorem dX10_or_163 : decode cX10_or 163 = .ok (.lstore 5, 2) := by decide +kernel
theorem dX10_or_165 : decode cX10_or 165 = .ok (.lconst 0, 1) := by decide +kernel
theorem dX10_or_166 : decode cX10_or 166 = .ok (.lstore 7, 2) := by decide +kernel
theorem dX10_or_168 : decode cX10_or 168 = .ok (.lload 7, 2) := by decide +kernel
theorem dX10_or_170 : decode cX10_or 170 = .ok (.lload 5, 2) := by decide +kernel
theorem dX10_or_172 : decode cX10_or 172 = .ok (.lcmp, 1) := by decide +kernel
theorem dX10_or_173 : decode cX10_or 173 = .ok (.ifCond .ge 16, 3) := by decide +kernel
theorem dX10_or_176 : decode cX10_or 176 = .ok (.ldc2_w 199, 3) := by decide +kernel
theorem dX10_or_179 : decode cX10_or 179 = .ok (.lload 7, 2) := by decide +kernel
theorem dX10_or_181 : decode cX10_or 181 = .ok (.lmul, 1) := by decide +kernel
theorem dX10_or_182 : decode cX10_or 182 = .ok (.lconst 1, 1) := by decide +kernel
theorem dX10_or_183 : decode cX10_or 183 = .ok (.ladd, 1) := by decide +kernel
theorem dX10_or_184 : decode cX10_or 184 = .ok (.lstore 7, 2) := by decide +kernel
theorem dX10_or_186 : decode cX10_or 186 = .ok (.goto (-18), 3) := by decide +kernel
theorem dX10_or_189 : decode cX10_or 189 = .ok (.aload_n 0, 1) := by decide +kernel
theorem dX10_or_190 : decode cX10_or 190 = .ok (.getfield 16, 3) := by decide +kernel
theorem dX10_or_193 : decode cX10_or 193 = .ok (.iload_n 2, 1) := by decide +kernel
theorem dX10_or_194 : decode cX10_or 194 = .ok (.laload, 1) := by decide +kernel
theorem dX10_or_195 : decode cX10_or 195 = .ok (.aload_n 0, 1) := by decide +kernel
theorem dX10_or_196 : decode cX10_or 196 = .ok (.getfield 16, 3) := by decide +kernel
theorem dX10_or_199 : decode cX10_or 199 = .ok (.iload_n 3, 1) := by decide +kernel
theorem dX10_or_200 : decode cX10_or 200 = .ok (.laload, 1) := by decide +kernel
theorem dX10_or_201 : decode cX10_or 201 = .ok (.lcmp, 1) := by decide +kernel
theorem dX10_or_202 : decode cX10_or 202 = .ok (.ifCond .le 12, 3) := by decide +kernel
theorem dX10_or_205 : decode cX10_or 205 = .ok (.aload_n 0, 1) := by decide +kernel
theorem dX10_or_206 : decode cX10_or 206 = .ok (.getfield 16, 3) := by decide +kernel
theorem dX10_or_209 : decode cX10_or 209 = .ok (.iload_n 2, 1) := by decide +kernel
theorem dX10_or_210 : decode cX10_or 210 = .ok (.laload, 1) := by decide +kernel
theorem dX10_or_211 : decode cX10_or 211 = .ok (.goto 9, 3) := by decide +kernel
theorem dX10_or_214 : decode cX10_or 214 = .ok (.aload_n 0, 1) := by decide +kernel
theorem dX10_or_215 : decode cX10_or 215 = .ok (.getfield 16, 3) := by decide +kernel
theorem dX10_or_218 : decode cX10_or 218 = .ok (.iload_n 3, 1) := by decide +kernel
theorem dX10_or_219 : decode cX10_or 219 = .ok (.laload, 1) := by decide +kernel
theorem dX10_or_220 : decode cX10_or 220 = .ok (.lstore 9, 2) := by decide +kernel
theorem dX10_or_222 : decode cX10_or 222 = .ok (.aload_n 0, 1) := by decide +kernel
theorem dX10_or_223 : decode cX10_or 223 = .ok (.iload_n 1, 1) := by decide +kernel
theorem dX10_or_224 : decode cX10_or 224 = .ok (.iconst 1, 1) := by decide +kernel
theorem dX10_or_225 : decode cX10_or 225 = .ok (.iload 4, 2) := by decide +kernel
theorem dX10_or_227 : decode cX10_or 227 = .ok (.ifCond .eq 7, 3) := by decide +kernel
theorem dX10_or_230 : decode cX10_or 230 = .ok (.lconst 0, 1) := by decide +kernel
theorem dX10_or_231 : decode cX10_or 231 = .ok (.goto 5, 3) := by decide +kernel
theorem dX10_or_234 : decode cX10_or 234 = .ok (.lload 9, 2) := by decide +kernel
theorem dX10_or_236 : decode cX10_or 236 = .ok (.lload 7, 2) := by decide +kernel
theorem dX10_or_238 : decode cX10_or 238 = .ok (.lconst 1, 1) := by decide +kernel
theorem dX10_or_239 : decode cX10_or 239 = .ok (.invokevirtual 165, 3) := by decide +kernel
theorem dX10_or_242 : decode cX10_or 242 = .ok (.return_, 1) := by decide +kernel
theorem dX10_shiftDown_0 : decode cX10_shiftDown 0 = .ok (.iload_n 3, 1) := by decide +kernel
theorem dX10_shiftDown_1 : decode cX10_shiftDown 1 = .ok (.ifCond .eq 12, 3) := by decide +kernel
theorem dX10_shiftDown_4 : decode cX10_shiftDown 4 = .ok (.aload_n 0, 1) := by decide +kernel
theorem dX10_shiftDown_5 : decode cX10_shiftDown 5 = .ok (.getfield 13, 3) := by decide +kernel
theorem dX10_shiftDown_8 : decode cX10_shiftDown 8 = .ok (.iload_n 2, 1) := by decide +kernel
theorem dX10_shiftDown_9 : decode cX10_shiftDown 9 = .ok (.iaload, 1) := by decide +kernel
theorem dX10_shiftDown_10 : decode cX10_shiftDown 10 = .ok (.ifCond .ne 12, 3) := by decide +kernel
theorem dX10_shiftDown_13 : decode cX10_shiftDown 13 = .ok (.aload_n 0, 1) := by decide +kernel
theorem dX10_shiftDown_14 : decode cX10_shiftDown 14 = .ok (.iload_n 1, 1) := by decide +kernel
theorem dX10_shiftDown_15 : decode cX10_shiftDown 15 = .ok (.iload_n 2, 1) := by decide +kernel
theorem dX10_shiftDown_16 : decode cX10_shiftDown 16 = .ok (.invokevirtual 169, 3) := by decide +kernel
theorem dX10_shiftDown_19 : decode cX10_shiftDown 19 = .ok (.goto 121, 3) := by decide +kernel
theorem dX10_shiftDown_22 : decode cX10_shiftDown 22 = .ok (.aload_n 0, 1) := by decide +kernel
theorem dX10_shiftDown_23 : decode cX10_shiftDown 23 = .ok (.getfield 13, 3) := by decide +kernel
theorem dX10_shiftDown_26 : decode cX10_shiftDown 26 = .ok (.iload_n 2, 1) := by decide +kernel
theorem dX10_shiftDown_27 : decode cX10_shiftDown 27 = .ok (.iaload, 1) := by decide +kernel
theorem dX10_shiftDown_28 : decode cX10_shiftDown 28 = .ok (.iconst 2, 1) := by decide +kernel
theorem dX10_shiftDown_29 : decode cX10_shiftDown 29 = .ok (.if_icmp .ne 30, 3) := by decide +kernel
theorem dX10_shiftDown_32 : decode cX10_shiftDown 32 = .ok (.lconst 1, 1) := by decide +kernel
theorem dX10_shiftDown_33 : decode cX10_shiftDown 33 = .ok (.bipush 63, 2) := by decide +kernel
theorem dX10_shiftDown_35 : decode cX10_shiftDown 35 = .ok (.iload_n 3, 1) := by decide +kernel
theorem dX10_shiftDown_36 : decode cX10_shiftDown 36 = .ok (.isub, 1) := by decide +kernel
theorem dX10_shiftDown_37 : decode cX10_shiftDown 37 = .ok (.lshl, 1) := by decide +kernel
theorem dX10_shiftDown_38 : decode cX10_shiftDown 38 = .ok (.lconst 1, 1) := by decide +kernel
theorem dX10_shiftDown_39 : decode cX10_shiftDown 39 = .ok (.lsub, 1) := by decide +kernel
theorem dX10_shiftDown_40 : decode cX10_shiftDown 40 = .ok (.lstore 4, 2) := by decide +kernel
theorem dX10_shiftDown_42 : decode cX10_shiftDown 42 = .ok (.aload_n 0, 1) := by decide +kernel
theorem dX10_shiftDown_43 : decode cX10_shiftDown 43 = .ok (.iload_n 1, 1) := by decide +kernel
theorem dX10_shiftDown_44 : decode cX10_shiftDown 44 = .ok (.iconst 1, 1) := by decide +kernel
theorem dX10_shiftDown_45 : decode cX10_shiftDown 45 = .ok (.lload 4, 2) := by decide +kernel
theorem dX10_shiftDown_47 : decode cX10_shiftDown 47 = .ok (.lneg, 1) := by decide +kernel
theorem dX10_shiftDown_48 : decode cX10_shiftDown 48 = .ok (.lconst 1, 1) := by decide +kernel
theorem dX10_shiftDown_49 : decode cX10_shiftDown 49 = .ok (.lsub, 1) := by decide +kernel
theorem dX10_shiftDown_50 : decode cX10_shiftDown 50 = .ok (.lload 4, 2) := by decide +kernel
theorem dX10_shiftDown_52 : decode cX10_shiftDown 52 = .ok (.lconst 1, 1) := by decide +kernel
theorem dX10_shiftDown_53 : decode cX10_shiftDown 53 = .ok (.invokevirtual 165, 3) := by decide +kernel
theorem dX10_shiftDown_56 : decode cX10_shiftDown 56 = .ok (.goto 84, 3) := by decide +kernel
theorem dX10_shiftDown_59 : decode cX10_shiftDown 59 = .ok (.lconst 1, 1) := by decide +kernel
theorem dX10_shiftDown_60 : decode cX10_shiftDown 60 = .ok (.iload_n 3, 1) := by decide +kernel
theorem dX10_shiftDown_61 : decode cX10_shiftDown 61 = .ok (.lshl, 1) := by decide +kernel
theorem dX10_shiftDown_62 : decode cX10_shiftDown 62 = .ok (.lconst 1, 1) := by decide +kernel
theorem dX10_shiftDown_63 : decode cX10_shiftDown 63 = .ok (.lsub, 1) := by decide +kernel
theorem dX10_shiftDown_64 : decode cX10_shiftDown 64 = .ok (.lstore 4, 2) := by decide +kernel
theorem dX10_shiftDown_66 : decode cX10_shiftDown 66 = .ok (.aload_n 0, 1) := by decide +kernel
theorem dX10_shiftDown_67 : decode cX10_shiftDown 67 = .ok (.getfield 23, 3) := by decide +kernel
theorem dX10_shiftDown_70 : decode cX10_shiftDown 70 = .ok (.iload_n 2, 1) := by decide +kernel
theorem dX10_shiftDown_71 : decode cX10_shiftDown 71 = .ok (.laload, 1) := by decide +kernel
theorem dX10_shiftDown_72 : decode cX10_shiftDown 72 = .ok (.lload 4, 2) := by decide +kernel
theorem dX10_shiftDown_74 : decode cX10_shiftDown 74 = .ok (.land, 1) := by decide +kernel
theorem dX10_shiftDown_75 : decode cX10_shiftDown 75 = .ok (.lconst 0, 1) := by decide +kernel
theorem dX10_shiftDown_76 : decode cX10_shiftDown 76 = .ok (.lcmp, 1) := by decide +kernel
theorem dX10_shiftDown_77 : decode cX10_shiftDown 77 = .ok (.ifCond .ne 21, 3) := by decide +kernel
theorem dX10_shiftDown_80 : decode cX10_shiftDown 80 = .ok (.aload_n 0, 1) := by decide +kernel
theorem dX10_shiftDown_81 : decode cX10_shiftDown 81 = .ok (.getfield 16, 3) := by decide +kernel
theorem dX10_shiftDown_84 : decode cX10_shiftDown 84 = .ok (.iload_n 2, 1) := by decide +kernel
theorem dX10_shiftDown_85 : decode cX10_shiftDown 85 = .ok (.laload, 1) := by decide +kernel
theorem dX10_shiftDown_86 : decode cX10_shiftDown 86 = .ok (.lload 4, 2) := by decide +kernel
theorem dX10_shiftDown_88 : decode cX10_shiftDown 88 = .ok (.land, 1) := by decide +kernel
theorem dX10_shiftDown_89 : decode cX10_shiftDown 89 = .ok (.lconst 0, 1) := by decide +kernel
theorem dX10_shiftDown_90 : decode cX10_shiftDown 90 = .ok (.lcmp, 1) := by decide +kernel
theorem dX10_shiftDown_91 : decode cX10_shiftDown 91 = .ok (.ifCond .ne 7, 3) := by decide +kernel
theorem dX10_shiftDown_94 : decode cX10_shiftDown 94 = .ok (.iconst 1, 1) := by decide +kernel
theorem dX10_shiftDown_95 : decode cX10_shiftDown 95 = .ok (.goto 4, 3) := by decide +kernel
theorem dX10_shiftDown_98 : decode cX10_shiftDown 98 = .ok (.iconst 0, 1) := by decide +kernel
theorem dX10_shiftDown_99 : decode cX10_shiftDown 99 = .ok (.istore 6, 2) := by decide +kernel
theorem dX10_shiftDown_101 : decode cX10_shiftDown 101 = .ok (.aload_n 0, 1) := by decide +kernel
theorem dX10_shiftDown_102 : decode cX10_shiftDown 102 = .ok (.iload_n 1, 1) := by decide +kernel
theorem dX10_shiftDown_103 : decode cX10_shiftDown 103 = .ok (.iconst 1, 1) := by decide +kernel
theorem dX10_shiftDown_104 : decode cX10_shiftDown 104 = .ok (.aload_n 0, 1) := by decide +kernel
theorem dX10_shiftDown_105 : decode cX10_shiftDown 105 = .ok (.getfield 16, 3) := by decide +kernel
theorem dX10_shiftDown_108 : decode cX10_shiftDown 108 = .ok (.iload_n 2, 1) := by decide +kernel
theorem dX10_shiftDown_109 : decode cX10_shiftDown 109 = .ok (.laload, 1) := by decide +kernel
theorem dX10_shiftDown_110 : decode cX10_shiftDown 110 = .ok (.iload_n 3, 1) := by decide +kernel
theorem dX10_shiftDown_111 : decode cX10_shiftDown 111 = .ok (.lshr, 1) := by decide +kernel
theorem dX10_shiftDown_112 : decode cX10_shiftDown 112 = .ok (.aload_n 0, 1) := by decide +kernel
theorem dX10_shiftDown_113 : decode cX10_shiftDown 113 = .ok (.getfield 20, 3) := by decide +kernel
theorem dX10_shiftDown_116 : decode cX10_shiftDown 116 = .ok (.iload_n 2, 1) := by decide +kernel
theorem dX10_shiftDown_117 : decode cX10_shiftDown 117 = .ok (.laload, 1) := by decide +kernel
theorem dX10_shiftDown_118 : decode cX10_shiftDown 118 = .ok (.iload_n 3, 1) := by decide +kernel
theorem dX10_shiftDown_119 : decode cX10_shiftDown 119 = .ok (.lshr, 1) := by decide +kernel
theorem dX10_shiftDown_120 : decode cX10_shiftDown 120 = .ok (.iload 6, 2) := by decide +kernel
theorem dX10_shiftDown_122 : decode cX10_shiftDown 122 = .ok (.ifCond .eq 14, 3) := by decide +kernel
theorem dX10_shiftDown_125 : decode cX10_shiftDown 125 = .ok (.aload_n 0, 1) := by decide +kernel
theorem dX10_shiftDown_126 : decode cX10_shiftDown 126 = .ok (.getfield 23, 3) := by decide +kernel
theorem dX10_shiftDown_129 : decode cX10_shiftDown 129 = .ok (.iload_n 2, 1) := by decide +kernel
theorem dX10_shiftDown_130 : decode cX10_shiftDown 130 = .ok (.laload, 1) := by decide +kernel
theorem dX10_shiftDown_131 : decode cX10_shiftDown 131 = .ok (.iload_n 3, 1) := by decide +kernel
theorem dX10_shiftDown_132 : decode cX10_shiftDown 132 = .ok (.lshr, 1) := by decide +kernel
theorem dX10_shiftDown_133 : decode cX10_shiftDown 133 = .ok (.goto 4, 3) := by decide +kernel
theorem dX10_shiftDown_136 : decode cX10_shiftDown 136 = .ok (.lconst 1, 1) := by decide +kernel
theorem dX10_shiftDown_137 : decode cX10_shiftDown 137 = .ok (.invokevirtual 165, 3) := by decide +kernel
theorem dX10_shiftDown_140 : decode cX10_shiftDown 140 = .ok (.return_, 1) := by decide +kernel
theorem dX10_shiftZero_0 : decode cX10_shiftZero 0 = .ok (.iload_n 3, 1) := by decide +kernel
theorem dX10_shiftZero_1 : decode cX10_shiftZero 1 = .ok (.ifCond .eq 33, 3) := by decide +kernel
theorem dX10_shiftZero_4 : decode cX10_shiftZero 4 = .ok (.aload_n 0, 1) := by decide +kernel
theorem dX10_shiftZero_5 : decode cX10_shiftZero 5 = .ok (.getfield 13, 3) := by decide +kernel
theorem dX10_shiftZero_8 : decode cX10_shiftZero 8 = .ok (.iload_n 2, 1) := by decide +kernel
theorem dX10_shiftZero_9 : decode cX10_shiftZero 9 = .ok (.iaload, 1) := by decide +kernel
theorem dX10_shiftZero_10 : decode cX10_shiftZero 10 = .ok (.ifCond .eq 24, 3) := by decide +kernel
theorem dX10_shiftZero_13 : decode cX10_shiftZero 13 = .ok (.aload_n 0, 1) := by decide +kernel
theorem dX10_shiftZero_14 : decode cX10_shiftZero 14 = .ok (.getfield 13, 3) := by decide +kernel
theorem dX10_shiftZero_17 : decode cX10_shiftZero 17 = .ok (.iload_n 2, 1) := by decide +kernel
theorem dX10_shiftZero_18 : decode cX10_shiftZero 18 = .ok (.iaload, 1) := by decide +kernel
theorem dX10_shiftZero_19 : decode cX10_shiftZero 19 = .ok (.iconst 1, 1) := by decide +kernel
theorem dX10_shiftZero_20 : decode cX10_shiftZero 20 = .ok (.if_icmp .ne 24, 3) := by decide +kernel
theorem dX10_shiftZero_23 : decode cX10_shiftZero 23 = .ok (.aload_n 0, 1) := by decide +kernel
theorem dX10_shiftZero_24 : decode cX10_shiftZero 24 = .ok (.getfield 16, 3) := by decide +kernel
theorem dX10_shiftZero_27 : decode cX10_shiftZero 27 = .ok (.iload_n 2, 1) := by decide +kernel
theorem dX10_shiftZero_28 : decode cX10_shiftZero 28 = .ok (.laload, 1) := by decide +kernel
theorem dX10_shiftZero_29 : decode cX10_shiftZero 29 = .ok (.lconst 0, 1) := by decide +kernel
theorem dX10_shiftZero_30 : decode cX10_shiftZero 30 = .ok (.lcmp, 1) := by decide +kernel
theorem dX10_shiftZero_31 : decode cX10_shiftZero 31 = .ok (.ifCond .lt 13, 3) := by decide +kernel
theorem dX10_shiftZero_34 : decode cX10_shiftZero 34 = .ok (.aload_n 0, 1) := by decide +kernel
theorem dX10_shiftZero_35 : decode cX10_shiftZero 35 = .ok (.iload_n 1, 1) := by decide +kernel
theorem dX10_shiftZero_36 : decode cX10_shiftZero 36 = .ok (.iload_n 2, 1) := by decide +kernel
theorem dX10_shiftZero_37 : decode cX10_shiftZero 37 = .ok (.iload_n 3, 1) := by decide +kernel
theorem dX10_shiftZero_38 : decode cX10_shiftZero 38 = .ok (.invokevirtual 201, 3) := by decide +kernel
theorem dX10_shiftZero_41 : decode cX10_shiftZero 41 = .ok (.goto 16, 3) := by decide +kernel
theorem dX10_shiftZero_44 : decode cX10_shiftZero 44 = .ok (.aload_n 0, 1) := by decide +kernel
theorem dX10_shiftZero_45 : decode cX10_shiftZero 45 = .ok (.iload_n 1, 1) := by decide +kernel
theorem dX10_shiftZero_46 : decode cX10_shiftZero 46 = .ok (.iconst 1, 1) := by decide +kernel
theorem dX10_shiftZero_47 : decode cX10_shiftZero 47 = .ok (.lconst 0, 1) := by decide +kernel
theorem dX10_shiftZero_48 : decode cX10_shiftZero 48 = .ok (.ldc2_w 204, 3) := by decide +kernel
theorem dX10_shiftZero_51 : decode cX10_shiftZero 51 = .ok (.iload_n 3, 1) := by decide +kernel
theorem dX10_shiftZero_52 : decode cX10_shiftZero 52 = .ok (.lushr, 1) := by decide +kernel
theorem dX10_shiftZero_53 : decode cX10_shiftZero 53 = .ok (.lconst 1, 1) := by decide +kernel
theorem dX10_shiftZero_54 : decode cX10_shiftZero 54 = .ok (.invokevirtual 165, 3) := by decide +kernel
theorem dX10_shiftZero_57 : decode cX10_shiftZero 57 = .ok (.return_, 1) := by decide +kernel
theorem dX10_lowPart_0 : decode cX10_lowPart 0 = .ok (.aload_n 0, 1) := by decide +kernel
theorem dX10_lowPart_1 : decode cX10_lowPart 1 = .ok (.getfield 13, 3) := by decide +kernel
theorem dX10_lowPart_4 : decode cX10_lowPart 4 = .ok (.iload_n 2, 1) := by decide +kernel
theorem dX10_lowPart_5 : decode cX10_lowPart 5 = .ok (.iaload, 1) := by decide +kernel
theorem dX10_lowPart_6 : decode cX10_lowPart 6 = .ok (.ifCond .ne 13, 3) := by decide +kernel
theorem dX10_lowPart_9 : decode cX10_lowPart 9 = .ok (.aload_n 0, 1) := by decide +kernel
theorem dX10_lowPart_10 : decode cX10_lowPart 10 = .ok (.getfield 13, 3) := by decide +kernel
theorem dX10_lowPart_13 : decode cX10_lowPart 13 = .ok (.iload_n 1, 1) := by decide +kernel
theorem dX10_lowPart_14 : decode cX10_lowPart 14 = .ok (.iconst 0, 1) := by decide +kernel
theorem dX10_lowPart_15 : decode cX10_lowPart 15 = .ok (.iastore, 1) := by decide +kernel
theorem dX10_lowPart_16 : decode cX10_lowPart 16 = .ok (.goto 163, 3) := by decide +kernel
theorem dX10_lowPart_19 : decode cX10_lowPart 19 = .ok (.aload_n 0, 1) := by decide +kernel
theorem dX10_lowPart_20 : decode cX10_lowPart 20 = .ok (.iload_n 2, 1) := by decide +kernel
theorem dX10_lowPart_21 : decode cX10_lowPart 21 = .ok (.invokevirtual 162, 3) := by decide +kernel
theorem dX10_lowPart_24 : decode cX10_lowPart 24 = .ok (.ifCond .eq 21, 3) := by decide +kernel
theorem dX10_lowPart_27 : decode cX10_lowPart 27 = .ok (.aload_n 0, 1) := by decide +kernel
theorem dX10_lowPart_28 : decode cX10_lowPart 28 = .ok (.iload_n 1, 1) := by decide +kernel
theorem dX10_lowPart_29 : decode cX10_lowPart 29 = .ok (.aload_n 0, 1) := by decide +kernel
theorem dX10_lowPart_30 : decode cX10_lowPart 30 = .ok (.getfield 16, 3) := by decide +kernel
theorem dX10_lowPart_33 : decode cX10_lowPart 33 = .ok (.iload_n 2, 1) := by decide +kernel
theorem dX10_lowPart_34 : decode cX10_lowPart 34 = .ok (.laload, 1) := by decide +kernel
theorem dX10_lowPart_35 : decode cX10_lowPart 35 = .ok (.ldc2_w 206, 3) := by decide +kernel
theorem dX10_lowPart_38 : decode cX10_lowPart 38 = .ok (.land, 1) := by decide +kernel
theorem dX10_lowPart_39 : decode cX10_lowPart 39 = .ok (.invokevirtual 193, 3) := by decide +kernel
theorem dX10_lowPart_42 : decode cX10_lowPart 42 = .ok (.goto 137, 3) := by decide +kernel
theorem dX10_lowPart_45 : decode cX10_lowPart 45 = .ok (.aload_n 0, 1) := by decide +kernel
theorem dX10_lowPart_46 : decode cX10_lowPart 46 = .ok (.getfield 13, 3) := by decide +kernel
theorem dX10_lowPart_49 : decode cX10_lowPart 49 = .ok (.iload_n 2, 1) := by decide +kernel
theorem dX10_lowPart_50 : decode cX10_lowPart 50 = .ok (.iaload, 1) := by decide +kernel
theorem dX10_lowPart_51 : decode cX10_lowPart 51 = .ok (.iconst 1, 1) := by decide +kernel
theorem dX10_lowPart_52 : decode cX10_lowPart 52 = .ok (.if_icmp .ne 36, 3) := by decide +kernel
theorem dX10_lowPart_55 : decode cX10_lowPart 55 = .ok (.aload_n 0, 1) := by decide +kernel
theorem dX10_lowPart_56 : decode cX10_lowPart 56 = .ok (.getfield 16, 3) := by decide +kernel
theorem dX10_lowPart_59 : decode cX10_lowPart 59 = .ok (.iload_n 2, 1) := by decide +kernel
theorem dX10_lowPart_60 : decode cX10_lowPart 60 = .ok (.laload, 1) := by decide +kernel
theorem dX10_lowPart_61 : decode cX10_lowPart 61 = .ok (.lconst 0, 1) := by decide +kernel
theorem dX10_lowPart_62 : decode cX10_lowPart 62 = .ok (.lcmp, 1) := by decide +kernel
theorem dX10_lowPart_63 : decode cX10_lowPart 63 = .ok (.ifCond .lt 25, 3) := by decide +kernel
theorem dX10_lowPart_66 : decode cX10_lowPart 66 = .ok (.aload_n 0, 1) := by decide +kernel
theorem dX10_lowPart_67 : decode cX10_lowPart 67 = .ok (.getfield 20, 3) := by decide +kernel
theorem dX10_lowPart_70 : decode cX10_lowPart 70 = .ok (.iload_n 2, 1) := by decide +kernel
theorem dX10_lowPart_71 : decode cX10_lowPart 71 = .ok (.laload, 1) := by decide +kernel
theorem dX10_lowPart_72 : decode cX10_lowPart 72 = .ok (.ldc2_w 208, 3) := by decide +kernel
theorem dX10_lowPart_75 : decode cX10_lowPart 75 = .ok (.lcmp, 1) := by decide +kernel
theorem dX10_lowPart_76 : decode cX10_lowPart 76 = .ok (.ifCond .ge 12, 3) := by decide +kernel
theorem dX10_lowPart_79 : decode cX10_lowPart 79 = .ok (.aload_n 0, 1) := by decide +kernel
theorem dX10_lowPart_80 : decode cX10_lowPart 80 = .ok (.iload_n 1, 1) := by decide +kernel
theorem dX10_lowPart_81 : decode cX10_lowPart 81 = .ok (.iload_n 2, 1) := by decide +kernel
theorem dX10_lowPart_82 : decode cX10_lowPart 82 = .ok (.invokevirtual 169, 3) := by decide +kernel
theorem dX10_lowPart_85 : decode cX10_lowPart 85 = .ok (.goto 94, 3) := by decide +kernel
theorem dX10_lowPart_88 : decode cX10_lowPart 88 = .ok (.aload_n 0, 1) := by decide +kernel
theorem dX10_lowPart_89 : decode cX10_lowPart 89 = .ok (.getfield 13, 3) := by decide +kernel
theorem dX10_lowPart_92 : decode cX10_lowPart 92 = .ok (.iload_n 2, 1) := by decide +kernel
theorem dX10_lowPart_93 : decode cX10_lowPart 93 = .ok (.iaload, 1) := by decide +kernel
theorem dX10_lowPart_94 : decode cX10_lowPart 94 = .ok (.iconst 2, 1) := by decide +kernel
theorem dX10_lowPart_95 : decode cX10_lowPart 95 = .ok (.if_icmp .ne 7, 3) := by decide +kernel
theorem dX10_lowPart_98 : decode cX10_lowPart 98 = .ok (.lconst 1, 1) := by decide +kernel
theorem dX10_lowPart_99 : decode cX10_lowPart 99 = .ok (.goto 15, 3) := by decide +kernel
theorem dX10_lowPart_102 : decode cX10_lowPart 102 = .ok (.aload_n 0, 1) := by decide +kernel
theorem dX10_lowPart_103 : decode cX10_lowPart 103 = .ok (.getfield 23, 3) := by decide +kernel
theorem dX10_lowPart_106 : decode cX10_lowPart 106 = .ok (.iload_n 2, 1) := by decide +kernel
theorem dX10_lowPart_107 : decode cX10_lowPart 107 = .ok (.laload, 1) := by decide +kernel
theorem dX10_lowPart_108 : decode cX10_lowPart 108 = .ok (.ldc2_w 208, 3) := by decide +kernel
theorem dX10_lowPart_111 : decode cX10_lowPart 111 = .ok (.invokestatic 172, 3) := by decide +kernel
theorem dX10_lowPart_114 : decode cX10_lowPart 114 = .ok (.lstore_n 3, 1) := by decide +kernel
theorem dX10_lowPart_115 : decode cX10_lowPart 115 = .ok (.aload_n 0, 1) := by decide +kernel
theorem dX10_lowPart_116 : decode cX10_lowPart 116 = .ok (.getfield 13, 3) := by decide +kernel
theorem dX10_lowPart_119 : decode cX10_lowPart 119 = .ok (.iload_n 2, 1) := by decide +kernel
theorem dX10_lowPart_120 : decode cX10_lowPart 120 = .ok (.iaload, 1) := by decide +kernel
theorem dX10_lowPart_121 : decode cX10_lowPart 121 = .ok (.iconst 2, 1) := by decide +kernel
theorem dX10_lowPart_122 : decode cX10_lowPart 122 = .ok (.if_icmp .ne 7, 3) := by decide +kernel
theorem dX10_lowPart_125 : decode cX10_lowPart 125 = .ok (.lconst 0, 1) := by decide +kernel
theorem dX10_lowPart_126 : decode cX10_lowPart 126 = .ok (.goto 11, 3) := by decide +kernel
theorem dX10_lowPart_129 : decode cX10_lowPart 129 = .ok (.aload_n 0, 1) := by decide +kernel
theorem dX10_lowPart_130 : decode cX10_lowPart 130 = .ok (.getfield 16, 3) := by decide +kernel
theorem dX10_lowPart_133 : decode cX10_lowPart 133 = .ok (.iload_n 2, 1) := by decide +kernel
theorem dX10_lowPart_134 : decode cX10_lowPart 134 = .ok (.laload, 1) := by decide +kernel
theorem dX10_lowPart_135 : decode cX10_lowPart 135 = .ok (.lload_n 3, 1) := by decide +kernel
theorem dX10_lowPart_136 : decode cX10_lowPart 136 = .ok (.lrem, 1) := by decide +kernel
theorem dX10_lowPart_137 : decode cX10_lowPart 137 = .ok (.lstore 5, 2) := by decide +kernel
theorem dX10_lowPart_139 : decode cX10_lowPart 139 = .ok (.lload 5, 2) := by decide +kernel
theorem dX10_lowPart_141 : decode cX10_lowPart 141 = .ok (.lconst 0, 1) := by decide +kernel
theorem dX10_lowPart_142 : decode cX10_lowPart 142 = .ok (.lcmp, 1) := by decide +kernel
theorem dX10_lowPart_143 : decode cX10_lowPart 143 = .ok (.ifCond .ge 10, 3) := by decide +kernel
theorem dX10_lowPart_146 : decode cX10_lowPart 146 = .ok (.lload 5, 2) := by decide +kernel
theorem dX10_lowPart_148 : decode cX10_lowPart 148 = .ok (.lload_n 3, 1) := by decide +kernel
theorem dX10_lowPart_149 : decode cX10_lowPart 149 = .ok (.ladd, 1) := by decide +kernel
theorem dX10_lowPart_150 : decode cX10_lowPart 150 = .ok (.goto 5, 3) := by decide +kernel
theorem dX10_lowPart_153 : decode cX10_lowPart 153 = .ok (.lload 5, 2) := by decide +kernel
theorem dX10_lowPart_155 : decode cX10_lowPart 155 = .ok (.lstore 5, 2) := by decide +kernel
theorem dX10_lowPart_157 : decode cX10_lowPart 157 = .ok (.aload_n 0, 1) := by decide +kernel
theorem dX10_lowPart_158 : decode cX10_lowPart 158 = .ok (.iload_n 1, 1) := by decide +kernel
theorem dX10_lowPart_159 : decode cX10_lowPart 159 = .ok (.iconst 1, 1) := by decide +kernel
theorem dX10_lowPart_160 : decode cX10_lowPart 160 = .ok (.lload 5, 2) := by decide +kernel
theorem dX10_lowPart_162 : decode cX10_lowPart 162 = .ok (.lload 5, 2) := by decide +kernel
theorem dX10_lowPart_164 : decode cX10_lowPart 164 = .ok (.ldc2_w 206, 3) := by decide +kernel
theorem dX10_lowPart_167 : decode cX10_lowPart 167 = .ok (.lload 5, 2) := by decide +kernel
theorem dX10_lowPart_169 : decode cX10_lowPart 169 = .ok (.lsub, 1) := by decide +kernel
theorem dX10_lowPart_170 : decode cX10_lowPart 170 = .ok (.lload_n 3, 1) := by decide +kernel
theorem dX10_lowPart_171 : decode cX10_lowPart 171 = .ok (.ldiv, 1) := by decide +kernel
theorem dX10_lowPart_172 : decode cX10_lowPart 172 = .ok (.lload_n 3, 1) := by decide +kernel
theorem dX10_lowPart_173 : decode cX10_lowPart 173 = .ok (.lmul, 1) := by decide +kernel
theorem dX10_lowPart_174 : decode cX10_lowPart 174 = .ok (.ladd, 1) := by decide +kernel
theorem dX10_lowPart_175 : decode cX10_lowPart 175 = .ok (.lload_n 3, 1) := by decide +kernel
theorem dX10_lowPart_176 : decode cX10_lowPart 176 = .ok (.invokevirtual 165, 3) := by decide +kernel
theorem dX10_lowPart_179 : decode cX10_lowPart 179 = .ok (.return_, 1) := by decide +kernel
theorem dX10_signed_0 : decode cX10_signed 0 = .ok (.aload_n 0, 1) := by decide +kernel
theorem dX10_signed_1 : decode cX10_signed 1 = .ok (.iload_n 1, 1) := by decide +kernel
theorem dX10_signed_2 : decode cX10_signed 2 = .ok (.iload_n 2, 1) := by decide +kernel
theorem dX10_signed_3 : decode cX10_signed 3 = .ok (.invokevirtual 210, 3) := by decide +kernel
theorem dX10_signed_6 : decode cX10_signed 6 = .ok (.ldc2_w 213, 3) := by decide +kernel
theorem dX10_signed_9 : decode cX10_signed 9 = .ok (.lstore_n 3, 1) := by decide +kernel
theorem dX10_signed_10 : decode cX10_signed 10 = .ok (.aload_n 0, 1) := by decide +kernel
theorem dX10_signed_11 : decode cX10_signed 11 = .ok (.getfield 13, 3) := by decide +kernel
theorem dX10_signed_14 : decode cX10_signed 14 = .ok (.iload_n 1, 1) := by decide +kernel
theorem dX10_signed_15 : decode cX10_signed 15 = .ok (.iaload, 1) := by decide +kernel
theorem dX10_signed_16 : decode cX10_signed 16 = .ok (.ifCond .eq 14, 3) := by decide +kernel
theorem dX10_signed_19 : decode cX10_signed 19 = .ok (.aload_n 0, 1) := by decide +kernel
theorem dX10_signed_20 : decode cX10_signed 20 = .ok (.getfield 20, 3) := by decide +kernel
theorem dX10_signed_23 : decode cX10_signed 23 = .ok (.iload_n 1, 1) := by decide +kernel
theorem dX10_signed_24 : decode cX10_signed 24 = .ok (.laload, 1) := by decide +kernel
theorem dX10_signed_25 : decode cX10_signed 25 = .ok (.lload_n 3, 1) := by decide +kernel
theorem dX10_signed_26 : decode cX10_signed 26 = .ok (.lcmp, 1) := by decide +kernel
theorem dX10_signed_27 : decode cX10_signed 27 = .ok (.ifCond .ge 4, 3) := by decide +kernel
theorem dX10_signed_30 : decode cX10_signed 30 = .ok (.return_, 1) := by decide +kernel
theorem dX10_signed_31 : decode cX10_signed 31 = .ok (.aload_n 0, 1) := by decide +kernel
theorem dX10_signed_32 : decode cX10_signed 32 = .ok (.getfield 16, 3) := by decide +kernel
theorem dX10_signed_35 : decode cX10_signed 35 = .ok (.iload_n 1, 1) := by decide +kernel
theorem dX10_signed_36 : decode cX10_signed 36 = .ok (.laload, 1) := by decide +kernel
theorem dX10_signed_37 : decode cX10_signed 37 = .ok (.lload_n 3, 1) := by decide +kernel
theorem dX10_signed_38 : decode cX10_signed 38 = .ok (.lcmp, 1) := by decide +kernel
theorem dX10_signed_39 : decode cX10_signed 39 = .ok (.ifCond .lt 36, 3) := by decide +kernel
theorem dX10_signed_42 : decode cX10_signed 42 = .ok (.aload_n 0, 1) := by decide +kernel
theorem dX10_signed_43 : decode cX10_signed 43 = .ok (.iload_n 1, 1) := by decide +kernel
theorem dX10_signed_44 : decode cX10_signed 44 = .ok (.iconst 1, 1) := by decide +kernel
theorem dX10_signed_45 : decode cX10_signed 45 = .ok (.aload_n 0, 1) := by decide +kernel
theorem dX10_signed_46 : decode cX10_signed 46 = .ok (.getfield 16, 3) := by decide +kernel
theorem dX10_signed_49 : decode cX10_signed 49 = .ok (.iload_n 1, 1) := by decide +kernel
theorem dX10_signed_50 : decode cX10_signed 50 = .ok (.laload, 1) := by decide +kernel
theorem dX10_signed_51 : decode cX10_signed 51 = .ok (.ldc2_w 208, 3) := by decide +kernel
theorem dX10_signed_54 : decode cX10_signed 54 = .ok (.lsub, 1) := by decide +kernel
theorem dX10_signed_55 : decode cX10_signed 55 = .ok (.aload_n 0, 1) := by decide +kernel
theorem dX10_signed_56 : decode cX10_signed 56 = .ok (.getfield 20, 3) := by decide +kernel
theorem dX10_signed_59 : decode cX10_signed 59 = .ok (.iload_n 1, 1) := by decide +kernel
theorem dX10_signed_60 : decode cX10_signed 60 = .ok (.laload, 1) := by decide +kernel
theorem dX10_signed_61 : decode cX10_signed 61 = .ok (.ldc2_w 208, 3) := by decide +kernel
theorem dX10_signed_64 : decode cX10_signed 64 = .ok (.lsub, 1) := by decide +kernel
theorem dX10_signed_65 : decode cX10_signed 65 = .ok (.aload_n 0, 1) := by decide +kernel
theorem dX10_signed_66 : decode cX10_signed 66 = .ok (.getfield 23, 3) := by decide +kernel
theorem dX10_signed_69 : decode cX10_signed 69 = .ok (.iload_n 1, 1) := by decide +kernel
theorem dX10_signed_70 : decode cX10_signed 70 = .ok (.laload, 1) := by decide +kernel
theorem dX10_signed_71 : decode cX10_signed 71 = .ok (.invokevirtual 165, 3) := by decide +kernel
theorem dX10_signed_74 : decode cX10_signed 74 = .ok (.return_, 1) := by decide +kernel
theorem dX10_signed_75 : decode cX10_signed 75 = .ok (.aload_n 0, 1) := by decide +kernel
theorem dX10_signed_76 : decode cX10_signed 76 = .ok (.getfield 23, 3) := by decide +kernel
theorem dX10_signed_79 : decode cX10_signed 79 = .ok (.iload_n 1, 1) := by decide +kernel
theorem dX10_signed_80 : decode cX10_signed 80 = .ok (.laload, 1) := by decide +kernel
theorem dX10_signed_81 : decode cX10_signed 81 = .ok (.ldc2_w 208, 3) := by decide +kernel
theorem dX10_signed_84 : decode cX10_signed 84 = .ok (.invokestatic 172, 3) := by decide +kernel
theorem dX10_signed_87 : decode cX10_signed 87 = .ok (.lstore 5, 2) := by decide +kernel
theorem dX10_signed_89 : decode cX10_signed 89 = .ok (.aload_n 0, 1) := by decide +kernel
theorem dX10_signed_90 : decode cX10_signed 90 = .ok (.getfield 16, 3) := by decide +kernel
theorem dX10_signed_93 : decode cX10_signed 93 = .ok (.iload_n 1, 1) := by decide +kernel
theorem dX10_signed_94 : decode cX10_signed 94 = .ok (.laload, 1) := by decide +kernel
theorem dX10_signed_95 : decode cX10_signed 95 = .ok (.aload_n 0, 1) := by decide +kernel
theorem dX10_signed_96 : decode cX10_signed 96 = .ok (.getfield 16, 3) := by decide +kernel
theorem dX10_signed_99 : decode cX10_signed 99 = .ok (.iload_n 1, 1) := by decide +kernel
theorem dX10_signed_100 : decode cX10_signed 100 = .ok (.laload, 1) := by decide +kernel
theorem dX10_signed_101 : decode cX10_signed 101 = .ok (.lload_n 3, 1) := by decide +kernel
theorem dX10_signed_102 : decode cX10_signed 102 = .ok (.ladd, 1) := by decide +kernel
theorem dX10_signed_103 : decode cX10_signed 103 = .ok (.lload 5, 2) := by decide +kernel
theorem dX10_signed_105 : decode cX10_signed 105 = .ok (.ldiv, 1) := by decide +kernel
theorem dX10_signed_106 : decode cX10_signed 106 = .ok (.lload 5, 2) := by decide +kernel
theorem dX10_signed_108 : decode cX10_signed 108 = .ok (.lmul, 1) := by decide +kernel
theorem dX10_signed_109 : decode cX10_signed 109 = .ok (.lsub, 1) := by decide +kernel
theorem dX10_signed_110 : decode cX10_signed 110 = .ok (.lstore 7, 2) := by decide +kernel
theorem dX10_signed_112 : decode cX10_signed 112 = .ok (.aload_n 0, 1) := by decide +kernel
theorem dX10_signed_113 : decode cX10_signed 113 = .ok (.iload_n 1, 1) := by decide +kernel
theorem dX10_signed_114 : decode cX10_signed 114 = .ok (.iconst 1, 1) := by decide +kernel
theorem dX10_signed_115 : decode cX10_signed 115 = .ok (.lload 7, 2) := by decide +kernel
theorem dX10_signed_117 : decode cX10_signed 117 = .ok (.lload 7, 2) := by decide +kernel
theorem dX10_signed_119 : decode cX10_signed 119 = .ok (.lload_n 3, 1) := by decide +kernel
theorem dX10_signed_120 : decode cX10_signed 120 = .ok (.lconst 1, 1) := by decide +kernel
theorem dX10_signed_121 : decode cX10_signed 121 = .ok (.lsub, 1) := by decide +kernel
theorem dX10_signed_122 : decode cX10_signed 122 = .ok (.lload 7, 2) := by decide +kernel
theorem dX10_signed_124 : decode cX10_signed 124 = .ok (.lsub, 1) := by decide +kernel
theorem dX10_signed_125 : decode cX10_signed 125 = .ok (.lload 5, 2) := by decide +kernel
theorem dX10_signed_127 : decode cX10_signed 127 = .ok (.ldiv, 1) := by decide +kernel
theorem dX10_signed_128 : decode cX10_signed 128 = .ok (.lload 5, 2) := by decide +kernel
theorem dX10_signed_130 : decode cX10_signed 130 = .ok (.lmul, 1) := by decide +kernel
theorem dX10_signed_131 : decode cX10_signed 131 = .ok (.ladd, 1) := by decide +kernel
theorem dX10_signed_132 : decode cX10_signed 132 = .ok (.lload 5, 2) := by decide +kernel
theorem dX10_signed_134 : decode cX10_signed 134 = .ok (.invokevirtual 165, 3) := by decide +kernel
theorem dX10_signed_137 : decode cX10_signed 137 = .ok (.return_, 1) := by decide +kernel
theorem dX10_operand_0 : decode cX10_operand 0 = .ok (.aload_n 0, 1) := by decide +kernel
theorem dX10_operand_1 : decode cX10_operand 1 = .ok (.getfield 113, 3) := by decide +kernel
theorem dX10_operand_4 : decode cX10_operand 4 = .ok (.ifCond .lt 19, 3) := by decide +kernel
theorem dX10_operand_7 : decode cX10_operand 7 = .ok (.aload_n 0, 1) := by decide +kernel
theorem dX10_operand_8 : decode cX10_operand 8 = .ok (.iload_n 1, 1) := by decide +kernel
theorem dX10_operand_9 : decode cX10_operand 9 = .ok (.sipush 4856, 3) := by decide +kernel
theorem dX10_operand_12 : decode cX10_operand 12 = .ok (.aload_n 0, 1) := by decide +kernel
theorem dX10_operand_13 : decode cX10_operand 13 = .ok (.getfield 113, 3) := by decide +kernel
theorem dX10_operand_16 : decode cX10_operand 16 = .ok (.iadd, 1) := by decide +kernel
theorem dX10_operand_17 : decode cX10_operand 17 = .ok (.invokevirtual 169, 3) := by decide +kernel
theorem dX10_operand_20 : decode cX10_operand 20 = .ok (.goto 34, 3) := by decide +kernel
theorem dX10_operand_23 : decode cX10_operand 23 = .ok (.aload_n 0, 1) := by decide +kernel
theorem dX10_operand_24 : decode cX10_operand 24 = .ok (.iload_n 1, 1) := by decide +kernel
theorem dX10_operand_25 : decode cX10_operand 25 = .ok (.aload_n 0, 1) := by decide +kernel
theorem dX10_operand_26 : decode cX10_operand 26 = .ok (.getfield 107, 3) := by decide +kernel
theorem dX10_operand_29 : decode cX10_operand 29 = .ok (.bipush 11, 2) := by decide +kernel
theorem dX10_operand_31 : decode cX10_operand 31 = .ok (.if_icmp .eq 12, 3) := by decide +kernel
theorem dX10_operand_34 : decode cX10_operand 34 = .ok (.aload_n 0, 1) := by decide +kernel
theorem dX10_operand_35 : decode cX10_operand 35 = .ok (.getfield 107, 3) := by decide +kernel
theorem dX10_operand_38 : decode cX10_operand 38 = .ok (.bipush 12, 2) := by decide +kernel
theorem dX10_operand_40 : decode cX10_operand 40 = .ok (.if_icmp .ne 7, 3) := by decide +kernel
theorem dX10_operand_43 : decode cX10_operand 43 = .ok (.lconst 1, 1) := by decide +kernel
theorem dX10_operand_44 : decode cX10_operand 44 = .ok (.goto 7, 3) := by decide +kernel
theorem dX10_operand_47 : decode cX10_operand 47 = .ok (.aload_n 0, 1) := by decide +kernel
theorem dX10_operand_48 : decode cX10_operand 48 = .ok (.getfield 116, 3) := by decide +kernel
theorem dX10_operand_51 : decode cX10_operand 51 = .ok (.invokevirtual 193, 3) := by decide +kernel
theorem dX10_operand_54 : decode cX10_operand 54 = .ok (.return_, 1) := by decide +kernel
theorem dX10_act_0 : decode cX10_act 0 = .ok (.aload_n 0, 1) := by decide +kernel
theorem dX10_act_1 : decode cX10_act 1 = .ok (.getfield 127, 3) := by decide +kernel
theorem dX10_act_4 : decode cX10_act 4 = .ok (.bipush 32, 2) := by decide +kernel
theorem dX10_act_6 : decode cX10_act 6 = .ok (.if_icmp .ne 7, 3) := by decide +kernel
theorem dX10_act_9 : decode cX10_act 9 = .ok (.iconst 1, 1) := by decide +kernel
theorem dX10_act_10 : decode cX10_act 10 = .ok (.goto 4, 3) := by decide +kernel
theorem dX10_act_13 : decode cX10_act 13 = .ok (.iconst 0, 1) := by decide +kernel
theorem dX10_act_14 : decode cX10_act 14 = .ok (.istore_n 2, 1) := by decide +kernel
theorem dX10_act_15 : decode cX10_act 15 = .ok (.aload_n 0, 1) := by decide +kernel
theorem dX10_act_16 : decode cX10_act 16 = .ok (.sipush 4848, 3) := by decide +kernel
theorem dX10_act_19 : decode cX10_act 19 = .ok (.sipush 4856, 3) := by decide +kernel
theorem dX10_act_22 : decode cX10_act 22 = .ok (.aload_n 0, 1) := by decide +kernel
theorem dX10_act_23 : decode cX10_act 23 = .ok (.getfield 110, 3) := by decide +kernel
theorem dX10_act_26 : decode cX10_act 26 = .ok (.iadd, 1) := by decide +kernel
theorem dX10_act_27 : decode cX10_act 27 = .ok (.invokevirtual 169, 3) := by decide +kernel
theorem dX10_act_30 : decode cX10_act 30 = .ok (.aload_n 0, 1) := by decide +kernel
theorem dX10_act_31 : decode cX10_act 31 = .ok (.sipush 4849, 3) := by decide +kernel
theorem dX10_act_34 : decode cX10_act 34 = .ok (.invokevirtual 215, 3) := by decide +kernel
theorem dX10_act_37 : decode cX10_act 37 = .ok (.aload_n 0, 1) := by decide +kernel
theorem dX10_act_38 : decode cX10_act 38 = .ok (.getfield 107, 3) := by decide +kernel
theorem dX10_act_41 : decode cX10_act 41 = .ok (.bipush 17, 2) := by decide +kernel
theorem dX10_act_43 : decode cX10_act 43 = .ok (.if_icmp .eq 12, 3) := by decide +kernel
theorem dX10_act_46 : decode cX10_act 46 = .ok (.aload_n 0, 1) := by decide +kernel
theorem dX10_act_47 : decode cX10_act 47 = .ok (.getfield 107, 3) := by decide +kernel
theorem dX10_act_50 : decode cX10_act 50 = .ok (.bipush 16, 2) := by decide +kernel
theorem dX10_act_52 : decode cX10_act 52 = .ok (.if_icmp .ne 7, 3) := by decide +kernel
theorem dX10_act_55 : decode cX10_act 55 = .ok (.iconst 1, 1) := by decide +kernel
theorem dX10_act_56 : decode cX10_act 56 = .ok (.goto 4, 3) := by decide +kernel
theorem dX10_act_59 : decode cX10_act 59 = .ok (.iconst 0, 1) := by decide +kernel
theorem dX10_act_60 : decode cX10_act 60 = .ok (.istore_n 3, 1) := by decide +kernel
theorem dX10_act_61 : decode cX10_act 61 = .ok (.iload_n 2, 1) := by decide +kernel
theorem dX10_act_62 : decode cX10_act 62 = .ok (.ifCond .eq 19, 3) := by decide +kernel
theorem dX10_act_65 : decode cX10_act 65 = .ok (.aload_n 0, 1) := by decide +kernel
theorem dX10_act_66 : decode cX10_act 66 = .ok (.sipush 4848, 3) := by decide +kernel
theorem dX10_act_69 : decode cX10_act 69 = .ok (.iload_n 3, 1) := by decide +kernel
theorem dX10_act_70 : decode cX10_act 70 = .ok (.invokevirtual 218, 3) := by decide +kernel
theorem dX10_act_73 : decode cX10_act 73 = .ok (.aload_n 0, 1) := by decide +kernel
theorem dX10_act_74 : decode cX10_act 74 = .ok (.sipush 4849, 3) := by decide +kernel
theorem dX10_act_77 : decode cX10_act 77 = .ok (.iload_n 3, 1) := by decide +kernel
theorem dX10_act_78 : decode cX10_act 78 = .ok (.invokevirtual 218, 3) := by decide +kernel
theorem dX10_act_81 : decode cX10_act 81 = .ok (.aload_n 0, 1) := by decide +kernel
theorem dX10_act_82 : decode cX10_act 82 = .ok (.getfield 107, 3) := by decide +kernel
theorem dX10_act_85 : decode cX10_act 85 = .ok (.bipush 6, 2) := by decide +kernel
theorem dX10_act_87 : decode cX10_act 87 = .ok (.if_icmp .eq 11, 3) := by decide +kernel
theorem dX10_act_90 : decode cX10_act 90 = .ok (.aload_n 0, 1) := by decide +kernel
theorem dX10_act_91 : decode cX10_act 91 = .ok (.getfield 107, 3) := by decide +kernel
theorem dX10_act_94 : decode cX10_act 94 = .ok (.iconst 5, 1) := by decide +kernel
theorem dX10_act_95 : decode cX10_act 95 = .ok (.if_icmp .ne 18, 3) := by decide +kernel
theorem dX10_act_98 : decode cX10_act 98 = .ok (.aload_n 0, 1) := by decide +kernel
theorem dX10_act_99 : decode cX10_act 99 = .ok (.getfield 113, 3) := by decide +kernel
theorem dX10_act_102 : decode cX10_act 102 = .ok (.aload_n 0, 1) := by decide +kernel
theorem dX10_act_103 : decode cX10_act 103 = .ok (.getfield 110, 3) := by decide +kernel
theorem dX10_act_106 : decode cX10_act 106 = .ok (.if_icmp .ne 7, 3) := by decide +kernel
theorem dX10_act_109 : decode cX10_act 109 = .ok (.iconst 1, 1) := by decide +kernel
theorem dX10_act_110 : decode cX10_act 110 = .ok (.goto 4, 3) := by decide +kernel
theorem dX10_act_113 : decode cX10_act 113 = .ok (.iconst 0, 1) := by decide +kernel
theorem dX10_act_114 : decode cX10_act 114 = .ok (.istore 4, 2) := by decide +kernel
theorem dX10_act_116 : decode cX10_act 116 = .ok (.iload 4, 2) := by decide +kernel
theorem dX10_act_118 : decode cX10_act 118 = .ok (.ifCond .eq 14, 3) := by decide +kernel
theorem dX10_act_121 : decode cX10_act 121 = .ok (.aload_n 0, 1) := by decide +kernel
theorem dX10_act_122 : decode cX10_act 122 = .ok (.sipush 4850, 3) := by decide +kernel
theorem dX10_act_125 : decode cX10_act 125 = .ok (.lconst 0, 1) := by decide +kernel
theorem dX10_act_126 : decode cX10_act 126 = .ok (.invokevirtual 193, 3) := by decide +kernel
theorem dX10_act_129 : decode cX10_act 129 = .ok (.goto 7, 3) := by decide +kernel
theorem dX10_act_132 : decode cX10_act 132 = .ok (.aload_n 0, 1) := by decide +kernel
theorem dX10_act_133 : decode cX10_act 133 = .ok (.invokevirtual 222, 3) := by decide +kernel
theorem dX10_act_136 : decode cX10_act 136 = .ok (.iload_n 2, 1) := by decide +kernel
theorem dX10_act_137 : decode cX10_act 137 = .ok (.ifCond .eq 23, 3) := by decide +kernel
theorem dX10_act_140 : decode cX10_act 140 = .ok (.aload_n 0, 1) := by decide +kernel
theorem dX10_act_141 : decode cX10_act 141 = .ok (.sipush 4851, 3) := by decide +kernel
theorem dX10_act_144 : decode cX10_act 144 = .ok (.sipush 4850, 3) := by decide +kernel
theorem dX10_act_147 : decode cX10_act 147 = .ok (.invokevirtual 169, 3) := by decide +kernel
theorem dX10_act_150 : decode cX10_act 150 = .ok (.aload_n 0, 1) := by decide +kernel
theorem dX10_act_151 : decode cX10_act 151 = .ok (.sipush 4850, 3) := by decide +kernel
theorem dX10_act_154 : decode cX10_act 154 = .ok (.sipush 4851, 3) := by decide +kernel
theorem dX10_act_157 : decode cX10_act 157 = .ok (.invokevirtual 210, 3) := by decide +kernel
theorem dX10_act_160 : decode cX10_act 160 = .ok (.aload_n 0, 1) := by decide +kernel
theorem dX10_act_161 : decode cX10_act 161 = .ok (.getfield 107, 3) := by decide +kernel
theorem dX10_act_164 : decode cX10_act 164 = .ok (.bipush 7, 2) := by decide +kernel
theorem dX10_act_166 : decode cX10_act 166 = .ok (.if_icmp .eq 27, 3) := by decide +kernel
theorem dX10_act_169 : decode cX10_act 169 = .ok (.aload_n 0, 1) := by decide +kernel
theorem dX10_act_170 : decode cX10_act 170 = .ok (.getfield 107, 3) := by decide +kernel
theorem dX10_act_173 : decode cX10_act 173 = .ok (.bipush 8, 2) := by decide +kernel
theorem dX10_act_175 : decode cX10_act 175 = .ok (.if_icmp .eq 18, 3) := by decide +kernel
theorem dX10_act_178 : decode cX10_act 178 = .ok (.aload_n 0, 1) := by decide +kernel
theorem dX10_act_179 : decode cX10_act 179 = .ok (.sipush 4856, 3) := by decide +kernel
theorem dX10_act_182 : decode cX10_act 182 = .ok (.aload_n 0, 1) := by decide +kernel
theorem dX10_act_183 : decode cX10_act 183 = .ok (.getfield 110, 3) := by decide +kernel
theorem dX10_act_186 : decode cX10_act 186 = .ok (.iadd, 1) := by decide +kernel
theorem dX10_act_187 : decode cX10_act 187 = .ok (.sipush 4850, 3) := by decide +kernel
theorem dX10_act_190 : decode cX10_act 190 = .ok (.invokevirtual 169, 3) := by decide +kernel
theorem dX10_act_193 : decode cX10_act 193 = .ok (.aload_n 0, 1) := by decide +kernel
theorem dX10_act_194 : decode cX10_act 194 = .ok (.invokevirtual 225, 3) := by decide +kernel
theorem dX10_act_197 : decode cX10_act 197 = .ok (.return_, 1) := by decide +kernel
theorem dX10_narrowed_0 : decode cX10_narrowed 0 = .ok (.aload_n 0, 1) := by decide +kernel
theorem dX10_narrowed_1 : decode cX10_narrowed 1 = .ok (.sipush 4851, 3) := by decide +kernel
theorem dX10_narrowed_4 : decode cX10_narrowed 4 = .ok (.iload_n 1, 1) := by decide +kernel
theorem dX10_narrowed_5 : decode cX10_narrowed 5 = .ok (.invokevirtual 169, 3) := by decide +kernel
theorem dX10_narrowed_8 : decode cX10_narrowed 8 = .ok (.iload_n 2, 1) := by decide +kernel
theorem dX10_narrowed_9 : decode cX10_narrowed 9 = .ok (.ifCond .eq 14, 3) := by decide +kernel
theorem dX10_narrowed_12 : decode cX10_narrowed 12 = .ok (.aload_n 0, 1) := by decide +kernel
theorem dX10_narrowed_13 : decode cX10_narrowed 13 = .ok (.iload_n 1, 1) := by decide +kernel
theorem dX10_narrowed_14 : decode cX10_narrowed 14 = .ok (.sipush 4851, 3) := by decide +kernel
theorem dX10_narrowed_17 : decode cX10_narrowed 17 = .ok (.invokevirtual 228, 3) := by decide +kernel
theorem dX10_narrowed_20 : decode cX10_narrowed 20 = .ok (.goto 11, 3) := by decide +kernel
theorem dX10_narrowed_23 : decode cX10_narrowed 23 = .ok (.aload_n 0, 1) := by decide +kernel
theorem dX10_narrowed_24 : decode cX10_narrowed 24 = .ok (.iload_n 1, 1) := by decide +kernel
theorem dX10_narrowed_25 : decode cX10_narrowed 25 = .ok (.sipush 4851, 3) := by decide +kernel
theorem dX10_narrowed_28 : decode cX10_narrowed 28 = .ok (.invokevirtual 210, 3) := by decide +kernel
theorem dX10_narrowed_31 : decode cX10_narrowed 31 = .ok (.return_, 1) := by decide +kernel
theorem dX10_work_0 : decode cX10_work 0 = .ok (.aload_n 0, 1) := by decide +kernel
theorem dX10_work_1 : decode cX10_work 1 = .ok (.getfield 107, 3) := by decide +kernel
theorem dX10_work_4 : decode cX10_work 4 = .ok (.tableswitch 235 0 18 #[92, 124, 235, 235, 154, 108, 124, 235, 235, 170, 196, 92, 108, 209, 235, 235, 235, 235, 222], 92) := by decide +kernel
theorem dX10_work_96 : decode cX10_work 96 = .ok (.aload_n 0, 1) := by decide +kernel
theorem dX10_work_97 : decode cX10_work 97 = .ok (.sipush 4850, 3) := by decide +kernel
theorem dX10_work_100 : decode cX10_work 100 = .ok (.sipush 4848, 3) := by decide +kernel
theorem dX10_work_103 : decode cX10_work 103 = .ok (.sipush 4849, 3) := by decide +kernel
theorem dX10_work_106 : decode cX10_work 106 = .ok (.invokevirtual 186, 3) := by decide +kernel
theorem dX10_work_109 : decode cX10_work 109 = .ok (.goto 134, 3) := by decide +kernel
theorem dX10_work_112 : decode cX10_work 112 = .ok (.aload_n 0, 1) := by decide +kernel
theorem dX10_work_113 : decode cX10_work 113 = .ok (.sipush 4850, 3) := by decide +kernel
theorem dX10_work_116 : decode cX10_work 116 = .ok (.sipush 4848, 3) := by decide +kernel
theorem dX10_work_119 : decode cX10_work 119 = .ok (.sipush 4849, 3) := by decide +kernel
theorem dX10_work_122 : decode cX10_work 122 = .ok (.invokevirtual 231, 3) := by decide +kernel
theorem dX10_work_125 : decode cX10_work 125 = .ok (.goto 118, 3) := by decide +kernel
theorem dX10_work_128 : decode cX10_work 128 = .ok (.aload_n 0, 1) := by decide +kernel
theorem dX10_work_129 : decode cX10_work 129 = .ok (.sipush 4850, 3) := by decide +kernel
theorem dX10_work_132 : decode cX10_work 132 = .ok (.sipush 4848, 3) := by decide +kernel
theorem dX10_work_135 : decode cX10_work 135 = .ok (.sipush 4849, 3) := by decide +kernel
theorem dX10_work_138 : decode cX10_work 138 = .ok (.aload_n 0, 1) := by decide +kernel
theorem dX10_work_139 : decode cX10_work 139 = .ok (.getfield 107, 3) := by decide +kernel
theorem dX10_work_142 : decode cX10_work 142 = .ok (.bipush 6, 2) := by decide +kernel
theorem dX10_work_144 : decode cX10_work 144 = .ok (.if_icmp .ne 7, 3) := by decide +kernel
theorem dX10_work_147 : decode cX10_work 147 = .ok (.iconst 1, 1) := by decide +kernel
theorem dX10_work_148 : decode cX10_work 148 = .ok (.goto 4, 3) := by decide +kernel
theorem dX10_work_151 : decode cX10_work 151 = .ok (.iconst 0, 1) := by decide +kernel
theorem dX10_work_152 : decode cX10_work 152 = .ok (.invokevirtual 234, 3) := by decide +kernel
theorem dX10_work_155 : decode cX10_work 155 = .ok (.goto 88, 3) := by decide +kernel
theorem dX10_work_158 : decode cX10_work 158 = .ok (.aload_n 0, 1) := by decide +kernel
theorem dX10_work_159 : decode cX10_work 159 = .ok (.sipush 4850, 3) := by decide +kernel
theorem dX10_work_162 : decode cX10_work 162 = .ok (.sipush 4848, 3) := by decide +kernel
theorem dX10_work_165 : decode cX10_work 165 = .ok (.sipush 4849, 3) := by decide +kernel
theorem dX10_work_168 : decode cX10_work 168 = .ok (.invokevirtual 238, 3) := by decide +kernel
theorem dX10_work_171 : decode cX10_work 171 = .ok (.goto 72, 3) := by decide +kernel
theorem dX10_work_174 : decode cX10_work 174 = .ok (.aload_n 0, 1) := by decide +kernel
theorem dX10_work_175 : decode cX10_work 175 = .ok (.sipush 4931, 3) := by decide +kernel
theorem dX10_work_178 : decode cX10_work 178 = .ok (.ldc2_w 204, 3) := by decide +kernel
theorem dX10_work_181 : decode cX10_work 181 = .ok (.invokevirtual 193, 3) := by decide +kernel
theorem dX10_work_184 : decode cX10_work 184 = .ok (.aload_n 0, 1) := by decide +kernel
theorem dX10_work_185 : decode cX10_work 185 = .ok (.sipush 4850, 3) := by decide +kernel
theorem dX10_work_188 : decode cX10_work 188 = .ok (.sipush 4931, 3) := by decide +kernel
theorem dX10_work_191 : decode cX10_work 191 = .ok (.sipush 4848, 3) := by decide +kernel
theorem dX10_work_194 : decode cX10_work 194 = .ok (.invokevirtual 231, 3) := by decide +kernel
theorem dX10_work_197 : decode cX10_work 197 = .ok (.goto 46, 3) := by decide +kernel
theorem dX10_work_200 : decode cX10_work 200 = .ok (.aload_n 0, 1) := by decide +kernel
theorem dX10_work_201 : decode cX10_work 201 = .ok (.sipush 4850, 3) := by decide +kernel
theorem dX10_work_204 : decode cX10_work 204 = .ok (.sipush 4848, 3) := by decide +kernel
theorem dX10_work_207 : decode cX10_work 207 = .ok (.invokevirtual 183, 3) := by decide +kernel
theorem dX10_work_210 : decode cX10_work 210 = .ok (.goto 33, 3) := by decide +kernel
theorem dX10_work_213 : decode cX10_work 213 = .ok (.aload_n 0, 1) := by decide +kernel
theorem dX10_work_214 : decode cX10_work 214 = .ok (.sipush 4850, 3) := by decide +kernel
theorem dX10_work_217 : decode cX10_work 217 = .ok (.sipush 4849, 3) := by decide +kernel
theorem dX10_work_220 : decode cX10_work 220 = .ok (.invokevirtual 169, 3) := by decide +kernel
theorem dX10_work_223 : decode cX10_work 223 = .ok (.goto 20, 3) := by decide +kernel
theorem dX10_work_226 : decode cX10_work 226 = .ok (.aload_n 0, 1) := by decide +kernel
theorem dX10_work_227 : decode cX10_work 227 = .ok (.sipush 4850, 3) := by decide +kernel
theorem dX10_work_230 : decode cX10_work 230 = .ok (.sipush 4849, 3) := by decide +kernel
theorem dX10_work_233 : decode cX10_work 233 = .ok (.invokevirtual 228, 3) := by decide +kernel
theorem dX10_work_236 : decode cX10_work 236 = .ok (.goto 7, 3) := by decide +kernel
theorem dX10_work_239 : decode cX10_work 239 = .ok (.aload_n 0, 1) := by decide +kernel
theorem dX10_work_240 : decode cX10_work 240 = .ok (.invokevirtual 241, 3) := by decide +kernel
theorem dX10_work_243 : decode cX10_work 243 = .ok (.return_, 1) := by decide +kernel
theorem dX10_workMore_0 : decode cX10_workMore 0 = .ok (.aload_n 0, 1) := by decide +kernel
theorem dX10_workMore_1 : decode cX10_workMore 1 = .ok (.getfield 107, 3) := by decide +kernel
theorem dX10_workMore_4 : decode cX10_workMore 4 = .ok (.bipush 14, 2) := by decide +kernel
theorem dX10_workMore_6 : decode cX10_workMore 6 = .ok (.if_icmp .ne 68, 3) := by decide +kernel
theorem dX10_workMore_9 : decode cX10_workMore 9 = .ok (.aload_n 0, 1) := by decide +kernel
theorem dX10_workMore_10 : decode cX10_workMore 10 = .ok (.getfield 120, 3) := by decide +kernel
theorem dX10_workMore_13 : decode cX10_workMore 13 = .ok (.bipush 30, 2) := by decide +kernel
theorem dX10_workMore_15 : decode cX10_workMore 15 = .ok (.if_icmp .le 30, 3) := by decide +kernel
theorem dX10_workMore_18 : decode cX10_workMore 18 = .ok (.aload_n 0, 1) := by decide +kernel
theorem dX10_workMore_19 : decode cX10_workMore 19 = .ok (.getfield 13, 3) := by decide +kernel
theorem dX10_workMore_22 : decode cX10_workMore 22 = .ok (.sipush 4850, 3) := by decide +kernel
theorem dX10_workMore_25 : decode cX10_workMore 25 = .ok (.aload_n 0, 1) := by decide +kernel
theorem dX10_workMore_26 : decode cX10_workMore 26 = .ok (.getfield 13, 3) := by decide +kernel
theorem dX10_workMore_29 : decode cX10_workMore 29 = .ok (.sipush 4848, 3) := by decide +kernel
theorem dX10_workMore_32 : decode cX10_workMore 32 = .ok (.iaload, 1) := by decide +kernel
theorem dX10_workMore_33 : decode cX10_workMore 33 = .ok (.ifCond .ne 7, 3) := by decide +kernel
theorem dX10_workMore_36 : decode cX10_workMore 36 = .ok (.iconst 0, 1) := by decide +kernel
theorem dX10_workMore_37 : decode cX10_workMore 37 = .ok (.goto 4, 3) := by decide +kernel
theorem dX10_workMore_40 : decode cX10_workMore 40 = .ok (.iconst 2, 1) := by decide +kernel
theorem dX10_workMore_41 : decode cX10_workMore 41 = .ok (.iastore, 1) := by decide +kernel
theorem dX10_workMore_42 : decode cX10_workMore 42 = .ok (.goto 106, 3) := by decide +kernel
theorem dX10_workMore_45 : decode cX10_workMore 45 = .ok (.aload_n 0, 1) := by decide +kernel
theorem dX10_workMore_46 : decode cX10_workMore 46 = .ok (.sipush 4931, 3) := by decide +kernel
theorem dX10_workMore_49 : decode cX10_workMore 49 = .ok (.lconst 1, 1) := by decide +kernel
theorem dX10_workMore_50 : decode cX10_workMore 50 = .ok (.aload_n 0, 1) := by decide +kernel
theorem dX10_workMore_51 : decode cX10_workMore 51 = .ok (.getfield 120, 3) := by decide +kernel
theorem dX10_workMore_54 : decode cX10_workMore 54 = .ok (.lshl, 1) := by decide +kernel
theorem dX10_workMore_55 : decode cX10_workMore 55 = .ok (.invokevirtual 193, 3) := by decide +kernel
theorem dX10_workMore_58 : decode cX10_workMore 58 = .ok (.aload_n 0, 1) := by decide +kernel
theorem dX10_workMore_59 : decode cX10_workMore 59 = .ok (.sipush 4850, 3) := by decide +kernel
theorem dX10_workMore_62 : decode cX10_workMore 62 = .ok (.sipush 4848, 3) := by decide +kernel
theorem dX10_workMore_65 : decode cX10_workMore 65 = .ok (.sipush 4931, 3) := by decide +kernel
theorem dX10_workMore_68 : decode cX10_workMore 68 = .ok (.invokevirtual 244, 3) := by decide +kernel
theorem dX10_workMore_71 : decode cX10_workMore 71 = .ok (.goto 77, 3) := by decide +kernel
theorem dX10_workMore_74 : decode cX10_workMore 74 = .ok (.aload_n 0, 1) := by decide +kernel
theorem dX10_workMore_75 : decode cX10_workMore 75 = .ok (.getfield 107, 3) := by decide +kernel
theorem dX10_workMore_78 : decode cX10_workMore 78 = .ok (.bipush 15, 2) := by decide +kernel
theorem dX10_workMore_80 : decode cX10_workMore 80 = .ok (.if_icmp .ne 20, 3) := by decide +kernel
theorem dX10_workMore_83 : decode cX10_workMore 83 = .ok (.aload_n 0, 1) := by decide +kernel
theorem dX10_workMore_84 : decode cX10_workMore 84 = .ok (.sipush 4850, 3) := by decide +kernel
theorem dX10_workMore_87 : decode cX10_workMore 87 = .ok (.sipush 4848, 3) := by decide +kernel
theorem dX10_workMore_90 : decode cX10_workMore 90 = .ok (.aload_n 0, 1) := by decide +kernel
theorem dX10_workMore_91 : decode cX10_workMore 91 = .ok (.getfield 120, 3) := by decide +kernel
theorem dX10_workMore_94 : decode cX10_workMore 94 = .ok (.invokevirtual 247, 3) := by decide +kernel
theorem dX10_workMore_97 : decode cX10_workMore 97 = .ok (.goto 51, 3) := by decide +kernel
theorem dX10_workMore_100 : decode cX10_workMore 100 = .ok (.aload_n 0, 1) := by decide +kernel
theorem dX10_workMore_101 : decode cX10_workMore 101 = .ok (.getfield 107, 3) := by decide +kernel
theorem dX10_workMore_104 : decode cX10_workMore 104 = .ok (.bipush 16, 2) := by decide +kernel
theorem dX10_workMore_106 : decode cX10_workMore 106 = .ok (.if_icmp .ne 20, 3) := by decide +kernel
theorem dX10_workMore_109 : decode cX10_workMore 109 = .ok (.aload_n 0, 1) := by decide +kernel
theorem dX10_workMore_110 : decode cX10_workMore 110 = .ok (.sipush 4850, 3) := by decide +kernel
theorem dX10_workMore_113 : decode cX10_workMore 113 = .ok (.sipush 4848, 3) := by decide +kernel
theorem dX10_workMore_116 : decode cX10_workMore 116 = .ok (.aload_n 0, 1) := by decide +kernel
theorem dX10_workMore_117 : decode cX10_workMore 117 = .ok (.getfield 120, 3) := by decide +kernel
theorem dX10_workMore_120 : decode cX10_workMore 120 = .ok (.invokevirtual 201, 3) := by decide +kernel
theorem dX10_workMore_123 : decode cX10_workMore 123 = .ok (.goto 25, 3) := by decide +kernel
theorem dX10_workMore_126 : decode cX10_workMore 126 = .ok (.aload_n 0, 1) := by decide +kernel
theorem dX10_workMore_127 : decode cX10_workMore 127 = .ok (.getfield 107, 3) := by decide +kernel
theorem dX10_workMore_130 : decode cX10_workMore 130 = .ok (.bipush 17, 2) := by decide +kernel
theorem dX10_workMore_132 : decode cX10_workMore 132 = .ok (.if_icmp .ne 16, 3) := by decide +kernel
theorem dX10_workMore_135 : decode cX10_workMore 135 = .ok (.aload_n 0, 1) := by decide +kernel
theorem dX10_workMore_136 : decode cX10_workMore 136 = .ok (.sipush 4850, 3) := by decide +kernel
theorem dX10_workMore_139 : decode cX10_workMore 139 = .ok (.sipush 4848, 3) := by decide +kernel
theorem dX10_workMore_142 : decode cX10_workMore 142 = .ok (.sipush 4849, 3) := by decide +kernel
theorem dX10_workMore_145 : decode cX10_workMore 145 = .ok (.invokevirtual 244, 3) := by decide +kernel
theorem dX10_workMore_148 : decode cX10_workMore 148 = .ok (.return_, 1) := by decide +kernel
theorem dX10_note_0 : decode cX10_note 0 = .ok (.aload_n 0, 1) := by decide +kernel
theorem dX10_note_1 : decode cX10_note 1 = .ok (.getfield 107, 3) := by decide +kernel
theorem dX10_note_4 : decode cX10_note 4 = .ok (.bipush 13, 2) := by decide +kernel
theorem dX10_note_6 : decode cX10_note 6 = .ok (.if_icmp .eq 21, 3) := by decide +kernel
theorem dX10_note_9 : decode cX10_note 9 = .ok (.aload_n 0, 1) := by decide +kernel
theorem dX10_note_10 : decode cX10_note 10 = .ok (.getfield 107, 3) := by decide +kernel
theorem dX10_note_13 : decode cX10_note 13 = .ok (.bipush 18, 2) := by decide +kernel
theorem dX10_note_15 : decode cX10_note 15 = .ok (.if_icmp .eq 12, 3) := by decide +kernel
theorem dX10_note_18 : decode cX10_note 18 = .ok (.aload_n 0, 1) := by decide +kernel
theorem dX10_note_19 : decode cX10_note 19 = .ok (.getfield 107, 3) := by decide +kernel
theorem dX10_note_22 : decode cX10_note 22 = .ok (.bipush 9, 2) := by decide +kernel
theorem dX10_note_24 : decode cX10_note 24 = .ok (.if_icmp .ne 87, 3) := by decide +kernel
theorem dX10_note_27 : decode cX10_note 27 = .ok (.aload_n 0, 1) := by decide +kernel
theorem dX10_note_28 : decode cX10_note 28 = .ok (.getfield 33, 3) := by decide +kernel
theorem dX10_note_31 : decode cX10_note 31 = .ok (.sipush 201, 3) := by decide +kernel
theorem dX10_note_34 : decode cX10_note 34 = .ok (.iaload, 1) := by decide +kernel
theorem dX10_note_35 : decode cX10_note 35 = .ok (.ifCond .le 49, 3) := by decide +kernel
theorem dX10_note_38 : decode cX10_note 38 = .ok (.aload_n 0, 1) := by decide +kernel
theorem dX10_note_39 : decode cX10_note 39 = .ok (.getfield 36, 3) := by decide +kernel
theorem dX10_note_42 : decode cX10_note 42 = .ok (.sipush 201, 3) := by decide +kernel
theorem dX10_note_45 : decode cX10_note 45 = .ok (.iaload, 1) := by decide +kernel
theorem dX10_note_46 : decode cX10_note 46 = .ok (.aload_n 0, 1) := by decide +kernel
theorem dX10_note_47 : decode cX10_note 47 = .ok (.getfield 110, 3) := by decide +kernel
theorem dX10_note_50 : decode cX10_note 50 = .ok (.if_icmp .eq 30, 3) := by decide +kernel
theorem dX10_note_53 : decode cX10_note 53 = .ok (.aload_n 0, 1) := by decide +kernel
theorem dX10_note_54 : decode cX10_note 54 = .ok (.getfield 33, 3) := by decide +kernel
theorem dX10_note_57 : decode cX10_note 57 = .ok (.sipush 201, 3) := by decide +kernel
theorem dX10_note_60 : decode cX10_note 60 = .ok (.iaload, 1) := by decide +kernel
theorem dX10_note_61 : decode cX10_note 61 = .ok (.iconst 1, 1) := by decide +kernel
theorem dX10_note_62 : decode cX10_note 62 = .ok (.if_icmp .ne 22, 3) := by decide +kernel
theorem dX10_note_65 : decode cX10_note 65 = .ok (.aload_n 0, 1) := by decide +kernel
theorem dX10_note_66 : decode cX10_note 66 = .ok (.getfield 39, 3) := by decide +kernel
theorem dX10_note_69 : decode cX10_note 69 = .ok (.sipush 201, 3) := by decide +kernel
theorem dX10_note_72 : decode cX10_note 72 = .ok (.iaload, 1) := by decide +kernel
theorem dX10_note_73 : decode cX10_note 73 = .ok (.aload_n 0, 1) := by decide +kernel
theorem dX10_note_74 : decode cX10_note 74 = .ok (.getfield 110, 3) := by decide +kernel
theorem dX10_note_77 : decode cX10_note 77 = .ok (.if_icmp .ne 7, 3) := by decide +kernel
theorem dX10_note_80 : decode cX10_note 80 = .ok (.iconst 1, 1) := by decide +kernel
theorem dX10_note_81 : decode cX10_note 81 = .ok (.goto 4, 3) := by decide +kernel
theorem dX10_note_84 : decode cX10_note 84 = .ok (.iconst 0, 1) := by decide +kernel
theorem dX10_note_85 : decode cX10_note 85 = .ok (.istore_n 1, 1) := by decide +kernel
theorem dX10_note_86 : decode cX10_note 86 = .ok (.aload_n 0, 1) := by decide +kernel
theorem dX10_note_87 : decode cX10_note 87 = .ok (.getfield 33, 3) := by decide +kernel
theorem dX10_note_90 : decode cX10_note 90 = .ok (.sipush 201, 3) := by decide +kernel
theorem dX10_note_93 : decode cX10_note 93 = .ok (.iload_n 1, 1) := by decide +kernel
theorem dX10_note_94 : decode cX10_note 94 = .ok (.ifCond .eq 7, 3) := by decide +kernel
theorem dX10_note_97 : decode cX10_note 97 = .ok (.iconst 0, 1) := by decide +kernel
theorem dX10_note_98 : decode cX10_note 98 = .ok (.goto 11, 3) := by decide +kernel
theorem dX10_note_101 : decode cX10_note 101 = .ok (.aload_n 0, 1) := by decide +kernel
theorem dX10_note_102 : decode cX10_note 102 = .ok (.getfield 33, 3) := by decide +kernel
theorem dX10_note_105 : decode cX10_note 105 = .ok (.sipush 201, 3) := by decide +kernel
theorem dX10_note_108 : decode cX10_note 108 = .ok (.iaload, 1) := by decide +kernel
theorem dX10_note_109 : decode cX10_note 109 = .ok (.iastore, 1) := by decide +kernel
theorem dX10_note_110 : decode cX10_note 110 = .ok (.return_, 1) := by decide +kernel
theorem dX10_note_111 : decode cX10_note 111 = .ok (.aload_n 0, 1) := by decide +kernel
theorem dX10_note_112 : decode cX10_note 112 = .ok (.getfield 33, 3) := by decide +kernel
theorem dX10_note_115 : decode cX10_note 115 = .ok (.sipush 201, 3) := by decide +kernel
theorem dX10_note_118 : decode cX10_note 118 = .ok (.iconst 0, 1) := by decide +kernel
theorem dX10_note_119 : decode cX10_note 119 = .ok (.iastore, 1) := by decide +kernel
theorem dX10_note_120 : decode cX10_note 120 = .ok (.aload_n 0, 1) := by decide +kernel
theorem dX10_note_121 : decode cX10_note 121 = .ok (.getfield 36, 3) := by decide +kernel
theorem dX10_note_124 : decode cX10_note 124 = .ok (.sipush 201, 3) := by decide +kernel
theorem dX10_note_127 : decode cX10_note 127 = .ok (.aload_n 0, 1) := by decide +kernel
theorem dX10_note_128 : decode cX10_note 128 = .ok (.getfield 110, 3) := by decide +kernel
theorem dX10_note_131 : decode cX10_note 131 = .ok (.iastore, 1) := by decide +kernel
theorem dX10_note_132 : decode cX10_note 132 = .ok (.aload_n 0, 1) := by decide +kernel
theorem dX10_note_133 : decode cX10_note 133 = .ok (.getfield 39, 3) := by decide +kernel
theorem dX10_note_136 : decode cX10_note 136 = .ok (.sipush 201, 3) := by decide +kernel
theorem dX10_note_139 : decode cX10_note 139 = .ok (.aload_n 0, 1) := by decide +kernel
theorem dX10_note_140 : decode cX10_note 140 = .ok (.getfield 113, 3) := by decide +kernel
theorem dX10_note_143 : decode cX10_note 143 = .ok (.iastore, 1) := by decide +kernel
theorem dX10_note_144 : decode cX10_note 144 = .ok (.aload_n 0, 1) := by decide +kernel
theorem dX10_note_145 : decode cX10_note 145 = .ok (.getfield 42, 3) := by decide +kernel
theorem dX10_note_148 : decode cX10_note 148 = .ok (.sipush 201, 3) := by decide +kernel
theorem dX10_note_151 : decode cX10_note 151 = .ok (.aload_n 0, 1) := by decide +kernel
theorem dX10_note_152 : decode cX10_note 152 = .ok (.getfield 116, 3) := by decide +kernel
theorem dX10_note_155 : decode cX10_note 155 = .ok (.lastore, 1) := by decide +kernel
theorem dX10_note_156 : decode cX10_note 156 = .ok (.aload_n 0, 1) := by decide +kernel
theorem dX10_note_157 : decode cX10_note 157 = .ok (.getfield 127, 3) := by decide +kernel
theorem dX10_note_160 : decode cX10_note 160 = .ok (.bipush 64, 2) := by decide +kernel
theorem dX10_note_162 : decode cX10_note 162 = .ok (.if_icmp .ne 152, 3) := by decide +kernel
theorem dX10_note_165 : decode cX10_note 165 = .ok (.aload_n 0, 1) := by decide +kernel
theorem dX10_note_166 : decode cX10_note 166 = .ok (.getfield 107, 3) := by decide +kernel
theorem dX10_note_169 : decode cX10_note 169 = .ok (.ifCond .eq 83, 3) := by decide +kernel
theorem dX10_note_172 : decode cX10_note 172 = .ok (.aload_n 0, 1) := by decide +kernel
theorem dX10_note_173 : decode cX10_note 173 = .ok (.getfield 107, 3) := by decide +kernel
theorem dX10_note_176 : decode cX10_note 176 = .ok (.iconst 5, 1) := by decide +kernel
theorem dX10_note_177 : decode cX10_note 177 = .ok (.if_icmp .eq 75, 3) := by decide +kernel
theorem dX10_note_180 : decode cX10_note 180 = .ok (.aload_n 0, 1) := by decide +kernel
theorem dX10_note_181 : decode cX10_note 181 = .ok (.getfield 107, 3) := by decide +kernel
theorem dX10_note_184 : decode cX10_note 184 = .ok (.iconst 4, 1) := by decide +kernel
theorem dX10_note_185 : decode cX10_note 185 = .ok (.if_icmp .eq 67, 3) := by decide +kernel
theorem dX10_note_188 : decode cX10_note 188 = .ok (.aload_n 0, 1) := by decide +kernel
theorem dX10_note_189 : decode cX10_note 189 = .ok (.getfield 107, 3) := by decide +kernel
theorem dX10_note_192 : decode cX10_note 192 = .ok (.iconst 1, 1) := by decide +kernel
theorem dX10_note_193 : decode cX10_note 193 = .ok (.if_icmp .eq 59, 3) := by decide +kernel
theorem dX10_note_196 : decode cX10_note 196 = .ok (.aload_n 0, 1) := by decide +kernel
theorem dX10_note_197 : decode cX10_note 197 = .ok (.getfield 107, 3) := by decide +kernel
theorem dX10_note_200 : decode cX10_note 200 = .ok (.bipush 6, 2) := by decide +kernel
theorem dX10_note_202 : decode cX10_note 202 = .ok (.if_icmp .eq 50, 3) := by decide +kernel
theorem dX10_note_205 : decode cX10_note 205 = .ok (.aload_n 0, 1) := by decide +kernel
theorem dX10_note_206 : decode cX10_note 206 = .ok (.getfield 107, 3) := by decide +kernel
theorem dX10_note_209 : decode cX10_note 209 = .ok (.bipush 11, 2) := by decide +kernel
theorem dX10_note_211 : decode cX10_note 211 = .ok (.if_icmp .eq 41, 3) := by decide +kernel
theorem dX10_note_214 : decode cX10_note 214 = .ok (.aload_n 0, 1) := by decide +kernel
theorem dX10_note_215 : decode cX10_note 215 = .ok (.getfield 107, 3) := by decide +kernel
theorem dX10_note_218 : decode cX10_note 218 = .ok (.bipush 12, 2) := by decide +kernel
theorem dX10_note_220 : decode cX10_note 220 = .ok (.if_icmp .eq 32, 3) := by decide +kernel
theorem dX10_note_223 : decode cX10_note 223 = .ok (.aload_n 0, 1) := by decide +kernel
theorem dX10_note_224 : decode cX10_note 224 = .ok (.getfield 107, 3) := by decide +kernel
theorem dX10_note_227 : decode cX10_note 227 = .ok (.bipush 10, 2) := by decide +kernel
theorem dX10_note_229 : decode cX10_note 229 = .ok (.if_icmp .eq 23, 3) := by decide +kernel
theorem dX10_note_232 : decode cX10_note 232 = .ok (.aload_n 0, 1) := by decide +kernel
theorem dX10_note_233 : decode cX10_note 233 = .ok (.getfield 107, 3) := by decide +kernel
theorem dX10_note_236 : decode cX10_note 236 = .ok (.bipush 8, 2) := by decide +kernel
theorem dX10_note_238 : decode cX10_note 238 = .ok (.if_icmp .ne 18, 3) := by decide +kernel
theorem dX10_note_241 : decode cX10_note 241 = .ok (.aload_n 0, 1) := by decide +kernel
theorem dX10_note_242 : decode cX10_note 242 = .ok (.getfield 113, 3) := by decide +kernel
theorem dX10_note_245 : decode cX10_note 245 = .ok (.aload_n 0, 1) := by decide +kernel
theorem dX10_note_246 : decode cX10_note 246 = .ok (.getfield 110, 3) := by decide +kernel
theorem dX10_note_249 : decode cX10_note 249 = .ok (.if_icmp .ne 7, 3) := by decide +kernel
theorem dX10_note_252 : decode cX10_note 252 = .ok (.iconst 1, 1) := by decide +kernel
theorem dX10_note_253 : decode cX10_note 253 = .ok (.goto 4, 3) := by decide +kernel
theorem dX10_note_256 : decode cX10_note 256 = .ok (.iconst 0, 1) := by decide +kernel
theorem dX10_note_257 : decode cX10_note 257 = .ok (.istore_n 1, 1) := by decide +kernel
theorem dX10_note_258 : decode cX10_note 258 = .ok (.aload_n 0, 1) := by decide +kernel
theorem dX10_note_259 : decode cX10_note 259 = .ok (.getfield 33, 3) := by decide +kernel
theorem dX10_note_262 : decode cX10_note 262 = .ok (.sipush 201, 3) := by decide +kernel
theorem dX10_note_265 : decode cX10_note 265 = .ok (.aload_n 0, 1) := by decide +kernel
theorem dX10_note_266 : decode cX10_note 266 = .ok (.getfield 107, 3) := by decide +kernel
theorem dX10_note_269 : decode cX10_note 269 = .ok (.bipush 7, 2) := by decide +kernel
theorem dX10_note_271 : decode cX10_note 271 = .ok (.if_icmp .ne 33, 3) := by decide +kernel
theorem dX10_note_274 : decode cX10_note 274 = .ok (.aload_n 0, 1) := by decide +kernel
theorem dX10_note_275 : decode cX10_note 275 = .ok (.getfield 113, 3) := by decide +kernel
theorem dX10_note_278 : decode cX10_note 278 = .ok (.aload_n 0, 1) := by decide +kernel
theorem dX10_note_279 : decode cX10_note 279 = .ok (.getfield 110, 3) := by decide +kernel
theorem dX10_note_282 : decode cX10_note 282 = .ok (.if_icmp .ne 7, 3) := by decide +kernel
theorem dX10_note_285 : decode cX10_note 285 = .ok (.iconst 0, 1) := by decide +kernel
theorem dX10_note_286 : decode cX10_note 286 = .ok (.goto 27, 3) := by decide +kernel
theorem dX10_note_289 : decode cX10_note 289 = .ok (.aload_n 0, 1) := by decide +kernel
theorem dX10_note_290 : decode cX10_note 290 = .ok (.getfield 113, 3) := by decide +kernel
theorem dX10_note_293 : decode cX10_note 293 = .ok (.ifCond .lt 7, 3) := by decide +kernel
theorem dX10_note_296 : decode cX10_note 296 = .ok (.iconst 1, 1) := by decide +kernel
theorem dX10_note_297 : decode cX10_note 297 = .ok (.goto 16, 3) := by decide +kernel
theorem dX10_note_300 : decode cX10_note 300 = .ok (.iconst 2, 1) := by decide +kernel
theorem dX10_note_301 : decode cX10_note 301 = .ok (.goto 12, 3) := by decide +kernel
theorem dX10_note_304 : decode cX10_note 304 = .ok (.iload_n 1, 1) := by decide +kernel
theorem dX10_note_305 : decode cX10_note 305 = .ok (.ifCond .eq 7, 3) := by decide +kernel
theorem dX10_note_308 : decode cX10_note 308 = .ok (.iconst 3, 1) := by decide +kernel
theorem dX10_note_309 : decode cX10_note 309 = .ok (.goto 4, 3) := by decide +kernel
theorem dX10_note_312 : decode cX10_note 312 = .ok (.iconst 0, 1) := by decide +kernel
theorem dX10_note_313 : decode cX10_note 313 = .ok (.iastore, 1) := by decide +kernel
theorem dX10_note_314 : decode cX10_note 314 = .ok (.return_, 1) := by decide +kernel
theorem dX10_isSameRecord_0 : decode cX10_isSameRecord 0 = .ok (.aload_n 0, 1) := by decide +kernel
theorem dX10_isSameRecord_1 : decode cX10_isSameRecord 1 = .ok (.getfield 33, 3) := by decide +kernel
theorem dX10_isSameRecord_4 : decode cX10_isSameRecord 4 = .ok (.iload_n 1, 1) := by decide +kernel
theorem dX10_isSameRecord_5 : decode cX10_isSameRecord 5 = .ok (.iaload, 1) := by decide +kernel
theorem dX10_isSameRecord_6 : decode cX10_isSameRecord 6 = .ok (.istore_n 3, 1) := by decide +kernel
theorem dX10_isSameRecord_7 : decode cX10_isSameRecord 7 = .ok (.iload_n 3, 1) := by decide +kernel
theorem dX10_isSameRecord_8 : decode cX10_isSameRecord 8 = .ok (.aload_n 0, 1) := by decide +kernel
theorem dX10_isSameRecord_9 : decode cX10_isSameRecord 9 = .ok (.getfield 33, 3) := by decide +kernel
theorem dX10_isSameRecord_12 : decode cX10_isSameRecord 12 = .ok (.iload_n 2, 1) := by decide +kernel
theorem dX10_isSameRecord_13 : decode cX10_isSameRecord 13 = .ok (.iaload, 1) := by decide +kernel
theorem dX10_isSameRecord_14 : decode cX10_isSameRecord 14 = .ok (.if_icmp .ne 7, 3) := by decide +kernel
theorem dX10_isSameRecord_17 : decode cX10_isSameRecord 17 = .ok (.iload_n 3, 1) := by decide +kernel
theorem dX10_isSameRecord_18 : decode cX10_isSameRecord 18 = .ok (.ifCond .ne 19, 3) := by decide +kernel
theorem dX10_isSameRecord_21 : decode cX10_isSameRecord 21 = .ok (.iload_n 3, 1) := by decide +kernel
theorem dX10_isSameRecord_22 : decode cX10_isSameRecord 22 = .ok (.aload_n 0, 1) := by decide +kernel
theorem dX10_isSameRecord_23 : decode cX10_isSameRecord 23 = .ok (.getfield 33, 3) := by decide +kernel
theorem dX10_isSameRecord_26 : decode cX10_isSameRecord 26 = .ok (.iload_n 2, 1) := by decide +kernel
theorem dX10_isSameRecord_27 : decode cX10_isSameRecord 27 = .ok (.iaload, 1) := by decide +kernel
theorem dX10_isSameRecord_28 : decode cX10_isSameRecord 28 = .ok (.if_icmp .ne 7, 3) := by decide +kernel
theorem dX10_isSameRecord_31 : decode cX10_isSameRecord 31 = .ok (.iconst 1, 1) := by decide +kernel
theorem dX10_isSameRecord_32 : decode cX10_isSameRecord 32 = .ok (.goto 4, 3) := by decide +kernel
theorem dX10_isSameRecord_35 : decode cX10_isSameRecord 35 = .ok (.iconst 0, 1) := by decide +kernel
theorem dX10_isSameRecord_36 : decode cX10_isSameRecord 36 = .ok (.ireturn, 1) := by decide +kernel
theorem dX10_isSameRecord_37 : decode cX10_isSameRecord 37 = .ok (.aload_n 0, 1) := by decide +kernel
theorem dX10_isSameRecord_38 : decode cX10_isSameRecord 38 = .ok (.getfield 36, 3) := by decide +kernel
theorem dX10_isSameRecord_41 : decode cX10_isSameRecord 41 = .ok (.iload_n 1, 1) := by decide +kernel
theorem dX10_isSameRecord_42 : decode cX10_isSameRecord 42 = .ok (.iaload, 1) := by decide +kernel
theorem dX10_isSameRecord_43 : decode cX10_isSameRecord 43 = .ok (.aload_n 0, 1) := by decide +kernel
theorem dX10_isSameRecord_44 : decode cX10_isSameRecord 44 = .ok (.getfield 36, 3) := by decide +kernel
theorem dX10_isSameRecord_47 : decode cX10_isSameRecord 47 = .ok (.iload_n 2, 1) := by decide +kernel
theorem dX10_isSameRecord_48 : decode cX10_isSameRecord 48 = .ok (.iaload, 1) := by decide +kernel
theorem dX10_isSameRecord_49 : decode cX10_isSameRecord 49 = .ok (.if_icmp .ne 48, 3) := by decide +kernel
theorem dX10_isSameRecord_52 : decode cX10_isSameRecord 52 = .ok (.iload_n 3, 1) := by decide +kernel
theorem dX10_isSameRecord_53 : decode cX10_isSameRecord 53 = .ok (.iconst 1, 1) := by decide +kernel
theorem dX10_isSameRecord_54 : decode cX10_isSameRecord 54 = .ok (.if_icmp .ne 18, 3) := by decide +kernel
theorem dX10_isSameRecord_57 : decode cX10_isSameRecord 57 = .ok (.aload_n 0, 1) := by decide +kernel
theorem dX10_isSameRecord_58 : decode cX10_isSameRecord 58 = .ok (.getfield 39, 3) := by decide +kernel
theorem dX10_isSameRecord_61 : decode cX10_isSameRecord 61 = .ok (.iload_n 1, 1) := by decide +kernel
theorem dX10_isSameRecord_62 : decode cX10_isSameRecord 62 = .ok (.iaload, 1) := by decide +kernel
theorem dX10_isSameRecord_63 : decode cX10_isSameRecord 63 = .ok (.aload_n 0, 1) := by decide +kernel
theorem dX10_isSameRecord_64 : decode cX10_isSameRecord 64 = .ok (.getfield 39, 3) := by decide +kernel
theorem dX10_isSameRecord_67 : decode cX10_isSameRecord 67 = .ok (.iload_n 2, 1) := by decide +kernel
theorem dX10_isSameRecord_68 : decode cX10_isSameRecord 68 = .ok (.iaload, 1) := by decide +kernel
theorem dX10_isSameRecord_69 : decode cX10_isSameRecord 69 = .ok (.if_icmp .ne 28, 3) := by decide +kernel
theorem dX10_isSameRecord_72 : decode cX10_isSameRecord 72 = .ok (.iload_n 3, 1) := by decide +kernel
theorem dX10_isSameRecord_73 : decode cX10_isSameRecord 73 = .ok (.iconst 2, 1) := by decide +kernel
theorem dX10_isSameRecord_74 : decode cX10_isSameRecord 74 = .ok (.if_icmp .ne 19, 3) := by decide +kernel
theorem dX10_isSameRecord_77 : decode cX10_isSameRecord 77 = .ok (.aload_n 0, 1) := by decide +kernel
theorem dX10_isSameRecord_78 : decode cX10_isSameRecord 78 = .ok (.getfield 42, 3) := by decide +kernel
theorem dX10_isSameRecord_81 : decode cX10_isSameRecord 81 = .ok (.iload_n 1, 1) := by decide +kernel
theorem dX10_isSameRecord_82 : decode cX10_isSameRecord 82 = .ok (.laload, 1) := by decide +kernel
theorem dX10_isSameRecord_83 : decode cX10_isSameRecord 83 = .ok (.aload_n 0, 1) := by decide +kernel
theorem dX10_isSameRecord_84 : decode cX10_isSameRecord 84 = .ok (.getfield 42, 3) := by decide +kernel
theorem dX10_isSameRecord_87 : decode cX10_isSameRecord 87 = .ok (.iload_n 2, 1) := by decide +kernel
theorem dX10_isSameRecord_88 : decode cX10_isSameRecord 88 = .ok (.laload, 1) := by decide +kernel
theorem dX10_isSameRecord_89 : decode cX10_isSameRecord 89 = .ok (.lcmp, 1) := by decide +kernel
theorem dX10_isSameRecord_90 : decode cX10_isSameRecord 90 = .ok (.ifCond .ne 7, 3) := by decide +kernel
theorem dX10_isSameRecord_93 : decode cX10_isSameRecord 93 = .ok (.iconst 1, 1) := by decide +kernel
theorem dX10_isSameRecord_94 : decode cX10_isSameRecord 94 = .ok (.goto 4, 3) := by decide +kernel
theorem dX10_isSameRecord_97 : decode cX10_isSameRecord 97 = .ok (.iconst 0, 1) := by decide +kernel
theorem dX10_isSameRecord_98 : decode cX10_isSameRecord 98 = .ok (.ireturn, 1) := by decide +kernel
theorem dX10_copyRecord_0 : decode cX10_copyRecord 0 = .ok (.aload_n 0, 1) := by decide +kernel
theorem dX10_copyRecord_1 : decode cX10_copyRecord 1 = .ok (.getfield 33, 3) := by decide +kernel
theorem dX10_copyRecord_4 : decode cX10_copyRecord 4 = .ok (.iload_n 1, 1) := by decide +kernel
theorem dX10_copyRecord_5 : decode cX10_copyRecord 5 = .ok (.aload_n 0, 1) := by decide +kernel
theorem dX10_copyRecord_6 : decode cX10_copyRecord 6 = .ok (.getfield 33, 3) := by decide +kernel
theorem dX10_copyRecord_9 : decode cX10_copyRecord 9 = .ok (.iload_n 2, 1) := by decide +kernel
theorem dX10_copyRecord_10 : decode cX10_copyRecord 10 = .ok (.iaload, 1) := by decide +kernel
theorem dX10_copyRecord_11 : decode cX10_copyRecord 11 = .ok (.iastore, 1) := by decide +kernel
theorem dX10_copyRecord_12 : decode cX10_copyRecord 12 = .ok (.aload_n 0, 1) := by decide +kernel
theorem dX10_copyRecord_13 : decode cX10_copyRecord 13 = .ok (.getfield 36, 3) := by decide +kernel
theorem dX10_copyRecord_16 : decode cX10_copyRecord 16 = .ok (.iload_n 1, 1) := by decide +kernel
theorem dX10_copyRecord_17 : decode cX10_copyRecord 17 = .ok (.aload_n 0, 1) := by decide +kernel
theorem dX10_copyRecord_18 : decode cX10_copyRecord 18 = .ok (.getfield 36, 3) := by decide +kernel
theorem dX10_copyRecord_21 : decode cX10_copyRecord 21 = .ok (.iload_n 2, 1) := by decide +kernel
theorem dX10_copyRecord_22 : decode cX10_copyRecord 22 = .ok (.iaload, 1) := by decide +kernel
theorem dX10_copyRecord_23 : decode cX10_copyRecord 23 = .ok (.iastore, 1) := by decide +kernel
theorem dX10_copyRecord_24 : decode cX10_copyRecord 24 = .ok (.aload_n 0, 1) := by decide +kernel
theorem dX10_copyRecord_25 : decode cX10_copyRecord 25 = .ok (.getfield 39, 3) := by decide +kernel
theorem dX10_copyRecord_28 : decode cX10_copyRecord 28 = .ok (.iload_n 1, 1) := by decide +kernel
theorem dX10_copyRecord_29 : decode cX10_copyRecord 29 = .ok (.aload_n 0, 1) := by decide +kernel
theorem dX10_copyRecord_30 : decode cX10_copyRecord 30 = .ok (.getfield 39, 3) := by decide +kernel
theorem dX10_copyRecord_33 : decode cX10_copyRecord 33 = .ok (.iload_n 2, 1) := by decide +kernel
theorem dX10_copyRecord_34 : decode cX10_copyRecord 34 = .ok (.iaload, 1) := by decide +kernel
theorem dX10_copyRecord_35 : decode cX10_copyRecord 35 = .ok (.iastore, 1) := by decide +kernel
theorem dX10_copyRecord_36 : decode cX10_copyRecord 36 = .ok (.aload_n 0, 1) := by decide +kernel
theorem dX10_copyRecord_37 : decode cX10_copyRecord 37 = .ok (.getfield 42, 3) := by decide +kernel
theorem dX10_copyRecord_40 : decode cX10_copyRecord 40 = .ok (.iload_n 1, 1) := by decide +kernel
theorem dX10_copyRecord_41 : decode cX10_copyRecord 41 = .ok (.aload_n 0, 1) := by decide +kernel
theorem dX10_copyRecord_42 : decode cX10_copyRecord 42 = .ok (.getfield 42, 3) := by decide +kernel
theorem dX10_copyRecord_45 : decode cX10_copyRecord 45 = .ok (.iload_n 2, 1) := by decide +kernel
theorem dX10_copyRecord_46 : decode cX10_copyRecord 46 = .ok (.laload, 1) := by decide +kernel
theorem dX10_copyRecord_47 : decode cX10_copyRecord 47 = .ok (.lastore, 1) := by decide +kernel
theorem dX10_copyRecord_48 : decode cX10_copyRecord 48 = .ok (.return_, 1) := by decide +kernel
theorem dX10_lay_0 : decode cX10_lay 0 = .ok (.aload_n 0, 1) := by decide +kernel
theorem dX10_lay_1 : decode cX10_lay 1 = .ok (.aload_n 0, 1) := by decide +kernel
theorem dX10_lay_2 : decode cX10_lay 2 = .ok (.getfield 250, 3) := by decide +kernel
theorem dX10_lay_5 : decode cX10_lay 5 = .ok (.ifCond .ne 12, 3) := by decide +kernel
theorem dX10_lay_8 : decode cX10_lay 8 = .ok (.aload_n 0, 1) := by decide +kernel
theorem dX10_lay_9 : decode cX10_lay 9 = .ok (.getfield 13, 3) := by decide +kernel
theorem dX10_lay_12 : decode cX10_lay 12 = .ok (.iload_n 2, 1) := by decide +kernel
theorem dX10_lay_13 : decode cX10_lay 13 = .ok (.iaload, 1) := by decide +kernel
theorem dX10_lay_14 : decode cX10_lay 14 = .ok (.ifCond .ne 7, 3) := by decide +kernel
theorem dX10_lay_17 : decode cX10_lay 17 = .ok (.iconst 1, 1) := by decide +kernel
theorem dX10_lay_18 : decode cX10_lay 18 = .ok (.goto 4, 3) := by decide +kernel
theorem dX10_lay_21 : decode cX10_lay 21 = .ok (.iconst 0, 1) := by decide +kernel
theorem dX10_lay_22 : decode cX10_lay 22 = .ok (.putfield 250, 3) := by decide +kernel
theorem dX10_lay_25 : decode cX10_lay 25 = .ok (.iload_n 1, 1) := by decide +kernel
theorem dX10_lay_26 : decode cX10_lay 26 = .ok (.ifCond .lt 13, 3) := by decide +kernel
theorem dX10_lay_29 : decode cX10_lay 29 = .ok (.aload_n 0, 1) := by decide +kernel
theorem dX10_lay_30 : decode cX10_lay 30 = .ok (.sipush 4904, 3) := by decide +kernel
theorem dX10_lay_33 : decode cX10_lay 33 = .ok (.iload_n 1, 1) := by decide +kernel
theorem dX10_lay_34 : decode cX10_lay 34 = .ok (.iadd, 1) := by decide +kernel
theorem dX10_lay_35 : decode cX10_lay 35 = .ok (.iload_n 2, 1) := by decide +kernel
theorem dX10_lay_36 : decode cX10_lay 36 = .ok (.invokevirtual 169, 3) := by decide +kernel
theorem dX10_lay_39 : decode cX10_lay 39 = .ok (.return_, 1) := by decide +kernel
theorem dX10_without_0 : decode cX10_without 0 = .ok (.aload_n 0, 1) := by decide +kernel
theorem dX10_without_1 : decode cX10_without 1 = .ok (.iload_n 1, 1) := by decide +kernel
theorem dX10_without_2 : decode cX10_without 2 = .ok (.iload_n 2, 1) := by decide +kernel
theorem dX10_without_3 : decode cX10_without 3 = .ok (.invokevirtual 169, 3) := by decide +kernel
theorem dX10_without_6 : decode cX10_without 6 = .ok (.aload_n 0, 1) := by decide +kernel
theorem dX10_without_7 : decode cX10_without 7 = .ok (.getfield 13, 3) := by decide +kernel
theorem dX10_without_10 : decode cX10_without 10 = .ok (.iload_n 2, 1) := by decide +kernel
theorem dX10_without_11 : decode cX10_without 11 = .ok (.iaload, 1) := by decide +kernel
theorem dX10_without_12 : decode cX10_without 12 = .ok (.iconst 1, 1) := by decide +kernel
theorem dX10_without_13 : decode cX10_without 13 = .ok (.if_icmp .eq 4, 3) := by decide +kernel
theorem dX10_without_16 : decode cX10_without 16 = .ok (.return_, 1) := by decide +kernel
theorem dX10_without_17 : decode cX10_without 17 = .ok (.aload_n 0, 1) := by decide +kernel
theorem dX10_without_18 : decode cX10_without 18 = .ok (.iload_n 2, 1) := by decide +kernel
theorem dX10_without_19 : decode cX10_without 19 = .ok (.lload_n 3, 1) := by decide +kernel
theorem dX10_without_20 : decode cX10_without 20 = .ok (.invokevirtual 189, 3) := by decide +kernel
theorem dX10_without_23 : decode cX10_without 23 = .ok (.ifCond .eq 13, 3) := by decide +kernel
theorem dX10_without_26 : decode cX10_without 26 = .ok (.aload_n 0, 1) := by decide +kernel
theorem dX10_without_27 : decode cX10_without 27 = .ok (.getfield 13, 3) := by decide +kernel
theorem dX10_without_30 : decode cX10_without 30 = .ok (.iload_n 1, 1) := by decide +kernel
theorem dX10_without_31 : decode cX10_without 31 = .ok (.iconst 0, 1) := by decide +kernel
theorem dX10_without_32 : decode cX10_without 32 = .ok (.iastore, 1) := by decide +kernel
theorem dX10_without_33 : decode cX10_without 33 = .ok (.goto 90, 3) := by decide +kernel
theorem dX10_without_36 : decode cX10_without 36 = .ok (.aload_n 0, 1) := by decide +kernel
theorem dX10_without_37 : decode cX10_without 37 = .ok (.getfield 16, 3) := by decide +kernel
theorem dX10_without_40 : decode cX10_without 40 = .ok (.iload_n 2, 1) := by decide +kernel
theorem dX10_without_41 : decode cX10_without 41 = .ok (.laload, 1) := by decide +kernel
theorem dX10_without_42 : decode cX10_without 42 = .ok (.lload_n 3, 1) := by decide +kernel
theorem dX10_without_43 : decode cX10_without 43 = .ok (.lcmp, 1) := by decide +kernel
theorem dX10_without_44 : decode cX10_without 44 = .ok (.ifCond .ne 37, 3) := by decide +kernel
theorem dX10_without_47 : decode cX10_without 47 = .ok (.aload_n 0, 1) := by decide +kernel
theorem dX10_without_48 : decode cX10_without 48 = .ok (.iload_n 1, 1) := by decide +kernel
theorem dX10_without_49 : decode cX10_without 49 = .ok (.iconst 1, 1) := by decide +kernel
theorem dX10_without_50 : decode cX10_without 50 = .ok (.aload_n 0, 1) := by decide +kernel
theorem dX10_without_51 : decode cX10_without 51 = .ok (.getfield 16, 3) := by decide +kernel
theorem dX10_without_54 : decode cX10_without 54 = .ok (.iload_n 2, 1) := by decide +kernel
theorem dX10_without_55 : decode cX10_without 55 = .ok (.laload, 1) := by decide +kernel
theorem dX10_without_56 : decode cX10_without 56 = .ok (.aload_n 0, 1) := by decide +kernel
theorem dX10_without_57 : decode cX10_without 57 = .ok (.getfield 23, 3) := by decide +kernel
theorem dX10_without_60 : decode cX10_without 60 = .ok (.iload_n 2, 1) := by decide +kernel
theorem dX10_without_61 : decode cX10_without 61 = .ok (.laload, 1) := by decide +kernel
theorem dX10_without_62 : decode cX10_without 62 = .ok (.ladd, 1) := by decide +kernel
theorem dX10_without_63 : decode cX10_without 63 = .ok (.aload_n 0, 1) := by decide +kernel
theorem dX10_without_64 : decode cX10_without 64 = .ok (.getfield 20, 3) := by decide +kernel
theorem dX10_without_67 : decode cX10_without 67 = .ok (.iload_n 2, 1) := by decide +kernel
theorem dX10_without_68 : decode cX10_without 68 = .ok (.laload, 1) := by decide +kernel
theorem dX10_without_69 : decode cX10_without 69 = .ok (.aload_n 0, 1) := by decide +kernel
theorem dX10_without_70 : decode cX10_without 70 = .ok (.getfield 23, 3) := by decide +kernel
theorem dX10_without_73 : decode cX10_without 73 = .ok (.iload_n 2, 1) := by decide +kernel
theorem dX10_without_74 : decode cX10_without 74 = .ok (.laload, 1) := by decide +kernel
theorem dX10_without_75 : decode cX10_without 75 = .ok (.invokevirtual 165, 3) := by decide +kernel
theorem dX10_without_78 : decode cX10_without 78 = .ok (.goto 45, 3) := by decide +kernel
theorem dX10_without_81 : decode cX10_without 81 = .ok (.aload_n 0, 1) := by decide +kernel
theorem dX10_without_82 : decode cX10_without 82 = .ok (.getfield 20, 3) := by decide +kernel
theorem dX10_without_85 : decode cX10_without 85 = .ok (.iload_n 2, 1) := by decide +kernel
theorem dX10_without_86 : decode cX10_without 86 = .ok (.laload, 1) := by decide +kernel
theorem dX10_without_87 : decode cX10_without 87 = .ok (.lload_n 3, 1) := by decide +kernel
theorem dX10_without_88 : decode cX10_without 88 = .ok (.lcmp, 1) := by decide +kernel
theorem dX10_without_89 : decode cX10_without 89 = .ok (.ifCond .ne 34, 3) := by decide +kernel
theorem dX10_without_92 : decode cX10_without 92 = .ok (.aload_n 0, 1) := by decide +kernel
theorem dX10_without_93 : decode cX10_without 93 = .ok (.iload_n 1, 1) := by decide +kernel
theorem dX10_without_94 : decode cX10_without 94 = .ok (.iconst 1, 1) := by decide +kernel
theorem dX10_without_95 : decode cX10_without 95 = .ok (.aload_n 0, 1) := by decide +kernel
theorem dX10_without_96 : decode cX10_without 96 = .ok (.getfield 16, 3) := by decide +kernel
theorem dX10_without_99 : decode cX10_without 99 = .ok (.iload_n 2, 1) := by decide +kernel
theorem dX10_without_100 : decode cX10_without 100 = .ok (.laload, 1) := by decide +kernel
theorem dX10_without_101 : decode cX10_without 101 = .ok (.aload_n 0, 1) := by decide +kernel
theorem dX10_without_102 : decode cX10_without 102 = .ok (.getfield 20, 3) := by decide +kernel
theorem dX10_without_105 : decode cX10_without 105 = .ok (.iload_n 2, 1) := by decide +kernel
theorem dX10_without_106 : decode cX10_without 106 = .ok (.laload, 1) := by decide +kernel
theorem dX10_without_107 : decode cX10_without 107 = .ok (.aload_n 0, 1) := by decide +kernel
theorem dX10_without_108 : decode cX10_without 108 = .ok (.getfield 23, 3) := by decide +kernel
theorem dX10_without_111 : decode cX10_without 111 = .ok (.iload_n 2, 1) := by decide +kernel
theorem dX10_without_112 : decode cX10_without 112 = .ok (.laload, 1) := by decide +kernel
theorem dX10_without_113 : decode cX10_without 113 = .ok (.lsub, 1) := by decide +kernel
theorem dX10_without_114 : decode cX10_without 114 = .ok (.aload_n 0, 1) := by decide +kernel
theorem dX10_without_115 : decode cX10_without 115 = .ok (.getfield 23, 3) := by decide +kernel
theorem dX10_without_118 : decode cX10_without 118 = .ok (.iload_n 2, 1) := by decide +kernel
theorem dX10_without_119 : decode cX10_without 119 = .ok (.laload, 1) := by decide +kernel
theorem dX10_without_120 : decode cX10_without 120 = .ok (.invokevirtual 165, 3) := by decide +kernel
theorem dX10_without_123 : decode cX10_without 123 = .ok (.return_, 1) := by decide +kernel
theorem dX10_only_0 : decode cX10_only 0 = .ok (.aload_n 0, 1) := by decide +kernel
theorem dX10_only_1 : decode cX10_only 1 = .ok (.iload_n 2, 1) := by decide +kernel
theorem dX10_only_2 : decode cX10_only 2 = .ok (.lload_n 3, 1) := by decide +kernel
theorem dX10_only_3 : decode cX10_only 3 = .ok (.invokevirtual 253, 3) := by decide +kernel
theorem dX10_only_6 : decode cX10_only 6 = .ok (.ifCond .eq 12, 3) := by decide +kernel
theorem dX10_only_9 : decode cX10_only 9 = .ok (.aload_n 0, 1) := by decide +kernel
theorem dX10_only_10 : decode cX10_only 10 = .ok (.iload_n 1, 1) := by decide +kernel
theorem dX10_only_11 : decode cX10_only 11 = .ok (.lload_n 3, 1) := by decide +kernel
theorem dX10_only_12 : decode cX10_only 12 = .ok (.invokevirtual 193, 3) := by decide +kernel
theorem dX10_only_15 : decode cX10_only 15 = .ok (.goto 10, 3) := by decide +kernel
theorem dX10_only_18 : decode cX10_only 18 = .ok (.aload_n 0, 1) := by decide +kernel
theorem dX10_only_19 : decode cX10_only 19 = .ok (.getfield 13, 3) := by decide +kernel
theorem dX10_only_22 : decode cX10_only 22 = .ok (.iload_n 1, 1) := by decide +kernel
theorem dX10_only_23 : decode cX10_only 23 = .ok (.iconst 0, 1) := by decide +kernel
theorem dX10_only_24 : decode cX10_only 24 = .ok (.iastore, 1) := by decide +kernel
theorem dX10_only_25 : decode cX10_only 25 = .ok (.return_, 1) := by decide +kernel
theorem dX10_equal_0 : decode cX10_equal 0 = .ok (.aload_n 0, 1) := by decide +kernel
theorem dX10_equal_1 : decode cX10_equal 1 = .ok (.sipush 4850, 3) := by decide +kernel
theorem dX10_equal_4 : decode cX10_equal 4 = .ok (.sipush 4928, 3) := by decide +kernel
theorem dX10_equal_7 : decode cX10_equal 7 = .ok (.invokevirtual 169, 3) := by decide +kernel
theorem dX10_equal_10 : decode cX10_equal 10 = .ok (.aload_n 0, 1) := by decide +kernel
theorem dX10_equal_11 : decode cX10_equal 11 = .ok (.sipush 4851, 3) := by decide +kernel
theorem dX10_equal_14 : decode cX10_equal 14 = .ok (.sipush 4929, 3) := by decide +kernel
theorem dX10_equal_17 : decode cX10_equal 17 = .ok (.invokevirtual 169, 3) := by decide +kernel
theorem dX10_equal_20 : decode cX10_equal 20 = .ok (.iload_n 3, 1) := by decide +kernel
theorem dX10_equal_21 : decode cX10_equal 21 = .ok (.ifCond .ne 62, 3) := by decide +kernel
theorem dX10_equal_24 : decode cX10_equal 24 = .ok (.aload_n 0, 1) := by decide +kernel
theorem dX10_equal_25 : decode cX10_equal 25 = .ok (.sipush 4929, 3) := by decide +kernel
theorem dX10_equal_28 : decode cX10_equal 28 = .ok (.invokevirtual 162, 3) := by decide +kernel
theorem dX10_equal_31 : decode cX10_equal 31 = .ok (.ifCond .eq 21, 3) := by decide +kernel
theorem dX10_equal_34 : decode cX10_equal 34 = .ok (.aload_n 0, 1) := by decide +kernel
theorem dX10_equal_35 : decode cX10_equal 35 = .ok (.sipush 4850, 3) := by decide +kernel
theorem dX10_equal_38 : decode cX10_equal 38 = .ok (.sipush 4928, 3) := by decide +kernel
theorem dX10_equal_41 : decode cX10_equal 41 = .ok (.aload_n 0, 1) := by decide +kernel
theorem dX10_equal_42 : decode cX10_equal 42 = .ok (.getfield 16, 3) := by decide +kernel
theorem dX10_equal_45 : decode cX10_equal 45 = .ok (.sipush 4929, 3) := by decide +kernel
theorem dX10_equal_48 : decode cX10_equal 48 = .ok (.laload, 1) := by decide +kernel
theorem dX10_equal_49 : decode cX10_equal 49 = .ok (.invokevirtual 256, 3) := by decide +kernel
theorem dX10_equal_52 : decode cX10_equal 52 = .ok (.aload_n 0, 1) := by decide +kernel
theorem dX10_equal_53 : decode cX10_equal 53 = .ok (.sipush 4928, 3) := by decide +kernel
theorem dX10_equal_56 : decode cX10_equal 56 = .ok (.invokevirtual 162, 3) := by decide +kernel
theorem dX10_equal_59 : decode cX10_equal 59 = .ok (.ifCond .eq 233, 3) := by decide +kernel
theorem dX10_equal_62 : decode cX10_equal 62 = .ok (.aload_n 0, 1) := by decide +kernel
theorem dX10_equal_63 : decode cX10_equal 63 = .ok (.sipush 4851, 3) := by decide +kernel
theorem dX10_equal_66 : decode cX10_equal 66 = .ok (.sipush 4929, 3) := by decide +kernel
theorem dX10_equal_69 : decode cX10_equal 69 = .ok (.aload_n 0, 1) := by decide +kernel
theorem dX10_equal_70 : decode cX10_equal 70 = .ok (.getfield 16, 3) := by decide +kernel
theorem dX10_equal_73 : decode cX10_equal 73 = .ok (.sipush 4928, 3) := by decide +kernel
theorem dX10_equal_76 : decode cX10_equal 76 = .ok (.laload, 1) := by decide +kernel
theorem dX10_equal_77 : decode cX10_equal 77 = .ok (.invokevirtual 256, 3) := by decide +kernel
theorem dX10_equal_80 : decode cX10_equal 80 = .ok (.goto 212, 3) := by decide +kernel
theorem dX10_equal_83 : decode cX10_equal 83 = .ok (.aload_n 0, 1) := by decide +kernel
theorem dX10_equal_84 : decode cX10_equal 84 = .ok (.sipush 4929, 3) := by decide +kernel
theorem dX10_equal_87 : decode cX10_equal 87 = .ok (.invokevirtual 162, 3) := by decide +kernel
theorem dX10_equal_90 : decode cX10_equal 90 = .ok (.ifCond .ne 13, 3) := by decide +kernel
theorem dX10_equal_93 : decode cX10_equal 93 = .ok (.aload_n 0, 1) := by decide +kernel
theorem dX10_equal_94 : decode cX10_equal 94 = .ok (.sipush 4928, 3) := by decide +kernel
theorem dX10_equal_97 : decode cX10_equal 97 = .ok (.invokevirtual 162, 3) := by decide +kernel
theorem dX10_equal_100 : decode cX10_equal 100 = .ok (.ifCond .eq 62, 3) := by decide +kernel
theorem dX10_equal_103 : decode cX10_equal 103 = .ok (.aload_n 0, 1) := by decide +kernel
theorem dX10_equal_104 : decode cX10_equal 104 = .ok (.sipush 4929, 3) := by decide +kernel
theorem dX10_equal_107 : decode cX10_equal 107 = .ok (.invokevirtual 162, 3) := by decide +kernel
theorem dX10_equal_110 : decode cX10_equal 110 = .ok (.ifCond .eq 21, 3) := by decide +kernel
theorem dX10_equal_113 : decode cX10_equal 113 = .ok (.aload_n 0, 1) := by decide +kernel
theorem dX10_equal_114 : decode cX10_equal 114 = .ok (.sipush 4850, 3) := by decide +kernel
theorem dX10_equal_117 : decode cX10_equal 117 = .ok (.sipush 4928, 3) := by decide +kernel
theorem dX10_equal_120 : decode cX10_equal 120 = .ok (.aload_n 0, 1) := by decide +kernel
theorem dX10_equal_121 : decode cX10_equal 121 = .ok (.getfield 16, 3) := by decide +kernel
theorem dX10_equal_124 : decode cX10_equal 124 = .ok (.sipush 4929, 3) := by decide +kernel
theorem dX10_equal_127 : decode cX10_equal 127 = .ok (.laload, 1) := by decide +kernel
theorem dX10_equal_128 : decode cX10_equal 128 = .ok (.invokevirtual 260, 3) := by decide +kernel
theorem dX10_equal_131 : decode cX10_equal 131 = .ok (.aload_n 0, 1) := by decide +kernel
theorem dX10_equal_132 : decode cX10_equal 132 = .ok (.sipush 4928, 3) := by decide +kernel
theorem dX10_equal_135 : decode cX10_equal 135 = .ok (.invokevirtual 162, 3) := by decide +kernel
theorem dX10_equal_138 : decode cX10_equal 138 = .ok (.ifCond .eq 154, 3) := by decide +kernel
theorem dX10_equal_141 : decode cX10_equal 141 = .ok (.aload_n 0, 1) := by decide +kernel
theorem dX10_equal_142 : decode cX10_equal 142 = .ok (.sipush 4851, 3) := by decide +kernel
theorem dX10_equal_145 : decode cX10_equal 145 = .ok (.sipush 4929, 3) := by decide +kernel
theorem dX10_equal_148 : decode cX10_equal 148 = .ok (.aload_n 0, 1) := by decide +kernel
theorem dX10_equal_149 : decode cX10_equal 149 = .ok (.getfield 16, 3) := by decide +kernel
theorem dX10_equal_152 : decode cX10_equal 152 = .ok (.sipush 4928, 3) := by decide +kernel
theorem dX10_equal_155 : decode cX10_equal 155 = .ok (.laload, 1) := by decide +kernel
theorem dX10_equal_156 : decode cX10_equal 156 = .ok (.invokevirtual 260, 3) := by decide +kernel
theorem dX10_equal_159 : decode cX10_equal 159 = .ok (.goto 133, 3) := by decide +kernel
theorem dX10_equal_162 : decode cX10_equal 162 = .ok (.aload_n 0, 1) := by decide +kernel
theorem dX10_equal_163 : decode cX10_equal 163 = .ok (.getfield 13, 3) := by decide +kernel
theorem dX10_equal_166 : decode cX10_equal 166 = .ok (.sipush 4929, 3) := by decide +kernel
theorem dX10_equal_169 : decode cX10_equal 169 = .ok (.iaload, 1) := by decide +kernel
theorem dX10_equal_170 : decode cX10_equal 170 = .ok (.iconst 1, 1) := by decide +kernel
theorem dX10_equal_171 : decode cX10_equal 171 = .ok (.if_icmp .ne 56, 3) := by decide +kernel
theorem dX10_equal_174 : decode cX10_equal 174 = .ok (.aload_n 0, 1) := by decide +kernel
theorem dX10_equal_175 : decode cX10_equal 175 = .ok (.getfield 13, 3) := by decide +kernel
theorem dX10_equal_178 : decode cX10_equal 178 = .ok (.sipush 4928, 3) := by decide +kernel
theorem dX10_equal_181 : decode cX10_equal 181 = .ok (.iaload, 1) := by decide +kernel
theorem dX10_equal_182 : decode cX10_equal 182 = .ok (.iconst 2, 1) := by decide +kernel
theorem dX10_equal_183 : decode cX10_equal 183 = .ok (.if_icmp .ne 16, 3) := by decide +kernel
theorem dX10_equal_186 : decode cX10_equal 186 = .ok (.aload_n 0, 1) := by decide +kernel
theorem dX10_equal_187 : decode cX10_equal 187 = .ok (.sipush 4850, 3) := by decide +kernel
theorem dX10_equal_190 : decode cX10_equal 190 = .ok (.sipush 4929, 3) := by decide +kernel
theorem dX10_equal_193 : decode cX10_equal 193 = .ok (.invokevirtual 169, 3) := by decide +kernel
theorem dX10_equal_196 : decode cX10_equal 196 = .ok (.goto 31, 3) := by decide +kernel
theorem dX10_equal_199 : decode cX10_equal 199 = .ok (.aload_n 0, 1) := by decide +kernel
theorem dX10_equal_200 : decode cX10_equal 200 = .ok (.sipush 4850, 3) := by decide +kernel
theorem dX10_equal_203 : decode cX10_equal 203 = .ok (.sipush 4928, 3) := by decide +kernel
theorem dX10_equal_206 : decode cX10_equal 206 = .ok (.iconst 1, 1) := by decide +kernel
theorem dX10_equal_207 : decode cX10_equal 207 = .ok (.aload_n 0, 1) := by decide +kernel
theorem dX10_equal_208 : decode cX10_equal 208 = .ok (.getfield 16, 3) := by decide +kernel
theorem dX10_equal_211 : decode cX10_equal 211 = .ok (.sipush 4929, 3) := by decide +kernel
theorem dX10_equal_214 : decode cX10_equal 214 = .ok (.laload, 1) := by decide +kernel
theorem dX10_equal_215 : decode cX10_equal 215 = .ok (.iconst 1, 1) := by decide +kernel
theorem dX10_equal_216 : decode cX10_equal 216 = .ok (.aload_n 0, 1) := by decide +kernel
theorem dX10_equal_217 : decode cX10_equal 217 = .ok (.getfield 20, 3) := by decide +kernel
theorem dX10_equal_220 : decode cX10_equal 220 = .ok (.sipush 4929, 3) := by decide +kernel
theorem dX10_equal_223 : decode cX10_equal 223 = .ok (.laload, 1) := by decide +kernel
theorem dX10_equal_224 : decode cX10_equal 224 = .ok (.invokevirtual 263, 3) := by decide +kernel
theorem dX10_equal_227 : decode cX10_equal 227 = .ok (.aload_n 0, 1) := by decide +kernel
theorem dX10_equal_228 : decode cX10_equal 228 = .ok (.getfield 13, 3) := by decide +kernel
theorem dX10_equal_231 : decode cX10_equal 231 = .ok (.sipush 4928, 3) := by decide +kernel
theorem dX10_equal_234 : decode cX10_equal 234 = .ok (.iaload, 1) := by decide +kernel
theorem dX10_equal_235 : decode cX10_equal 235 = .ok (.iconst 1, 1) := by decide +kernel
theorem dX10_equal_236 : decode cX10_equal 236 = .ok (.if_icmp .ne 56, 3) := by decide +kernel
theorem dX10_equal_239 : decode cX10_equal 239 = .ok (.aload_n 0, 1) := by decide +kernel
theorem dX10_equal_240 : decode cX10_equal 240 = .ok (.getfield 13, 3) := by decide +kernel
theorem dX10_equal_243 : decode cX10_equal 243 = .ok (.sipush 4929, 3) := by decide +kernel
theorem dX10_equal_246 : decode cX10_equal 246 = .ok (.iaload, 1) := by decide +kernel
theorem dX10_equal_247 : decode cX10_equal 247 = .ok (.iconst 2, 1) := by decide +kernel
theorem dX10_equal_248 : decode cX10_equal 248 = .ok (.if_icmp .ne 16, 3) := by decide +kernel
theorem dX10_equal_251 : decode cX10_equal 251 = .ok (.aload_n 0, 1) := by decide +kernel
theorem dX10_equal_252 : decode cX10_equal 252 = .ok (.sipush 4851, 3) := by decide +kernel
theorem dX10_equal_255 : decode cX10_equal 255 = .ok (.sipush 4928, 3) := by decide +kernel
theorem dX10_equal_258 : decode cX10_equal 258 = .ok (.invokevirtual 169, 3) := by decide +kernel
theorem dX10_equal_261 : decode cX10_equal 261 = .ok (.goto 31, 3) := by decide +kernel
theorem dX10_equal_264 : decode cX10_equal 264 = .ok (.aload_n 0, 1) := by decide +kernel
theorem dX10_equal_265 : decode cX10_equal 265 = .ok (.sipush 4851, 3) := by decide +kernel
theorem dX10_equal_268 : decode cX10_equal 268 = .ok (.sipush 4929, 3) := by decide +kernel
theorem dX10_equal_271 : decode cX10_equal 271 = .ok (.iconst 1, 1) := by decide +kernel
theorem dX10_equal_272 : decode cX10_equal 272 = .ok (.aload_n 0, 1) := by decide +kernel
theorem dX10_equal_273 : decode cX10_equal 273 = .ok (.getfield 16, 3) := by decide +kernel
theorem dX10_equal_276 : decode cX10_equal 276 = .ok (.sipush 4928, 3) := by decide +kernel
theorem dX10_equal_279 : decode cX10_equal 279 = .ok (.laload, 1) := by decide +kernel
theorem dX10_equal_280 : decode cX10_equal 280 = .ok (.iconst 1, 1) := by decide +kernel
theorem dX10_equal_281 : decode cX10_equal 281 = .ok (.aload_n 0, 1) := by decide +kernel
theorem dX10_equal_282 : decode cX10_equal 282 = .ok (.getfield 20, 3) := by decide +kernel
theorem dX10_equal_285 : decode cX10_equal 285 = .ok (.sipush 4928, 3) := by decide +kernel
theorem dX10_equal_288 : decode cX10_equal 288 = .ok (.laload, 1) := by decide +kernel
theorem dX10_equal_289 : decode cX10_equal 289 = .ok (.invokevirtual 263, 3) := by decide +kernel
theorem dX10_equal_292 : decode cX10_equal 292 = .ok (.aload_n 0, 1) := by decide +kernel
theorem dX10_equal_293 : decode cX10_equal 293 = .ok (.iload_n 1, 1) := by decide +kernel
theorem dX10_equal_294 : decode cX10_equal 294 = .ok (.sipush 4850, 3) := by decide +kernel
theorem dX10_equal_297 : decode cX10_equal 297 = .ok (.invokevirtual 267, 3) := by decide +kernel
theorem dX10_equal_300 : decode cX10_equal 300 = .ok (.aload_n 0, 1) := by decide +kernel
theorem dX10_equal_301 : decode cX10_equal 301 = .ok (.iload_n 2, 1) := by decide +kernel
theorem dX10_equal_302 : decode cX10_equal 302 = .ok (.sipush 4851, 3) := by decide +kernel
theorem dX10_equal_305 : decode cX10_equal 305 = .ok (.invokevirtual 267, 3) := by decide +kernel
theorem dX10_equal_308 : decode cX10_equal 308 = .ok (.return_, 1) := by decide +kernel
theorem dX10_below_0 : decode cX10_below 0 = .ok (.iload_n 3, 1) := by decide +kernel
theorem dX10_below_1 : decode cX10_below 1 = .ok (.ifCond .eq 9, 3) := by decide +kernel
theorem dX10_below_4 : decode cX10_below 4 = .ok (.sipush 4929, 3) := by decide +kernel
theorem dX10_below_7 : decode cX10_below 7 = .ok (.goto 6, 3) := by decide +kernel
theorem dX10_below_10 : decode cX10_below 10 = .ok (.sipush 4928, 3) := by decide +kernel
theorem dX10_below_13 : decode cX10_below 13 = .ok (.istore 5, 2) := by decide +kernel
theorem dX10_below_15 : decode cX10_below 15 = .ok (.iload_n 3, 1) := by decide +kernel
theorem dX10_below_16 : decode cX10_below 16 = .ok (.ifCond .eq 9, 3) := by decide +kernel
theorem dX10_below_19 : decode cX10_below 19 = .ok (.sipush 4928, 3) := by decide +kernel
theorem dX10_below_22 : decode cX10_below 22 = .ok (.goto 6, 3) := by decide +kernel
theorem dX10_below_25 : decode cX10_below 25 = .ok (.sipush 4929, 3) := by decide +kernel
theorem dX10_below_28 : decode cX10_below 28 = .ok (.istore 6, 2) := by decide +kernel
theorem dX10_below_30 : decode cX10_below 30 = .ok (.iload 4, 2) := by decide +kernel
theorem dX10_below_32 : decode cX10_below 32 = .ok (.ifCond .eq 7, 3) := by decide +kernel
theorem dX10_below_35 : decode cX10_below 35 = .ok (.lconst 1, 1) := by decide +kernel
theorem dX10_below_36 : decode cX10_below 36 = .ok (.goto 4, 3) := by decide +kernel
theorem dX10_below_39 : decode cX10_below 39 = .ok (.lconst 0, 1) := by decide +kernel
theorem dX10_below_40 : decode cX10_below 40 = .ok (.lstore 7, 2) := by decide +kernel
theorem dX10_below_42 : decode cX10_below 42 = .ok (.aload_n 0, 1) := by decide +kernel
theorem dX10_below_43 : decode cX10_below 43 = .ok (.sipush 4850, 3) := by decide +kernel
theorem dX10_below_46 : decode cX10_below 46 = .ok (.iload 5, 2) := by decide +kernel
theorem dX10_below_48 : decode cX10_below 48 = .ok (.invokevirtual 169, 3) := by decide +kernel
theorem dX10_below_51 : decode cX10_below 51 = .ok (.aload_n 0, 1) := by decide +kernel
theorem dX10_below_52 : decode cX10_below 52 = .ok (.sipush 4851, 3) := by decide +kernel
theorem dX10_below_55 : decode cX10_below 55 = .ok (.iload 6, 2) := by decide +kernel
theorem dX10_below_57 : decode cX10_below 57 = .ok (.invokevirtual 169, 3) := by decide +kernel
theorem dX10_below_60 : decode cX10_below 60 = .ok (.aload_n 0, 1) := by decide +kernel
theorem dX10_below_61 : decode cX10_below 61 = .ok (.getfield 13, 3) := by decide +kernel
theorem dX10_below_64 : decode cX10_below 64 = .ok (.iload 6, 2) := by decide +kernel
theorem dX10_below_66 : decode cX10_below 66 = .ok (.iaload, 1) := by decide +kernel
theorem dX10_below_67 : decode cX10_below 67 = .ok (.iconst 1, 1) := by decide +kernel
theorem dX10_below_68 : decode cX10_below 68 = .ok (.if_icmp .ne 25, 3) := by decide +kernel
theorem dX10_below_71 : decode cX10_below 71 = .ok (.aload_n 0, 1) := by decide +kernel
theorem dX10_below_72 : decode cX10_below 72 = .ok (.sipush 4850, 3) := by decide +kernel
theorem dX10_below_75 : decode cX10_below 75 = .ok (.iload 5, 2) := by decide +kernel
theorem dX10_below_77 : decode cX10_below 77 = .ok (.iconst 0, 1) := by decide +kernel
theorem dX10_below_78 : decode cX10_below 78 = .ok (.lconst 0, 1) := by decide +kernel
theorem dX10_below_79 : decode cX10_below 79 = .ok (.iconst 1, 1) := by decide +kernel
theorem dX10_below_80 : decode cX10_below 80 = .ok (.aload_n 0, 1) := by decide +kernel
theorem dX10_below_81 : decode cX10_below 81 = .ok (.getfield 20, 3) := by decide +kernel
theorem dX10_below_84 : decode cX10_below 84 = .ok (.iload 6, 2) := by decide +kernel
theorem dX10_below_86 : decode cX10_below 86 = .ok (.laload, 1) := by decide +kernel
theorem dX10_below_87 : decode cX10_below 87 = .ok (.lload 7, 2) := by decide +kernel
theorem dX10_below_89 : decode cX10_below 89 = .ok (.lsub, 1) := by decide +kernel
theorem dX10_below_90 : decode cX10_below 90 = .ok (.invokevirtual 263, 3) := by decide +kernel
theorem dX10_below_93 : decode cX10_below 93 = .ok (.aload_n 0, 1) := by decide +kernel
theorem dX10_below_94 : decode cX10_below 94 = .ok (.getfield 13, 3) := by decide +kernel
theorem dX10_below_97 : decode cX10_below 97 = .ok (.iload 5, 2) := by decide +kernel
theorem dX10_below_99 : decode cX10_below 99 = .ok (.iaload, 1) := by decide +kernel
theorem dX10_below_100 : decode cX10_below 100 = .ok (.iconst 1, 1) := by decide +kernel
theorem dX10_below_101 : decode cX10_below 101 = .ok (.if_icmp .ne 25, 3) := by decide +kernel
theorem dX10_below_104 : decode cX10_below 104 = .ok (.aload_n 0, 1) := by decide +kernel
theorem dX10_below_105 : decode cX10_below 105 = .ok (.sipush 4851, 3) := by decide +kernel
theorem dX10_below_108 : decode cX10_below 108 = .ok (.iload 6, 2) := by decide +kernel
theorem dX10_below_110 : decode cX10_below 110 = .ok (.iconst 1, 1) := by decide +kernel
theorem dX10_below_111 : decode cX10_below 111 = .ok (.aload_n 0, 1) := by decide +kernel
theorem dX10_below_112 : decode cX10_below 112 = .ok (.getfield 16, 3) := by decide +kernel
theorem dX10_below_115 : decode cX10_below 115 = .ok (.iload 5, 2) := by decide +kernel
theorem dX10_below_117 : decode cX10_below 117 = .ok (.laload, 1) := by decide +kernel
theorem dX10_below_118 : decode cX10_below 118 = .ok (.lload 7, 2) := by decide +kernel
theorem dX10_below_120 : decode cX10_below 120 = .ok (.ladd, 1) := by decide +kernel
theorem dX10_below_121 : decode cX10_below 121 = .ok (.iconst 0, 1) := by decide +kernel
theorem dX10_below_122 : decode cX10_below 122 = .ok (.lconst 0, 1) := by decide +kernel
theorem dX10_below_123 : decode cX10_below 123 = .ok (.invokevirtual 263, 3) := by decide +kernel
theorem dX10_below_126 : decode cX10_below 126 = .ok (.aload_n 0, 1) := by decide +kernel
theorem dX10_below_127 : decode cX10_below 127 = .ok (.iload_n 1, 1) := by decide +kernel
theorem dX10_below_128 : decode cX10_below 128 = .ok (.iload_n 3, 1) := by decide +kernel
theorem dX10_below_129 : decode cX10_below 129 = .ok (.ifCond .eq 9, 3) := by decide +kernel
theorem dX10_below_132 : decode cX10_below 132 = .ok (.sipush 4851, 3) := by decide +kernel
theorem dX10_below_135 : decode cX10_below 135 = .ok (.goto 6, 3) := by decide +kernel
theorem dX10_below_138 : decode cX10_below 138 = .ok (.sipush 4850, 3) := by decide +kernel
theorem dX10_below_141 : decode cX10_below 141 = .ok (.invokevirtual 267, 3) := by decide +kernel
theorem dX10_below_144 : decode cX10_below 144 = .ok (.aload_n 0, 1) := by decide +kernel
theorem dX10_below_145 : decode cX10_below 145 = .ok (.iload_n 2, 1) := by decide +kernel
theorem dX10_below_146 : decode cX10_below 146 = .ok (.iload_n 3, 1) := by decide +kernel
theorem dX10_below_147 : decode cX10_below 147 = .ok (.ifCond .eq 9, 3) := by decide +kernel
theorem dX10_below_150 : decode cX10_below 150 = .ok (.sipush 4850, 3) := by decide +kernel
theorem dX10_below_153 : decode cX10_below 153 = .ok (.goto 6, 3) := by decide +kernel
theorem dX10_below_156 : decode cX10_below 156 = .ok (.sipush 4851, 3) := by decide +kernel
theorem dX10_below_159 : decode cX10_below 159 = .ok (.invokevirtual 267, 3) := by decide +kernel
theorem dX10_below_162 : decode cX10_below 162 = .ok (.return_, 1) := by decide +kernel
theorem dX10_lower_0 : decode cX10_lower 0 = .ok (.iload_n 3, 1) := by decide +kernel
theorem dX10_lower_1 : decode cX10_lower 1 = .ok (.ifCond .eq 9, 3) := by decide +kernel
theorem dX10_lower_4 : decode cX10_lower 4 = .ok (.sipush 4929, 3) := by decide +kernel
theorem dX10_lower_7 : decode cX10_lower 7 = .ok (.goto 6, 3) := by decide +kernel
theorem dX10_lower_10 : decode cX10_lower 10 = .ok (.sipush 4928, 3) := by decide +kernel
theorem dX10_lower_13 : decode cX10_lower 13 = .ok (.istore 5, 2) := by decide +kernel
theorem dX10_lower_15 : decode cX10_lower 15 = .ok (.iload_n 3, 1) := by decide +kernel
theorem dX10_lower_16 : decode cX10_lower 16 = .ok (.ifCond .eq 9, 3) := by decide +kernel
theorem dX10_lower_19 : decode cX10_lower 19 = .ok (.sipush 4928, 3) := by decide +kernel
theorem dX10_lower_22 : decode cX10_lower 22 = .ok (.goto 6, 3) := by decide +kernel
theorem dX10_lower_25 : decode cX10_lower 25 = .ok (.sipush 4929, 3) := by decide +kernel
theorem dX10_lower_28 : decode cX10_lower 28 = .ok (.istore 6, 2) := by decide +kernel
theorem dX10_lower_30 : decode cX10_lower 30 = .ok (.iload 4, 2) := by decide +kernel
theorem dX10_lower_32 : decode cX10_lower 32 = .ok (.ifCond .eq 7, 3) := by decide +kernel
theorem dX10_lower_35 : decode cX10_lower 35 = .ok (.lconst 1, 1) := by decide +kernel
theorem dX10_lower_36 : decode cX10_lower 36 = .ok (.goto 4, 3) := by decide +kernel
theorem dX10_lower_39 : decode cX10_lower 39 = .ok (.lconst 0, 1) := by decide +kernel
theorem dX10_lower_40 : decode cX10_lower 40 = .ok (.lstore 7, 2) := by decide +kernel
theorem dX10_lower_42 : decode cX10_lower 42 = .ok (.aload_n 0, 1) := by decide +kernel
theorem dX10_lower_43 : decode cX10_lower 43 = .ok (.getfield 13, 3) := by decide +kernel
theorem dX10_lower_46 : decode cX10_lower 46 = .ok (.iload 6, 2) := by decide +kernel
theorem dX10_lower_48 : decode cX10_lower 48 = .ok (.iaload, 1) := by decide +kernel
theorem dX10_lower_49 : decode cX10_lower 49 = .ok (.iconst 1, 1) := by decide +kernel
theorem dX10_lower_50 : decode cX10_lower 50 = .ok (.if_icmp .ne 15, 3) := by decide +kernel
theorem dX10_lower_53 : decode cX10_lower 53 = .ok (.aload_n 0, 1) := by decide +kernel
theorem dX10_lower_54 : decode cX10_lower 54 = .ok (.getfield 16, 3) := by decide +kernel
theorem dX10_lower_57 : decode cX10_lower 57 = .ok (.iload 6, 2) := by decide +kernel
theorem dX10_lower_59 : decode cX10_lower 59 = .ok (.laload, 1) := by decide +kernel
theorem dX10_lower_60 : decode cX10_lower 60 = .ok (.lconst 0, 1) := by decide +kernel
theorem dX10_lower_61 : decode cX10_lower 61 = .ok (.lcmp, 1) := by decide +kernel
theorem dX10_lower_62 : decode cX10_lower 62 = .ok (.ifCond .ge 4, 3) := by decide +kernel
theorem dX10_lower_65 : decode cX10_lower 65 = .ok (.return_, 1) := by decide +kernel
theorem dX10_lower_66 : decode cX10_lower 66 = .ok (.aload_n 0, 1) := by decide +kernel
theorem dX10_lower_67 : decode cX10_lower 67 = .ok (.sipush 4851, 3) := by decide +kernel
theorem dX10_lower_70 : decode cX10_lower 70 = .ok (.iload 6, 2) := by decide +kernel
theorem dX10_lower_72 : decode cX10_lower 72 = .ok (.invokevirtual 169, 3) := by decide +kernel
theorem dX10_lower_75 : decode cX10_lower 75 = .ok (.aload_n 0, 1) := by decide +kernel
theorem dX10_lower_76 : decode cX10_lower 76 = .ok (.getfield 13, 3) := by decide +kernel
theorem dX10_lower_79 : decode cX10_lower 79 = .ok (.iload 5, 2) := by decide +kernel
theorem dX10_lower_81 : decode cX10_lower 81 = .ok (.iaload, 1) := by decide +kernel
theorem dX10_lower_82 : decode cX10_lower 82 = .ok (.iconst 1, 1) := by decide +kernel
theorem dX10_lower_83 : decode cX10_lower 83 = .ok (.if_icmp .ne 62, 3) := by decide +kernel
theorem dX10_lower_86 : decode cX10_lower 86 = .ok (.aload_n 0, 1) := by decide +kernel
theorem dX10_lower_87 : decode cX10_lower 87 = .ok (.sipush 4850, 3) := by decide +kernel
theorem dX10_lower_90 : decode cX10_lower 90 = .ok (.iload 5, 2) := by decide +kernel
theorem dX10_lower_92 : decode cX10_lower 92 = .ok (.iconst 1, 1) := by decide +kernel
theorem dX10_lower_93 : decode cX10_lower 93 = .ok (.lconst 0, 1) := by decide +kernel
theorem dX10_lower_94 : decode cX10_lower 94 = .ok (.iconst 1, 1) := by decide +kernel
theorem dX10_lower_95 : decode cX10_lower 95 = .ok (.aload_n 0, 1) := by decide +kernel
theorem dX10_lower_96 : decode cX10_lower 96 = .ok (.getfield 20, 3) := by decide +kernel
theorem dX10_lower_99 : decode cX10_lower 99 = .ok (.iload 6, 2) := by decide +kernel
theorem dX10_lower_101 : decode cX10_lower 101 = .ok (.laload, 1) := by decide +kernel
theorem dX10_lower_102 : decode cX10_lower 102 = .ok (.lload 7, 2) := by decide +kernel
theorem dX10_lower_104 : decode cX10_lower 104 = .ok (.lsub, 1) := by decide +kernel
theorem dX10_lower_105 : decode cX10_lower 105 = .ok (.invokevirtual 263, 3) := by decide +kernel
theorem dX10_lower_108 : decode cX10_lower 108 = .ok (.aload_n 0, 1) := by decide +kernel
theorem dX10_lower_109 : decode cX10_lower 109 = .ok (.getfield 16, 3) := by decide +kernel
theorem dX10_lower_112 : decode cX10_lower 112 = .ok (.iload 5, 2) := by decide +kernel
theorem dX10_lower_114 : decode cX10_lower 114 = .ok (.laload, 1) := by decide +kernel
theorem dX10_lower_115 : decode cX10_lower 115 = .ok (.lconst 0, 1) := by decide +kernel
theorem dX10_lower_116 : decode cX10_lower 116 = .ok (.lcmp, 1) := by decide +kernel
theorem dX10_lower_117 : decode cX10_lower 117 = .ok (.ifCond .lt 75, 3) := by decide +kernel
theorem dX10_lower_120 : decode cX10_lower 120 = .ok (.aload_n 0, 1) := by decide +kernel
theorem dX10_lower_121 : decode cX10_lower 121 = .ok (.sipush 4851, 3) := by decide +kernel
theorem dX10_lower_124 : decode cX10_lower 124 = .ok (.iload 6, 2) := by decide +kernel
theorem dX10_lower_126 : decode cX10_lower 126 = .ok (.iconst 1, 1) := by decide +kernel
theorem dX10_lower_127 : decode cX10_lower 127 = .ok (.aload_n 0, 1) := by decide +kernel
theorem dX10_lower_128 : decode cX10_lower 128 = .ok (.getfield 16, 3) := by decide +kernel
theorem dX10_lower_131 : decode cX10_lower 131 = .ok (.iload 5, 2) := by decide +kernel
theorem dX10_lower_133 : decode cX10_lower 133 = .ok (.laload, 1) := by decide +kernel
theorem dX10_lower_134 : decode cX10_lower 134 = .ok (.lload 7, 2) := by decide +kernel
theorem dX10_lower_136 : decode cX10_lower 136 = .ok (.ladd, 1) := by decide +kernel
theorem dX10_lower_137 : decode cX10_lower 137 = .ok (.iconst 0, 1) := by decide +kernel
theorem dX10_lower_138 : decode cX10_lower 138 = .ok (.lconst 0, 1) := by decide +kernel
theorem dX10_lower_139 : decode cX10_lower 139 = .ok (.invokevirtual 263, 3) := by decide +kernel
theorem dX10_lower_142 : decode cX10_lower 142 = .ok (.goto 50, 3) := by decide +kernel
theorem dX10_lower_145 : decode cX10_lower 145 = .ok (.aload_n 0, 1) := by decide +kernel
theorem dX10_lower_146 : decode cX10_lower 146 = .ok (.getfield 20, 3) := by decide +kernel
theorem dX10_lower_149 : decode cX10_lower 149 = .ok (.iload 6, 2) := by decide +kernel
theorem dX10_lower_151 : decode cX10_lower 151 = .ok (.laload, 1) := by decide +kernel
theorem dX10_lower_152 : decode cX10_lower 152 = .ok (.lload 7, 2) := by decide +kernel
theorem dX10_lower_154 : decode cX10_lower 154 = .ok (.lsub, 1) := by decide +kernel
theorem dX10_lower_155 : decode cX10_lower 155 = .ok (.lconst 0, 1) := by decide +kernel
theorem dX10_lower_156 : decode cX10_lower 156 = .ok (.lcmp, 1) := by decide +kernel
theorem dX10_lower_157 : decode cX10_lower 157 = .ok (.ifCond .ge 15, 3) := by decide +kernel
theorem dX10_lower_160 : decode cX10_lower 160 = .ok (.aload_n 0, 1) := by decide +kernel
theorem dX10_lower_161 : decode cX10_lower 161 = .ok (.getfield 13, 3) := by decide +kernel
theorem dX10_lower_164 : decode cX10_lower 164 = .ok (.sipush 4850, 3) := by decide +kernel
theorem dX10_lower_167 : decode cX10_lower 167 = .ok (.iconst 0, 1) := by decide +kernel
theorem dX10_lower_168 : decode cX10_lower 168 = .ok (.iastore, 1) := by decide +kernel
theorem dX10_lower_169 : decode cX10_lower 169 = .ok (.goto 23, 3) := by decide +kernel
theorem dX10_lower_172 : decode cX10_lower 172 = .ok (.aload_n 0, 1) := by decide +kernel
theorem dX10_lower_173 : decode cX10_lower 173 = .ok (.sipush 4850, 3) := by decide +kernel
theorem dX10_lower_176 : decode cX10_lower 176 = .ok (.iconst 1, 1) := by decide +kernel
theorem dX10_lower_177 : decode cX10_lower 177 = .ok (.lconst 0, 1) := by decide +kernel
theorem dX10_lower_178 : decode cX10_lower 178 = .ok (.aload_n 0, 1) := by decide +kernel
theorem dX10_lower_179 : decode cX10_lower 179 = .ok (.getfield 20, 3) := by decide +kernel
theorem dX10_lower_182 : decode cX10_lower 182 = .ok (.iload 6, 2) := by decide +kernel
theorem dX10_lower_184 : decode cX10_lower 184 = .ok (.laload, 1) := by decide +kernel
theorem dX10_lower_185 : decode cX10_lower 185 = .ok (.lload 7, 2) := by decide +kernel
theorem dX10_lower_187 : decode cX10_lower 187 = .ok (.lsub, 1) := by decide +kernel
theorem dX10_lower_188 : decode cX10_lower 188 = .ok (.lconst 1, 1) := by decide +kernel
theorem dX10_lower_189 : decode cX10_lower 189 = .ok (.invokevirtual 165, 3) := by decide +kernel
theorem dX10_lower_192 : decode cX10_lower 192 = .ok (.aload_n 0, 1) := by decide +kernel
theorem dX10_lower_193 : decode cX10_lower 193 = .ok (.iload_n 1, 1) := by decide +kernel
theorem dX10_lower_194 : decode cX10_lower 194 = .ok (.iload_n 3, 1) := by decide +kernel
theorem dX10_lower_195 : decode cX10_lower 195 = .ok (.ifCond .eq 9, 3) := by decide +kernel
theorem dX10_lower_198 : decode cX10_lower 198 = .ok (.sipush 4851, 3) := by decide +kernel
theorem dX10_lower_201 : decode cX10_lower 201 = .ok (.goto 6, 3) := by decide +kernel
theorem dX10_lower_204 : decode cX10_lower 204 = .ok (.sipush 4850, 3) := by decide +kernel
theorem dX10_lower_207 : decode cX10_lower 207 = .ok (.invokevirtual 267, 3) := by decide +kernel
theorem dX10_lower_210 : decode cX10_lower 210 = .ok (.aload_n 0, 1) := by decide +kernel
theorem dX10_lower_211 : decode cX10_lower 211 = .ok (.iload_n 2, 1) := by decide +kernel
theorem dX10_lower_212 : decode cX10_lower 212 = .ok (.iload_n 3, 1) := by decide +kernel
theorem dX10_lower_213 : decode cX10_lower 213 = .ok (.ifCond .eq 9, 3) := by decide +kernel
theorem dX10_lower_216 : decode cX10_lower 216 = .ok (.sipush 4850, 3) := by decide +kernel
theorem dX10_lower_219 : decode cX10_lower 219 = .ok (.goto 6, 3) := by decide +kernel
theorem dX10_lower_222 : decode cX10_lower 222 = .ok (.sipush 4851, 3) := by decide +kernel
theorem dX10_lower_225 : decode cX10_lower 225 = .ok (.invokevirtual 267, 3) := by decide +kernel
theorem dX10_lower_228 : decode cX10_lower 228 = .ok (.return_, 1) := by decide +kernel
theorem dX10_compared_0 : decode cX10_compared 0 = .ok (.iload_n 3, 1) := by decide +kernel
theorem dX10_compared_1 : decode cX10_compared 1 = .ok (.iconst 4, 1) := by decide +kernel
theorem dX10_compared_2 : decode cX10_compared 2 = .ok (.if_icmp .eq 8, 3) := by decide +kernel
theorem dX10_compared_5 : decode cX10_compared 5 = .ok (.iload_n 3, 1) := by decide +kernel
theorem dX10_compared_6 : decode cX10_compared 6 = .ok (.iconst 5, 1) := by decide +kernel
theorem dX10_compared_7 : decode cX10_compared 7 = .ok (.if_icmp .ne 22, 3) := by decide +kernel
theorem dX10_compared_10 : decode cX10_compared 10 = .ok (.aload_n 0, 1) := by decide +kernel
theorem dX10_compared_11 : decode cX10_compared 11 = .ok (.iload_n 1, 1) := by decide +kernel
theorem dX10_compared_12 : decode cX10_compared 12 = .ok (.iload_n 2, 1) := by decide +kernel
theorem dX10_compared_13 : decode cX10_compared 13 = .ok (.iload_n 3, 1) := by decide +kernel
theorem dX10_compared_14 : decode cX10_compared 14 = .ok (.iconst 4, 1) := by decide +kernel
theorem dX10_compared_15 : decode cX10_compared 15 = .ok (.if_icmp .ne 7, 3) := by decide +kernel
theorem dX10_compared_18 : decode cX10_compared 18 = .ok (.iconst 1, 1) := by decide +kernel
theorem dX10_compared_19 : decode cX10_compared 19 = .ok (.goto 4, 3) := by decide +kernel
theorem dX10_compared_22 : decode cX10_compared 22 = .ok (.iconst 0, 1) := by decide +kernel
theorem dX10_compared_23 : decode cX10_compared 23 = .ok (.invokevirtual 270, 3) := by decide +kernel
theorem dX10_compared_26 : decode cX10_compared 26 = .ok (.goto 112, 3) := by decide +kernel
theorem dX10_compared_29 : decode cX10_compared 29 = .ok (.iload_n 3, 1) := by decide +kernel
theorem dX10_compared_30 : decode cX10_compared 30 = .ok (.bipush 11, 2) := by decide +kernel
theorem dX10_compared_32 : decode cX10_compared 32 = .ok (.if_icmp .le 46, 3) := by decide +kernel
theorem dX10_compared_35 : decode cX10_compared 35 = .ok (.aload_n 0, 1) := by decide +kernel
theorem dX10_compared_36 : decode cX10_compared 36 = .ok (.iload_n 1, 1) := by decide +kernel
theorem dX10_compared_37 : decode cX10_compared 37 = .ok (.iload_n 2, 1) := by decide +kernel
theorem dX10_compared_38 : decode cX10_compared 38 = .ok (.iload_n 3, 1) := by decide +kernel
theorem dX10_compared_39 : decode cX10_compared 39 = .ok (.bipush 13, 2) := by decide +kernel
theorem dX10_compared_41 : decode cX10_compared 41 = .ok (.if_icmp .eq 9, 3) := by decide +kernel
theorem dX10_compared_44 : decode cX10_compared 44 = .ok (.iload_n 3, 1) := by decide +kernel
theorem dX10_compared_45 : decode cX10_compared 45 = .ok (.bipush 15, 2) := by decide +kernel
theorem dX10_compared_47 : decode cX10_compared 47 = .ok (.if_icmp .ne 7, 3) := by decide +kernel
theorem dX10_compared_50 : decode cX10_compared 50 = .ok (.iconst 1, 1) := by decide +kernel
theorem dX10_compared_51 : decode cX10_compared 51 = .ok (.goto 4, 3) := by decide +kernel
theorem dX10_compared_54 : decode cX10_compared 54 = .ok (.iconst 0, 1) := by decide +kernel
theorem dX10_compared_55 : decode cX10_compared 55 = .ok (.iload_n 3, 1) := by decide +kernel
theorem dX10_compared_56 : decode cX10_compared 56 = .ok (.bipush 12, 2) := by decide +kernel
theorem dX10_compared_58 : decode cX10_compared 58 = .ok (.if_icmp .eq 9, 3) := by decide +kernel
theorem dX10_compared_61 : decode cX10_compared 61 = .ok (.iload_n 3, 1) := by decide +kernel
theorem dX10_compared_62 : decode cX10_compared 62 = .ok (.bipush 15, 2) := by decide +kernel
theorem dX10_compared_64 : decode cX10_compared 64 = .ok (.if_icmp .ne 7, 3) := by decide +kernel
theorem dX10_compared_67 : decode cX10_compared 67 = .ok (.iconst 1, 1) := by decide +kernel
theorem dX10_compared_68 : decode cX10_compared 68 = .ok (.goto 4, 3) := by decide +kernel
theorem dX10_compared_71 : decode cX10_compared 71 = .ok (.iconst 0, 1) := by decide +kernel
theorem dX10_compared_72 : decode cX10_compared 72 = .ok (.invokevirtual 274, 3) := by decide +kernel
theorem dX10_compared_75 : decode cX10_compared 75 = .ok (.goto 63, 3) := by decide +kernel
theorem dX10_compared_78 : decode cX10_compared 78 = .ok (.iload_n 3, 1) := by decide +kernel
theorem dX10_compared_79 : decode cX10_compared 79 = .ok (.iconst 2, 1) := by decide +kernel
theorem dX10_compared_80 : decode cX10_compared 80 = .ok (.if_icmp .eq 20, 3) := by decide +kernel
theorem dX10_compared_83 : decode cX10_compared 83 = .ok (.iload_n 3, 1) := by decide +kernel
theorem dX10_compared_84 : decode cX10_compared 84 = .ok (.iconst 3, 1) := by decide +kernel
theorem dX10_compared_85 : decode cX10_compared 85 = .ok (.if_icmp .eq 15, 3) := by decide +kernel
theorem dX10_compared_88 : decode cX10_compared 88 = .ok (.iload_n 3, 1) := by decide +kernel
theorem dX10_compared_89 : decode cX10_compared 89 = .ok (.bipush 6, 2) := by decide +kernel
theorem dX10_compared_91 : decode cX10_compared 91 = .ok (.if_icmp .eq 9, 3) := by decide +kernel
theorem dX10_compared_94 : decode cX10_compared 94 = .ok (.iload_n 3, 1) := by decide +kernel
theorem dX10_compared_95 : decode cX10_compared 95 = .ok (.bipush 7, 2) := by decide +kernel
theorem dX10_compared_97 : decode cX10_compared 97 = .ok (.if_icmp .ne 41, 3) := by decide +kernel
theorem dX10_compared_100 : decode cX10_compared 100 = .ok (.aload_n 0, 1) := by decide +kernel
theorem dX10_compared_101 : decode cX10_compared 101 = .ok (.iload_n 1, 1) := by decide +kernel
theorem dX10_compared_102 : decode cX10_compared 102 = .ok (.iload_n 2, 1) := by decide +kernel
theorem dX10_compared_103 : decode cX10_compared 103 = .ok (.iload_n 3, 1) := by decide +kernel
theorem dX10_compared_104 : decode cX10_compared 104 = .ok (.iconst 3, 1) := by decide +kernel
theorem dX10_compared_105 : decode cX10_compared 105 = .ok (.if_icmp .eq 9, 3) := by decide +kernel
theorem dX10_compared_108 : decode cX10_compared 108 = .ok (.iload_n 3, 1) := by decide +kernel
theorem dX10_compared_109 : decode cX10_compared 109 = .ok (.bipush 7, 2) := by decide +kernel
theorem dX10_compared_111 : decode cX10_compared 111 = .ok (.if_icmp .ne 7, 3) := by decide +kernel
theorem dX10_compared_114 : decode cX10_compared 114 = .ok (.iconst 1, 1) := by decide +kernel
theorem dX10_compared_115 : decode cX10_compared 115 = .ok (.goto 4, 3) := by decide +kernel
theorem dX10_compared_118 : decode cX10_compared 118 = .ok (.iconst 0, 1) := by decide +kernel
theorem dX10_compared_119 : decode cX10_compared 119 = .ok (.iload_n 3, 1) := by decide +kernel
theorem dX10_compared_120 : decode cX10_compared 120 = .ok (.iconst 2, 1) := by decide +kernel
theorem dX10_compared_121 : decode cX10_compared 121 = .ok (.if_icmp .eq 9, 3) := by decide +kernel
theorem dX10_compared_124 : decode cX10_compared 124 = .ok (.iload_n 3, 1) := by decide +kernel
theorem dX10_compared_125 : decode cX10_compared 125 = .ok (.bipush 7, 2) := by decide +kernel
theorem dX10_compared_127 : decode cX10_compared 127 = .ok (.if_icmp .ne 7, 3) := by decide +kernel
theorem dX10_compared_130 : decode cX10_compared 130 = .ok (.iconst 1, 1) := by decide +kernel
theorem dX10_compared_131 : decode cX10_compared 131 = .ok (.goto 4, 3) := by decide +kernel
theorem dX10_compared_134 : decode cX10_compared 134 = .ok (.iconst 0, 1) := by decide +kernel
theorem dX10_compared_135 : decode cX10_compared 135 = .ok (.invokevirtual 278, 3) := by decide +kernel
theorem dX10_compared_138 : decode cX10_compared 138 = .ok (.return_, 1) := by decide +kernel
theorem dX10_goAlong_0 : decode cX10_goAlong 0 = .ok (.aload_n 0, 1) := by decide +kernel
theorem dX10_goAlong_1 : decode cX10_goAlong 1 = .ok (.iconst 0, 1) := by decide +kernel
theorem dX10_goAlong_2 : decode cX10_goAlong 2 = .ok (.putfield 250, 3) := by decide +kernel
theorem dX10_goAlong_5 : decode cX10_goAlong 5 = .ok (.iconst 0, 1) := by decide +kernel
theorem dX10_goAlong_6 : decode cX10_goAlong 6 = .ok (.istore_n 2, 1) := by decide +kernel
theorem dX10_goAlong_7 : decode cX10_goAlong 7 = .ok (.iload_n 2, 1) := by decide +kernel
theorem dX10_goAlong_8 : decode cX10_goAlong 8 = .ok (.bipush 24, 2) := by decide +kernel
theorem dX10_goAlong_10 : decode cX10_goAlong 10 = .ok (.if_icmp .ge 23, 3) := by decide +kernel
theorem dX10_goAlong_13 : decode cX10_goAlong 13 = .ok (.aload_n 0, 1) := by decide +kernel
theorem dX10_goAlong_14 : decode cX10_goAlong 14 = .ok (.sipush 4904, 3) := by decide +kernel
theorem dX10_goAlong_17 : decode cX10_goAlong 17 = .ok (.iload_n 2, 1) := by decide +kernel
theorem dX10_goAlong_18 : decode cX10_goAlong 18 = .ok (.iadd, 1) := by decide +kernel
theorem dX10_goAlong_19 : decode cX10_goAlong 19 = .ok (.sipush 4856, 3) := by decide +kernel
theorem dX10_goAlong_22 : decode cX10_goAlong 22 = .ok (.iload_n 2, 1) := by decide +kernel
theorem dX10_goAlong_23 : decode cX10_goAlong 23 = .ok (.iadd, 1) := by decide +kernel
theorem dX10_goAlong_24 : decode cX10_goAlong 24 = .ok (.invokevirtual 169, 3) := by decide +kernel
theorem dX10_goAlong_27 : decode cX10_goAlong 27 = .ok (.iinc 2 1, 3) := by decide +kernel
theorem dX10_goAlong_30 : decode cX10_goAlong 30 = .ok (.goto (-23), 3) := by decide +kernel
theorem dX10_goAlong_33 : decode cX10_goAlong 33 = .ok (.aload_n 0, 1) := by decide +kernel
theorem dX10_goAlong_34 : decode cX10_goAlong 34 = .ok (.getfield 33, 3) := by decide +kernel
theorem dX10_goAlong_37 : decode cX10_goAlong 37 = .ok (.sipush 201, 3) := by decide +kernel
theorem dX10_goAlong_40 : decode cX10_goAlong 40 = .ok (.iaload, 1) := by decide +kernel
theorem dX10_goAlong_41 : decode cX10_goAlong 41 = .ok (.istore_n 2, 1) := by decide +kernel
theorem dX10_goAlong_42 : decode cX10_goAlong 42 = .ok (.iload_n 1, 1) := by decide +kernel
theorem dX10_goAlong_43 : decode cX10_goAlong 43 = .ok (.ifCond .lt 185, 3) := by decide +kernel
theorem dX10_goAlong_46 : decode cX10_goAlong 46 = .ok (.iload_n 2, 1) := by decide +kernel
theorem dX10_goAlong_47 : decode cX10_goAlong 47 = .ok (.ifCond .le 181, 3) := by decide +kernel
theorem dX10_goAlong_50 : decode cX10_goAlong 50 = .ok (.aload_n 0, 1) := by decide +kernel
theorem dX10_goAlong_51 : decode cX10_goAlong 51 = .ok (.getfield 36, 3) := by decide +kernel
theorem dX10_goAlong_54 : decode cX10_goAlong 54 = .ok (.sipush 201, 3) := by decide +kernel
theorem dX10_goAlong_57 : decode cX10_goAlong 57 = .ok (.iaload, 1) := by decide +kernel
theorem dX10_goAlong_58 : decode cX10_goAlong 58 = .ok (.istore_n 3, 1) := by decide +kernel
theorem dX10_goAlong_59 : decode cX10_goAlong 59 = .ok (.aload_n 0, 1) := by decide +kernel
theorem dX10_goAlong_60 : decode cX10_goAlong 60 = .ok (.sipush 4928, 3) := by decide +kernel
theorem dX10_goAlong_63 : decode cX10_goAlong 63 = .ok (.sipush 4856, 3) := by decide +kernel
theorem dX10_goAlong_66 : decode cX10_goAlong 66 = .ok (.iload_n 3, 1) := by decide +kernel
theorem dX10_goAlong_67 : decode cX10_goAlong 67 = .ok (.iadd, 1) := by decide +kernel
theorem dX10_goAlong_68 : decode cX10_goAlong 68 = .ok (.invokevirtual 169, 3) := by decide +kernel
theorem dX10_goAlong_71 : decode cX10_goAlong 71 = .ok (.iload_n 2, 1) := by decide +kernel
theorem dX10_goAlong_72 : decode cX10_goAlong 72 = .ok (.iconst 1, 1) := by decide +kernel
theorem dX10_goAlong_73 : decode cX10_goAlong 73 = .ok (.if_icmp .ne 39, 3) := by decide +kernel
theorem dX10_goAlong_76 : decode cX10_goAlong 76 = .ok (.aload_n 0, 1) := by decide +kernel
theorem dX10_goAlong_77 : decode cX10_goAlong 77 = .ok (.sipush 4929, 3) := by decide +kernel
theorem dX10_goAlong_80 : decode cX10_goAlong 80 = .ok (.sipush 4856, 3) := by decide +kernel
theorem dX10_goAlong_83 : decode cX10_goAlong 83 = .ok (.aload_n 0, 1) := by decide +kernel
theorem dX10_goAlong_84 : decode cX10_goAlong 84 = .ok (.getfield 39, 3) := by decide +kernel
theorem dX10_goAlong_87 : decode cX10_goAlong 87 = .ok (.sipush 201, 3) := by decide +kernel
theorem dX10_goAlong_90 : decode cX10_goAlong 90 = .ok (.iaload, 1) := by decide +kernel
theorem dX10_goAlong_91 : decode cX10_goAlong 91 = .ok (.iadd, 1) := by decide +kernel
theorem dX10_goAlong_92 : decode cX10_goAlong 92 = .ok (.invokevirtual 169, 3) := by decide +kernel
theorem dX10_goAlong_95 : decode cX10_goAlong 95 = .ok (.aload_n 0, 1) := by decide +kernel
theorem dX10_goAlong_96 : decode cX10_goAlong 96 = .ok (.iload_n 3, 1) := by decide +kernel
theorem dX10_goAlong_97 : decode cX10_goAlong 97 = .ok (.aload_n 0, 1) := by decide +kernel
theorem dX10_goAlong_98 : decode cX10_goAlong 98 = .ok (.getfield 39, 3) := by decide +kernel
theorem dX10_goAlong_101 : decode cX10_goAlong 101 = .ok (.sipush 201, 3) := by decide +kernel
theorem dX10_goAlong_104 : decode cX10_goAlong 104 = .ok (.iaload, 1) := by decide +kernel
theorem dX10_goAlong_105 : decode cX10_goAlong 105 = .ok (.iload_n 1, 1) := by decide +kernel
theorem dX10_goAlong_106 : decode cX10_goAlong 106 = .ok (.invokevirtual 281, 3) := by decide +kernel
theorem dX10_goAlong_109 : decode cX10_goAlong 109 = .ok (.goto 119, 3) := by decide +kernel
theorem dX10_goAlong_112 : decode cX10_goAlong 112 = .ok (.iload_n 2, 1) := by decide +kernel
theorem dX10_goAlong_113 : decode cX10_goAlong 113 = .ok (.iconst 2, 1) := by decide +kernel
theorem dX10_goAlong_114 : decode cX10_goAlong 114 = .ok (.if_icmp .ne 28, 3) := by decide +kernel
theorem dX10_goAlong_117 : decode cX10_goAlong 117 = .ok (.aload_n 0, 1) := by decide +kernel
theorem dX10_goAlong_118 : decode cX10_goAlong 118 = .ok (.sipush 4929, 3) := by decide +kernel
theorem dX10_goAlong_121 : decode cX10_goAlong 121 = .ok (.aload_n 0, 1) := by decide +kernel
theorem dX10_goAlong_122 : decode cX10_goAlong 122 = .ok (.getfield 42, 3) := by decide +kernel
theorem dX10_goAlong_125 : decode cX10_goAlong 125 = .ok (.sipush 201, 3) := by decide +kernel
theorem dX10_goAlong_128 : decode cX10_goAlong 128 = .ok (.laload, 1) := by decide +kernel
theorem dX10_goAlong_129 : decode cX10_goAlong 129 = .ok (.invokevirtual 193, 3) := by decide +kernel
theorem dX10_goAlong_132 : decode cX10_goAlong 132 = .ok (.aload_n 0, 1) := by decide +kernel
theorem dX10_goAlong_133 : decode cX10_goAlong 133 = .ok (.iload_n 3, 1) := by decide +kernel
theorem dX10_goAlong_134 : decode cX10_goAlong 134 = .ok (.iconst (-1), 1) := by decide +kernel
theorem dX10_goAlong_135 : decode cX10_goAlong 135 = .ok (.iload_n 1, 1) := by decide +kernel
theorem dX10_goAlong_136 : decode cX10_goAlong 136 = .ok (.invokevirtual 281, 3) := by decide +kernel
theorem dX10_goAlong_139 : decode cX10_goAlong 139 = .ok (.goto 89, 3) := by decide +kernel
theorem dX10_goAlong_142 : decode cX10_goAlong 142 = .ok (.iload_n 1, 1) := by decide +kernel
theorem dX10_goAlong_143 : decode cX10_goAlong 143 = .ok (.iconst 4, 1) := by decide +kernel
theorem dX10_goAlong_144 : decode cX10_goAlong 144 = .ok (.if_icmp .eq 8, 3) := by decide +kernel
theorem dX10_goAlong_147 : decode cX10_goAlong 147 = .ok (.iload_n 1, 1) := by decide +kernel
theorem dX10_goAlong_148 : decode cX10_goAlong 148 = .ok (.iconst 5, 1) := by decide +kernel
theorem dX10_goAlong_149 : decode cX10_goAlong 149 = .ok (.if_icmp .ne 30, 3) := by decide +kernel
theorem dX10_goAlong_152 : decode cX10_goAlong 152 = .ok (.aload_n 0, 1) := by decide +kernel
theorem dX10_goAlong_153 : decode cX10_goAlong 153 = .ok (.sipush 4929, 3) := by decide +kernel
theorem dX10_goAlong_156 : decode cX10_goAlong 156 = .ok (.lconst 0, 1) := by decide +kernel
theorem dX10_goAlong_157 : decode cX10_goAlong 157 = .ok (.invokevirtual 193, 3) := by decide +kernel
theorem dX10_goAlong_160 : decode cX10_goAlong 160 = .ok (.aload_n 0, 1) := by decide +kernel
theorem dX10_goAlong_161 : decode cX10_goAlong 161 = .ok (.iload_n 3, 1) := by decide +kernel
theorem dX10_goAlong_162 : decode cX10_goAlong 162 = .ok (.iconst (-1), 1) := by decide +kernel
theorem dX10_goAlong_163 : decode cX10_goAlong 163 = .ok (.iload_n 1, 1) := by decide +kernel
theorem dX10_goAlong_164 : decode cX10_goAlong 164 = .ok (.iconst 4, 1) := by decide +kernel
theorem dX10_goAlong_165 : decode cX10_goAlong 165 = .ok (.if_icmp .ne 7, 3) := by decide +kernel
theorem dX10_goAlong_168 : decode cX10_goAlong 168 = .ok (.iconst 1, 1) := by decide +kernel
theorem dX10_goAlong_169 : decode cX10_goAlong 169 = .ok (.goto 4, 3) := by decide +kernel
theorem dX10_goAlong_172 : decode cX10_goAlong 172 = .ok (.iconst 0, 1) := by decide +kernel
theorem dX10_goAlong_173 : decode cX10_goAlong 173 = .ok (.invokevirtual 270, 3) := by decide +kernel
theorem dX10_goAlong_176 : decode cX10_goAlong 176 = .ok (.goto 52, 3) := by decide +kernel
theorem dX10_goAlong_179 : decode cX10_goAlong 179 = .ok (.iload_n 1, 1) := by decide +kernel
theorem dX10_goAlong_180 : decode cX10_goAlong 180 = .ok (.bipush 8, 2) := by decide +kernel
theorem dX10_goAlong_182 : decode cX10_goAlong 182 = .ok (.if_icmp .ne 24, 3) := by decide +kernel
theorem dX10_goAlong_185 : decode cX10_goAlong 185 = .ok (.aload_n 0, 1) := by decide +kernel
theorem dX10_goAlong_186 : decode cX10_goAlong 186 = .ok (.sipush 4904, 3) := by decide +kernel
theorem dX10_goAlong_189 : decode cX10_goAlong 189 = .ok (.iload_n 3, 1) := by decide +kernel
theorem dX10_goAlong_190 : decode cX10_goAlong 190 = .ok (.iadd, 1) := by decide +kernel
theorem dX10_goAlong_191 : decode cX10_goAlong 191 = .ok (.sipush 4928, 3) := by decide +kernel
theorem dX10_goAlong_194 : decode cX10_goAlong 194 = .ok (.iconst 0, 1) := by decide +kernel
theorem dX10_goAlong_195 : decode cX10_goAlong 195 = .ok (.lconst 0, 1) := by decide +kernel
theorem dX10_goAlong_196 : decode cX10_goAlong 196 = .ok (.iconst 1, 1) := by decide +kernel
theorem dX10_goAlong_197 : decode cX10_goAlong 197 = .ok (.ldc2_w 204, 3) := by decide +kernel
theorem dX10_goAlong_200 : decode cX10_goAlong 200 = .ok (.invokevirtual 263, 3) := by decide +kernel
theorem dX10_goAlong_203 : decode cX10_goAlong 203 = .ok (.goto 25, 3) := by decide +kernel
theorem dX10_goAlong_206 : decode cX10_goAlong 206 = .ok (.iload_n 1, 1) := by decide +kernel
theorem dX10_goAlong_207 : decode cX10_goAlong 207 = .ok (.bipush 9, 2) := by decide +kernel
theorem dX10_goAlong_209 : decode cX10_goAlong 209 = .ok (.if_icmp .ne 19, 3) := by decide +kernel
theorem dX10_goAlong_212 : decode cX10_goAlong 212 = .ok (.aload_n 0, 1) := by decide +kernel
theorem dX10_goAlong_213 : decode cX10_goAlong 213 = .ok (.sipush 4904, 3) := by decide +kernel
theorem dX10_goAlong_216 : decode cX10_goAlong 216 = .ok (.iload_n 3, 1) := by decide +kernel
theorem dX10_goAlong_217 : decode cX10_goAlong 217 = .ok (.iadd, 1) := by decide +kernel
theorem dX10_goAlong_218 : decode cX10_goAlong 218 = .ok (.sipush 4928, 3) := by decide +kernel
theorem dX10_goAlong_221 : decode cX10_goAlong 221 = .ok (.iconst 1, 1) := by decide +kernel
theorem dX10_goAlong_222 : decode cX10_goAlong 222 = .ok (.lconst 0, 1) := by decide +kernel
theorem dX10_goAlong_223 : decode cX10_goAlong 223 = .ok (.iconst 0, 1) := by decide +kernel
theorem dX10_goAlong_224 : decode cX10_goAlong 224 = .ok (.lconst 0, 1) := by decide +kernel
theorem dX10_goAlong_225 : decode cX10_goAlong 225 = .ok (.invokevirtual 263, 3) := by decide +kernel
theorem dX10_goAlong_228 : decode cX10_goAlong 228 = .ok (.aload_n 0, 1) := by decide +kernel
theorem dX10_goAlong_229 : decode cX10_goAlong 229 = .ok (.getfield 250, 3) := by decide +kernel
theorem dX10_goAlong_232 : decode cX10_goAlong 232 = .ok (.ifCond .ne 7, 3) := by decide +kernel
theorem dX10_goAlong_235 : decode cX10_goAlong 235 = .ok (.iconst 1, 1) := by decide +kernel
theorem dX10_goAlong_236 : decode cX10_goAlong 236 = .ok (.goto 4, 3) := by decide +kernel
theorem dX10_goAlong_239 : decode cX10_goAlong 239 = .ok (.iconst 0, 1) := by decide +kernel
theorem dX10_goAlong_240 : decode cX10_goAlong 240 = .ok (.istore_n 3, 1) := by decide +kernel
theorem dX10_goAlong_241 : decode cX10_goAlong 241 = .ok (.iconst 0, 1) := by decide +kernel
theorem dX10_goAlong_242 : decode cX10_goAlong 242 = .ok (.istore 4, 2) := by decide +kernel
theorem dX10_goAlong_244 : decode cX10_goAlong 244 = .ok (.iload 4, 2) := by decide +kernel
theorem dX10_goAlong_246 : decode cX10_goAlong 246 = .ok (.bipush 24, 2) := by decide +kernel
theorem dX10_goAlong_248 : decode cX10_goAlong 248 = .ok (.if_icmp .ge 33, 3) := by decide +kernel
theorem dX10_goAlong_251 : decode cX10_goAlong 251 = .ok (.iload_n 3, 1) := by decide +kernel
theorem dX10_goAlong_252 : decode cX10_goAlong 252 = .ok (.ifCond .eq 21, 3) := by decide +kernel
theorem dX10_goAlong_255 : decode cX10_goAlong 255 = .ok (.aload_n 0, 1) := by decide +kernel
theorem dX10_goAlong_256 : decode cX10_goAlong 256 = .ok (.getfield 13, 3) := by decide +kernel
theorem dX10_goAlong_259 : decode cX10_goAlong 259 = .ok (.sipush 4904, 3) := by decide +kernel
theorem dX10_goAlong_262 : decode cX10_goAlong 262 = .ok (.iload 4, 2) := by decide +kernel
theorem dX10_goAlong_264 : decode cX10_goAlong 264 = .ok (.iadd, 1) := by decide +kernel
theorem dX10_goAlong_265 : decode cX10_goAlong 265 = .ok (.iaload, 1) := by decide +kernel
theorem dX10_goAlong_266 : decode cX10_goAlong 266 = .ok (.ifCond .eq 7, 3) := by decide +kernel
theorem dX10_goAlong_269 : decode cX10_goAlong 269 = .ok (.iconst 1, 1) := by decide +kernel
theorem dX10_goAlong_270 : decode cX10_goAlong 270 = .ok (.goto 4, 3) := by decide +kernel
theorem dX10_goAlong_273 : decode cX10_goAlong 273 = .ok (.iconst 0, 1) := by decide +kernel
theorem dX10_goAlong_274 : decode cX10_goAlong 274 = .ok (.istore_n 3, 1) := by decide +kernel
theorem dX10_goAlong_275 : decode cX10_goAlong 275 = .ok (.iinc 4 1, 3) := by decide +kernel
theorem dX10_goAlong_278 : decode cX10_goAlong 278 = .ok (.goto (-34), 3) := by decide +kernel
theorem dX10_goAlong_281 : decode cX10_goAlong 281 = .ok (.iload_n 3, 1) := by decide +kernel
theorem dX10_goAlong_282 : decode cX10_goAlong 282 = .ok (.ireturn, 1) := by decide +kernel
theorem dX10_arrive_0 : decode cX10_arrive 0 = .ok (.lload_n 1, 1) := by decide +kernel
theorem dX10_arrive_1 : decode cX10_arrive 1 = .ok (.lconst 0, 1) := by decide +kernel
theorem dX10_arrive_2 : decode cX10_arrive 2 = .ok (.aload_n 0, 1) := by decide +kernel
theorem dX10_arrive_3 : decode cX10_arrive 3 = .ok (.getfield 71, 3) := by decide +kernel
theorem dX10_arrive_6 : decode cX10_arrive 6 = .ok (.iconst 1, 1) := by decide +kernel
theorem dX10_arrive_7 : decode cX10_arrive 7 = .ok (.isub, 1) := by decide +kernel
theorem dX10_arrive_8 : decode cX10_arrive 8 = .ok (.i2l, 1) := by decide +kernel
theorem dX10_arrive_9 : decode cX10_arrive 9 = .ok (.invokestatic 67, 3) := by decide +kernel
theorem dX10_arrive_12 : decode cX10_arrive 12 = .ok (.ifCond .ne 4, 3) := by decide +kernel
theorem dX10_arrive_15 : decode cX10_arrive 15 = .ok (.return_, 1) := by decide +kernel
theorem dX10_arrive_16 : decode cX10_arrive 16 = .ok (.lload_n 1, 1) := by decide +kernel
theorem dX10_arrive_17 : decode cX10_arrive 17 = .ok (.l2i, 1) := by decide +kernel
theorem dX10_arrive_18 : decode cX10_arrive 18 = .ok (.istore 4, 2) := by decide +kernel
theorem dX10_arrive_20 : decode cX10_arrive 20 = .ok (.aload_n 0, 1) := by decide +kernel
theorem dX10_arrive_21 : decode cX10_arrive 21 = .ok (.getfield 26, 3) := by decide +kernel
theorem dX10_arrive_24 : decode cX10_arrive 24 = .ok (.iload 4, 2) := by decide +kernel
theorem dX10_arrive_26 : decode cX10_arrive 26 = .ok (.iaload, 1) := by decide +kernel
theorem dX10_arrive_27 : decode cX10_arrive 27 = .ok (.ifCond .ne 63, 3) := by decide +kernel
theorem dX10_arrive_30 : decode cX10_arrive 30 = .ok (.iconst 0, 1) := by decide +kernel
theorem dX10_arrive_31 : decode cX10_arrive 31 = .ok (.istore 5, 2) := by decide +kernel
theorem dX10_arrive_33 : decode cX10_arrive 33 = .ok (.iload 5, 2) := by decide +kernel
theorem dX10_arrive_35 : decode cX10_arrive 35 = .ok (.bipush 24, 2) := by decide +kernel
theorem dX10_arrive_37 : decode cX10_arrive 37 = .ok (.if_icmp .ge 27, 3) := by decide +kernel
theorem dX10_arrive_40 : decode cX10_arrive 40 = .ok (.aload_n 0, 1) := by decide +kernel
theorem dX10_arrive_41 : decode cX10_arrive 41 = .ok (.bipush 24, 2) := by decide +kernel
theorem dX10_arrive_43 : decode cX10_arrive 43 = .ok (.iload 4, 2) := by decide +kernel
theorem dX10_arrive_45 : decode cX10_arrive 45 = .ok (.imul, 1) := by decide +kernel
theorem dX10_arrive_46 : decode cX10_arrive 46 = .ok (.iload 5, 2) := by decide +kernel
theorem dX10_arrive_48 : decode cX10_arrive 48 = .ok (.iadd, 1) := by decide +kernel
theorem dX10_arrive_49 : decode cX10_arrive 49 = .ok (.sipush 4904, 3) := by decide +kernel
theorem dX10_arrive_52 : decode cX10_arrive 52 = .ok (.iload 5, 2) := by decide +kernel
theorem dX10_arrive_54 : decode cX10_arrive 54 = .ok (.iadd, 1) := by decide +kernel
theorem dX10_arrive_55 : decode cX10_arrive 55 = .ok (.invokevirtual 169, 3) := by decide +kernel
theorem dX10_arrive_58 : decode cX10_arrive 58 = .ok (.iinc 5 1, 3) := by decide +kernel
theorem dX10_arrive_61 : decode cX10_arrive 61 = .ok (.goto (-28), 3) := by decide +kernel
theorem dX10_arrive_64 : decode cX10_arrive 64 = .ok (.aload_n 0, 1) := by decide +kernel
theorem dX10_arrive_65 : decode cX10_arrive 65 = .ok (.iload 4, 2) := by decide +kernel
theorem dX10_arrive_67 : decode cX10_arrive 67 = .ok (.sipush 201, 3) := by decide +kernel
theorem dX10_arrive_70 : decode cX10_arrive 70 = .ok (.invokevirtual 284, 3) := by decide +kernel
theorem dX10_arrive_73 : decode cX10_arrive 73 = .ok (.aload_n 0, 1) := by decide +kernel
theorem dX10_arrive_74 : decode cX10_arrive 74 = .ok (.getfield 26, 3) := by decide +kernel
theorem dX10_arrive_77 : decode cX10_arrive 77 = .ok (.iload 4, 2) := by decide +kernel
theorem dX10_arrive_79 : decode cX10_arrive 79 = .ok (.iconst 1, 1) := by decide +kernel
theorem dX10_arrive_80 : decode cX10_arrive 80 = .ok (.iastore, 1) := by decide +kernel
theorem dX10_arrive_81 : decode cX10_arrive 81 = .ok (.aload_n 0, 1) := by decide +kernel
theorem dX10_arrive_82 : decode cX10_arrive 82 = .ok (.getfield 29, 3) := by decide +kernel
theorem dX10_arrive_85 : decode cX10_arrive 85 = .ok (.iload 4, 2) := by decide +kernel
theorem dX10_arrive_87 : decode cX10_arrive 87 = .ok (.iconst 1, 1) := by decide +kernel
theorem dX10_arrive_88 : decode cX10_arrive 88 = .ok (.bastore, 1) := by decide +kernel
theorem dX10_arrive_89 : decode cX10_arrive 89 = .ok (.return_, 1) := by decide +kernel
theorem dX10_arrive_90 : decode cX10_arrive 90 = .ok (.iconst 0, 1) := by decide +kernel
theorem dX10_arrive_91 : decode cX10_arrive 91 = .ok (.istore 5, 2) := by decide +kernel
theorem dX10_arrive_93 : decode cX10_arrive 93 = .ok (.iconst 0, 1) := by decide +kernel
theorem dX10_arrive_94 : decode cX10_arrive 94 = .ok (.istore 6, 2) := by decide +kernel
theorem dX10_arrive_96 : decode cX10_arrive 96 = .ok (.iload 6, 2) := by decide +kernel
theorem dX10_arrive_98 : decode cX10_arrive 98 = .ok (.bipush 24, 2) := by decide +kernel
theorem dX10_arrive_100 : decode cX10_arrive 100 = .ok (.if_icmp .ge 126, 3) := by decide +kernel
theorem dX10_arrive_103 : decode cX10_arrive 103 = .ok (.aload_n 0, 1) := by decide +kernel
theorem dX10_arrive_104 : decode cX10_arrive 104 = .ok (.sipush 4848, 3) := by decide +kernel
theorem dX10_arrive_107 : decode cX10_arrive 107 = .ok (.bipush 24, 2) := by decide +kernel
theorem dX10_arrive_109 : decode cX10_arrive 109 = .ok (.iload 4, 2) := by decide +kernel
theorem dX10_arrive_111 : decode cX10_arrive 111 = .ok (.imul, 1) := by decide +kernel
theorem dX10_arrive_112 : decode cX10_arrive 112 = .ok (.iload 6, 2) := by decide +kernel
theorem dX10_arrive_114 : decode cX10_arrive 114 = .ok (.iadd, 1) := by decide +kernel
theorem dX10_arrive_115 : decode cX10_arrive 115 = .ok (.invokevirtual 169, 3) := by decide +kernel
theorem dX10_arrive_118 : decode cX10_arrive 118 = .ok (.iload 4, 2) := by decide +kernel
theorem dX10_arrive_120 : decode cX10_arrive 120 = .ok (.iload_n 3, 1) := by decide +kernel
theorem dX10_arrive_121 : decode cX10_arrive 121 = .ok (.if_icmp .gt 38, 3) := by decide +kernel
theorem dX10_arrive_124 : decode cX10_arrive 124 = .ok (.aload_n 0, 1) := by decide +kernel
theorem dX10_arrive_125 : decode cX10_arrive 125 = .ok (.getfield 26, 3) := by decide +kernel
theorem dX10_arrive_128 : decode cX10_arrive 128 = .ok (.iload 4, 2) := by decide +kernel
theorem dX10_arrive_130 : decode cX10_arrive 130 = .ok (.iaload, 1) := by decide +kernel
theorem dX10_arrive_131 : decode cX10_arrive 131 = .ok (.iconst 3, 1) := by decide +kernel
theorem dX10_arrive_132 : decode cX10_arrive 132 = .ok (.if_icmp .lt 27, 3) := by decide +kernel
theorem dX10_arrive_135 : decode cX10_arrive 135 = .ok (.aload_n 0, 1) := by decide +kernel
theorem dX10_arrive_136 : decode cX10_arrive 136 = .ok (.bipush 24, 2) := by decide +kernel
theorem dX10_arrive_138 : decode cX10_arrive 138 = .ok (.iload 4, 2) := by decide +kernel
theorem dX10_arrive_140 : decode cX10_arrive 140 = .ok (.imul, 1) := by decide +kernel
theorem dX10_arrive_141 : decode cX10_arrive 141 = .ok (.iload 6, 2) := by decide +kernel
theorem dX10_arrive_143 : decode cX10_arrive 143 = .ok (.iadd, 1) := by decide +kernel
theorem dX10_arrive_144 : decode cX10_arrive 144 = .ok (.sipush 4848, 3) := by decide +kernel
theorem dX10_arrive_147 : decode cX10_arrive 147 = .ok (.sipush 4904, 3) := by decide +kernel
theorem dX10_arrive_150 : decode cX10_arrive 150 = .ok (.iload 6, 2) := by decide +kernel
theorem dX10_arrive_152 : decode cX10_arrive 152 = .ok (.iadd, 1) := by decide +kernel
theorem dX10_arrive_153 : decode cX10_arrive 153 = .ok (.invokevirtual 287, 3) := by decide +kernel
theorem dX10_arrive_156 : decode cX10_arrive 156 = .ok (.goto 34, 3) := by decide +kernel
theorem dX10_arrive_159 : decode cX10_arrive 159 = .ok (.aload_n 0, 1) := by decide +kernel
theorem dX10_arrive_160 : decode cX10_arrive 160 = .ok (.sipush 4850, 3) := by decide +kernel
theorem dX10_arrive_163 : decode cX10_arrive 163 = .ok (.sipush 4848, 3) := by decide +kernel
theorem dX10_arrive_166 : decode cX10_arrive 166 = .ok (.sipush 4904, 3) := by decide +kernel
theorem dX10_arrive_169 : decode cX10_arrive 169 = .ok (.iload 6, 2) := by decide +kernel
theorem dX10_arrive_171 : decode cX10_arrive 171 = .ok (.iadd, 1) := by decide +kernel
theorem dX10_arrive_172 : decode cX10_arrive 172 = .ok (.invokevirtual 176, 3) := by decide +kernel
theorem dX10_arrive_175 : decode cX10_arrive 175 = .ok (.aload_n 0, 1) := by decide +kernel
theorem dX10_arrive_176 : decode cX10_arrive 176 = .ok (.bipush 24, 2) := by decide +kernel
theorem dX10_arrive_178 : decode cX10_arrive 178 = .ok (.iload 4, 2) := by decide +kernel
theorem dX10_arrive_180 : decode cX10_arrive 180 = .ok (.imul, 1) := by decide +kernel
theorem dX10_arrive_181 : decode cX10_arrive 181 = .ok (.iload 6, 2) := by decide +kernel
theorem dX10_arrive_183 : decode cX10_arrive 183 = .ok (.iadd, 1) := by decide +kernel
theorem dX10_arrive_184 : decode cX10_arrive 184 = .ok (.sipush 4850, 3) := by decide +kernel
theorem dX10_arrive_187 : decode cX10_arrive 187 = .ok (.invokevirtual 169, 3) := by decide +kernel
theorem dX10_arrive_190 : decode cX10_arrive 190 = .ok (.iload 5, 2) := by decide +kernel
theorem dX10_arrive_192 : decode cX10_arrive 192 = .ok (.ifCond .ne 21, 3) := by decide +kernel
theorem dX10_arrive_195 : decode cX10_arrive 195 = .ok (.aload_n 0, 1) := by decide +kernel
theorem dX10_arrive_196 : decode cX10_arrive 196 = .ok (.sipush 4848, 3) := by decide +kernel
theorem dX10_arrive_199 : decode cX10_arrive 199 = .ok (.bipush 24, 2) := by decide +kernel
theorem dX10_arrive_201 : decode cX10_arrive 201 = .ok (.iload 4, 2) := by decide +kernel
theorem dX10_arrive_203 : decode cX10_arrive 203 = .ok (.imul, 1) := by decide +kernel
theorem dX10_arrive_204 : decode cX10_arrive 204 = .ok (.iload 6, 2) := by decide +kernel
theorem dX10_arrive_206 : decode cX10_arrive 206 = .ok (.iadd, 1) := by decide +kernel
theorem dX10_arrive_207 : decode cX10_arrive 207 = .ok (.invokevirtual 290, 3) := by decide +kernel
theorem dX10_arrive_210 : decode cX10_arrive 210 = .ok (.ifCond .ne 7, 3) := by decide +kernel
theorem dX10_arrive_213 : decode cX10_arrive 213 = .ok (.iconst 1, 1) := by decide +kernel
theorem dX10_arrive_214 : decode cX10_arrive 214 = .ok (.goto 4, 3) := by decide +kernel
theorem dX10_arrive_217 : decode cX10_arrive 217 = .ok (.iconst 0, 1) := by decide +kernel
theorem dX10_arrive_218 : decode cX10_arrive 218 = .ok (.istore 5, 2) := by decide +kernel
theorem dX10_arrive_220 : decode cX10_arrive 220 = .ok (.iinc 6 1, 3) := by decide +kernel
theorem dX10_arrive_223 : decode cX10_arrive 223 = .ok (.goto (-127), 3) := by decide +kernel
theorem dX10_arrive_226 : decode cX10_arrive 226 = .ok (.aload_n 0, 1) := by decide +kernel
theorem dX10_arrive_227 : decode cX10_arrive 227 = .ok (.iload 4, 2) := by decide +kernel
theorem dX10_arrive_229 : decode cX10_arrive 229 = .ok (.sipush 201, 3) := by decide +kernel
theorem dX10_arrive_232 : decode cX10_arrive 232 = .ok (.invokevirtual 294, 3) := by decide +kernel
theorem dX10_arrive_235 : decode cX10_arrive 235 = .ok (.ifCond .ne 33, 3) := by decide +kernel
theorem dX10_arrive_238 : decode cX10_arrive 238 = .ok (.iload 5, 2) := by decide +kernel
theorem dX10_arrive_240 : decode cX10_arrive 240 = .ok (.ifCond .ne 13, 3) := by decide +kernel
theorem dX10_arrive_243 : decode cX10_arrive 243 = .ok (.aload_n 0, 1) := by decide +kernel
theorem dX10_arrive_244 : decode cX10_arrive 244 = .ok (.getfield 33, 3) := by decide +kernel
theorem dX10_arrive_247 : decode cX10_arrive 247 = .ok (.iload 4, 2) := by decide +kernel
theorem dX10_arrive_249 : decode cX10_arrive 249 = .ok (.iaload, 1) := by decide +kernel
theorem dX10_arrive_250 : decode cX10_arrive 250 = .ok (.ifCond .eq 7, 3) := by decide +kernel
theorem dX10_arrive_253 : decode cX10_arrive 253 = .ok (.iconst 1, 1) := by decide +kernel
theorem dX10_arrive_254 : decode cX10_arrive 254 = .ok (.goto 4, 3) := by decide +kernel
theorem dX10_arrive_257 : decode cX10_arrive 257 = .ok (.iconst 0, 1) := by decide +kernel
theorem dX10_arrive_258 : decode cX10_arrive 258 = .ok (.istore 5, 2) := by decide +kernel
theorem dX10_arrive_260 : decode cX10_arrive 260 = .ok (.aload_n 0, 1) := by decide +kernel
theorem dX10_arrive_261 : decode cX10_arrive 261 = .ok (.getfield 33, 3) := by decide +kernel
theorem dX10_arrive_264 : decode cX10_arrive 264 = .ok (.iload 4, 2) := by decide +kernel
theorem dX10_arrive_266 : decode cX10_arrive 266 = .ok (.iconst 0, 1) := by decide +kernel
theorem dX10_arrive_267 : decode cX10_arrive 267 = .ok (.iastore, 1) := by decide +kernel
theorem dX10_arrive_268 : decode cX10_arrive 268 = .ok (.iload 5, 2) := by decide +kernel
theorem dX10_arrive_270 : decode cX10_arrive 270 = .ok (.ifCond .eq 22, 3) := by decide +kernel
theorem dX10_arrive_273 : decode cX10_arrive 273 = .ok (.aload_n 0, 1) := by decide +kernel
theorem dX10_arrive_274 : decode cX10_arrive 274 = .ok (.getfield 26, 3) := by decide +kernel
theorem dX10_arrive_277 : decode cX10_arrive 277 = .ok (.iload 4, 2) := by decide +kernel
theorem dX10_arrive_279 : decode cX10_arrive 279 = .ok (.dup2, 1) := by decide +kernel
theorem dX10_arrive_280 : decode cX10_arrive 280 = .ok (.iaload, 1) := by decide +kernel
theorem dX10_arrive_281 : decode cX10_arrive 281 = .ok (.iconst 1, 1) := by decide +kernel
theorem dX10_arrive_282 : decode cX10_arrive 282 = .ok (.iadd, 1) := by decide +kernel
theorem dX10_arrive_283 : decode cX10_arrive 283 = .ok (.iastore, 1) := by decide +kernel
theorem dX10_arrive_284 : decode cX10_arrive 284 = .ok (.aload_n 0, 1) := by decide +kernel
theorem dX10_arrive_285 : decode cX10_arrive 285 = .ok (.getfield 29, 3) := by decide +kernel
theorem dX10_arrive_288 : decode cX10_arrive 288 = .ok (.iload 4, 2) := by decide +kernel
theorem dX10_arrive_290 : decode cX10_arrive 290 = .ok (.iconst 1, 1) := by decide +kernel
theorem dX10_arrive_291 : decode cX10_arrive 291 = .ok (.bastore, 1) := by decide +kernel
theorem dX10_arrive_292 : decode cX10_arrive 292 = .ok (.return_, 1) := by decide +kernel
theorem dX10_goThrough_0 : decode cX10_goThrough 0 = .ok (.aload_n 0, 1) := by decide +kernel
theorem dX10_goThrough_1 : decode cX10_goThrough 1 = .ok (.getfield 29, 3) := by decide +kernel
theorem dX10_goThrough_4 : decode cX10_goThrough 4 = .ok (.iload_n 1, 1) := by decide +kernel
theorem dX10_goThrough_5 : decode cX10_goThrough 5 = .ok (.iconst 0, 1) := by decide +kernel
theorem dX10_goThrough_6 : decode cX10_goThrough 6 = .ok (.bastore, 1) := by decide +kernel
theorem dX10_goThrough_7 : decode cX10_goThrough 7 = .ok (.iconst 0, 1) := by decide +kernel
theorem dX10_goThrough_8 : decode cX10_goThrough 8 = .ok (.istore_n 2, 1) := by decide +kernel
theorem dX10_goThrough_9 : decode cX10_goThrough 9 = .ok (.iload_n 2, 1) := by decide +kernel
theorem dX10_goThrough_10 : decode cX10_goThrough 10 = .ok (.bipush 24, 2) := by decide +kernel
theorem dX10_goThrough_12 : decode cX10_goThrough 12 = .ok (.if_icmp .ge 24, 3) := by decide +kernel
theorem dX10_goThrough_15 : decode cX10_goThrough 15 = .ok (.aload_n 0, 1) := by decide +kernel
theorem dX10_goThrough_16 : decode cX10_goThrough 16 = .ok (.sipush 4856, 3) := by decide +kernel
theorem dX10_goThrough_19 : decode cX10_goThrough 19 = .ok (.iload_n 2, 1) := by decide +kernel
theorem dX10_goThrough_20 : decode cX10_goThrough 20 = .ok (.iadd, 1) := by decide +kernel
theorem dX10_goThrough_21 : decode cX10_goThrough 21 = .ok (.bipush 24, 2) := by decide +kernel
theorem dX10_goThrough_23 : decode cX10_goThrough 23 = .ok (.iload_n 1, 1) := by decide +kernel
theorem dX10_goThrough_24 : decode cX10_goThrough 24 = .ok (.imul, 1) := by decide +kernel
theorem dX10_goThrough_25 : decode cX10_goThrough 25 = .ok (.iload_n 2, 1) := by decide +kernel
theorem dX10_goThrough_26 : decode cX10_goThrough 26 = .ok (.iadd, 1) := by decide +kernel
theorem dX10_goThrough_27 : decode cX10_goThrough 27 = .ok (.invokevirtual 169, 3) := by decide +kernel
theorem dX10_goThrough_30 : decode cX10_goThrough 30 = .ok (.iinc 2 1, 3) := by decide +kernel
theorem dX10_goThrough_33 : decode cX10_goThrough 33 = .ok (.goto (-24), 3) := by decide +kernel
theorem dX10_goThrough_36 : decode cX10_goThrough 36 = .ok (.aload_n 0, 1) := by decide +kernel
theorem dX10_goThrough_37 : decode cX10_goThrough 37 = .ok (.sipush 201, 3) := by decide +kernel
theorem dX10_goThrough_40 : decode cX10_goThrough 40 = .ok (.iload_n 1, 1) := by decide +kernel
theorem dX10_goThrough_41 : decode cX10_goThrough 41 = .ok (.invokevirtual 284, 3) := by decide +kernel
theorem dX10_goThrough_44 : decode cX10_goThrough 44 = .ok (.aload_n 0, 1) := by decide +kernel
theorem dX10_goThrough_45 : decode cX10_goThrough 45 = .ok (.iload_n 1, 1) := by decide +kernel
theorem dX10_goThrough_46 : decode cX10_goThrough 46 = .ok (.invokevirtual 155, 3) := by decide +kernel
theorem dX10_goThrough_49 : decode cX10_goThrough 49 = .ok (.ifCond .eq 12, 3) := by decide +kernel
theorem dX10_goThrough_52 : decode cX10_goThrough 52 = .ok (.aload_n 0, 1) := by decide +kernel
theorem dX10_goThrough_53 : decode cX10_goThrough 53 = .ok (.getfield 107, 3) := by decide +kernel
theorem dX10_goThrough_56 : decode cX10_goThrough 56 = .ok (.bipush 22, 2) := by decide +kernel
theorem dX10_goThrough_58 : decode cX10_goThrough 58 = .ok (.if_icmp .ne 4, 3) := by decide +kernel
theorem dX10_goThrough_61 : decode cX10_goThrough 61 = .ok (.return_, 1) := by decide +kernel
theorem dX10_goThrough_62 : decode cX10_goThrough 62 = .ok (.iload_n 1, 1) := by decide +kernel
theorem dX10_goThrough_63 : decode cX10_goThrough 63 = .ok (.aload_n 0, 1) := by decide +kernel
theorem dX10_goThrough_64 : decode cX10_goThrough 64 = .ok (.getfield 134, 3) := by decide +kernel
theorem dX10_goThrough_67 : decode cX10_goThrough 67 = .ok (.iadd, 1) := by decide +kernel
theorem dX10_goThrough_68 : decode cX10_goThrough 68 = .ok (.istore_n 2, 1) := by decide +kernel
theorem dX10_goThrough_69 : decode cX10_goThrough 69 = .ok (.aload_n 0, 1) := by decide +kernel
theorem dX10_goThrough_70 : decode cX10_goThrough 70 = .ok (.getfield 107, 3) := by decide +kernel
theorem dX10_goThrough_73 : decode cX10_goThrough 73 = .ok (.bipush 19, 2) := by decide +kernel
theorem dX10_goThrough_75 : decode cX10_goThrough 75 = .ok (.if_icmp .ge 8, 3) := by decide +kernel
theorem dX10_goThrough_78 : decode cX10_goThrough 78 = .ok (.aload_n 0, 1) := by decide +kernel
theorem dX10_goThrough_79 : decode cX10_goThrough 79 = .ok (.iload_n 1, 1) := by decide +kernel
theorem dX10_goThrough_80 : decode cX10_goThrough 80 = .ok (.invokevirtual 297, 3) := by decide +kernel
theorem dX10_goThrough_83 : decode cX10_goThrough 83 = .ok (.aload_n 0, 1) := by decide +kernel
theorem dX10_goThrough_84 : decode cX10_goThrough 84 = .ok (.getfield 116, 3) := by decide +kernel
theorem dX10_goThrough_87 : decode cX10_goThrough 87 = .ok (.lstore_n 3, 1) := by decide +kernel
theorem dX10_goThrough_88 : decode cX10_goThrough 88 = .ok (.aload_n 0, 1) := by decide +kernel
theorem dX10_goThrough_89 : decode cX10_goThrough 89 = .ok (.getfield 107, 3) := by decide +kernel
theorem dX10_goThrough_92 : decode cX10_goThrough 92 = .ok (.bipush 20, 2) := by decide +kernel
theorem dX10_goThrough_94 : decode cX10_goThrough 94 = .ok (.if_icmp .ne 19, 3) := by decide +kernel
theorem dX10_goThrough_97 : decode cX10_goThrough 97 = .ok (.aload_n 0, 1) := by decide +kernel
theorem dX10_goThrough_98 : decode cX10_goThrough 98 = .ok (.iconst (-1), 1) := by decide +kernel
theorem dX10_goThrough_99 : decode cX10_goThrough 99 = .ok (.invokevirtual 300, 3) := by decide +kernel
theorem dX10_goThrough_102 : decode cX10_goThrough 102 = .ok (.istore 5, 2) := by decide +kernel
theorem dX10_goThrough_104 : decode cX10_goThrough 104 = .ok (.aload_n 0, 1) := by decide +kernel
theorem dX10_goThrough_105 : decode cX10_goThrough 105 = .ok (.lload_n 3, 1) := by decide +kernel
theorem dX10_goThrough_106 : decode cX10_goThrough 106 = .ok (.iload_n 1, 1) := by decide +kernel
theorem dX10_goThrough_107 : decode cX10_goThrough 107 = .ok (.invokevirtual 303, 3) := by decide +kernel
theorem dX10_goThrough_110 : decode cX10_goThrough 110 = .ok (.goto 69, 3) := by decide +kernel
theorem dX10_goThrough_113 : decode cX10_goThrough 113 = .ok (.aload_n 0, 1) := by decide +kernel
theorem dX10_goThrough_114 : decode cX10_goThrough 114 = .ok (.getfield 107, 3) := by decide +kernel
theorem dX10_goThrough_117 : decode cX10_goThrough 117 = .ok (.bipush 19, 2) := by decide +kernel
theorem dX10_goThrough_119 : decode cX10_goThrough 119 = .ok (.if_icmp .ne 45, 3) := by decide +kernel
theorem dX10_goThrough_122 : decode cX10_goThrough 122 = .ok (.aload_n 0, 1) := by decide +kernel
theorem dX10_goThrough_123 : decode cX10_goThrough 123 = .ok (.getfield 120, 3) := by decide +kernel
theorem dX10_goThrough_126 : decode cX10_goThrough 126 = .ok (.istore 5, 2) := by decide +kernel
theorem dX10_goThrough_128 : decode cX10_goThrough 128 = .ok (.aload_n 0, 1) := by decide +kernel
theorem dX10_goThrough_129 : decode cX10_goThrough 129 = .ok (.iload 5, 2) := by decide +kernel
theorem dX10_goThrough_131 : decode cX10_goThrough 131 = .ok (.iconst 1, 1) := by decide +kernel
theorem dX10_goThrough_132 : decode cX10_goThrough 132 = .ok (.ixor, 1) := by decide +kernel
theorem dX10_goThrough_133 : decode cX10_goThrough 133 = .ok (.invokevirtual 300, 3) := by decide +kernel
theorem dX10_goThrough_136 : decode cX10_goThrough 136 = .ok (.ifCond .eq 10, 3) := by decide +kernel
theorem dX10_goThrough_139 : decode cX10_goThrough 139 = .ok (.aload_n 0, 1) := by decide +kernel
theorem dX10_goThrough_140 : decode cX10_goThrough 140 = .ok (.iload_n 2, 1) := by decide +kernel
theorem dX10_goThrough_141 : decode cX10_goThrough 141 = .ok (.i2l, 1) := by decide +kernel
theorem dX10_goThrough_142 : decode cX10_goThrough 142 = .ok (.iload_n 1, 1) := by decide +kernel
theorem dX10_goThrough_143 : decode cX10_goThrough 143 = .ok (.invokevirtual 303, 3) := by decide +kernel
theorem dX10_goThrough_146 : decode cX10_goThrough 146 = .ok (.aload_n 0, 1) := by decide +kernel
theorem dX10_goThrough_147 : decode cX10_goThrough 147 = .ok (.iload 5, 2) := by decide +kernel
theorem dX10_goThrough_149 : decode cX10_goThrough 149 = .ok (.invokevirtual 300, 3) := by decide +kernel
theorem dX10_goThrough_152 : decode cX10_goThrough 152 = .ok (.ifCond .eq 9, 3) := by decide +kernel
theorem dX10_goThrough_155 : decode cX10_goThrough 155 = .ok (.aload_n 0, 1) := by decide +kernel
theorem dX10_goThrough_156 : decode cX10_goThrough 156 = .ok (.lload_n 3, 1) := by decide +kernel
theorem dX10_goThrough_157 : decode cX10_goThrough 157 = .ok (.iload_n 1, 1) := by decide +kernel
theorem dX10_goThrough_158 : decode cX10_goThrough 158 = .ok (.invokevirtual 303, 3) := by decide +kernel
theorem dX10_goThrough_161 : decode cX10_goThrough 161 = .ok (.goto 18, 3) := by decide +kernel
theorem dX10_goThrough_164 : decode cX10_goThrough 164 = .ok (.aload_n 0, 1) := by decide +kernel
theorem dX10_goThrough_165 : decode cX10_goThrough 165 = .ok (.iconst (-1), 1) := by decide +kernel
theorem dX10_goThrough_166 : decode cX10_goThrough 166 = .ok (.invokevirtual 300, 3) := by decide +kernel
theorem dX10_goThrough_169 : decode cX10_goThrough 169 = .ok (.ifCond .eq 10, 3) := by decide +kernel
theorem dX10_goThrough_172 : decode cX10_goThrough 172 = .ok (.aload_n 0, 1) := by decide +kernel
theorem dX10_goThrough_173 : decode cX10_goThrough 173 = .ok (.iload_n 2, 1) := by decide +kernel
theorem dX10_goThrough_174 : decode cX10_goThrough 174 = .ok (.i2l, 1) := by decide +kernel
theorem dX10_goThrough_175 : decode cX10_goThrough 175 = .ok (.iload_n 1, 1) := by decide +kernel
theorem dX10_goThrough_176 : decode cX10_goThrough 176 = .ok (.invokevirtual 303, 3) := by decide +kernel
theorem dX10_goThrough_179 : decode cX10_goThrough 179 = .ok (.return_, 1) := by decide +kernel
theorem dX10_look_0 : decode cX10_look 0 = .ok (.aload_n 0, 1) := by decide +kernel
theorem dX10_look_1 : decode cX10_look 1 = .ok (.iconst 0, 1) := by decide +kernel
theorem dX10_look_2 : decode cX10_look 2 = .ok (.putfield 55, 3) := by decide +kernel
theorem dX10_look_5 : decode cX10_look 5 = .ok (.iconst 0, 1) := by decide +kernel
theorem dX10_look_6 : decode cX10_look 6 = .ok (.istore_n 1, 1) := by decide +kernel
theorem dX10_look_7 : decode cX10_look 7 = .ok (.iload_n 1, 1) := by decide +kernel
theorem dX10_look_8 : decode cX10_look 8 = .ok (.sipush 200, 3) := by decide +kernel
theorem dX10_look_11 : decode cX10_look 11 = .ok (.if_icmp .gt 23, 3) := by decide +kernel
theorem dX10_look_14 : decode cX10_look 14 = .ok (.aload_n 0, 1) := by decide +kernel
theorem dX10_look_15 : decode cX10_look 15 = .ok (.getfield 26, 3) := by decide +kernel
theorem dX10_look_18 : decode cX10_look 18 = .ok (.iload_n 1, 1) := by decide +kernel
theorem dX10_look_19 : decode cX10_look 19 = .ok (.iconst 0, 1) := by decide +kernel
theorem dX10_look_20 : decode cX10_look 20 = .ok (.iastore, 1) := by decide +kernel
theorem dX10_look_21 : decode cX10_look 21 = .ok (.aload_n 0, 1) := by decide +kernel
theorem dX10_look_22 : decode cX10_look 22 = .ok (.getfield 29, 3) := by decide +kernel
theorem dX10_look_25 : decode cX10_look 25 = .ok (.iload_n 1, 1) := by decide +kernel
theorem dX10_look_26 : decode cX10_look 26 = .ok (.iconst 0, 1) := by decide +kernel
theorem dX10_look_27 : decode cX10_look 27 = .ok (.bastore, 1) := by decide +kernel
theorem dX10_look_28 : decode cX10_look 28 = .ok (.iinc 1 1, 3) := by decide +kernel
theorem dX10_look_31 : decode cX10_look 31 = .ok (.goto (-24), 3) := by decide +kernel
theorem dX10_look_34 : decode cX10_look 34 = .ok (.aload_n 0, 1) := by decide +kernel
theorem dX10_look_35 : decode cX10_look 35 = .ok (.iconst 1, 1) := by decide +kernel
theorem dX10_look_36 : decode cX10_look 36 = .ok (.putfield 58, 3) := by decide +kernel
theorem dX10_look_39 : decode cX10_look 39 = .ok (.aload_n 0, 1) := by decide +kernel
theorem dX10_look_40 : decode cX10_look 40 = .ok (.getfield 71, 3) := by decide +kernel
theorem dX10_look_43 : decode cX10_look 43 = .ok (.ifCond .ne 5, 3) := by decide +kernel
theorem dX10_look_46 : decode cX10_look 46 = .ok (.iconst 0, 1) := by decide +kernel
theorem dX10_look_47 : decode cX10_look 47 = .ok (.ireturn, 1) := by decide +kernel
theorem dX10_look_48 : decode cX10_look 48 = .ok (.aload_n 0, 1) := by decide +kernel
theorem dX10_look_49 : decode cX10_look 49 = .ok (.getfield 26, 3) := by decide +kernel
theorem dX10_look_52 : decode cX10_look 52 = .ok (.iconst 0, 1) := by decide +kernel
theorem dX10_look_53 : decode cX10_look 53 = .ok (.iconst 1, 1) := by decide +kernel
theorem dX10_look_54 : decode cX10_look 54 = .ok (.iastore, 1) := by decide +kernel
theorem dX10_look_55 : decode cX10_look 55 = .ok (.aload_n 0, 1) := by decide +kernel
theorem dX10_look_56 : decode cX10_look 56 = .ok (.getfield 29, 3) := by decide +kernel
theorem dX10_look_59 : decode cX10_look 59 = .ok (.iconst 0, 1) := by decide +kernel
theorem dX10_look_60 : decode cX10_look 60 = .ok (.iconst 1, 1) := by decide +kernel
theorem dX10_look_61 : decode cX10_look 61 = .ok (.bastore, 1) := by decide +kernel
theorem dX10_look_62 : decode cX10_look 62 = .ok (.aload_n 0, 1) := by decide +kernel
theorem dX10_look_63 : decode cX10_look 63 = .ok (.getfield 33, 3) := by decide +kernel
theorem dX10_look_66 : decode cX10_look 66 = .ok (.iconst 0, 1) := by decide +kernel
theorem dX10_look_67 : decode cX10_look 67 = .ok (.iconst 0, 1) := by decide +kernel
theorem dX10_look_68 : decode cX10_look 68 = .ok (.iastore, 1) := by decide +kernel
theorem dX10_look_69 : decode cX10_look 69 = .ok (.iconst 0, 1) := by decide +kernel
theorem dX10_look_70 : decode cX10_look 70 = .ok (.istore_n 1, 1) := by decide +kernel
theorem dX10_look_71 : decode cX10_look 71 = .ok (.iload_n 1, 1) := by decide +kernel
theorem dX10_look_72 : decode cX10_look 72 = .ok (.bipush 24, 2) := by decide +kernel
theorem dX10_look_74 : decode cX10_look 74 = .ok (.if_icmp .ge 19, 3) := by decide +kernel
theorem dX10_look_77 : decode cX10_look 77 = .ok (.aload_n 0, 1) := by decide +kernel
theorem dX10_look_78 : decode cX10_look 78 = .ok (.iload_n 1, 1) := by decide +kernel
theorem dX10_look_79 : decode cX10_look 79 = .ok (.sipush 4880, 3) := by decide +kernel
theorem dX10_look_82 : decode cX10_look 82 = .ok (.iload_n 1, 1) := by decide +kernel
theorem dX10_look_83 : decode cX10_look 83 = .ok (.iadd, 1) := by decide +kernel
theorem dX10_look_84 : decode cX10_look 84 = .ok (.invokevirtual 169, 3) := by decide +kernel
theorem dX10_look_87 : decode cX10_look 87 = .ok (.iinc 1 1, 3) := by decide +kernel
theorem dX10_look_90 : decode cX10_look 90 = .ok (.goto (-19), 3) := by decide +kernel
theorem dX10_look_93 : decode cX10_look 93 = .ok (.iconst 0, 1) := by decide +kernel
theorem dX10_look_94 : decode cX10_look 94 = .ok (.istore_n 1, 1) := by decide +kernel
theorem dX10_look_95 : decode cX10_look 95 = .ok (.iconst 1, 1) := by decide +kernel
theorem dX10_look_96 : decode cX10_look 96 = .ok (.istore_n 2, 1) := by decide +kernel
theorem dX10_look_97 : decode cX10_look 97 = .ok (.iload_n 2, 1) := by decide +kernel
theorem dX10_look_98 : decode cX10_look 98 = .ok (.ifCond .eq 82, 3) := by decide +kernel
theorem dX10_look_101 : decode cX10_look 101 = .ok (.iload_n 1, 1) := by decide +kernel
theorem dX10_look_102 : decode cX10_look 102 = .ok (.bipush 60, 2) := by decide +kernel
theorem dX10_look_104 : decode cX10_look 104 = .ok (.if_icmp .ge 76, 3) := by decide +kernel
theorem dX10_look_107 : decode cX10_look 107 = .ok (.iinc 1 1, 3) := by decide +kernel
theorem dX10_look_110 : decode cX10_look 110 = .ok (.iconst 0, 1) := by decide +kernel
theorem dX10_look_111 : decode cX10_look 111 = .ok (.istore_n 3, 1) := by decide +kernel
theorem dX10_look_112 : decode cX10_look 112 = .ok (.iload_n 3, 1) := by decide +kernel
theorem dX10_look_113 : decode cX10_look 113 = .ok (.aload_n 0, 1) := by decide +kernel
theorem dX10_look_114 : decode cX10_look 114 = .ok (.getfield 71, 3) := by decide +kernel
theorem dX10_look_117 : decode cX10_look 117 = .ok (.if_icmp .ge 23, 3) := by decide +kernel
theorem dX10_look_120 : decode cX10_look 120 = .ok (.aload_n 0, 1) := by decide +kernel
theorem dX10_look_121 : decode cX10_look 121 = .ok (.getfield 29, 3) := by decide +kernel
theorem dX10_look_124 : decode cX10_look 124 = .ok (.iload_n 3, 1) := by decide +kernel
theorem dX10_look_125 : decode cX10_look 125 = .ok (.baload, 1) := by decide +kernel
theorem dX10_look_126 : decode cX10_look 126 = .ok (.ifCond .eq 8, 3) := by decide +kernel
theorem dX10_look_129 : decode cX10_look 129 = .ok (.aload_n 0, 1) := by decide +kernel
theorem dX10_look_130 : decode cX10_look 130 = .ok (.iload_n 3, 1) := by decide +kernel
theorem dX10_look_131 : decode cX10_look 131 = .ok (.invokevirtual 307, 3) := by decide +kernel
theorem dX10_look_134 : decode cX10_look 134 = .ok (.iinc 3 1, 3) := by decide +kernel
theorem dX10_look_137 : decode cX10_look 137 = .ok (.goto (-25), 3) := by decide +kernel
theorem dX10_look_140 : decode cX10_look 140 = .ok (.iconst 0, 1) := by decide +kernel
theorem dX10_look_141 : decode cX10_look 141 = .ok (.istore_n 2, 1) := by decide +kernel
theorem dX10_look_142 : decode cX10_look 142 = .ok (.iconst 0, 1) := by decide +kernel
theorem dX10_look_143 : decode cX10_look 143 = .ok (.istore_n 3, 1) := by decide +kernel
theorem dX10_look_144 : decode cX10_look 144 = .ok (.iload_n 3, 1) := by decide +kernel
theorem dX10_look_145 : decode cX10_look 145 = .ok (.aload_n 0, 1) := by decide +kernel
theorem dX10_look_146 : decode cX10_look 146 = .ok (.getfield 71, 3) := by decide +kernel
theorem dX10_look_149 : decode cX10_look 149 = .ok (.if_icmp .ge 28, 3) := by decide +kernel
theorem dX10_look_152 : decode cX10_look 152 = .ok (.iload_n 2, 1) := by decide +kernel
theorem dX10_look_153 : decode cX10_look 153 = .ok (.ifCond .ne 12, 3) := by decide +kernel
theorem dX10_look_156 : decode cX10_look 156 = .ok (.aload_n 0, 1) := by decide +kernel
theorem dX10_look_157 : decode cX10_look 157 = .ok (.getfield 29, 3) := by decide +kernel
theorem dX10_look_160 : decode cX10_look 160 = .ok (.iload_n 3, 1) := by decide +kernel
theorem dX10_look_161 : decode cX10_look 161 = .ok (.baload, 1) := by decide +kernel
theorem dX10_look_162 : decode cX10_look 162 = .ok (.ifCond .eq 7, 3) := by decide +kernel
theorem dX10_look_165 : decode cX10_look 165 = .ok (.iconst 1, 1) := by decide +kernel
theorem dX10_look_166 : decode cX10_look 166 = .ok (.goto 4, 3) := by decide +kernel
theorem dX10_look_169 : decode cX10_look 169 = .ok (.iconst 0, 1) := by decide +kernel
theorem dX10_look_170 : decode cX10_look 170 = .ok (.istore_n 2, 1) := by decide +kernel
theorem dX10_look_171 : decode cX10_look 171 = .ok (.iinc 3 1, 3) := by decide +kernel
theorem dX10_look_174 : decode cX10_look 174 = .ok (.goto (-30), 3) := by decide +kernel
theorem dX10_look_177 : decode cX10_look 177 = .ok (.goto (-80), 3) := by decide +kernel
theorem dX10_look_180 : decode cX10_look 180 = .ok (.iload_n 2, 1) := by decide +kernel
theorem dX10_look_181 : decode cX10_look 181 = .ok (.ifCond .eq 32, 3) := by decide +kernel
theorem dX10_look_184 : decode cX10_look 184 = .ok (.aload_n 0, 1) := by decide +kernel
theorem dX10_look_185 : decode cX10_look 185 = .ok (.iconst 0, 1) := by decide +kernel
theorem dX10_look_186 : decode cX10_look 186 = .ok (.putfield 58, 3) := by decide +kernel
theorem dX10_look_189 : decode cX10_look 189 = .ok (.iconst 0, 1) := by decide +kernel
theorem dX10_look_190 : decode cX10_look 190 = .ok (.istore_n 3, 1) := by decide +kernel
theorem dX10_look_191 : decode cX10_look 191 = .ok (.iload_n 3, 1) := by decide +kernel
theorem dX10_look_192 : decode cX10_look 192 = .ok (.sipush 200, 3) := by decide +kernel
theorem dX10_look_195 : decode cX10_look 195 = .ok (.if_icmp .gt 16, 3) := by decide +kernel
theorem dX10_look_198 : decode cX10_look 198 = .ok (.aload_n 0, 1) := by decide +kernel
theorem dX10_look_199 : decode cX10_look 199 = .ok (.getfield 26, 3) := by decide +kernel
theorem dX10_look_202 : decode cX10_look 202 = .ok (.iload_n 3, 1) := by decide +kernel
theorem dX10_look_203 : decode cX10_look 203 = .ok (.iconst 0, 1) := by decide +kernel
theorem dX10_look_204 : decode cX10_look 204 = .ok (.iastore, 1) := by decide +kernel
theorem dX10_look_205 : decode cX10_look 205 = .ok (.iinc 3 1, 3) := by decide +kernel
theorem dX10_look_208 : decode cX10_look 208 = .ok (.goto (-17), 3) := by decide +kernel
theorem dX10_look_211 : decode cX10_look 211 = .ok (.iconst (-1), 1) := by decide +kernel
theorem dX10_look_212 : decode cX10_look 212 = .ok (.ireturn, 1) := by decide +kernel
theorem dX10_look_213 : decode cX10_look 213 = .ok (.iload_n 1, 1) := by decide +kernel
theorem dX10_look_214 : decode cX10_look 214 = .ok (.ireturn, 1) := by decide +kernel
theorem dX10_isPlace_0 : decode cX10_isPlace 0 = .ok (.iload_n 0, 1) := by decide +kernel
theorem dX10_isPlace_1 : decode cX10_isPlace 1 = .ok (.ifCond .lt 13, 3) := by decide +kernel
theorem dX10_isPlace_4 : decode cX10_isPlace 4 = .ok (.iload_n 0, 1) := by decide +kernel
theorem dX10_isPlace_5 : decode cX10_isPlace 5 = .ok (.bipush 24, 2) := by decide +kernel
theorem dX10_isPlace_7 : decode cX10_isPlace 7 = .ok (.if_icmp .ge 7, 3) := by decide +kernel
theorem dX10_isPlace_10 : decode cX10_isPlace 10 = .ok (.iconst 1, 1) := by decide +kernel
theorem dX10_isPlace_11 : decode cX10_isPlace 11 = .ok (.goto 4, 3) := by decide +kernel
theorem dX10_isPlace_14 : decode cX10_isPlace 14 = .ok (.iconst 0, 1) := by decide +kernel
theorem dX10_isPlace_15 : decode cX10_isPlace 15 = .ok (.ireturn, 1) := by decide +kernel
theorem dX10_given_0 : decode cX10_given 0 = .ok (.iload_n 1, 1) := by decide +kernel
theorem dX10_given_1 : decode cX10_given 1 = .ok (.invokestatic 310, 3) := by decide +kernel
theorem dX10_given_4 : decode cX10_given 4 = .ok (.ifCond .eq 77, 3) := by decide +kernel
theorem dX10_given_7 : decode cX10_given 7 = .ok (.lload_n 2, 1) := by decide +kernel
theorem dX10_given_8 : decode cX10_given 8 = .ok (.lload 4, 2) := by decide +kernel
theorem dX10_given_10 : decode cX10_given 10 = .ok (.lcmp, 1) := by decide +kernel
theorem dX10_given_11 : decode cX10_given 11 = .ok (.ifCond .gt 70, 3) := by decide +kernel
theorem dX10_given_14 : decode cX10_given 14 = .ok (.lload_n 2, 1) := by decide +kernel
theorem dX10_given_15 : decode cX10_given 15 = .ok (.ldc2_w 158, 3) := by decide +kernel
theorem dX10_given_18 : decode cX10_given 18 = .ok (.ldc2_w 160, 3) := by decide +kernel
theorem dX10_given_21 : decode cX10_given 21 = .ok (.invokestatic 67, 3) := by decide +kernel
theorem dX10_given_24 : decode cX10_given 24 = .ok (.ifCond .eq 57, 3) := by decide +kernel
theorem dX10_given_27 : decode cX10_given 27 = .ok (.lload 4, 2) := by decide +kernel
theorem dX10_given_29 : decode cX10_given 29 = .ok (.ldc2_w 158, 3) := by decide +kernel
theorem dX10_given_32 : decode cX10_given 32 = .ok (.ldc2_w 160, 3) := by decide +kernel
theorem dX10_given_35 : decode cX10_given 35 = .ok (.invokestatic 67, 3) := by decide +kernel
theorem dX10_given_38 : decode cX10_given 38 = .ok (.ifCond .eq 43, 3) := by decide +kernel
theorem dX10_given_41 : decode cX10_given 41 = .ok (.lload_n 2, 1) := by decide +kernel
theorem dX10_given_42 : decode cX10_given 42 = .ok (.lload 4, 2) := by decide +kernel
theorem dX10_given_44 : decode cX10_given 44 = .ok (.lcmp, 1) := by decide +kernel
theorem dX10_given_45 : decode cX10_given 45 = .ok (.ifCond .ne 13, 3) := by decide +kernel
theorem dX10_given_48 : decode cX10_given 48 = .ok (.lload 6, 2) := by decide +kernel
theorem dX10_given_50 : decode cX10_given 50 = .ok (.lconst 0, 1) := by decide +kernel
theorem dX10_given_51 : decode cX10_given 51 = .ok (.lcmp, 1) := by decide +kernel
theorem dX10_given_52 : decode cX10_given 52 = .ok (.ifCond .ne 29, 3) := by decide +kernel
theorem dX10_given_55 : decode cX10_given 55 = .ok (.goto 22, 3) := by decide +kernel
theorem dX10_given_58 : decode cX10_given 58 = .ok (.lload 6, 2) := by decide +kernel
theorem dX10_given_60 : decode cX10_given 60 = .ok (.lconst 0, 1) := by decide +kernel
theorem dX10_given_61 : decode cX10_given 61 = .ok (.lcmp, 1) := by decide +kernel
theorem dX10_given_62 : decode cX10_given 62 = .ok (.ifCond .le 19, 3) := by decide +kernel
theorem dX10_given_65 : decode cX10_given 65 = .ok (.lload 4, 2) := by decide +kernel
theorem dX10_given_67 : decode cX10_given 67 = .ok (.lload_n 2, 1) := by decide +kernel
theorem dX10_given_68 : decode cX10_given 68 = .ok (.lsub, 1) := by decide +kernel
theorem dX10_given_69 : decode cX10_given 69 = .ok (.lload 6, 2) := by decide +kernel
theorem dX10_given_71 : decode cX10_given 71 = .ok (.lrem, 1) := by decide +kernel
theorem dX10_given_72 : decode cX10_given 72 = .ok (.lconst 0, 1) := by decide +kernel
theorem dX10_given_73 : decode cX10_given 73 = .ok (.lcmp, 1) := by decide +kernel
theorem dX10_given_74 : decode cX10_given 74 = .ok (.ifCond .ne 7, 3) := by decide +kernel
theorem dX10_given_77 : decode cX10_given 77 = .ok (.iconst 1, 1) := by decide +kernel
theorem dX10_given_78 : decode cX10_given 78 = .ok (.goto 4, 3) := by decide +kernel
theorem dX10_given_81 : decode cX10_given 81 = .ok (.iconst 0, 1) := by decide +kernel
theorem dX10_given_82 : decode cX10_given 82 = .ok (.istore 8, 2) := by decide +kernel
theorem dX10_given_84 : decode cX10_given 84 = .ok (.aload_n 0, 1) := by decide +kernel
theorem dX10_given_85 : decode cX10_given 85 = .ok (.iload 8, 2) := by decide +kernel
theorem dX10_given_87 : decode cX10_given 87 = .ok (.ifCond .eq 7, 3) := by decide +kernel
theorem dX10_given_90 : decode cX10_given 90 = .ok (.iconst 0, 1) := by decide +kernel
theorem dX10_given_91 : decode cX10_given 91 = .ok (.goto 4, 3) := by decide +kernel
theorem dX10_given_94 : decode cX10_given 94 = .ok (.iconst 1, 1) := by decide +kernel
theorem dX10_given_95 : decode cX10_given 95 = .ok (.invokevirtual 74, 3) := by decide +kernel
theorem dX10_given_98 : decode cX10_given 98 = .ok (.ifCond .eq 4, 3) := by decide +kernel
theorem dX10_given_101 : decode cX10_given 101 = .ok (.return_, 1) := by decide +kernel
theorem dX10_given_102 : decode cX10_given 102 = .ok (.aload_n 0, 1) := by decide +kernel
theorem dX10_given_103 : decode cX10_given 103 = .ok (.sipush 4880, 3) := by decide +kernel
theorem dX10_given_106 : decode cX10_given 106 = .ok (.iload_n 1, 1) := by decide +kernel
theorem dX10_given_107 : decode cX10_given 107 = .ok (.iadd, 1) := by decide +kernel
theorem dX10_given_108 : decode cX10_given 108 = .ok (.iconst 1, 1) := by decide +kernel
theorem dX10_given_109 : decode cX10_given 109 = .ok (.lload_n 2, 1) := by decide +kernel
theorem dX10_given_110 : decode cX10_given 110 = .ok (.lload 4, 2) := by decide +kernel
theorem dX10_given_112 : decode cX10_given 112 = .ok (.lload 6, 2) := by decide +kernel
theorem dX10_given_114 : decode cX10_given 114 = .ok (.invokevirtual 165, 3) := by decide +kernel
theorem dX10_given_117 : decode cX10_given 117 = .ok (.return_, 1) := by decide +kernel
theorem dX10_any_0 : decode cX10_any 0 = .ok (.aload_n 0, 1) := by decide +kernel
theorem dX10_any_1 : decode cX10_any 1 = .ok (.iload_n 1, 1) := by decide +kernel
theorem dX10_any_2 : decode cX10_any 2 = .ok (.invokestatic 310, 3) := by decide +kernel
theorem dX10_any_5 : decode cX10_any 5 = .ok (.ifCond .eq 7, 3) := by decide +kernel
theorem dX10_any_8 : decode cX10_any 8 = .ok (.iconst 0, 1) := by decide +kernel
theorem dX10_any_9 : decode cX10_any 9 = .ok (.goto 4, 3) := by decide +kernel
theorem dX10_any_12 : decode cX10_any 12 = .ok (.iconst 1, 1) := by decide +kernel
theorem dX10_any_13 : decode cX10_any 13 = .ok (.invokevirtual 74, 3) := by decide +kernel
theorem dX10_any_16 : decode cX10_any 16 = .ok (.ifCond .eq 4, 3) := by decide +kernel
theorem dX10_any_19 : decode cX10_any 19 = .ok (.return_, 1) := by decide +kernel
theorem dX10_any_20 : decode cX10_any 20 = .ok (.aload_n 0, 1) := by decide +kernel
theorem dX10_any_21 : decode cX10_any 21 = .ok (.getfield 13, 3) := by decide +kernel
theorem dX10_any_24 : decode cX10_any 24 = .ok (.sipush 4880, 3) := by decide +kernel
theorem dX10_any_27 : decode cX10_any 27 = .ok (.iload_n 1, 1) := by decide +kernel
theorem dX10_any_28 : decode cX10_any 28 = .ok (.iadd, 1) := by decide +kernel
theorem dX10_any_29 : decode cX10_any 29 = .ok (.iconst 2, 1) := by decide +kernel
theorem dX10_any_30 : decode cX10_any 30 = .ok (.iastore, 1) := by decide +kernel
theorem dX10_any_31 : decode cX10_any 31 = .ok (.return_, 1) := by decide +kernel
theorem dX10_isReached_0 : decode cX10_isReached 0 = .ok (.iload_n 1, 1) := by decide +kernel
theorem dX10_isReached_1 : decode cX10_isReached 1 = .ok (.i2l, 1) := by decide +kernel
theorem dX10_isReached_2 : decode cX10_isReached 2 = .ok (.lconst 0, 1) := by decide +kernel
theorem dX10_isReached_3 : decode cX10_isReached 3 = .ok (.aload_n 0, 1) := by decide +kernel
theorem dX10_isReached_4 : decode cX10_isReached 4 = .ok (.getfield 71, 3) := by decide +kernel
theorem dX10_isReached_7 : decode cX10_isReached 7 = .ok (.iconst 1, 1) := by decide +kernel
theorem dX10_isReached_8 : decode cX10_isReached 8 = .ok (.isub, 1) := by decide +kernel
theorem dX10_isReached_9 : decode cX10_isReached 9 = .ok (.i2l, 1) := by decide +kernel
theorem dX10_isReached_10 : decode cX10_isReached 10 = .ok (.invokestatic 67, 3) := by decide +kernel
theorem dX10_isReached_13 : decode cX10_isReached 13 = .ok (.ifCond .eq 16, 3) := by decide +kernel
theorem dX10_isReached_16 : decode cX10_isReached 16 = .ok (.aload_n 0, 1) := by decide +kernel
theorem dX10_isReached_17 : decode cX10_isReached 17 = .ok (.getfield 26, 3) := by decide +kernel
theorem dX10_isReached_20 : decode cX10_isReached 20 = .ok (.iload_n 1, 1) := by decide +kernel
theorem dX10_isReached_21 : decode cX10_isReached 21 = .ok (.iaload, 1) := by decide +kernel
theorem dX10_isReached_22 : decode cX10_isReached 22 = .ok (.ifCond .le 7, 3) := by decide +kernel
theorem dX10_isReached_25 : decode cX10_isReached 25 = .ok (.iconst 1, 1) := by decide +kernel
theorem dX10_isReached_26 : decode cX10_isReached 26 = .ok (.goto 4, 3) := by decide +kernel
theorem dX10_isReached_29 : decode cX10_isReached 29 = .ok (.iconst 0, 1) := by decide +kernel
theorem dX10_isReached_30 : decode cX10_isReached 30 = .ok (.ireturn, 1) := by decide +kernel
theorem dX10_reached_0 : decode cX10_reached 0 = .ok (.aload_n 0, 1) := by decide +kernel
theorem dX10_reached_1 : decode cX10_reached 1 = .ok (.iconst 0, 1) := by decide +kernel
theorem dX10_reached_2 : decode cX10_reached 2 = .ok (.putfield 55, 3) := by decide +kernel
theorem dX10_reached_5 : decode cX10_reached 5 = .ok (.aload_n 0, 1) := by decide +kernel
theorem dX10_reached_6 : decode cX10_reached 6 = .ok (.iload_n 1, 1) := by decide +kernel
theorem dX10_reached_7 : decode cX10_reached 7 = .ok (.invokevirtual 313, 3) := by decide +kernel
theorem dX10_reached_10 : decode cX10_reached 10 = .ok (.ifCond .eq 12, 3) := by decide +kernel
theorem dX10_reached_13 : decode cX10_reached 13 = .ok (.aload_n 0, 1) := by decide +kernel
theorem dX10_reached_14 : decode cX10_reached 14 = .ok (.getfield 26, 3) := by decide +kernel
theorem dX10_reached_17 : decode cX10_reached 17 = .ok (.iload_n 1, 1) := by decide +kernel
theorem dX10_reached_18 : decode cX10_reached 18 = .ok (.iaload, 1) := by decide +kernel
theorem dX10_reached_19 : decode cX10_reached 19 = .ok (.goto 4, 3) := by decide +kernel
theorem dX10_reached_22 : decode cX10_reached 22 = .ok (.iconst 0, 1) := by decide +kernel
theorem dX10_reached_23 : decode cX10_reached 23 = .ok (.ireturn, 1) := by decide +kernel
theorem dX10_set_0 : decode cX10_set 0 = .ok (.aload_n 0, 1) := by decide +kernel
theorem dX10_set_1 : decode cX10_set 1 = .ok (.iload_n 2, 1) := by decide +kernel
theorem dX10_set_2 : decode cX10_set 2 = .ok (.invokestatic 310, 3) := by decide +kernel
theorem dX10_set_5 : decode cX10_set 5 = .ok (.ifCond .eq 15, 3) := by decide +kernel
theorem dX10_set_8 : decode cX10_set 8 = .ok (.iload_n 3, 1) := by decide +kernel
theorem dX10_set_9 : decode cX10_set 9 = .ok (.i2l, 1) := by decide +kernel
theorem dX10_set_10 : decode cX10_set 10 = .ok (.lconst 0, 1) := by decide +kernel
theorem dX10_set_11 : decode cX10_set 11 = .ok (.ldc2_w 199, 3) := by decide +kernel
theorem dX10_set_14 : decode cX10_set 14 = .ok (.invokestatic 67, 3) := by decide +kernel
theorem dX10_set_17 : decode cX10_set 17 = .ok (.ifCond .ne 7, 3) := by decide +kernel
theorem dX10_set_20 : decode cX10_set 20 = .ok (.iconst 1, 1) := by decide +kernel
theorem dX10_set_21 : decode cX10_set 21 = .ok (.goto 16, 3) := by decide +kernel
theorem dX10_set_24 : decode cX10_set 24 = .ok (.aload_n 0, 1) := by decide +kernel
theorem dX10_set_25 : decode cX10_set 25 = .ok (.iload_n 1, 1) := by decide +kernel
theorem dX10_set_26 : decode cX10_set 26 = .ok (.invokevirtual 313, 3) := by decide +kernel
theorem dX10_set_29 : decode cX10_set 29 = .ok (.ifCond .ne 7, 3) := by decide +kernel
theorem dX10_set_32 : decode cX10_set 32 = .ok (.iconst 2, 1) := by decide +kernel
theorem dX10_set_33 : decode cX10_set 33 = .ok (.goto 4, 3) := by decide +kernel
theorem dX10_set_36 : decode cX10_set 36 = .ok (.iconst 0, 1) := by decide +kernel
theorem dX10_set_37 : decode cX10_set 37 = .ok (.invokevirtual 74, 3) := by decide +kernel
theorem dX10_set_40 : decode cX10_set 40 = .ok (.ifCond .eq 5, 3) := by decide +kernel
theorem dX10_set_43 : decode cX10_set 43 = .ok (.lconst 0, 1) := by decide +kernel
theorem dX10_set_44 : decode cX10_set 44 = .ok (.lreturn, 1) := by decide +kernel
theorem dX10_set_45 : decode cX10_set 45 = .ok (.bipush 24, 2) := by decide +kernel
theorem dX10_set_47 : decode cX10_set 47 = .ok (.iload_n 1, 1) := by decide +kernel
theorem dX10_set_48 : decode cX10_set 48 = .ok (.imul, 1) := by decide +kernel
theorem dX10_set_49 : decode cX10_set 49 = .ok (.iload_n 2, 1) := by decide +kernel
theorem dX10_set_50 : decode cX10_set 50 = .ok (.iadd, 1) := by decide +kernel
theorem dX10_set_51 : decode cX10_set 51 = .ok (.istore 4, 2) := by decide +kernel
theorem dX10_set_53 : decode cX10_set 53 = .ok (.aload_n 0, 1) := by decide +kernel
theorem dX10_set_54 : decode cX10_set 54 = .ok (.getfield 13, 3) := by decide +kernel
theorem dX10_set_57 : decode cX10_set 57 = .ok (.iload 4, 2) := by decide +kernel
theorem dX10_set_59 : decode cX10_set 59 = .ok (.iaload, 1) := by decide +kernel
theorem dX10_set_60 : decode cX10_set 60 = .ok (.iconst 2, 1) := by decide +kernel
theorem dX10_set_61 : decode cX10_set 61 = .ok (.if_icmp .ne 16, 3) := by decide +kernel
theorem dX10_set_64 : decode cX10_set 64 = .ok (.iload_n 3, 1) := by decide +kernel
theorem dX10_set_65 : decode cX10_set 65 = .ok (.iconst 2, 1) := by decide +kernel
theorem dX10_set_66 : decode cX10_set 66 = .ok (.if_icmp .ne 9, 3) := by decide +kernel
theorem dX10_set_69 : decode cX10_set 69 = .ok (.ldc2_w 204, 3) := by decide +kernel
theorem dX10_set_72 : decode cX10_set 72 = .ok (.goto 4, 3) := by decide +kernel
theorem dX10_set_75 : decode cX10_set 75 = .ok (.lconst 0, 1) := by decide +kernel
theorem dX10_set_76 : decode cX10_set 76 = .ok (.lreturn, 1) := by decide +kernel
theorem dX10_set_77 : decode cX10_set 77 = .ok (.iload_n 3, 1) := by decide +kernel
theorem dX10_set_78 : decode cX10_set 78 = .ok (.ifCond .ne 13, 3) := by decide +kernel
theorem dX10_set_81 : decode cX10_set 81 = .ok (.aload_n 0, 1) := by decide +kernel
theorem dX10_set_82 : decode cX10_set 82 = .ok (.getfield 16, 3) := by decide +kernel
theorem dX10_set_85 : decode cX10_set 85 = .ok (.iload 4, 2) := by decide +kernel
theorem dX10_set_87 : decode cX10_set 87 = .ok (.laload, 1) := by decide +kernel
theorem dX10_set_88 : decode cX10_set 88 = .ok (.goto 25, 3) := by decide +kernel
theorem dX10_set_91 : decode cX10_set 91 = .ok (.iload_n 3, 1) := by decide +kernel
theorem dX10_set_92 : decode cX10_set 92 = .ok (.iconst 1, 1) := by decide +kernel
theorem dX10_set_93 : decode cX10_set 93 = .ok (.if_icmp .ne 13, 3) := by decide +kernel
theorem dX10_set_96 : decode cX10_set 96 = .ok (.aload_n 0, 1) := by decide +kernel
theorem dX10_set_97 : decode cX10_set 97 = .ok (.getfield 20, 3) := by decide +kernel
theorem dX10_set_100 : decode cX10_set 100 = .ok (.iload 4, 2) := by decide +kernel
theorem dX10_set_102 : decode cX10_set 102 = .ok (.laload, 1) := by decide +kernel
theorem dX10_set_103 : decode cX10_set 103 = .ok (.goto 10, 3) := by decide +kernel
theorem dX10_set_106 : decode cX10_set 106 = .ok (.aload_n 0, 1) := by decide +kernel
theorem dX10_set_107 : decode cX10_set 107 = .ok (.getfield 23, 3) := by decide +kernel
theorem dX10_set_110 : decode cX10_set 110 = .ok (.iload 4, 2) := by decide +kernel
theorem dX10_set_112 : decode cX10_set 112 = .ok (.laload, 1) := by decide +kernel
theorem dX10_set_113 : decode cX10_set 113 = .ok (.lreturn, 1) := by decide +kernel
theorem dX10_has_0 : decode cX10_has 0 = .ok (.aload_n 0, 1) := by decide +kernel
theorem dX10_has_1 : decode cX10_has 1 = .ok (.iload_n 2, 1) := by decide +kernel
theorem dX10_has_2 : decode cX10_has 2 = .ok (.invokestatic 310, 3) := by decide +kernel
theorem dX10_has_5 : decode cX10_has 5 = .ok (.ifCond .eq 7, 3) := by decide +kernel
theorem dX10_has_8 : decode cX10_has 8 = .ok (.iconst 0, 1) := by decide +kernel
theorem dX10_has_9 : decode cX10_has 9 = .ok (.goto 4, 3) := by decide +kernel
theorem dX10_has_12 : decode cX10_has 12 = .ok (.iconst 1, 1) := by decide +kernel
theorem dX10_has_13 : decode cX10_has 13 = .ok (.invokevirtual 74, 3) := by decide +kernel
theorem dX10_has_16 : decode cX10_has 16 = .ok (.ifCond .eq 5, 3) := by decide +kernel
theorem dX10_has_19 : decode cX10_has 19 = .ok (.iconst 0, 1) := by decide +kernel
theorem dX10_has_20 : decode cX10_has 20 = .ok (.ireturn, 1) := by decide +kernel
theorem dX10_has_21 : decode cX10_has 21 = .ok (.aload_n 0, 1) := by decide +kernel
theorem dX10_has_22 : decode cX10_has 22 = .ok (.iload_n 1, 1) := by decide +kernel
theorem dX10_has_23 : decode cX10_has 23 = .ok (.invokevirtual 313, 3) := by decide +kernel
theorem dX10_has_26 : decode cX10_has 26 = .ok (.ifCond .eq 21, 3) := by decide +kernel
theorem dX10_has_29 : decode cX10_has 29 = .ok (.aload_n 0, 1) := by decide +kernel
theorem dX10_has_30 : decode cX10_has 30 = .ok (.bipush 24, 2) := by decide +kernel
theorem dX10_has_32 : decode cX10_has 32 = .ok (.iload_n 1, 1) := by decide +kernel
theorem dX10_has_33 : decode cX10_has 33 = .ok (.imul, 1) := by decide +kernel
theorem dX10_has_34 : decode cX10_has 34 = .ok (.iload_n 2, 1) := by decide +kernel
theorem dX10_has_35 : decode cX10_has 35 = .ok (.iadd, 1) := by decide +kernel
theorem dX10_has_36 : decode cX10_has 36 = .ok (.lload_n 3, 1) := by decide +kernel
theorem dX10_has_37 : decode cX10_has 37 = .ok (.invokevirtual 253, 3) := by decide +kernel
theorem dX10_has_40 : decode cX10_has 40 = .ok (.ifCond .eq 7, 3) := by decide +kernel
theorem dX10_has_43 : decode cX10_has 43 = .ok (.iconst 1, 1) := by decide +kernel
theorem dX10_has_44 : decode cX10_has 44 = .ok (.goto 4, 3) := by decide +kernel
theorem dX10_has_47 : decode cX10_has 47 = .ok (.iconst 0, 1) := by decide +kernel
theorem dX10_has_48 : decode cX10_has 48 = .ok (.ireturn, 1) := by decide +kernel
theorem dX10_start_0 : decode cX10_start 0 = .ok (.aload_n 0, 1) := by decide +kernel
theorem dX10_start_1 : decode cX10_start 1 = .ok (.iconst 0, 1) := by decide +kernel
theorem dX10_start_2 : decode cX10_start 2 = .ok (.putfield 55, 3) := by decide +kernel
theorem dX10_start_5 : decode cX10_start 5 = .ok (.aload_n 0, 1) := by decide +kernel
theorem dX10_start_6 : decode cX10_start 6 = .ok (.iconst 1, 1) := by decide +kernel
theorem dX10_start_7 : decode cX10_start 7 = .ok (.putfield 62, 3) := by decide +kernel
theorem dX10_start_10 : decode cX10_start 10 = .ok (.aload_n 0, 1) := by decide +kernel
theorem dX10_start_11 : decode cX10_start 11 = .ok (.aload_n 0, 1) := by decide +kernel
theorem dX10_start_12 : decode cX10_start 12 = .ok (.getfield 71, 3) := by decide +kernel
theorem dX10_start_15 : decode cX10_start 15 = .ok (.ifCond .ne 8, 3) := by decide +kernel
theorem dX10_start_18 : decode cX10_start 18 = .ok (.bipush (-2), 2) := by decide +kernel
theorem dX10_start_20 : decode cX10_start 20 = .ok (.goto 4, 3) := by decide +kernel
theorem dX10_start_23 : decode cX10_start 23 = .ok (.iconst 0, 1) := by decide +kernel
theorem dX10_start_24 : decode cX10_start 24 = .ok (.putfield 45, 3) := by decide +kernel
theorem dX10_start_27 : decode cX10_start 27 = .ok (.aload_n 0, 1) := by decide +kernel
theorem dX10_start_28 : decode cX10_start 28 = .ok (.iconst 1, 1) := by decide +kernel
theorem dX10_start_29 : decode cX10_start 29 = .ok (.putfield 316, 3) := by decide +kernel
theorem dX10_start_32 : decode cX10_start 32 = .ok (.iconst 0, 1) := by decide +kernel
theorem dX10_start_33 : decode cX10_start 33 = .ok (.istore_n 1, 1) := by decide +kernel
theorem dX10_start_34 : decode cX10_start 34 = .ok (.iload_n 1, 1) := by decide +kernel
theorem dX10_start_35 : decode cX10_start 35 = .ok (.bipush 24, 2) := by decide +kernel
theorem dX10_start_37 : decode cX10_start 37 = .ok (.if_icmp .ge 21, 3) := by decide +kernel
theorem dX10_start_40 : decode cX10_start 40 = .ok (.aload_n 0, 1) := by decide +kernel
theorem dX10_start_41 : decode cX10_start 41 = .ok (.getfield 52, 3) := by decide +kernel
theorem dX10_start_44 : decode cX10_start 44 = .ok (.iload_n 1, 1) := by decide +kernel
theorem dX10_start_45 : decode cX10_start 45 = .ok (.aload_n 0, 1) := by decide +kernel
theorem dX10_start_46 : decode cX10_start 46 = .ok (.getfield 49, 3) := by decide +kernel
theorem dX10_start_49 : decode cX10_start 49 = .ok (.iload_n 1, 1) := by decide +kernel
theorem dX10_start_50 : decode cX10_start 50 = .ok (.laload, 1) := by decide +kernel
theorem dX10_start_51 : decode cX10_start 51 = .ok (.lastore, 1) := by decide +kernel
theorem dX10_start_52 : decode cX10_start 52 = .ok (.iinc 1 1, 3) := by decide +kernel
theorem dX10_start_55 : decode cX10_start 55 = .ok (.goto (-21), 3) := by decide +kernel
theorem dX10_start_58 : decode cX10_start 58 = .ok (.return_, 1) := by decide +kernel
theorem dX10_put_0 : decode cX10_put 0 = .ok (.aload_n 0, 1) := by decide +kernel
theorem dX10_put_1 : decode cX10_put 1 = .ok (.iload_n 1, 1) := by decide +kernel
theorem dX10_put_2 : decode cX10_put 2 = .ok (.invokestatic 310, 3) := by decide +kernel
theorem dX10_put_5 : decode cX10_put 5 = .ok (.ifCond .eq 7, 3) := by decide +kernel
theorem dX10_put_8 : decode cX10_put 8 = .ok (.iconst 0, 1) := by decide +kernel
theorem dX10_put_9 : decode cX10_put 9 = .ok (.goto 4, 3) := by decide +kernel
theorem dX10_put_12 : decode cX10_put 12 = .ok (.iconst 1, 1) := by decide +kernel
theorem dX10_put_13 : decode cX10_put 13 = .ok (.invokevirtual 74, 3) := by decide +kernel
theorem dX10_put_16 : decode cX10_put 16 = .ok (.ifCond .eq 4, 3) := by decide +kernel
theorem dX10_put_19 : decode cX10_put 19 = .ok (.return_, 1) := by decide +kernel
theorem dX10_put_20 : decode cX10_put 20 = .ok (.aload_n 0, 1) := by decide +kernel
theorem dX10_put_21 : decode cX10_put 21 = .ok (.getfield 49, 3) := by decide +kernel
theorem dX10_put_24 : decode cX10_put 24 = .ok (.iload_n 1, 1) := by decide +kernel
theorem dX10_put_25 : decode cX10_put 25 = .ok (.lload_n 2, 1) := by decide +kernel
theorem dX10_put_26 : decode cX10_put 26 = .ok (.lastore, 1) := by decide +kernel
theorem dX10_put_27 : decode cX10_put 27 = .ok (.return_, 1) := by decide +kernel
theorem dX10_cutDown_0 : decode cX10_cutDown 0 = .ok (.aload_n 0, 1) := by decide +kernel
theorem dX10_cutDown_1 : decode cX10_cutDown 1 = .ok (.getfield 127, 3) := by decide +kernel
theorem dX10_cutDown_4 : decode cX10_cutDown 4 = .ok (.bipush 64, 2) := by decide +kernel
theorem dX10_cutDown_6 : decode cX10_cutDown 6 = .ok (.if_icmp .ne 7, 3) := by decide +kernel
theorem dX10_cutDown_9 : decode cX10_cutDown 9 = .ok (.lload_n 1, 1) := by decide +kernel
theorem dX10_cutDown_10 : decode cX10_cutDown 10 = .ok (.goto 6, 3) := by decide +kernel
theorem dX10_cutDown_13 : decode cX10_cutDown 13 = .ok (.lload_n 1, 1) := by decide +kernel
theorem dX10_cutDown_14 : decode cX10_cutDown 14 = .ok (.l2i, 1) := by decide +kernel
theorem dX10_cutDown_15 : decode cX10_cutDown 15 = .ok (.i2l, 1) := by decide +kernel
theorem dX10_cutDown_16 : decode cX10_cutDown 16 = .ok (.lreturn, 1) := by decide +kernel
theorem dX10_flags_0 : decode cX10_flags 0 = .ok (.aload_n 0, 1) := by decide +kernel
theorem dX10_flags_1 : decode cX10_flags 1 = .ok (.lload_n 1, 1) := by decide +kernel
theorem dX10_flags_2 : decode cX10_flags 2 = .ok (.lconst 0, 1) := by decide +kernel
theorem dX10_flags_3 : decode cX10_flags 3 = .ok (.lcmp, 1) := by decide +kernel
theorem dX10_flags_4 : decode cX10_flags 4 = .ok (.ifCond .ne 7, 3) := by decide +kernel
theorem dX10_flags_7 : decode cX10_flags 7 = .ok (.iconst 1, 1) := by decide +kernel
theorem dX10_flags_8 : decode cX10_flags 8 = .ok (.goto 4, 3) := by decide +kernel
theorem dX10_flags_11 : decode cX10_flags 11 = .ok (.iconst 0, 1) := by decide +kernel
theorem dX10_flags_12 : decode cX10_flags 12 = .ok (.putfield 319, 3) := by decide +kernel
theorem dX10_flags_15 : decode cX10_flags 15 = .ok (.aload_n 0, 1) := by decide +kernel
theorem dX10_flags_16 : decode cX10_flags 16 = .ok (.lload_n 1, 1) := by decide +kernel
theorem dX10_flags_17 : decode cX10_flags 17 = .ok (.lconst 0, 1) := by decide +kernel
theorem dX10_flags_18 : decode cX10_flags 18 = .ok (.lcmp, 1) := by decide +kernel
theorem dX10_flags_19 : decode cX10_flags 19 = .ok (.ifCond .ge 7, 3) := by decide +kernel
theorem dX10_flags_22 : decode cX10_flags 22 = .ok (.iconst 1, 1) := by decide +kernel
theorem dX10_flags_23 : decode cX10_flags 23 = .ok (.goto 4, 3) := by decide +kernel
theorem dX10_flags_26 : decode cX10_flags 26 = .ok (.iconst 0, 1) := by decide +kernel
theorem dX10_flags_27 : decode cX10_flags 27 = .ok (.putfield 322, 3) := by decide +kernel
theorem dX10_flags_30 : decode cX10_flags 30 = .ok (.aload_n 0, 1) := by decide +kernel
theorem dX10_flags_31 : decode cX10_flags 31 = .ok (.iload_n 3, 1) := by decide +kernel
theorem dX10_flags_32 : decode cX10_flags 32 = .ok (.putfield 325, 3) := by decide +kernel
theorem dX10_flags_35 : decode cX10_flags 35 = .ok (.aload_n 0, 1) := by decide +kernel
theorem dX10_flags_36 : decode cX10_flags 36 = .ok (.iload 4, 2) := by decide +kernel
theorem dX10_flags_38 : decode cX10_flags 38 = .ok (.putfield 328, 3) := by decide +kernel
theorem dX10_flags_41 : decode cX10_flags 41 = .ok (.aload_n 0, 1) := by decide +kernel
theorem dX10_flags_42 : decode cX10_flags 42 = .ok (.iconst 0, 1) := by decide +kernel
theorem dX10_flags_43 : decode cX10_flags 43 = .ok (.putfield 316, 3) := by decide +kernel
theorem dX10_flags_46 : decode cX10_flags 46 = .ok (.return_, 1) := by decide +kernel
theorem dX10_isBelow_0 : decode cX10_isBelow 0 = .ok (.lload_n 0, 1) := by decide +kernel
theorem dX10_isBelow_1 : decode cX10_isBelow 1 = .ok (.ldc2_w 331, 3) := by decide +kernel
theorem dX10_isBelow_4 : decode cX10_isBelow 4 = .ok (.lxor, 1) := by decide +kernel
theorem dX10_isBelow_5 : decode cX10_isBelow 5 = .ok (.lload_n 2, 1) := by decide +kernel
theorem dX10_isBelow_6 : decode cX10_isBelow 6 = .ok (.ldc2_w 331, 3) := by decide +kernel
theorem dX10_isBelow_9 : decode cX10_isBelow 9 = .ok (.lxor, 1) := by decide +kernel
theorem dX10_isBelow_10 : decode cX10_isBelow 10 = .ok (.lcmp, 1) := by decide +kernel
theorem dX10_isBelow_11 : decode cX10_isBelow 11 = .ok (.ifCond .ge 7, 3) := by decide +kernel
theorem dX10_isBelow_14 : decode cX10_isBelow 14 = .ok (.iconst 1, 1) := by decide +kernel
theorem dX10_isBelow_15 : decode cX10_isBelow 15 = .ok (.goto 4, 3) := by decide +kernel
theorem dX10_isBelow_18 : decode cX10_isBelow 18 = .ok (.iconst 0, 1) := by decide +kernel
theorem dX10_isBelow_19 : decode cX10_isBelow 19 = .ok (.ireturn, 1) := by decide +kernel
theorem dX10_sum_0 : decode cX10_sum 0 = .ok (.aload_n 0, 1) := by decide +kernel
theorem dX10_sum_1 : decode cX10_sum 1 = .ok (.lload_n 1, 1) := by decide +kernel
theorem dX10_sum_2 : decode cX10_sum 2 = .ok (.lload_n 3, 1) := by decide +kernel
theorem dX10_sum_3 : decode cX10_sum 3 = .ok (.ladd, 1) := by decide +kernel
theorem dX10_sum_4 : decode cX10_sum 4 = .ok (.invokevirtual 333, 3) := by decide +kernel
theorem dX10_sum_7 : decode cX10_sum 7 = .ok (.lstore 5, 2) := by decide +kernel
theorem dX10_sum_9 : decode cX10_sum 9 = .ok (.aload_n 0, 1) := by decide +kernel
theorem dX10_sum_10 : decode cX10_sum 10 = .ok (.lload 5, 2) := by decide +kernel
theorem dX10_sum_12 : decode cX10_sum 12 = .ok (.lload 5, 2) := by decide +kernel
theorem dX10_sum_14 : decode cX10_sum 14 = .ok (.lload_n 1, 1) := by decide +kernel
theorem dX10_sum_15 : decode cX10_sum 15 = .ok (.invokestatic 337, 3) := by decide +kernel
theorem dX10_sum_18 : decode cX10_sum 18 = .ok (.lload_n 1, 1) := by decide +kernel
theorem dX10_sum_19 : decode cX10_sum 19 = .ok (.lload 5, 2) := by decide +kernel
theorem dX10_sum_21 : decode cX10_sum 21 = .ok (.lxor, 1) := by decide +kernel
theorem dX10_sum_22 : decode cX10_sum 22 = .ok (.lload_n 3, 1) := by decide +kernel
theorem dX10_sum_23 : decode cX10_sum 23 = .ok (.lload 5, 2) := by decide +kernel
theorem dX10_sum_25 : decode cX10_sum 25 = .ok (.lxor, 1) := by decide +kernel
theorem dX10_sum_26 : decode cX10_sum 26 = .ok (.land, 1) := by decide +kernel
theorem dX10_sum_27 : decode cX10_sum 27 = .ok (.lconst 0, 1) := by decide +kernel
theorem dX10_sum_28 : decode cX10_sum 28 = .ok (.lcmp, 1) := by decide +kernel
theorem dX10_sum_29 : decode cX10_sum 29 = .ok (.ifCond .ge 7, 3) := by decide +kernel
theorem dX10_sum_32 : decode cX10_sum 32 = .ok (.iconst 1, 1) := by decide +kernel
theorem dX10_sum_33 : decode cX10_sum 33 = .ok (.goto 4, 3) := by decide +kernel
theorem dX10_sum_36 : decode cX10_sum 36 = .ok (.iconst 0, 1) := by decide +kernel
theorem dX10_sum_37 : decode cX10_sum 37 = .ok (.invokevirtual 341, 3) := by decide +kernel
theorem dX10_sum_40 : decode cX10_sum 40 = .ok (.lload 5, 2) := by decide +kernel
theorem dX10_sum_42 : decode cX10_sum 42 = .ok (.lreturn, 1) := by decide +kernel
theorem dX10_difference_0 : decode cX10_difference 0 = .ok (.aload_n 0, 1) := by decide +kernel
theorem dX10_difference_1 : decode cX10_difference 1 = .ok (.lload_n 1, 1) := by decide +kernel
theorem dX10_difference_2 : decode cX10_difference 2 = .ok (.lload_n 3, 1) := by decide +kernel
theorem dX10_difference_3 : decode cX10_difference 3 = .ok (.lsub, 1) := by decide +kernel
theorem dX10_difference_4 : decode cX10_difference 4 = .ok (.invokevirtual 333, 3) := by decide +kernel
theorem dX10_difference_7 : decode cX10_difference 7 = .ok (.lstore 5, 2) := by decide +kernel
theorem dX10_difference_9 : decode cX10_difference 9 = .ok (.aload_n 0, 1) := by decide +kernel
theorem dX10_difference_10 : decode cX10_difference 10 = .ok (.lload 5, 2) := by decide +kernel
theorem dX10_difference_12 : decode cX10_difference 12 = .ok (.lload_n 1, 1) := by decide +kernel
theorem dX10_difference_13 : decode cX10_difference 13 = .ok (.lload_n 3, 1) := by decide +kernel
theorem dX10_difference_14 : decode cX10_difference 14 = .ok (.invokestatic 337, 3) := by decide +kernel
theorem dX10_difference_17 : decode cX10_difference 17 = .ok (.lload_n 1, 1) := by decide +kernel
theorem dX10_difference_18 : decode cX10_difference 18 = .ok (.lload_n 3, 1) := by decide +kernel
theorem dX10_difference_19 : decode cX10_difference 19 = .ok (.lxor, 1) := by decide +kernel
theorem dX10_difference_20 : decode cX10_difference 20 = .ok (.lload_n 1, 1) := by decide +kernel
theorem dX10_difference_21 : decode cX10_difference 21 = .ok (.lload 5, 2) := by decide +kernel
theorem dX10_difference_23 : decode cX10_difference 23 = .ok (.lxor, 1) := by decide +kernel
theorem dX10_difference_24 : decode cX10_difference 24 = .ok (.land, 1) := by decide +kernel
theorem dX10_difference_25 : decode cX10_difference 25 = .ok (.lconst 0, 1) := by decide +kernel
theorem dX10_difference_26 : decode cX10_difference 26 = .ok (.lcmp, 1) := by decide +kernel
theorem dX10_difference_27 : decode cX10_difference 27 = .ok (.ifCond .ge 7, 3) := by decide +kernel
theorem dX10_difference_30 : decode cX10_difference 30 = .ok (.iconst 1, 1) := by decide +kernel
theorem dX10_difference_31 : decode cX10_difference 31 = .ok (.goto 4, 3) := by decide +kernel
theorem dX10_difference_34 : decode cX10_difference 34 = .ok (.iconst 0, 1) := by decide +kernel
theorem dX10_difference_35 : decode cX10_difference 35 = .ok (.invokevirtual 341, 3) := by decide +kernel
theorem dX10_difference_38 : decode cX10_difference 38 = .ok (.lload 5, 2) := by decide +kernel
theorem dX10_difference_40 : decode cX10_difference 40 = .ok (.lreturn, 1) := by decide +kernel
theorem dX10_bits_0 : decode cX10_bits 0 = .ok (.aload_n 0, 1) := by decide +kernel
theorem dX10_bits_1 : decode cX10_bits 1 = .ok (.lload_n 1, 1) := by decide +kernel
theorem dX10_bits_2 : decode cX10_bits 2 = .ok (.iconst 0, 1) := by decide +kernel
theorem dX10_bits_3 : decode cX10_bits 3 = .ok (.iconst 0, 1) := by decide +kernel
theorem dX10_bits_4 : decode cX10_bits 4 = .ok (.invokevirtual 341, 3) := by decide +kernel
theorem dX10_bits_7 : decode cX10_bits 7 = .ok (.lload_n 1, 1) := by decide +kernel
theorem dX10_bits_8 : decode cX10_bits 8 = .ok (.lreturn, 1) := by decide +kernel
theorem dX10_count_0 : decode cX10_count 0 = .ok (.aload_n 0, 1) := by decide +kernel
theorem dX10_count_1 : decode cX10_count 1 = .ok (.getfield 316, 3) := by decide +kernel
theorem dX10_count_4 : decode cX10_count 4 = .ok (.istore 5, 2) := by decide +kernel
theorem dX10_count_6 : decode cX10_count 6 = .ok (.aload_n 0, 1) := by decide +kernel
theorem dX10_count_7 : decode cX10_count 7 = .ok (.lload_n 1, 1) := by decide +kernel
theorem dX10_count_8 : decode cX10_count 8 = .ok (.lload_n 3, 1) := by decide +kernel
theorem dX10_count_9 : decode cX10_count 9 = .ok (.ladd, 1) := by decide +kernel
theorem dX10_count_10 : decode cX10_count 10 = .ok (.invokevirtual 333, 3) := by decide +kernel
theorem dX10_count_13 : decode cX10_count 13 = .ok (.lstore 6, 2) := by decide +kernel
theorem dX10_count_15 : decode cX10_count 15 = .ok (.aload_n 0, 1) := by decide +kernel
theorem dX10_count_16 : decode cX10_count 16 = .ok (.lload 6, 2) := by decide +kernel
theorem dX10_count_18 : decode cX10_count 18 = .ok (.aload_n 0, 1) := by decide +kernel
theorem dX10_count_19 : decode cX10_count 19 = .ok (.getfield 325, 3) := by decide +kernel
theorem dX10_count_22 : decode cX10_count 22 = .ok (.lload_n 3, 1) := by decide +kernel
theorem dX10_count_23 : decode cX10_count 23 = .ok (.lconst 0, 1) := by decide +kernel
theorem dX10_count_24 : decode cX10_count 24 = .ok (.lcmp, 1) := by decide +kernel
theorem dX10_count_25 : decode cX10_count 25 = .ok (.ifCond .le 24, 3) := by decide +kernel
theorem dX10_count_28 : decode cX10_count 28 = .ok (.lload_n 1, 1) := by decide +kernel
theorem dX10_count_29 : decode cX10_count 29 = .ok (.lconst 0, 1) := by decide +kernel
theorem dX10_count_30 : decode cX10_count 30 = .ok (.lcmp, 1) := by decide +kernel
theorem dX10_count_31 : decode cX10_count 31 = .ok (.ifCond .lt 14, 3) := by decide +kernel
theorem dX10_count_34 : decode cX10_count 34 = .ok (.lload 6, 2) := by decide +kernel
theorem dX10_count_36 : decode cX10_count 36 = .ok (.lconst 0, 1) := by decide +kernel
theorem dX10_count_37 : decode cX10_count 37 = .ok (.lcmp, 1) := by decide +kernel
theorem dX10_count_38 : decode cX10_count 38 = .ok (.ifCond .ge 7, 3) := by decide +kernel
theorem dX10_count_41 : decode cX10_count 41 = .ok (.iconst 1, 1) := by decide +kernel
theorem dX10_count_42 : decode cX10_count 42 = .ok (.goto 25, 3) := by decide +kernel
theorem dX10_count_45 : decode cX10_count 45 = .ok (.iconst 0, 1) := by decide +kernel
theorem dX10_count_46 : decode cX10_count 46 = .ok (.goto 21, 3) := by decide +kernel
theorem dX10_count_49 : decode cX10_count 49 = .ok (.lload_n 1, 1) := by decide +kernel
theorem dX10_count_50 : decode cX10_count 50 = .ok (.lconst 0, 1) := by decide +kernel
theorem dX10_count_51 : decode cX10_count 51 = .ok (.lcmp, 1) := by decide +kernel
theorem dX10_count_52 : decode cX10_count 52 = .ok (.ifCond .ge 14, 3) := by decide +kernel
theorem dX10_count_55 : decode cX10_count 55 = .ok (.lload 6, 2) := by decide +kernel
theorem dX10_count_57 : decode cX10_count 57 = .ok (.lconst 0, 1) := by decide +kernel
theorem dX10_count_58 : decode cX10_count 58 = .ok (.lcmp, 1) := by decide +kernel
theorem dX10_count_59 : decode cX10_count 59 = .ok (.ifCond .lt 7, 3) := by decide +kernel
theorem dX10_count_62 : decode cX10_count 62 = .ok (.iconst 1, 1) := by decide +kernel
theorem dX10_count_63 : decode cX10_count 63 = .ok (.goto 4, 3) := by decide +kernel
theorem dX10_count_66 : decode cX10_count 66 = .ok (.iconst 0, 1) := by decide +kernel
theorem dX10_count_67 : decode cX10_count 67 = .ok (.invokevirtual 341, 3) := by decide +kernel
theorem dX10_count_70 : decode cX10_count 70 = .ok (.aload_n 0, 1) := by decide +kernel
theorem dX10_count_71 : decode cX10_count 71 = .ok (.iload 5, 2) := by decide +kernel
theorem dX10_count_73 : decode cX10_count 73 = .ok (.putfield 316, 3) := by decide +kernel
theorem dX10_count_76 : decode cX10_count 76 = .ok (.lload 6, 2) := by decide +kernel
theorem dX10_count_78 : decode cX10_count 78 = .ok (.lreturn, 1) := by decide +kernel
theorem dX10_shifted_0 : decode cX10_shifted 0 = .ok (.aload_n 0, 1) := by decide +kernel
theorem dX10_shifted_1 : decode cX10_shifted 1 = .ok (.iconst 1, 1) := by decide +kernel
theorem dX10_shifted_2 : decode cX10_shifted 2 = .ok (.putfield 316, 3) := by decide +kernel
theorem dX10_shifted_5 : decode cX10_shifted 5 = .ok (.aload_n 0, 1) := by decide +kernel
theorem dX10_shifted_6 : decode cX10_shifted 6 = .ok (.getfield 127, 3) := by decide +kernel
theorem dX10_shifted_9 : decode cX10_shifted 9 = .ok (.bipush 64, 2) := by decide +kernel
theorem dX10_shifted_11 : decode cX10_shifted 11 = .ok (.if_icmp .ne 7, 3) := by decide +kernel
theorem dX10_shifted_14 : decode cX10_shifted 14 = .ok (.lload_n 1, 1) := by decide +kernel
theorem dX10_shifted_15 : decode cX10_shifted 15 = .ok (.goto 8, 3) := by decide +kernel
theorem dX10_shifted_18 : decode cX10_shifted 18 = .ok (.lload_n 1, 1) := by decide +kernel
theorem dX10_shifted_19 : decode cX10_shifted 19 = .ok (.ldc2_w 206, 3) := by decide +kernel
theorem dX10_shifted_22 : decode cX10_shifted 22 = .ok (.land, 1) := by decide +kernel
theorem dX10_shifted_23 : decode cX10_shifted 23 = .ok (.lstore_n 3, 1) := by decide +kernel
theorem dX10_shifted_24 : decode cX10_shifted 24 = .ok (.aload_n 0, 1) := by decide +kernel
theorem dX10_shifted_25 : decode cX10_shifted 25 = .ok (.getfield 107, 3) := by decide +kernel
theorem dX10_shifted_28 : decode cX10_shifted 28 = .ok (.bipush 14, 2) := by decide +kernel
theorem dX10_shifted_30 : decode cX10_shifted 30 = .ok (.if_icmp .ne 12, 3) := by decide +kernel
theorem dX10_shifted_33 : decode cX10_shifted 33 = .ok (.lload_n 1, 1) := by decide +kernel
theorem dX10_shifted_34 : decode cX10_shifted 34 = .ok (.aload_n 0, 1) := by decide +kernel
theorem dX10_shifted_35 : decode cX10_shifted 35 = .ok (.getfield 120, 3) := by decide +kernel
theorem dX10_shifted_38 : decode cX10_shifted 38 = .ok (.lshl, 1) := by decide +kernel
theorem dX10_shifted_39 : decode cX10_shifted 39 = .ok (.goto 27, 3) := by decide +kernel
theorem dX10_shifted_42 : decode cX10_shifted 42 = .ok (.aload_n 0, 1) := by decide +kernel
theorem dX10_shifted_43 : decode cX10_shifted 43 = .ok (.getfield 107, 3) := by decide +kernel
theorem dX10_shifted_46 : decode cX10_shifted 46 = .ok (.bipush 15, 2) := by decide +kernel
theorem dX10_shifted_48 : decode cX10_shifted 48 = .ok (.if_icmp .ne 12, 3) := by decide +kernel
theorem dX10_shifted_51 : decode cX10_shifted 51 = .ok (.lload_n 3, 1) := by decide +kernel
theorem dX10_shifted_52 : decode cX10_shifted 52 = .ok (.aload_n 0, 1) := by decide +kernel
theorem dX10_shifted_53 : decode cX10_shifted 53 = .ok (.getfield 120, 3) := by decide +kernel
theorem dX10_shifted_56 : decode cX10_shifted 56 = .ok (.lushr, 1) := by decide +kernel
theorem dX10_shifted_57 : decode cX10_shifted 57 = .ok (.goto 9, 3) := by decide +kernel
theorem dX10_shifted_60 : decode cX10_shifted 60 = .ok (.lload_n 1, 1) := by decide +kernel
theorem dX10_shifted_61 : decode cX10_shifted 61 = .ok (.aload_n 0, 1) := by decide +kernel
theorem dX10_shifted_62 : decode cX10_shifted 62 = .ok (.getfield 120, 3) := by decide +kernel
theorem dX10_shifted_65 : decode cX10_shifted 65 = .ok (.lshr, 1) := by decide +kernel
theorem dX10_shifted_66 : decode cX10_shifted 66 = .ok (.lreturn, 1) := by decide +kernel
theorem dX10_run_0 : decode cX10_run 0 = .ok (.aload_n 0, 1) := by decide +kernel
theorem dX10_run_1 : decode cX10_run 1 = .ok (.aload_n 0, 1) := by decide +kernel
theorem dX10_run_2 : decode cX10_run 2 = .ok (.getfield 52, 3) := by decide +kernel
theorem dX10_run_5 : decode cX10_run 5 = .ok (.aload_n 0, 1) := by decide +kernel
theorem dX10_run_6 : decode cX10_run 6 = .ok (.getfield 110, 3) := by decide +kernel
theorem dX10_run_9 : decode cX10_run 9 = .ok (.laload, 1) := by decide +kernel
theorem dX10_run_10 : decode cX10_run 10 = .ok (.invokevirtual 333, 3) := by decide +kernel
theorem dX10_run_13 : decode cX10_run 13 = .ok (.lstore_n 1, 1) := by decide +kernel
theorem dX10_run_14 : decode cX10_run 14 = .ok (.aload_n 0, 1) := by decide +kernel
theorem dX10_run_15 : decode cX10_run 15 = .ok (.aload_n 0, 1) := by decide +kernel
theorem dX10_run_16 : decode cX10_run 16 = .ok (.getfield 113, 3) := by decide +kernel
theorem dX10_run_19 : decode cX10_run 19 = .ok (.ifCond .lt 15, 3) := by decide +kernel
theorem dX10_run_22 : decode cX10_run 22 = .ok (.aload_n 0, 1) := by decide +kernel
theorem dX10_run_23 : decode cX10_run 23 = .ok (.getfield 52, 3) := by decide +kernel
theorem dX10_run_26 : decode cX10_run 26 = .ok (.aload_n 0, 1) := by decide +kernel
theorem dX10_run_27 : decode cX10_run 27 = .ok (.getfield 113, 3) := by decide +kernel
theorem dX10_run_30 : decode cX10_run 30 = .ok (.laload, 1) := by decide +kernel
theorem dX10_run_31 : decode cX10_run 31 = .ok (.goto 7, 3) := by decide +kernel
theorem dX10_run_34 : decode cX10_run 34 = .ok (.aload_n 0, 1) := by decide +kernel
theorem dX10_run_35 : decode cX10_run 35 = .ok (.getfield 116, 3) := by decide +kernel
theorem dX10_run_38 : decode cX10_run 38 = .ok (.invokevirtual 333, 3) := by decide +kernel
theorem dX10_run_41 : decode cX10_run 41 = .ok (.lstore_n 3, 1) := by decide +kernel
theorem dX10_run_42 : decode cX10_run 42 = .ok (.lconst 0, 1) := by decide +kernel
theorem dX10_run_43 : decode cX10_run 43 = .ok (.lstore 5, 2) := by decide +kernel
theorem dX10_run_45 : decode cX10_run 45 = .ok (.aload_n 0, 1) := by decide +kernel
theorem dX10_run_46 : decode cX10_run 46 = .ok (.getfield 107, 3) := by decide +kernel
theorem dX10_run_49 : decode cX10_run 49 = .ok (.tableswitch 221 0 18 #[91, 113, 221, 221, 125, 102, 137, 102, 125, 149, 159, 170, 181, 194, 221, 221, 221, 200, 213], 91) := by decide +kernel
theorem dX10_run_140 : decode cX10_run 140 = .ok (.aload_n 0, 1) := by decide +kernel
theorem dX10_run_141 : decode cX10_run 141 = .ok (.lload_n 1, 1) := by decide +kernel
theorem dX10_run_142 : decode cX10_run 142 = .ok (.lload_n 3, 1) := by decide +kernel
theorem dX10_run_143 : decode cX10_run 143 = .ok (.invokevirtual 345, 3) := by decide +kernel
theorem dX10_run_146 : decode cX10_run 146 = .ok (.lstore 5, 2) := by decide +kernel
theorem dX10_run_148 : decode cX10_run 148 = .ok (.goto 129, 3) := by decide +kernel
theorem dX10_run_151 : decode cX10_run 151 = .ok (.aload_n 0, 1) := by decide +kernel
theorem dX10_run_152 : decode cX10_run 152 = .ok (.lload_n 1, 1) := by decide +kernel
theorem dX10_run_153 : decode cX10_run 153 = .ok (.lload_n 3, 1) := by decide +kernel
theorem dX10_run_154 : decode cX10_run 154 = .ok (.invokevirtual 348, 3) := by decide +kernel
theorem dX10_run_157 : decode cX10_run 157 = .ok (.lstore 5, 2) := by decide +kernel
theorem dX10_run_159 : decode cX10_run 159 = .ok (.goto 118, 3) := by decide +kernel
theorem dX10_run_162 : decode cX10_run 162 = .ok (.aload_n 0, 1) := by decide +kernel
theorem dX10_run_163 : decode cX10_run 163 = .ok (.lload_n 1, 1) := by decide +kernel
theorem dX10_run_164 : decode cX10_run 164 = .ok (.lload_n 3, 1) := by decide +kernel
theorem dX10_run_165 : decode cX10_run 165 = .ok (.lor, 1) := by decide +kernel
theorem dX10_run_166 : decode cX10_run 166 = .ok (.invokevirtual 351, 3) := by decide +kernel
theorem dX10_run_169 : decode cX10_run 169 = .ok (.lstore 5, 2) := by decide +kernel
theorem dX10_run_171 : decode cX10_run 171 = .ok (.goto 106, 3) := by decide +kernel
theorem dX10_run_174 : decode cX10_run 174 = .ok (.aload_n 0, 1) := by decide +kernel
theorem dX10_run_175 : decode cX10_run 175 = .ok (.lload_n 1, 1) := by decide +kernel
theorem dX10_run_176 : decode cX10_run 176 = .ok (.lload_n 3, 1) := by decide +kernel
theorem dX10_run_177 : decode cX10_run 177 = .ok (.land, 1) := by decide +kernel
theorem dX10_run_178 : decode cX10_run 178 = .ok (.invokevirtual 351, 3) := by decide +kernel
theorem dX10_run_181 : decode cX10_run 181 = .ok (.lstore 5, 2) := by decide +kernel
theorem dX10_run_183 : decode cX10_run 183 = .ok (.goto 94, 3) := by decide +kernel
theorem dX10_run_186 : decode cX10_run 186 = .ok (.aload_n 0, 1) := by decide +kernel
theorem dX10_run_187 : decode cX10_run 187 = .ok (.lload_n 1, 1) := by decide +kernel
theorem dX10_run_188 : decode cX10_run 188 = .ok (.lload_n 3, 1) := by decide +kernel
theorem dX10_run_189 : decode cX10_run 189 = .ok (.lxor, 1) := by decide +kernel
theorem dX10_run_190 : decode cX10_run 190 = .ok (.invokevirtual 351, 3) := by decide +kernel
theorem dX10_run_193 : decode cX10_run 193 = .ok (.lstore 5, 2) := by decide +kernel
theorem dX10_run_195 : decode cX10_run 195 = .ok (.goto 82, 3) := by decide +kernel
theorem dX10_run_198 : decode cX10_run 198 = .ok (.lload_n 1, 1) := by decide +kernel
theorem dX10_run_199 : decode cX10_run 199 = .ok (.ldc2_w 204, 3) := by decide +kernel
theorem dX10_run_202 : decode cX10_run 202 = .ok (.lxor, 1) := by decide +kernel
theorem dX10_run_203 : decode cX10_run 203 = .ok (.lstore 5, 2) := by decide +kernel
theorem dX10_run_205 : decode cX10_run 205 = .ok (.goto 72, 3) := by decide +kernel
theorem dX10_run_208 : decode cX10_run 208 = .ok (.aload_n 0, 1) := by decide +kernel
theorem dX10_run_209 : decode cX10_run 209 = .ok (.lconst 0, 1) := by decide +kernel
theorem dX10_run_210 : decode cX10_run 210 = .ok (.lload_n 1, 1) := by decide +kernel
theorem dX10_run_211 : decode cX10_run 211 = .ok (.invokevirtual 348, 3) := by decide +kernel
theorem dX10_run_214 : decode cX10_run 214 = .ok (.lstore 5, 2) := by decide +kernel
theorem dX10_run_216 : decode cX10_run 216 = .ok (.goto 61, 3) := by decide +kernel
theorem dX10_run_219 : decode cX10_run 219 = .ok (.aload_n 0, 1) := by decide +kernel
theorem dX10_run_220 : decode cX10_run 220 = .ok (.lload_n 1, 1) := by decide +kernel
theorem dX10_run_221 : decode cX10_run 221 = .ok (.lconst 1, 1) := by decide +kernel
theorem dX10_run_222 : decode cX10_run 222 = .ok (.invokevirtual 354, 3) := by decide +kernel
theorem dX10_run_225 : decode cX10_run 225 = .ok (.lstore 5, 2) := by decide +kernel
theorem dX10_run_227 : decode cX10_run 227 = .ok (.goto 50, 3) := by decide +kernel
theorem dX10_run_230 : decode cX10_run 230 = .ok (.aload_n 0, 1) := by decide +kernel
theorem dX10_run_231 : decode cX10_run 231 = .ok (.lload_n 1, 1) := by decide +kernel
theorem dX10_run_232 : decode cX10_run 232 = .ok (.ldc2_w 204, 3) := by decide +kernel
theorem dX10_run_235 : decode cX10_run 235 = .ok (.invokevirtual 354, 3) := by decide +kernel
theorem dX10_run_238 : decode cX10_run 238 = .ok (.lstore 5, 2) := by decide +kernel
theorem dX10_run_240 : decode cX10_run 240 = .ok (.goto 37, 3) := by decide +kernel
theorem dX10_run_243 : decode cX10_run 243 = .ok (.lload_n 3, 1) := by decide +kernel
theorem dX10_run_244 : decode cX10_run 244 = .ok (.lstore 5, 2) := by decide +kernel
theorem dX10_run_246 : decode cX10_run 246 = .ok (.goto 31, 3) := by decide +kernel
theorem dX10_run_249 : decode cX10_run 249 = .ok (.aload_n 0, 1) := by decide +kernel
theorem dX10_run_250 : decode cX10_run 250 = .ok (.iconst 1, 1) := by decide +kernel
theorem dX10_run_251 : decode cX10_run 251 = .ok (.putfield 316, 3) := by decide +kernel
theorem dX10_run_254 : decode cX10_run 254 = .ok (.lload_n 1, 1) := by decide +kernel
theorem dX10_run_255 : decode cX10_run 255 = .ok (.lload_n 3, 1) := by decide +kernel
theorem dX10_run_256 : decode cX10_run 256 = .ok (.lmul, 1) := by decide +kernel
theorem dX10_run_257 : decode cX10_run 257 = .ok (.lstore 5, 2) := by decide +kernel
theorem dX10_run_259 : decode cX10_run 259 = .ok (.goto 18, 3) := by decide +kernel
theorem dX10_run_262 : decode cX10_run 262 = .ok (.lload_n 3, 1) := by decide +kernel
theorem dX10_run_263 : decode cX10_run 263 = .ok (.l2i, 1) := by decide +kernel
theorem dX10_run_264 : decode cX10_run 264 = .ok (.i2l, 1) := by decide +kernel
theorem dX10_run_265 : decode cX10_run 265 = .ok (.lstore 5, 2) := by decide +kernel
theorem dX10_run_267 : decode cX10_run 267 = .ok (.goto 10, 3) := by decide +kernel
theorem dX10_run_270 : decode cX10_run 270 = .ok (.aload_n 0, 1) := by decide +kernel
theorem dX10_run_271 : decode cX10_run 271 = .ok (.lload_n 1, 1) := by decide +kernel
theorem dX10_run_272 : decode cX10_run 272 = .ok (.invokevirtual 357, 3) := by decide +kernel
theorem dX10_run_275 : decode cX10_run 275 = .ok (.lstore 5, 2) := by decide +kernel
theorem dX10_run_277 : decode cX10_run 277 = .ok (.aload_n 0, 1) := by decide +kernel
theorem dX10_run_278 : decode cX10_run 278 = .ok (.getfield 107, 3) := by decide +kernel
theorem dX10_run_281 : decode cX10_run 281 = .ok (.bipush 7, 2) := by decide +kernel
theorem dX10_run_283 : decode cX10_run 283 = .ok (.if_icmp .eq 41, 3) := by decide +kernel
theorem dX10_run_286 : decode cX10_run 286 = .ok (.aload_n 0, 1) := by decide +kernel
theorem dX10_run_287 : decode cX10_run 287 = .ok (.getfield 107, 3) := by decide +kernel
theorem dX10_run_290 : decode cX10_run 290 = .ok (.bipush 8, 2) := by decide +kernel
theorem dX10_run_292 : decode cX10_run 292 = .ok (.if_icmp .eq 32, 3) := by decide +kernel
theorem dX10_run_295 : decode cX10_run 295 = .ok (.aload_n 0, 1) := by decide +kernel
theorem dX10_run_296 : decode cX10_run 296 = .ok (.getfield 52, 3) := by decide +kernel
theorem dX10_run_299 : decode cX10_run 299 = .ok (.aload_n 0, 1) := by decide +kernel
theorem dX10_run_300 : decode cX10_run 300 = .ok (.getfield 110, 3) := by decide +kernel
theorem dX10_run_303 : decode cX10_run 303 = .ok (.aload_n 0, 1) := by decide +kernel
theorem dX10_run_304 : decode cX10_run 304 = .ok (.getfield 127, 3) := by decide +kernel
theorem dX10_run_307 : decode cX10_run 307 = .ok (.bipush 64, 2) := by decide +kernel
theorem dX10_run_309 : decode cX10_run 309 = .ok (.if_icmp .ne 8, 3) := by decide +kernel
theorem dX10_run_312 : decode cX10_run 312 = .ok (.lload 5, 2) := by decide +kernel
theorem dX10_run_314 : decode cX10_run 314 = .ok (.goto 9, 3) := by decide +kernel
theorem dX10_run_317 : decode cX10_run 317 = .ok (.lload 5, 2) := by decide +kernel
theorem dX10_run_319 : decode cX10_run 319 = .ok (.ldc2_w 206, 3) := by decide +kernel
theorem dX10_run_322 : decode cX10_run 322 = .ok (.land, 1) := by decide +kernel
theorem dX10_run_323 : decode cX10_run 323 = .ok (.lastore, 1) := by decide +kernel
theorem dX10_run_324 : decode cX10_run 324 = .ok (.return_, 1) := by decide +kernel
theorem dX10_holds_0 : decode cX10_holds 0 = .ok (.iload_n 1, 1) := by decide +kernel
theorem dX10_holds_1 : decode cX10_holds 1 = .ok (.iconst 2, 1) := by decide +kernel
theorem dX10_holds_2 : decode cX10_holds 2 = .ok (.idiv, 1) := by decide +kernel
theorem dX10_holds_3 : decode cX10_holds 3 = .ok (.tableswitch 116 0 6 #[41, 49, 57, 65, 88, 116, 96], 41) := by decide +kernel
theorem dX10_holds_44 : decode cX10_holds 44 = .ok (.aload_n 0, 1) := by decide +kernel
theorem dX10_holds_45 : decode cX10_holds 45 = .ok (.getfield 328, 3) := by decide +kernel
theorem dX10_holds_48 : decode cX10_holds 48 = .ok (.istore_n 2, 1) := by decide +kernel
theorem dX10_holds_49 : decode cX10_holds 49 = .ok (.goto 94, 3) := by decide +kernel
theorem dX10_holds_52 : decode cX10_holds 52 = .ok (.aload_n 0, 1) := by decide +kernel
theorem dX10_holds_53 : decode cX10_holds 53 = .ok (.getfield 325, 3) := by decide +kernel
theorem dX10_holds_56 : decode cX10_holds 56 = .ok (.istore_n 2, 1) := by decide +kernel
theorem dX10_holds_57 : decode cX10_holds 57 = .ok (.goto 86, 3) := by decide +kernel
theorem dX10_holds_60 : decode cX10_holds 60 = .ok (.aload_n 0, 1) := by decide +kernel
theorem dX10_holds_61 : decode cX10_holds 61 = .ok (.getfield 319, 3) := by decide +kernel
theorem dX10_holds_64 : decode cX10_holds 64 = .ok (.istore_n 2, 1) := by decide +kernel
theorem dX10_holds_65 : decode cX10_holds 65 = .ok (.goto 78, 3) := by decide +kernel
theorem dX10_holds_68 : decode cX10_holds 68 = .ok (.aload_n 0, 1) := by decide +kernel
theorem dX10_holds_69 : decode cX10_holds 69 = .ok (.getfield 325, 3) := by decide +kernel
theorem dX10_holds_72 : decode cX10_holds 72 = .ok (.ifCond .ne 10, 3) := by decide +kernel
theorem dX10_holds_75 : decode cX10_holds 75 = .ok (.aload_n 0, 1) := by decide +kernel
theorem dX10_holds_76 : decode cX10_holds 76 = .ok (.getfield 319, 3) := by decide +kernel
theorem dX10_holds_79 : decode cX10_holds 79 = .ok (.ifCond .eq 7, 3) := by decide +kernel
theorem dX10_holds_82 : decode cX10_holds 82 = .ok (.iconst 1, 1) := by decide +kernel
theorem dX10_holds_83 : decode cX10_holds 83 = .ok (.goto 4, 3) := by decide +kernel
theorem dX10_holds_86 : decode cX10_holds 86 = .ok (.iconst 0, 1) := by decide +kernel
theorem dX10_holds_87 : decode cX10_holds 87 = .ok (.istore_n 2, 1) := by decide +kernel
theorem dX10_holds_88 : decode cX10_holds 88 = .ok (.goto 55, 3) := by decide +kernel
theorem dX10_holds_91 : decode cX10_holds 91 = .ok (.aload_n 0, 1) := by decide +kernel
theorem dX10_holds_92 : decode cX10_holds 92 = .ok (.getfield 322, 3) := by decide +kernel
theorem dX10_holds_95 : decode cX10_holds 95 = .ok (.istore_n 2, 1) := by decide +kernel
theorem dX10_holds_96 : decode cX10_holds 96 = .ok (.goto 47, 3) := by decide +kernel
theorem dX10_holds_99 : decode cX10_holds 99 = .ok (.aload_n 0, 1) := by decide +kernel
theorem dX10_holds_100 : decode cX10_holds 100 = .ok (.getfield 322, 3) := by decide +kernel
theorem dX10_holds_103 : decode cX10_holds 103 = .ok (.aload_n 0, 1) := by decide +kernel
theorem dX10_holds_104 : decode cX10_holds 104 = .ok (.getfield 328, 3) := by decide +kernel
theorem dX10_holds_107 : decode cX10_holds 107 = .ok (.if_icmp .eq 7, 3) := by decide +kernel
theorem dX10_holds_110 : decode cX10_holds 110 = .ok (.iconst 1, 1) := by decide +kernel
theorem dX10_holds_111 : decode cX10_holds 111 = .ok (.goto 4, 3) := by decide +kernel
theorem dX10_holds_114 : decode cX10_holds 114 = .ok (.iconst 0, 1) := by decide +kernel
theorem dX10_holds_115 : decode cX10_holds 115 = .ok (.istore_n 2, 1) := by decide +kernel
theorem dX10_holds_116 : decode cX10_holds 116 = .ok (.goto 27, 3) := by decide +kernel
theorem dX10_holds_119 : decode cX10_holds 119 = .ok (.aload_n 0, 1) := by decide +kernel
theorem dX10_holds_120 : decode cX10_holds 120 = .ok (.getfield 319, 3) := by decide +kernel
theorem dX10_holds_123 : decode cX10_holds 123 = .ok (.ifCond .ne 14, 3) := by decide +kernel
theorem dX10_holds_126 : decode cX10_holds 126 = .ok (.aload_n 0, 1) := by decide +kernel
theorem dX10_holds_127 : decode cX10_holds 127 = .ok (.getfield 322, 3) := by decide +kernel
theorem dX10_holds_130 : decode cX10_holds 130 = .ok (.aload_n 0, 1) := by decide +kernel
theorem dX10_holds_131 : decode cX10_holds 131 = .ok (.getfield 328, 3) := by decide +kernel
theorem dX10_holds_134 : decode cX10_holds 134 = .ok (.if_icmp .eq 7, 3) := by decide +kernel
theorem dX10_holds_137 : decode cX10_holds 137 = .ok (.iconst 1, 1) := by decide +kernel
theorem dX10_holds_138 : decode cX10_holds 138 = .ok (.goto 4, 3) := by decide +kernel
theorem dX10_holds_141 : decode cX10_holds 141 = .ok (.iconst 0, 1) := by decide +kernel
theorem dX10_holds_142 : decode cX10_holds 142 = .ok (.istore_n 2, 1) := by decide +kernel
theorem dX10_holds_143 : decode cX10_holds 143 = .ok (.iload_n 2, 1) := by decide +kernel
theorem dX10_holds_144 : decode cX10_holds 144 = .ok (.iload_n 1, 1) := by decide +kernel
theorem dX10_holds_145 : decode cX10_holds 145 = .ok (.iconst 2, 1) := by decide +kernel
theorem dX10_holds_146 : decode cX10_holds 146 = .ok (.irem, 1) := by decide +kernel
theorem dX10_holds_147 : decode cX10_holds 147 = .ok (.ifCond .ne 7, 3) := by decide +kernel
theorem dX10_holds_150 : decode cX10_holds 150 = .ok (.iconst 1, 1) := by decide +kernel
theorem dX10_holds_151 : decode cX10_holds 151 = .ok (.goto 4, 3) := by decide +kernel
theorem dX10_holds_154 : decode cX10_holds 154 = .ok (.iconst 0, 1) := by decide +kernel
theorem dX10_holds_155 : decode cX10_holds 155 = .ok (.if_icmp .ne 7, 3) := by decide +kernel
theorem dX10_holds_158 : decode cX10_holds 158 = .ok (.iconst 1, 1) := by decide +kernel
theorem dX10_holds_159 : decode cX10_holds 159 = .ok (.goto 4, 3) := by decide +kernel
theorem dX10_holds_162 : decode cX10_holds 162 = .ok (.iconst 0, 1) := by decide +kernel
theorem dX10_holds_163 : decode cX10_holds 163 = .ok (.ireturn, 1) := by decide +kernel
theorem dX10_oneMore_0 : decode cX10_oneMore 0 = .ok (.aload_n 0, 1) := by decide +kernel
theorem dX10_oneMore_1 : decode cX10_oneMore 1 = .ok (.getfield 45, 3) := by decide +kernel
theorem dX10_oneMore_4 : decode cX10_oneMore 4 = .ok (.bipush (-2), 2) := by decide +kernel
theorem dX10_oneMore_6 : decode cX10_oneMore 6 = .ok (.if_icmp .ne 5, 3) := by decide +kernel
theorem dX10_oneMore_9 : decode cX10_oneMore 9 = .ok (.iconst 3, 1) := by decide +kernel
theorem dX10_oneMore_10 : decode cX10_oneMore 10 = .ok (.ireturn, 1) := by decide +kernel
theorem dX10_oneMore_11 : decode cX10_oneMore 11 = .ok (.aload_n 0, 1) := by decide +kernel
theorem dX10_oneMore_12 : decode cX10_oneMore 12 = .ok (.aload_n 0, 1) := by decide +kernel
theorem dX10_oneMore_13 : decode cX10_oneMore 13 = .ok (.getfield 45, 3) := by decide +kernel
theorem dX10_oneMore_16 : decode cX10_oneMore 16 = .ok (.invokevirtual 155, 3) := by decide +kernel
theorem dX10_oneMore_19 : decode cX10_oneMore 19 = .ok (.ifCond .ne 5, 3) := by decide +kernel
theorem dX10_oneMore_22 : decode cX10_oneMore 22 = .ok (.iconst 2, 1) := by decide +kernel
theorem dX10_oneMore_23 : decode cX10_oneMore 23 = .ok (.ireturn, 1) := by decide +kernel
theorem dX10_oneMore_24 : decode cX10_oneMore 24 = .ok (.aload_n 0, 1) := by decide +kernel
theorem dX10_oneMore_25 : decode cX10_oneMore 25 = .ok (.getfield 107, 3) := by decide +kernel
theorem dX10_oneMore_28 : decode cX10_oneMore 28 = .ok (.bipush 22, 2) := by decide +kernel
theorem dX10_oneMore_30 : decode cX10_oneMore 30 = .ok (.if_icmp .ne 5, 3) := by decide +kernel
theorem dX10_oneMore_33 : decode cX10_oneMore 33 = .ok (.iconst 1, 1) := by decide +kernel
theorem dX10_oneMore_34 : decode cX10_oneMore 34 = .ok (.ireturn, 1) := by decide +kernel
theorem dX10_oneMore_35 : decode cX10_oneMore 35 = .ok (.aload_n 0, 1) := by decide +kernel
theorem dX10_oneMore_36 : decode cX10_oneMore 36 = .ok (.getfield 107, 3) := by decide +kernel
theorem dX10_oneMore_39 : decode cX10_oneMore 39 = .ok (.bipush 19, 2) := by decide +kernel
theorem dX10_oneMore_41 : decode cX10_oneMore 41 = .ok (.if_icmp .ne 12, 3) := by decide +kernel
theorem dX10_oneMore_44 : decode cX10_oneMore 44 = .ok (.aload_n 0, 1) := by decide +kernel
theorem dX10_oneMore_45 : decode cX10_oneMore 45 = .ok (.getfield 316, 3) := by decide +kernel
theorem dX10_oneMore_48 : decode cX10_oneMore 48 = .ok (.ifCond .eq 5, 3) := by decide +kernel
theorem dX10_oneMore_51 : decode cX10_oneMore 51 = .ok (.iconst 4, 1) := by decide +kernel
theorem dX10_oneMore_52 : decode cX10_oneMore 52 = .ok (.ireturn, 1) := by decide +kernel
theorem dX10_oneMore_53 : decode cX10_oneMore 53 = .ok (.aload_n 0, 1) := by decide +kernel
theorem dX10_oneMore_54 : decode cX10_oneMore 54 = .ok (.getfield 45, 3) := by decide +kernel
theorem dX10_oneMore_57 : decode cX10_oneMore 57 = .ok (.aload_n 0, 1) := by decide +kernel
theorem dX10_oneMore_58 : decode cX10_oneMore 58 = .ok (.getfield 134, 3) := by decide +kernel
theorem dX10_oneMore_61 : decode cX10_oneMore 61 = .ok (.iadd, 1) := by decide +kernel
theorem dX10_oneMore_62 : decode cX10_oneMore 62 = .ok (.i2l, 1) := by decide +kernel
theorem dX10_oneMore_63 : decode cX10_oneMore 63 = .ok (.lstore_n 1, 1) := by decide +kernel
theorem dX10_oneMore_64 : decode cX10_oneMore 64 = .ok (.aload_n 0, 1) := by decide +kernel
theorem dX10_oneMore_65 : decode cX10_oneMore 65 = .ok (.getfield 107, 3) := by decide +kernel
theorem dX10_oneMore_68 : decode cX10_oneMore 68 = .ok (.bipush 19, 2) := by decide +kernel
theorem dX10_oneMore_70 : decode cX10_oneMore 70 = .ok (.if_icmp .ge 10, 3) := by decide +kernel
theorem dX10_oneMore_73 : decode cX10_oneMore 73 = .ok (.aload_n 0, 1) := by decide +kernel
theorem dX10_oneMore_74 : decode cX10_oneMore 74 = .ok (.invokevirtual 360, 3) := by decide +kernel
theorem dX10_oneMore_77 : decode cX10_oneMore 77 = .ok (.goto 37, 3) := by decide +kernel
theorem dX10_oneMore_80 : decode cX10_oneMore 80 = .ok (.aload_n 0, 1) := by decide +kernel
theorem dX10_oneMore_81 : decode cX10_oneMore 81 = .ok (.getfield 107, 3) := by decide +kernel
theorem dX10_oneMore_84 : decode cX10_oneMore 84 = .ok (.bipush 20, 2) := by decide +kernel
theorem dX10_oneMore_86 : decode cX10_oneMore 86 = .ok (.if_icmp .eq 23, 3) := by decide +kernel
theorem dX10_oneMore_89 : decode cX10_oneMore 89 = .ok (.aload_n 0, 1) := by decide +kernel
theorem dX10_oneMore_90 : decode cX10_oneMore 90 = .ok (.getfield 107, 3) := by decide +kernel
theorem dX10_oneMore_93 : decode cX10_oneMore 93 = .ok (.bipush 19, 2) := by decide +kernel
theorem dX10_oneMore_95 : decode cX10_oneMore 95 = .ok (.if_icmp .ne 19, 3) := by decide +kernel
theorem dX10_oneMore_98 : decode cX10_oneMore 98 = .ok (.aload_n 0, 1) := by decide +kernel
theorem dX10_oneMore_99 : decode cX10_oneMore 99 = .ok (.aload_n 0, 1) := by decide +kernel
theorem dX10_oneMore_100 : decode cX10_oneMore 100 = .ok (.getfield 120, 3) := by decide +kernel
theorem dX10_oneMore_103 : decode cX10_oneMore 103 = .ok (.invokevirtual 363, 3) := by decide +kernel
theorem dX10_oneMore_106 : decode cX10_oneMore 106 = .ok (.ifCond .eq 8, 3) := by decide +kernel
theorem dX10_oneMore_109 : decode cX10_oneMore 109 = .ok (.aload_n 0, 1) := by decide +kernel
theorem dX10_oneMore_110 : decode cX10_oneMore 110 = .ok (.getfield 116, 3) := by decide +kernel
theorem dX10_oneMore_113 : decode cX10_oneMore 113 = .ok (.lstore_n 1, 1) := by decide +kernel
theorem dX10_oneMore_114 : decode cX10_oneMore 114 = .ok (.aload_n 0, 1) := by decide +kernel
theorem dX10_oneMore_115 : decode cX10_oneMore 115 = .ok (.lload_n 1, 1) := by decide +kernel
theorem dX10_oneMore_116 : decode cX10_oneMore 116 = .ok (.lconst 0, 1) := by decide +kernel
theorem dX10_oneMore_117 : decode cX10_oneMore 117 = .ok (.aload_n 0, 1) := by decide +kernel
theorem dX10_oneMore_118 : decode cX10_oneMore 118 = .ok (.getfield 71, 3) := by decide +kernel
theorem dX10_oneMore_121 : decode cX10_oneMore 121 = .ok (.iconst 1, 1) := by decide +kernel
theorem dX10_oneMore_122 : decode cX10_oneMore 122 = .ok (.isub, 1) := by decide +kernel
theorem dX10_oneMore_123 : decode cX10_oneMore 123 = .ok (.i2l, 1) := by decide +kernel
theorem dX10_oneMore_124 : decode cX10_oneMore 124 = .ok (.invokestatic 67, 3) := by decide +kernel
theorem dX10_oneMore_127 : decode cX10_oneMore 127 = .ok (.ifCond .eq 8, 3) := by decide +kernel
theorem dX10_oneMore_130 : decode cX10_oneMore 130 = .ok (.lload_n 1, 1) := by decide +kernel
theorem dX10_oneMore_131 : decode cX10_oneMore 131 = .ok (.l2i, 1) := by decide +kernel
theorem dX10_oneMore_132 : decode cX10_oneMore 132 = .ok (.goto 5, 3) := by decide +kernel
theorem dX10_oneMore_135 : decode cX10_oneMore 135 = .ok (.bipush (-2), 2) := by decide +kernel
theorem dX10_oneMore_137 : decode cX10_oneMore 137 = .ok (.putfield 45, 3) := by decide +kernel
theorem dX10_oneMore_140 : decode cX10_oneMore 140 = .ok (.iconst 0, 1) := by decide +kernel
theorem dX10_oneMore_141 : decode cX10_oneMore 141 = .ok (.ireturn, 1) := by decide +kernel
theorem dX10_go_0 : decode cX10_go 0 = .ok (.aload_n 0, 1) := by decide +kernel
theorem dX10_go_1 : decode cX10_go 1 = .ok (.iload_n 1, 1) := by decide +kernel
theorem dX10_go_2 : decode cX10_go 2 = .ok (.i2l, 1) := by decide +kernel
theorem dX10_go_3 : decode cX10_go 3 = .ok (.lconst 1, 1) := by decide +kernel
theorem dX10_go_4 : decode cX10_go 4 = .ok (.ldc2_w 366, 3) := by decide +kernel
theorem dX10_go_7 : decode cX10_go 7 = .ok (.invokestatic 67, 3) := by decide +kernel
theorem dX10_go_10 : decode cX10_go 10 = .ok (.ifCond .ne 7, 3) := by decide +kernel
theorem dX10_go_13 : decode cX10_go 13 = .ok (.iconst 1, 1) := by decide +kernel
theorem dX10_go_14 : decode cX10_go 14 = .ok (.goto 15, 3) := by decide +kernel
theorem dX10_go_17 : decode cX10_go 17 = .ok (.aload_n 0, 1) := by decide +kernel
theorem dX10_go_18 : decode cX10_go 18 = .ok (.getfield 62, 3) := by decide +kernel
theorem dX10_go_21 : decode cX10_go 21 = .ok (.ifCond .ne 7, 3) := by decide +kernel
theorem dX10_go_24 : decode cX10_go 24 = .ok (.iconst 2, 1) := by decide +kernel
theorem dX10_go_25 : decode cX10_go 25 = .ok (.goto 4, 3) := by decide +kernel
theorem dX10_go_28 : decode cX10_go 28 = .ok (.iconst 0, 1) := by decide +kernel
theorem dX10_go_29 : decode cX10_go 29 = .ok (.invokevirtual 74, 3) := by decide +kernel
theorem dX10_go_32 : decode cX10_go 32 = .ok (.ifCond .eq 5, 3) := by decide +kernel
theorem dX10_go_35 : decode cX10_go 35 = .ok (.iconst 0, 1) := by decide +kernel
theorem dX10_go_36 : decode cX10_go 36 = .ok (.ireturn, 1) := by decide +kernel
theorem dX10_go_37 : decode cX10_go 37 = .ok (.iconst 0, 1) := by decide +kernel
theorem dX10_go_38 : decode cX10_go 38 = .ok (.istore_n 2, 1) := by decide +kernel
theorem dX10_go_39 : decode cX10_go 39 = .ok (.iload_n 2, 1) := by decide +kernel
theorem dX10_go_40 : decode cX10_go 40 = .ok (.iload_n 1, 1) := by decide +kernel
theorem dX10_go_41 : decode cX10_go 41 = .ok (.if_icmp .ge 20, 3) := by decide +kernel
theorem dX10_go_44 : decode cX10_go 44 = .ok (.aload_n 0, 1) := by decide +kernel
theorem dX10_go_45 : decode cX10_go 45 = .ok (.invokevirtual 368, 3) := by decide +kernel
theorem dX10_go_48 : decode cX10_go 48 = .ok (.istore_n 3, 1) := by decide +kernel
theorem dX10_go_49 : decode cX10_go 49 = .ok (.iload_n 3, 1) := by decide +kernel
theorem dX10_go_50 : decode cX10_go 50 = .ok (.ifCond .le 5, 3) := by decide +kernel
theorem dX10_go_53 : decode cX10_go 53 = .ok (.iload_n 3, 1) := by decide +kernel
theorem dX10_go_54 : decode cX10_go 54 = .ok (.ireturn, 1) := by decide +kernel
theorem dX10_go_55 : decode cX10_go 55 = .ok (.iinc 2 1, 3) := by decide +kernel
theorem dX10_go_58 : decode cX10_go 58 = .ok (.goto (-19), 3) := by decide +kernel
theorem dX10_go_61 : decode cX10_go 61 = .ok (.iconst 0, 1) := by decide +kernel
theorem dX10_go_62 : decode cX10_go 62 = .ok (.ireturn, 1) := by decide +kernel
theorem dX10_at_0 : decode cX10_at 0 = .ok (.aload_n 0, 1) := by decide +kernel
theorem dX10_at_1 : decode cX10_at 1 = .ok (.iconst 0, 1) := by decide +kernel
theorem dX10_at_2 : decode cX10_at 2 = .ok (.putfield 55, 3) := by decide +kernel
theorem dX10_at_5 : decode cX10_at 5 = .ok (.aload_n 0, 1) := by decide +kernel
theorem dX10_at_6 : decode cX10_at 6 = .ok (.getfield 45, 3) := by decide +kernel
theorem dX10_at_9 : decode cX10_at 9 = .ok (.ireturn, 1) := by decide +kernel
theorem dX10_value_0 : decode cX10_value 0 = .ok (.aload_n 0, 1) := by decide +kernel
theorem dX10_value_1 : decode cX10_value 1 = .ok (.iload_n 1, 1) := by decide +kernel
theorem dX10_value_2 : decode cX10_value 2 = .ok (.invokestatic 310, 3) := by decide +kernel
theorem dX10_value_5 : decode cX10_value 5 = .ok (.ifCond .eq 7, 3) := by decide +kernel
theorem dX10_value_8 : decode cX10_value 8 = .ok (.iconst 0, 1) := by decide +kernel
theorem dX10_value_9 : decode cX10_value 9 = .ok (.goto 4, 3) := by decide +kernel
theorem dX10_value_12 : decode cX10_value 12 = .ok (.iconst 1, 1) := by decide +kernel
theorem dX10_value_13 : decode cX10_value 13 = .ok (.invokevirtual 74, 3) := by decide +kernel
theorem dX10_value_16 : decode cX10_value 16 = .ok (.ifCond .eq 5, 3) := by decide +kernel
theorem dX10_value_19 : decode cX10_value 19 = .ok (.lconst 0, 1) := by decide +kernel
theorem dX10_value_20 : decode cX10_value 20 = .ok (.lreturn, 1) := by decide +kernel
theorem dX10_value_21 : decode cX10_value 21 = .ok (.aload_n 0, 1) := by decide +kernel
theorem dX10_value_22 : decode cX10_value 22 = .ok (.getfield 62, 3) := by decide +kernel
theorem dX10_value_25 : decode cX10_value 25 = .ok (.ifCond .eq 12, 3) := by decide +kernel
theorem dX10_value_28 : decode cX10_value 28 = .ok (.aload_n 0, 1) := by decide +kernel
theorem dX10_value_29 : decode cX10_value 29 = .ok (.getfield 52, 3) := by decide +kernel
theorem dX10_value_32 : decode cX10_value 32 = .ok (.iload_n 1, 1) := by decide +kernel
theorem dX10_value_33 : decode cX10_value 33 = .ok (.laload, 1) := by decide +kernel
theorem dX10_value_34 : decode cX10_value 34 = .ok (.goto 4, 3) := by decide +kernel
theorem dX10_value_37 : decode cX10_value 37 = .ok (.lconst 0, 1) := by decide +kernel
theorem dX10_value_38 : decode cX10_value 38 = .ok (.lreturn, 1) := by decide +kernel
