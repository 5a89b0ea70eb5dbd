theorem dX0_init_0 : decode cX0_init 0 = .ok (.aload_n 0, 1) := by decide +kernel
theorem dX0_init_1 : decode cX0_init 1 = .ok (.invokespecial 3, 3) := by decide +kernel
theorem dX0_init_4 : decode cX0_init 4 = .ok (.aload_n 0, 1) := by decide +kernel
theorem dX0_init_5 : decode cX0_init 5 = .ok (.bipush 10, 2) := by decide +kernel
theorem dX0_init_7 : decode cX0_init 7 = .ok (.newarray .int, 2) := by decide +kernel
theorem dX0_init_9 : decode cX0_init 9 = .ok (.putfield 9, 3) := by decide +kernel
theorem dX0_init_12 : decode cX0_init 12 = .ok (.aload_n 0, 1) := by decide +kernel
theorem dX0_init_13 : decode cX0_init 13 = .ok (.bipush 10, 2) := by decide +kernel
theorem dX0_init_15 : decode cX0_init 15 = .ok (.newarray .int, 2) := by decide +kernel
theorem dX0_init_17 : decode cX0_init 17 = .ok (.putfield 15, 3) := by decide +kernel
theorem dX0_init_20 : decode cX0_init 20 = .ok (.aload_n 0, 1) := by decide +kernel
theorem dX0_init_21 : decode cX0_init 21 = .ok (.bipush 10, 2) := by decide +kernel
theorem dX0_init_23 : decode cX0_init 23 = .ok (.newarray .int, 2) := by decide +kernel
theorem dX0_init_25 : decode cX0_init 25 = .ok (.putfield 18, 3) := by decide +kernel
theorem dX0_init_28 : decode cX0_init 28 = .ok (.aload_n 0, 1) := by decide +kernel
theorem dX0_init_29 : decode cX0_init 29 = .ok (.bipush 10, 2) := by decide +kernel
theorem dX0_init_31 : decode cX0_init 31 = .ok (.bipush 9, 2) := by decide +kernel
theorem dX0_init_33 : decode cX0_init 33 = .ok (.multianewarray 21 2, 4) := by decide +kernel
theorem dX0_init_37 : decode cX0_init 37 = .ok (.putfield 23, 3) := by decide +kernel
theorem dX0_init_40 : decode cX0_init 40 = .ok (.return_, 1) := by decide +kernel
theorem dX0_restart_0 : decode cX0_restart 0 = .ok (.iconst 0, 1) := by decide +kernel
theorem dX0_restart_1 : decode cX0_restart 1 = .ok (.istore_n 2, 1) := by decide +kernel
theorem dX0_restart_2 : decode cX0_restart 2 = .ok (.iload_n 2, 1) := by decide +kernel
theorem dX0_restart_3 : decode cX0_restart 3 = .ok (.bipush 10, 2) := by decide +kernel
theorem dX0_restart_5 : decode cX0_restart 5 = .ok (.if_icmp .ge 30, 3) := by decide +kernel
theorem dX0_restart_8 : decode cX0_restart 8 = .ok (.aload_n 0, 1) := by decide +kernel
theorem dX0_restart_9 : decode cX0_restart 9 = .ok (.getfield 9, 3) := by decide +kernel
theorem dX0_restart_12 : decode cX0_restart 12 = .ok (.iload_n 2, 1) := by decide +kernel
theorem dX0_restart_13 : decode cX0_restart 13 = .ok (.iconst (-1), 1) := by decide +kernel
theorem dX0_restart_14 : decode cX0_restart 14 = .ok (.iastore, 1) := by decide +kernel
theorem dX0_restart_15 : decode cX0_restart 15 = .ok (.aload_n 0, 1) := by decide +kernel
theorem dX0_restart_16 : decode cX0_restart 16 = .ok (.getfield 15, 3) := by decide +kernel
theorem dX0_restart_19 : decode cX0_restart 19 = .ok (.iload_n 2, 1) := by decide +kernel
theorem dX0_restart_20 : decode cX0_restart 20 = .ok (.iconst (-1), 1) := by decide +kernel
theorem dX0_restart_21 : decode cX0_restart 21 = .ok (.iastore, 1) := by decide +kernel
theorem dX0_restart_22 : decode cX0_restart 22 = .ok (.aload_n 0, 1) := by decide +kernel
theorem dX0_restart_23 : decode cX0_restart 23 = .ok (.getfield 18, 3) := by decide +kernel
theorem dX0_restart_26 : decode cX0_restart 26 = .ok (.iload_n 2, 1) := by decide +kernel
theorem dX0_restart_27 : decode cX0_restart 27 = .ok (.iconst 0, 1) := by decide +kernel
theorem dX0_restart_28 : decode cX0_restart 28 = .ok (.iastore, 1) := by decide +kernel
theorem dX0_restart_29 : decode cX0_restart 29 = .ok (.iinc 2 1, 3) := by decide +kernel
theorem dX0_restart_32 : decode cX0_restart 32 = .ok (.goto (-30), 3) := by decide +kernel
theorem dX0_restart_35 : decode cX0_restart 35 = .ok (.aload_n 0, 1) := by decide +kernel
theorem dX0_restart_36 : decode cX0_restart 36 = .ok (.getfield 9, 3) := by decide +kernel
theorem dX0_restart_39 : decode cX0_restart 39 = .ok (.iload_n 1, 1) := by decide +kernel
theorem dX0_restart_40 : decode cX0_restart 40 = .ok (.sipush 1000, 3) := by decide +kernel
theorem dX0_restart_43 : decode cX0_restart 43 = .ok (.iastore, 1) := by decide +kernel
theorem dX0_restart_44 : decode cX0_restart 44 = .ok (.aload_n 0, 1) := by decide +kernel
theorem dX0_restart_45 : decode cX0_restart 45 = .ok (.getfield 15, 3) := by decide +kernel
theorem dX0_restart_48 : decode cX0_restart 48 = .ok (.iload_n 1, 1) := by decide +kernel
theorem dX0_restart_49 : decode cX0_restart 49 = .ok (.iconst 0, 1) := by decide +kernel
theorem dX0_restart_50 : decode cX0_restart 50 = .ok (.iastore, 1) := by decide +kernel
theorem dX0_restart_51 : decode cX0_restart 51 = .ok (.return_, 1) := by decide +kernel
theorem dX0_offer_0 : decode cX0_offer 0 = .ok (.aload_n 0, 1) := by decide +kernel
theorem dX0_offer_1 : decode cX0_offer 1 = .ok (.getfield 9, 3) := by decide +kernel
theorem dX0_offer_4 : decode cX0_offer 4 = .ok (.iload_n 1, 1) := by decide +kernel
theorem dX0_offer_5 : decode cX0_offer 5 = .ok (.iaload, 1) := by decide +kernel
theorem dX0_offer_6 : decode cX0_offer 6 = .ok (.iconst (-1), 1) := by decide +kernel
theorem dX0_offer_7 : decode cX0_offer 7 = .ok (.if_icmp .ne 7, 3) := by decide +kernel
theorem dX0_offer_10 : decode cX0_offer 10 = .ok (.iconst 1, 1) := by decide +kernel
theorem dX0_offer_11 : decode cX0_offer 11 = .ok (.goto 4, 3) := by decide +kernel
theorem dX0_offer_14 : decode cX0_offer 14 = .ok (.iconst 0, 1) := by decide +kernel
theorem dX0_offer_15 : decode cX0_offer 15 = .ok (.istore 6, 2) := by decide +kernel
theorem dX0_offer_17 : decode cX0_offer 17 = .ok (.iload_n 3, 1) := by decide +kernel
theorem dX0_offer_18 : decode cX0_offer 18 = .ok (.aload_n 0, 1) := by decide +kernel
theorem dX0_offer_19 : decode cX0_offer 19 = .ok (.getfield 15, 3) := by decide +kernel
theorem dX0_offer_22 : decode cX0_offer 22 = .ok (.iload_n 1, 1) := by decide +kernel
theorem dX0_offer_23 : decode cX0_offer 23 = .ok (.iaload, 1) := by decide +kernel
theorem dX0_offer_24 : decode cX0_offer 24 = .ok (.if_icmp .ge 7, 3) := by decide +kernel
theorem dX0_offer_27 : decode cX0_offer 27 = .ok (.iconst 1, 1) := by decide +kernel
theorem dX0_offer_28 : decode cX0_offer 28 = .ok (.goto 4, 3) := by decide +kernel
theorem dX0_offer_31 : decode cX0_offer 31 = .ok (.iconst 0, 1) := by decide +kernel
theorem dX0_offer_32 : decode cX0_offer 32 = .ok (.istore 7, 2) := by decide +kernel
theorem dX0_offer_34 : decode cX0_offer 34 = .ok (.iload 5, 2) := by decide +kernel
theorem dX0_offer_36 : decode cX0_offer 36 = .ok (.aload_n 0, 1) := by decide +kernel
theorem dX0_offer_37 : decode cX0_offer 37 = .ok (.getfield 18, 3) := by decide +kernel
theorem dX0_offer_40 : decode cX0_offer 40 = .ok (.iload_n 1, 1) := by decide +kernel
theorem dX0_offer_41 : decode cX0_offer 41 = .ok (.iaload, 1) := by decide +kernel
theorem dX0_offer_42 : decode cX0_offer 42 = .ok (.if_icmp .ge 7, 3) := by decide +kernel
theorem dX0_offer_45 : decode cX0_offer 45 = .ok (.iconst 1, 1) := by decide +kernel
theorem dX0_offer_46 : decode cX0_offer 46 = .ok (.goto 4, 3) := by decide +kernel
theorem dX0_offer_49 : decode cX0_offer 49 = .ok (.iconst 0, 1) := by decide +kernel
theorem dX0_offer_50 : decode cX0_offer 50 = .ok (.istore 8, 2) := by decide +kernel
theorem dX0_offer_52 : decode cX0_offer 52 = .ok (.iload_n 2, 1) := by decide +kernel
theorem dX0_offer_53 : decode cX0_offer 53 = .ok (.aload_n 0, 1) := by decide +kernel
theorem dX0_offer_54 : decode cX0_offer 54 = .ok (.getfield 9, 3) := by decide +kernel
theorem dX0_offer_57 : decode cX0_offer 57 = .ok (.iload_n 1, 1) := by decide +kernel
theorem dX0_offer_58 : decode cX0_offer 58 = .ok (.iaload, 1) := by decide +kernel
theorem dX0_offer_59 : decode cX0_offer 59 = .ok (.if_icmp .gt 33, 3) := by decide +kernel
theorem dX0_offer_62 : decode cX0_offer 62 = .ok (.iload_n 2, 1) := by decide +kernel
theorem dX0_offer_63 : decode cX0_offer 63 = .ok (.aload_n 0, 1) := by decide +kernel
theorem dX0_offer_64 : decode cX0_offer 64 = .ok (.getfield 9, 3) := by decide +kernel
theorem dX0_offer_67 : decode cX0_offer 67 = .ok (.iload_n 1, 1) := by decide +kernel
theorem dX0_offer_68 : decode cX0_offer 68 = .ok (.iaload, 1) := by decide +kernel
theorem dX0_offer_69 : decode cX0_offer 69 = .ok (.if_icmp .ne 27, 3) := by decide +kernel
theorem dX0_offer_72 : decode cX0_offer 72 = .ok (.iload 7, 2) := by decide +kernel
theorem dX0_offer_74 : decode cX0_offer 74 = .ok (.ifCond .ne 18, 3) := by decide +kernel
theorem dX0_offer_77 : decode cX0_offer 77 = .ok (.iload_n 3, 1) := by decide +kernel
theorem dX0_offer_78 : decode cX0_offer 78 = .ok (.aload_n 0, 1) := by decide +kernel
theorem dX0_offer_79 : decode cX0_offer 79 = .ok (.getfield 15, 3) := by decide +kernel
theorem dX0_offer_82 : decode cX0_offer 82 = .ok (.iload_n 1, 1) := by decide +kernel
theorem dX0_offer_83 : decode cX0_offer 83 = .ok (.iaload, 1) := by decide +kernel
theorem dX0_offer_84 : decode cX0_offer 84 = .ok (.if_icmp .ne 12, 3) := by decide +kernel
theorem dX0_offer_87 : decode cX0_offer 87 = .ok (.iload 8, 2) := by decide +kernel
theorem dX0_offer_89 : decode cX0_offer 89 = .ok (.ifCond .eq 7, 3) := by decide +kernel
theorem dX0_offer_92 : decode cX0_offer 92 = .ok (.iconst 1, 1) := by decide +kernel
theorem dX0_offer_93 : decode cX0_offer 93 = .ok (.goto 4, 3) := by decide +kernel
theorem dX0_offer_96 : decode cX0_offer 96 = .ok (.iconst 0, 1) := by decide +kernel
theorem dX0_offer_97 : decode cX0_offer 97 = .ok (.istore 9, 2) := by decide +kernel
theorem dX0_offer_99 : decode cX0_offer 99 = .ok (.iload 6, 2) := by decide +kernel
theorem dX0_offer_101 : decode cX0_offer 101 = .ok (.ifCond .ne 8, 3) := by decide +kernel
theorem dX0_offer_104 : decode cX0_offer 104 = .ok (.iload 9, 2) := by decide +kernel
theorem dX0_offer_106 : decode cX0_offer 106 = .ok (.ifCond .eq 55, 3) := by decide +kernel
theorem dX0_offer_109 : decode cX0_offer 109 = .ok (.aload_n 0, 1) := by decide +kernel
theorem dX0_offer_110 : decode cX0_offer 110 = .ok (.getfield 9, 3) := by decide +kernel
theorem dX0_offer_113 : decode cX0_offer 113 = .ok (.iload_n 1, 1) := by decide +kernel
theorem dX0_offer_114 : decode cX0_offer 114 = .ok (.iload_n 2, 1) := by decide +kernel
theorem dX0_offer_115 : decode cX0_offer 115 = .ok (.iastore, 1) := by decide +kernel
theorem dX0_offer_116 : decode cX0_offer 116 = .ok (.aload_n 0, 1) := by decide +kernel
theorem dX0_offer_117 : decode cX0_offer 117 = .ok (.getfield 15, 3) := by decide +kernel
theorem dX0_offer_120 : decode cX0_offer 120 = .ok (.iload_n 1, 1) := by decide +kernel
theorem dX0_offer_121 : decode cX0_offer 121 = .ok (.iload_n 3, 1) := by decide +kernel
theorem dX0_offer_122 : decode cX0_offer 122 = .ok (.iastore, 1) := by decide +kernel
theorem dX0_offer_123 : decode cX0_offer 123 = .ok (.aload_n 0, 1) := by decide +kernel
theorem dX0_offer_124 : decode cX0_offer 124 = .ok (.getfield 18, 3) := by decide +kernel
theorem dX0_offer_127 : decode cX0_offer 127 = .ok (.iload_n 1, 1) := by decide +kernel
theorem dX0_offer_128 : decode cX0_offer 128 = .ok (.iload 5, 2) := by decide +kernel
theorem dX0_offer_130 : decode cX0_offer 130 = .ok (.iastore, 1) := by decide +kernel
theorem dX0_offer_131 : decode cX0_offer 131 = .ok (.iconst 0, 1) := by decide +kernel
theorem dX0_offer_132 : decode cX0_offer 132 = .ok (.istore 10, 2) := by decide +kernel
theorem dX0_offer_134 : decode cX0_offer 134 = .ok (.iload 10, 2) := by decide +kernel
theorem dX0_offer_136 : decode cX0_offer 136 = .ok (.iload 5, 2) := by decide +kernel
theorem dX0_offer_138 : decode cX0_offer 138 = .ok (.if_icmp .ge 23, 3) := by decide +kernel
theorem dX0_offer_141 : decode cX0_offer 141 = .ok (.aload_n 0, 1) := by decide +kernel
theorem dX0_offer_142 : decode cX0_offer 142 = .ok (.getfield 23, 3) := by decide +kernel
theorem dX0_offer_145 : decode cX0_offer 145 = .ok (.iload_n 1, 1) := by decide +kernel
theorem dX0_offer_146 : decode cX0_offer 146 = .ok (.aaload, 1) := by decide +kernel
theorem dX0_offer_147 : decode cX0_offer 147 = .ok (.iload 10, 2) := by decide +kernel
theorem dX0_offer_149 : decode cX0_offer 149 = .ok (.aload 4, 2) := by decide +kernel
theorem dX0_offer_151 : decode cX0_offer 151 = .ok (.iload 10, 2) := by decide +kernel
theorem dX0_offer_153 : decode cX0_offer 153 = .ok (.iaload, 1) := by decide +kernel
theorem dX0_offer_154 : decode cX0_offer 154 = .ok (.iastore, 1) := by decide +kernel
theorem dX0_offer_155 : decode cX0_offer 155 = .ok (.iinc 10 1, 3) := by decide +kernel
theorem dX0_offer_158 : decode cX0_offer 158 = .ok (.goto (-24), 3) := by decide +kernel
theorem dX0_offer_161 : decode cX0_offer 161 = .ok (.iload 6, 2) := by decide +kernel
theorem dX0_offer_163 : decode cX0_offer 163 = .ok (.ifCond .ne 18, 3) := by decide +kernel
theorem dX0_offer_166 : decode cX0_offer 166 = .ok (.iload 9, 2) := by decide +kernel
theorem dX0_offer_168 : decode cX0_offer 168 = .ok (.ifCond .ne 13, 3) := by decide +kernel
theorem dX0_offer_171 : decode cX0_offer 171 = .ok (.iload 7, 2) := by decide +kernel
theorem dX0_offer_173 : decode cX0_offer 173 = .ok (.ifCond .ne 8, 3) := by decide +kernel
theorem dX0_offer_176 : decode cX0_offer 176 = .ok (.iload 8, 2) := by decide +kernel
theorem dX0_offer_178 : decode cX0_offer 178 = .ok (.ifCond .eq 7, 3) := by decide +kernel
theorem dX0_offer_181 : decode cX0_offer 181 = .ok (.iconst 1, 1) := by decide +kernel
theorem dX0_offer_182 : decode cX0_offer 182 = .ok (.goto 4, 3) := by decide +kernel
theorem dX0_offer_185 : decode cX0_offer 185 = .ok (.iconst 0, 1) := by decide +kernel
theorem dX0_offer_186 : decode cX0_offer 186 = .ok (.ireturn, 1) := by decide +kernel
theorem dX1_init_0 : decode cX1_init 0 = .ok (.aload_n 0, 1) := by decide +kernel
theorem dX1_init_1 : decode cX1_init 1 = .ok (.invokespecial 3, 3) := by decide +kernel
theorem dX1_init_4 : decode cX1_init 4 = .ok (.aload_n 0, 1) := by decide +kernel
theorem dX1_init_5 : decode cX1_init 5 = .ok (.iload_n 1, 1) := by decide +kernel
theorem dX1_init_6 : decode cX1_init 6 = .ok (.putfield 9, 3) := by decide +kernel
theorem dX1_init_9 : decode cX1_init 9 = .ok (.aload_n 0, 1) := by decide +kernel
theorem dX1_init_10 : decode cX1_init 10 = .ok (.iload_n 2, 1) := by decide +kernel
theorem dX1_init_11 : decode cX1_init 11 = .ok (.putfield 15, 3) := by decide +kernel
theorem dX1_init_14 : decode cX1_init 14 = .ok (.aload_n 0, 1) := by decide +kernel
theorem dX1_init_15 : decode cX1_init 15 = .ok (.iload_n 3, 1) := by decide +kernel
theorem dX1_init_16 : decode cX1_init 16 = .ok (.putfield 18, 3) := by decide +kernel
theorem dX1_init_19 : decode cX1_init 19 = .ok (.aload_n 0, 1) := by decide +kernel
theorem dX1_init_20 : decode cX1_init 20 = .ok (.iload 4, 2) := by decide +kernel
theorem dX1_init_22 : decode cX1_init 22 = .ok (.putfield 21, 3) := by decide +kernel
theorem dX1_init_25 : decode cX1_init 25 = .ok (.aload_n 0, 1) := by decide +kernel
theorem dX1_init_26 : decode cX1_init 26 = .ok (.iload 5, 2) := by decide +kernel
theorem dX1_init_28 : decode cX1_init 28 = .ok (.putfield 24, 3) := by decide +kernel
theorem dX1_init_31 : decode cX1_init 31 = .ok (.return_, 1) := by decide +kernel
theorem dX1_goesOn_0 : decode cX1_goesOn 0 = .ok (.aload_n 0, 1) := by decide +kernel
theorem dX1_goesOn_1 : decode cX1_goesOn 1 = .ok (.getfield 27, 3) := by decide +kernel
theorem dX1_goesOn_4 : decode cX1_goesOn 4 = .ok (.ifCond .ne 18, 3) := by decide +kernel
theorem dX1_goesOn_7 : decode cX1_goesOn 7 = .ok (.iload_n 1, 1) := by decide +kernel
theorem dX1_goesOn_8 : decode cX1_goesOn 8 = .ok (.iconst 1, 1) := by decide +kernel
theorem dX1_goesOn_9 : decode cX1_goesOn 9 = .ok (.aload_n 0, 1) := by decide +kernel
theorem dX1_goesOn_10 : decode cX1_goesOn 10 = .ok (.getfield 18, 3) := by decide +kernel
theorem dX1_goesOn_13 : decode cX1_goesOn 13 = .ok (.ishl, 1) := by decide +kernel
theorem dX1_goesOn_14 : decode cX1_goesOn 14 = .ok (.iand, 1) := by decide +kernel
theorem dX1_goesOn_15 : decode cX1_goesOn 15 = .ok (.ifCond .ne 7, 3) := by decide +kernel
theorem dX1_goesOn_18 : decode cX1_goesOn 18 = .ok (.iconst 1, 1) := by decide +kernel
theorem dX1_goesOn_19 : decode cX1_goesOn 19 = .ok (.goto 4, 3) := by decide +kernel
theorem dX1_goesOn_22 : decode cX1_goesOn 22 = .ok (.iconst 0, 1) := by decide +kernel
theorem dX1_goesOn_23 : decode cX1_goesOn 23 = .ok (.ireturn, 1) := by decide +kernel
theorem dX1_qualityAfter_0 : decode cX1_qualityAfter 0 = .ok (.iload_n 1, 1) := by decide +kernel
theorem dX1_qualityAfter_1 : decode cX1_qualityAfter 1 = .ok (.sipush 1000, 3) := by decide +kernel
theorem dX1_qualityAfter_4 : decode cX1_qualityAfter 4 = .ok (.aload_n 0, 1) := by decide +kernel
theorem dX1_qualityAfter_5 : decode cX1_qualityAfter 5 = .ok (.getfield 21, 3) := by decide +kernel
theorem dX1_qualityAfter_8 : decode cX1_qualityAfter 8 = .ok (.isub, 1) := by decide +kernel
theorem dX1_qualityAfter_9 : decode cX1_qualityAfter 9 = .ok (.imul, 1) := by decide +kernel
theorem dX1_qualityAfter_10 : decode cX1_qualityAfter 10 = .ok (.sipush 1000, 3) := by decide +kernel
theorem dX1_qualityAfter_13 : decode cX1_qualityAfter 13 = .ok (.idiv, 1) := by decide +kernel
theorem dX1_qualityAfter_14 : decode cX1_qualityAfter 14 = .ok (.ireturn, 1) := by decide +kernel
theorem dX2_init_0 : decode cX2_init 0 = .ok (.aload_n 0, 1) := by decide +kernel
theorem dX2_init_1 : decode cX2_init 1 = .ok (.invokespecial 1, 3) := by decide +kernel
theorem dX2_init_4 : decode cX2_init 4 = .ok (.aload_n 0, 1) := by decide +kernel
theorem dX2_init_5 : decode cX2_init 5 = .ok (.bipush 10, 2) := by decide +kernel
theorem dX2_init_7 : decode cX2_init 7 = .ok (.putfield 7, 3) := by decide +kernel
theorem dX2_init_10 : decode cX2_init 10 = .ok (.aload_n 0, 1) := by decide +kernel
theorem dX2_init_11 : decode cX2_init 11 = .ok (.iconst 0, 1) := by decide +kernel
theorem dX2_init_12 : decode cX2_init 12 = .ok (.putfield 13, 3) := by decide +kernel
theorem dX2_init_15 : decode cX2_init 15 = .ok (.aload_n 0, 1) := by decide +kernel
theorem dX2_init_16 : decode cX2_init 16 = .ok (.iconst 5, 1) := by decide +kernel
theorem dX2_init_17 : decode cX2_init 17 = .ok (.putfield 16, 3) := by decide +kernel
theorem dX2_init_20 : decode cX2_init 20 = .ok (.return_, 1) := by decide +kernel
theorem dX3_init_0 : decode cX3_init 0 = .ok (.aload_n 0, 1) := by decide +kernel
theorem dX3_init_1 : decode cX3_init 1 = .ok (.invokespecial 3, 3) := by decide +kernel
theorem dX3_init_4 : decode cX3_init 4 = .ok (.aload_n 0, 1) := by decide +kernel
theorem dX3_init_5 : decode cX3_init 5 = .ok (.bipush 30, 2) := by decide +kernel
theorem dX3_init_7 : decode cX3_init 7 = .ok (.anewarray 9, 3) := by decide +kernel
theorem dX3_init_10 : decode cX3_init 10 = .ok (.putfield 11, 3) := by decide +kernel
theorem dX3_init_13 : decode cX3_init 13 = .ok (.aload_n 0, 1) := by decide +kernel
theorem dX3_init_14 : decode cX3_init 14 = .ok (.bipush 10, 2) := by decide +kernel
theorem dX3_init_16 : decode cX3_init 16 = .ok (.anewarray 9, 3) := by decide +kernel
theorem dX3_init_19 : decode cX3_init 19 = .ok (.putfield 17, 3) := by decide +kernel
theorem dX3_init_22 : decode cX3_init 22 = .ok (.aload_n 0, 1) := by decide +kernel
theorem dX3_init_23 : decode cX3_init 23 = .ok (.bipush 10, 2) := by decide +kernel
theorem dX3_init_25 : decode cX3_init 25 = .ok (.anewarray 9, 3) := by decide +kernel
theorem dX3_init_28 : decode cX3_init 28 = .ok (.putfield 20, 3) := by decide +kernel
theorem dX3_init_31 : decode cX3_init 31 = .ok (.aload_n 0, 1) := by decide +kernel
theorem dX3_init_32 : decode cX3_init 32 = .ok (.bipush 10, 2) := by decide +kernel
theorem dX3_init_34 : decode cX3_init 34 = .ok (.anewarray 23, 3) := by decide +kernel
theorem dX3_init_37 : decode cX3_init 37 = .ok (.putfield 25, 3) := by decide +kernel
theorem dX3_init_40 : decode cX3_init 40 = .ok (.aload_n 0, 1) := by decide +kernel
theorem dX3_init_41 : decode cX3_init 41 = .ok (.bipush 9, 2) := by decide +kernel
theorem dX3_init_43 : decode cX3_init 43 = .ok (.newarray .int, 2) := by decide +kernel
theorem dX3_init_45 : decode cX3_init 45 = .ok (.putfield 29, 3) := by decide +kernel
theorem dX3_init_48 : decode cX3_init 48 = .ok (.iconst 0, 1) := by decide +kernel
theorem dX3_init_49 : decode cX3_init 49 = .ok (.istore_n 1, 1) := by decide +kernel
theorem dX3_init_50 : decode cX3_init 50 = .ok (.iload_n 1, 1) := by decide +kernel
theorem dX3_init_51 : decode cX3_init 51 = .ok (.bipush 10, 2) := by decide +kernel
theorem dX3_init_53 : decode cX3_init 53 = .ok (.if_icmp .ge 22, 3) := by decide +kernel
theorem dX3_init_56 : decode cX3_init 56 = .ok (.aload_n 0, 1) := by decide +kernel
theorem dX3_init_57 : decode cX3_init 57 = .ok (.getfield 25, 3) := by decide +kernel
theorem dX3_init_60 : decode cX3_init 60 = .ok (.iload_n 1, 1) := by decide +kernel
theorem dX3_init_61 : decode cX3_init 61 = .ok (.new 23, 3) := by decide +kernel
theorem dX3_init_64 : decode cX3_init 64 = .ok (.dup, 1) := by decide +kernel
theorem dX3_init_65 : decode cX3_init 65 = .ok (.invokespecial 33, 3) := by decide +kernel
theorem dX3_init_68 : decode cX3_init 68 = .ok (.aastore, 1) := by decide +kernel
theorem dX3_init_69 : decode cX3_init 69 = .ok (.iinc 1 1, 3) := by decide +kernel
theorem dX3_init_72 : decode cX3_init 72 = .ok (.goto (-22), 3) := by decide +kernel
theorem dX3_init_75 : decode cX3_init 75 = .ok (.return_, 1) := by decide +kernel
theorem dX3_add_0 : decode cX3_add 0 = .ok (.aload_n 0, 1) := by decide +kernel
theorem dX3_add_1 : decode cX3_add 1 = .ok (.getfield 20, 3) := by decide +kernel
theorem dX3_add_4 : decode cX3_add 4 = .ok (.aload_n 1, 1) := by decide +kernel
theorem dX3_add_5 : decode cX3_add 5 = .ok (.getfield 34, 3) := by decide +kernel
theorem dX3_add_8 : decode cX3_add 8 = .ok (.aaload, 1) := by decide +kernel
theorem dX3_add_9 : decode cX3_add 9 = .ok (.astore_n 2, 1) := by decide +kernel
theorem dX3_add_10 : decode cX3_add 10 = .ok (.aload_n 2, 1) := by decide +kernel
theorem dX3_add_11 : decode cX3_add 11 = .ok (.ifnonnull 16, 3) := by decide +kernel
theorem dX3_add_14 : decode cX3_add 14 = .ok (.aload_n 0, 1) := by decide +kernel
theorem dX3_add_15 : decode cX3_add 15 = .ok (.getfield 17, 3) := by decide +kernel
theorem dX3_add_18 : decode cX3_add 18 = .ok (.aload_n 1, 1) := by decide +kernel
theorem dX3_add_19 : decode cX3_add 19 = .ok (.getfield 34, 3) := by decide +kernel
theorem dX3_add_22 : decode cX3_add 22 = .ok (.aload_n 1, 1) := by decide +kernel
theorem dX3_add_23 : decode cX3_add 23 = .ok (.aastore, 1) := by decide +kernel
theorem dX3_add_24 : decode cX3_add 24 = .ok (.goto 8, 3) := by decide +kernel
theorem dX3_add_27 : decode cX3_add 27 = .ok (.aload_n 2, 1) := by decide +kernel
theorem dX3_add_28 : decode cX3_add 28 = .ok (.aload_n 1, 1) := by decide +kernel
theorem dX3_add_29 : decode cX3_add 29 = .ok (.putfield 38, 3) := by decide +kernel
theorem dX3_add_32 : decode cX3_add 32 = .ok (.aload_n 0, 1) := by decide +kernel
theorem dX3_add_33 : decode cX3_add 33 = .ok (.getfield 20, 3) := by decide +kernel
theorem dX3_add_36 : decode cX3_add 36 = .ok (.aload_n 1, 1) := by decide +kernel
theorem dX3_add_37 : decode cX3_add 37 = .ok (.getfield 34, 3) := by decide +kernel
theorem dX3_add_40 : decode cX3_add 40 = .ok (.aload_n 1, 1) := by decide +kernel
theorem dX3_add_41 : decode cX3_add 41 = .ok (.aastore, 1) := by decide +kernel
theorem dX3_add_42 : decode cX3_add 42 = .ok (.aload_n 0, 1) := by decide +kernel
theorem dX3_add_43 : decode cX3_add 43 = .ok (.getfield 11, 3) := by decide +kernel
theorem dX3_add_46 : decode cX3_add 46 = .ok (.aload_n 0, 1) := by decide +kernel
theorem dX3_add_47 : decode cX3_add 47 = .ok (.getfield 42, 3) := by decide +kernel
theorem dX3_add_50 : decode cX3_add 50 = .ok (.aload_n 1, 1) := by decide +kernel
theorem dX3_add_51 : decode cX3_add 51 = .ok (.aastore, 1) := by decide +kernel
theorem dX3_add_52 : decode cX3_add 52 = .ok (.aload_n 0, 1) := by decide +kernel
theorem dX3_add_53 : decode cX3_add 53 = .ok (.dup, 1) := by decide +kernel
theorem dX3_add_54 : decode cX3_add 54 = .ok (.getfield 42, 3) := by decide +kernel
theorem dX3_add_57 : decode cX3_add 57 = .ok (.iconst 1, 1) := by decide +kernel
theorem dX3_add_58 : decode cX3_add 58 = .ok (.iadd, 1) := by decide +kernel
theorem dX3_add_59 : decode cX3_add 59 = .ok (.putfield 42, 3) := by decide +kernel
theorem dX3_add_62 : decode cX3_add 62 = .ok (.aload_n 0, 1) := by decide +kernel
theorem dX3_add_63 : decode cX3_add 63 = .ok (.invokevirtual 45, 3) := by decide +kernel
theorem dX3_add_66 : decode cX3_add 66 = .ok (.aload_n 1, 1) := by decide +kernel
theorem dX3_add_67 : decode cX3_add 67 = .ok (.getfield 48, 3) := by decide +kernel
theorem dX3_add_70 : decode cX3_add 70 = .ok (.ireturn, 1) := by decide +kernel
theorem dX3_withdrawOne_0 : decode cX3_withdrawOne 0 = .ok (.aload_n 0, 1) := by decide +kernel
theorem dX3_withdrawOne_1 : decode cX3_withdrawOne 1 = .ok (.getfield 11, 3) := by decide +kernel
theorem dX3_withdrawOne_4 : decode cX3_withdrawOne 4 = .ok (.iload_n 1, 1) := by decide +kernel
theorem dX3_withdrawOne_5 : decode cX3_withdrawOne 5 = .ok (.aaload, 1) := by decide +kernel
theorem dX3_withdrawOne_6 : decode cX3_withdrawOne 6 = .ok (.iconst 1, 1) := by decide +kernel
theorem dX3_withdrawOne_7 : decode cX3_withdrawOne 7 = .ok (.putfield 51, 3) := by decide +kernel
theorem dX3_withdrawOne_10 : decode cX3_withdrawOne 10 = .ok (.aload_n 0, 1) := by decide +kernel
theorem dX3_withdrawOne_11 : decode cX3_withdrawOne 11 = .ok (.invokevirtual 45, 3) := by decide +kernel
theorem dX3_withdrawOne_14 : decode cX3_withdrawOne 14 = .ok (.return_, 1) := by decide +kernel
theorem dX3_forgetWays_0 : decode cX3_forgetWays 0 = .ok (.iconst 0, 1) := by decide +kernel
theorem dX3_forgetWays_1 : decode cX3_forgetWays 1 = .ok (.istore_n 1, 1) := by decide +kernel
theorem dX3_forgetWays_2 : decode cX3_forgetWays 2 = .ok (.iload_n 1, 1) := by decide +kernel
theorem dX3_forgetWays_3 : decode cX3_forgetWays 3 = .ok (.bipush 10, 2) := by decide +kernel
theorem dX3_forgetWays_5 : decode cX3_forgetWays 5 = .ok (.if_icmp .ge 19, 3) := by decide +kernel
theorem dX3_forgetWays_8 : decode cX3_forgetWays 8 = .ok (.aload_n 0, 1) := by decide +kernel
theorem dX3_forgetWays_9 : decode cX3_forgetWays 9 = .ok (.getfield 25, 3) := by decide +kernel
theorem dX3_forgetWays_12 : decode cX3_forgetWays 12 = .ok (.iload_n 1, 1) := by decide +kernel
theorem dX3_forgetWays_13 : decode cX3_forgetWays 13 = .ok (.aaload, 1) := by decide +kernel
theorem dX3_forgetWays_14 : decode cX3_forgetWays 14 = .ok (.iconst 0, 1) := by decide +kernel
theorem dX3_forgetWays_15 : decode cX3_forgetWays 15 = .ok (.putfield 55, 3) := by decide +kernel
theorem dX3_forgetWays_18 : decode cX3_forgetWays 18 = .ok (.iinc 1 1, 3) := by decide +kernel
theorem dX3_forgetWays_21 : decode cX3_forgetWays 21 = .ok (.goto (-19), 3) := by decide +kernel
theorem dX3_forgetWays_24 : decode cX3_forgetWays 24 = .ok (.return_, 1) := by decide +kernel
theorem dX3_waysFrom_0 : decode cX3_waysFrom 0 = .ok (.aload_n 0, 1) := by decide +kernel
theorem dX3_waysFrom_1 : decode cX3_waysFrom 1 = .ok (.getfield 25, 3) := by decide +kernel
theorem dX3_waysFrom_4 : decode cX3_waysFrom 4 = .ok (.iload_n 1, 1) := by decide +kernel
theorem dX3_waysFrom_5 : decode cX3_waysFrom 5 = .ok (.aaload, 1) := by decide +kernel
theorem dX3_waysFrom_6 : decode cX3_waysFrom 6 = .ok (.astore_n 2, 1) := by decide +kernel
theorem dX3_waysFrom_7 : decode cX3_waysFrom 7 = .ok (.aload_n 2, 1) := by decide +kernel
theorem dX3_waysFrom_8 : decode cX3_waysFrom 8 = .ok (.getfield 55, 3) := by decide +kernel
theorem dX3_waysFrom_11 : decode cX3_waysFrom 11 = .ok (.ifCond .ne 27, 3) := by decide +kernel
theorem dX3_waysFrom_14 : decode cX3_waysFrom 14 = .ok (.aload_n 2, 1) := by decide +kernel
theorem dX3_waysFrom_15 : decode cX3_waysFrom 15 = .ok (.iload_n 1, 1) := by decide +kernel
theorem dX3_waysFrom_16 : decode cX3_waysFrom 16 = .ok (.invokevirtual 58, 3) := by decide +kernel
theorem dX3_waysFrom_19 : decode cX3_waysFrom 19 = .ok (.aload_n 0, 1) := by decide +kernel
theorem dX3_waysFrom_20 : decode cX3_waysFrom 20 = .ok (.aload_n 2, 1) := by decide +kernel
theorem dX3_waysFrom_21 : decode cX3_waysFrom 21 = .ok (.iload_n 1, 1) := by decide +kernel
theorem dX3_waysFrom_22 : decode cX3_waysFrom 22 = .ok (.iconst 1, 1) := by decide +kernel
theorem dX3_waysFrom_23 : decode cX3_waysFrom 23 = .ok (.iload_n 1, 1) := by decide +kernel
theorem dX3_waysFrom_24 : decode cX3_waysFrom 24 = .ok (.ishl, 1) := by decide +kernel
theorem dX3_waysFrom_25 : decode cX3_waysFrom 25 = .ok (.iconst 0, 1) := by decide +kernel
theorem dX3_waysFrom_26 : decode cX3_waysFrom 26 = .ok (.sipush 1000, 3) := by decide +kernel
theorem dX3_waysFrom_29 : decode cX3_waysFrom 29 = .ok (.iconst 0, 1) := by decide +kernel
theorem dX3_waysFrom_30 : decode cX3_waysFrom 30 = .ok (.invokestatic 62, 3) := by decide +kernel
theorem dX3_waysFrom_33 : decode cX3_waysFrom 33 = .ok (.aload_n 2, 1) := by decide +kernel
theorem dX3_waysFrom_34 : decode cX3_waysFrom 34 = .ok (.iconst 1, 1) := by decide +kernel
theorem dX3_waysFrom_35 : decode cX3_waysFrom 35 = .ok (.putfield 55, 3) := by decide +kernel
theorem dX3_waysFrom_38 : decode cX3_waysFrom 38 = .ok (.aload_n 2, 1) := by decide +kernel
theorem dX3_waysFrom_39 : decode cX3_waysFrom 39 = .ok (.areturn, 1) := by decide +kernel
theorem dX3_greatestOfAllWays_0 : decode cX3_greatestOfAllWays 0 = .ok (.aload_n 0, 1) := by decide +kernel
theorem dX3_greatestOfAllWays_1 : decode cX3_greatestOfAllWays 1 = .ok (.iload_n 1, 1) := by decide +kernel
theorem dX3_greatestOfAllWays_2 : decode cX3_greatestOfAllWays 2 = .ok (.iload_n 2, 1) := by decide +kernel
theorem dX3_greatestOfAllWays_3 : decode cX3_greatestOfAllWays 3 = .ok (.iconst 1, 1) := by decide +kernel
theorem dX3_greatestOfAllWays_4 : decode cX3_greatestOfAllWays 4 = .ok (.iload_n 1, 1) := by decide +kernel
theorem dX3_greatestOfAllWays_5 : decode cX3_greatestOfAllWays 5 = .ok (.ishl, 1) := by decide +kernel
theorem dX3_greatestOfAllWays_6 : decode cX3_greatestOfAllWays 6 = .ok (.iconst 0, 1) := by decide +kernel
theorem dX3_greatestOfAllWays_7 : decode cX3_greatestOfAllWays 7 = .ok (.sipush 1000, 3) := by decide +kernel
theorem dX3_greatestOfAllWays_10 : decode cX3_greatestOfAllWays 10 = .ok (.invokestatic 66, 3) := by decide +kernel
theorem dX3_greatestOfAllWays_13 : decode cX3_greatestOfAllWays 13 = .ok (.ireturn, 1) := by decide +kernel
theorem dX3_qualityBehind_0 : decode cX3_qualityBehind 0 = .ok (.iload_n 3, 1) := by decide +kernel
theorem dX3_qualityBehind_1 : decode cX3_qualityBehind 1 = .ok (.istore 4, 2) := by decide +kernel
theorem dX3_qualityBehind_3 : decode cX3_qualityBehind 3 = .ok (.iconst 0, 1) := by decide +kernel
theorem dX3_qualityBehind_4 : decode cX3_qualityBehind 4 = .ok (.istore 5, 2) := by decide +kernel
theorem dX3_qualityBehind_6 : decode cX3_qualityBehind 6 = .ok (.iload 5, 2) := by decide +kernel
theorem dX3_qualityBehind_8 : decode cX3_qualityBehind 8 = .ok (.aload_n 1, 1) := by decide +kernel
theorem dX3_qualityBehind_9 : decode cX3_qualityBehind 9 = .ok (.getfield 70, 3) := by decide +kernel
theorem dX3_qualityBehind_12 : decode cX3_qualityBehind 12 = .ok (.iload_n 2, 1) := by decide +kernel
theorem dX3_qualityBehind_13 : decode cX3_qualityBehind 13 = .ok (.iaload, 1) := by decide +kernel
theorem dX3_qualityBehind_14 : decode cX3_qualityBehind 14 = .ok (.if_icmp .ge 30, 3) := by decide +kernel
theorem dX3_qualityBehind_17 : decode cX3_qualityBehind 17 = .ok (.aload_n 0, 1) := by decide +kernel
theorem dX3_qualityBehind_18 : decode cX3_qualityBehind 18 = .ok (.getfield 11, 3) := by decide +kernel
theorem dX3_qualityBehind_21 : decode cX3_qualityBehind 21 = .ok (.aload_n 1, 1) := by decide +kernel
theorem dX3_qualityBehind_22 : decode cX3_qualityBehind 22 = .ok (.getfield 73, 3) := by decide +kernel
theorem dX3_qualityBehind_25 : decode cX3_qualityBehind 25 = .ok (.iload_n 2, 1) := by decide +kernel
theorem dX3_qualityBehind_26 : decode cX3_qualityBehind 26 = .ok (.aaload, 1) := by decide +kernel
theorem dX3_qualityBehind_27 : decode cX3_qualityBehind 27 = .ok (.iload 5, 2) := by decide +kernel
theorem dX3_qualityBehind_29 : decode cX3_qualityBehind 29 = .ok (.iaload, 1) := by decide +kernel
theorem dX3_qualityBehind_30 : decode cX3_qualityBehind 30 = .ok (.aaload, 1) := by decide +kernel
theorem dX3_qualityBehind_31 : decode cX3_qualityBehind 31 = .ok (.iload 4, 2) := by decide +kernel
theorem dX3_qualityBehind_33 : decode cX3_qualityBehind 33 = .ok (.invokevirtual 77, 3) := by decide +kernel
theorem dX3_qualityBehind_36 : decode cX3_qualityBehind 36 = .ok (.istore 4, 2) := by decide +kernel
theorem dX3_qualityBehind_38 : decode cX3_qualityBehind 38 = .ok (.iinc 5 1, 3) := by decide +kernel
theorem dX3_qualityBehind_41 : decode cX3_qualityBehind 41 = .ok (.goto (-35), 3) := by decide +kernel
theorem dX3_qualityBehind_44 : decode cX3_qualityBehind 44 = .ok (.iload 4, 2) := by decide +kernel
theorem dX3_qualityBehind_46 : decode cX3_qualityBehind 46 = .ok (.ireturn, 1) := by decide +kernel
theorem dX3_search_0 : decode cX3_search 0 = .ok (.iload 4, 2) := by decide +kernel
theorem dX3_search_2 : decode cX3_search 2 = .ok (.bipush 9, 2) := by decide +kernel
theorem dX3_search_4 : decode cX3_search 4 = .ok (.if_icmp .lt 4, 3) := by decide +kernel
theorem dX3_search_7 : decode cX3_search 7 = .ok (.return_, 1) := by decide +kernel
theorem dX3_search_8 : decode cX3_search 8 = .ok (.aload_n 0, 1) := by decide +kernel
theorem dX3_search_9 : decode cX3_search 9 = .ok (.getfield 17, 3) := by decide +kernel
theorem dX3_search_12 : decode cX3_search 12 = .ok (.iload_n 2, 1) := by decide +kernel
theorem dX3_search_13 : decode cX3_search 13 = .ok (.aaload, 1) := by decide +kernel
theorem dX3_search_14 : decode cX3_search 14 = .ok (.astore 7, 2) := by decide +kernel
theorem dX3_search_16 : decode cX3_search 16 = .ok (.aload 7, 2) := by decide +kernel
theorem dX3_search_18 : decode cX3_search 18 = .ok (.ifnull 104, 3) := by decide +kernel
theorem dX3_search_21 : decode cX3_search 21 = .ok (.aload 7, 2) := by decide +kernel
theorem dX3_search_23 : decode cX3_search 23 = .ok (.iload_n 3, 1) := by decide +kernel
theorem dX3_search_24 : decode cX3_search 24 = .ok (.invokevirtual 81, 3) := by decide +kernel
theorem dX3_search_27 : decode cX3_search 27 = .ok (.ifCond .eq 85, 3) := by decide +kernel
theorem dX3_search_30 : decode cX3_search 30 = .ok (.aload 7, 2) := by decide +kernel
theorem dX3_search_32 : decode cX3_search 32 = .ok (.iload 5, 2) := by decide +kernel
theorem dX3_search_34 : decode cX3_search 34 = .ok (.invokevirtual 77, 3) := by decide +kernel
theorem dX3_search_37 : decode cX3_search 37 = .ok (.istore 8, 2) := by decide +kernel
theorem dX3_search_39 : decode cX3_search 39 = .ok (.iload 6, 2) := by decide +kernel
theorem dX3_search_41 : decode cX3_search 41 = .ok (.aload 7, 2) := by decide +kernel
theorem dX3_search_43 : decode cX3_search 43 = .ok (.getfield 85, 3) := by decide +kernel
theorem dX3_search_46 : decode cX3_search 46 = .ok (.iadd, 1) := by decide +kernel
theorem dX3_search_47 : decode cX3_search 47 = .ok (.istore 9, 2) := by decide +kernel
theorem dX3_search_49 : decode cX3_search 49 = .ok (.aload_n 0, 1) := by decide +kernel
theorem dX3_search_50 : decode cX3_search 50 = .ok (.getfield 29, 3) := by decide +kernel
theorem dX3_search_53 : decode cX3_search 53 = .ok (.iload 4, 2) := by decide +kernel
theorem dX3_search_55 : decode cX3_search 55 = .ok (.aload 7, 2) := by decide +kernel
theorem dX3_search_57 : decode cX3_search 57 = .ok (.getfield 48, 3) := by decide +kernel
theorem dX3_search_60 : decode cX3_search 60 = .ok (.iastore, 1) := by decide +kernel
theorem dX3_search_61 : decode cX3_search 61 = .ok (.aload_n 1, 1) := by decide +kernel
theorem dX3_search_62 : decode cX3_search 62 = .ok (.aload 7, 2) := by decide +kernel
theorem dX3_search_64 : decode cX3_search 64 = .ok (.getfield 88, 3) := by decide +kernel
theorem dX3_search_67 : decode cX3_search 67 = .ok (.iload 8, 2) := by decide +kernel
theorem dX3_search_69 : decode cX3_search 69 = .ok (.iload 9, 2) := by decide +kernel
theorem dX3_search_71 : decode cX3_search 71 = .ok (.aload_n 0, 1) := by decide +kernel
theorem dX3_search_72 : decode cX3_search 72 = .ok (.getfield 29, 3) := by decide +kernel
theorem dX3_search_75 : decode cX3_search 75 = .ok (.iload 4, 2) := by decide +kernel
theorem dX3_search_77 : decode cX3_search 77 = .ok (.iconst 1, 1) := by decide +kernel
theorem dX3_search_78 : decode cX3_search 78 = .ok (.iadd, 1) := by decide +kernel
theorem dX3_search_79 : decode cX3_search 79 = .ok (.invokevirtual 91, 3) := by decide +kernel
theorem dX3_search_82 : decode cX3_search 82 = .ok (.ifCond .eq 30, 3) := by decide +kernel
theorem dX3_search_85 : decode cX3_search 85 = .ok (.aload_n 0, 1) := by decide +kernel
theorem dX3_search_86 : decode cX3_search 86 = .ok (.aload_n 1, 1) := by decide +kernel
theorem dX3_search_87 : decode cX3_search 87 = .ok (.aload 7, 2) := by decide +kernel
theorem dX3_search_89 : decode cX3_search 89 = .ok (.getfield 88, 3) := by decide +kernel
theorem dX3_search_92 : decode cX3_search 92 = .ok (.iload_n 3, 1) := by decide +kernel
theorem dX3_search_93 : decode cX3_search 93 = .ok (.iconst 1, 1) := by decide +kernel
theorem dX3_search_94 : decode cX3_search 94 = .ok (.aload 7, 2) := by decide +kernel
theorem dX3_search_96 : decode cX3_search 96 = .ok (.getfield 88, 3) := by decide +kernel
theorem dX3_search_99 : decode cX3_search 99 = .ok (.ishl, 1) := by decide +kernel
theorem dX3_search_100 : decode cX3_search 100 = .ok (.ior, 1) := by decide +kernel
theorem dX3_search_101 : decode cX3_search 101 = .ok (.iload 4, 2) := by decide +kernel
theorem dX3_search_103 : decode cX3_search 103 = .ok (.iconst 1, 1) := by decide +kernel
theorem dX3_search_104 : decode cX3_search 104 = .ok (.iadd, 1) := by decide +kernel
theorem dX3_search_105 : decode cX3_search 105 = .ok (.iload 8, 2) := by decide +kernel
theorem dX3_search_107 : decode cX3_search 107 = .ok (.iload 9, 2) := by decide +kernel
theorem dX3_search_109 : decode cX3_search 109 = .ok (.invokestatic 62, 3) := by decide +kernel
theorem dX3_search_112 : decode cX3_search 112 = .ok (.aload 7, 2) := by decide +kernel
theorem dX3_search_114 : decode cX3_search 114 = .ok (.getfield 38, 3) := by decide +kernel
theorem dX3_search_117 : decode cX3_search 117 = .ok (.astore 7, 2) := by decide +kernel
theorem dX3_search_119 : decode cX3_search 119 = .ok (.goto (-103), 3) := by decide +kernel
theorem dX3_search_122 : decode cX3_search 122 = .ok (.return_, 1) := by decide +kernel
theorem dX3_greatestQuality_0 : decode cX3_greatestQuality 0 = .ok (.iload_n 1, 1) := by decide +kernel
theorem dX3_greatestQuality_1 : decode cX3_greatestQuality 1 = .ok (.iload_n 2, 1) := by decide +kernel
theorem dX3_greatestQuality_2 : decode cX3_greatestQuality 2 = .ok (.if_icmp .ne 6, 3) := by decide +kernel
theorem dX3_greatestQuality_5 : decode cX3_greatestQuality 5 = .ok (.iload 5, 2) := by decide +kernel
theorem dX3_greatestQuality_7 : decode cX3_greatestQuality 7 = .ok (.ireturn, 1) := by decide +kernel
theorem dX3_greatestQuality_8 : decode cX3_greatestQuality 8 = .ok (.iload 4, 2) := by decide +kernel
theorem dX3_greatestQuality_10 : decode cX3_greatestQuality 10 = .ok (.bipush 9, 2) := by decide +kernel
theorem dX3_greatestQuality_12 : decode cX3_greatestQuality 12 = .ok (.if_icmp .lt 5, 3) := by decide +kernel
theorem dX3_greatestQuality_15 : decode cX3_greatestQuality 15 = .ok (.iconst (-1), 1) := by decide +kernel
theorem dX3_greatestQuality_16 : decode cX3_greatestQuality 16 = .ok (.ireturn, 1) := by decide +kernel
theorem dX3_greatestQuality_17 : decode cX3_greatestQuality 17 = .ok (.iconst (-1), 1) := by decide +kernel
theorem dX3_greatestQuality_18 : decode cX3_greatestQuality 18 = .ok (.istore 6, 2) := by decide +kernel
theorem dX3_greatestQuality_20 : decode cX3_greatestQuality 20 = .ok (.aload_n 0, 1) := by decide +kernel
theorem dX3_greatestQuality_21 : decode cX3_greatestQuality 21 = .ok (.getfield 17, 3) := by decide +kernel
theorem dX3_greatestQuality_24 : decode cX3_greatestQuality 24 = .ok (.iload_n 1, 1) := by decide +kernel
theorem dX3_greatestQuality_25 : decode cX3_greatestQuality 25 = .ok (.aaload, 1) := by decide +kernel
theorem dX3_greatestQuality_26 : decode cX3_greatestQuality 26 = .ok (.astore 7, 2) := by decide +kernel
theorem dX3_greatestQuality_28 : decode cX3_greatestQuality 28 = .ok (.aload 7, 2) := by decide +kernel
theorem dX3_greatestQuality_30 : decode cX3_greatestQuality 30 = .ok (.ifnull 59, 3) := by decide +kernel
theorem dX3_greatestQuality_33 : decode cX3_greatestQuality 33 = .ok (.aload 7, 2) := by decide +kernel
theorem dX3_greatestQuality_35 : decode cX3_greatestQuality 35 = .ok (.iload_n 3, 1) := by decide +kernel
theorem dX3_greatestQuality_36 : decode cX3_greatestQuality 36 = .ok (.invokevirtual 81, 3) := by decide +kernel
theorem dX3_greatestQuality_39 : decode cX3_greatestQuality 39 = .ok (.ifCond .eq 40, 3) := by decide +kernel
theorem dX3_greatestQuality_42 : decode cX3_greatestQuality 42 = .ok (.iload 6, 2) := by decide +kernel
theorem dX3_greatestQuality_44 : decode cX3_greatestQuality 44 = .ok (.aload_n 0, 1) := by decide +kernel
theorem dX3_greatestQuality_45 : decode cX3_greatestQuality 45 = .ok (.aload 7, 2) := by decide +kernel
theorem dX3_greatestQuality_47 : decode cX3_greatestQuality 47 = .ok (.getfield 88, 3) := by decide +kernel
theorem dX3_greatestQuality_50 : decode cX3_greatestQuality 50 = .ok (.iload_n 2, 1) := by decide +kernel
theorem dX3_greatestQuality_51 : decode cX3_greatestQuality 51 = .ok (.iload_n 3, 1) := by decide +kernel
theorem dX3_greatestQuality_52 : decode cX3_greatestQuality 52 = .ok (.iconst 1, 1) := by decide +kernel
theorem dX3_greatestQuality_53 : decode cX3_greatestQuality 53 = .ok (.aload 7, 2) := by decide +kernel
theorem dX3_greatestQuality_55 : decode cX3_greatestQuality 55 = .ok (.getfield 88, 3) := by decide +kernel
theorem dX3_greatestQuality_58 : decode cX3_greatestQuality 58 = .ok (.ishl, 1) := by decide +kernel
theorem dX3_greatestQuality_59 : decode cX3_greatestQuality 59 = .ok (.ior, 1) := by decide +kernel
theorem dX3_greatestQuality_60 : decode cX3_greatestQuality 60 = .ok (.iload 4, 2) := by decide +kernel
theorem dX3_greatestQuality_62 : decode cX3_greatestQuality 62 = .ok (.iconst 1, 1) := by decide +kernel
theorem dX3_greatestQuality_63 : decode cX3_greatestQuality 63 = .ok (.iadd, 1) := by decide +kernel
theorem dX3_greatestQuality_64 : decode cX3_greatestQuality 64 = .ok (.aload 7, 2) := by decide +kernel
theorem dX3_greatestQuality_66 : decode cX3_greatestQuality 66 = .ok (.iload 5, 2) := by decide +kernel
theorem dX3_greatestQuality_68 : decode cX3_greatestQuality 68 = .ok (.invokevirtual 77, 3) := by decide +kernel
theorem dX3_greatestQuality_71 : decode cX3_greatestQuality 71 = .ok (.invokestatic 66, 3) := by decide +kernel
theorem dX3_greatestQuality_74 : decode cX3_greatestQuality 74 = .ok (.invokestatic 95, 3) := by decide +kernel
theorem dX3_greatestQuality_77 : decode cX3_greatestQuality 77 = .ok (.istore 6, 2) := by decide +kernel
theorem dX3_greatestQuality_79 : decode cX3_greatestQuality 79 = .ok (.aload 7, 2) := by decide +kernel
theorem dX3_greatestQuality_81 : decode cX3_greatestQuality 81 = .ok (.getfield 38, 3) := by decide +kernel
theorem dX3_greatestQuality_84 : decode cX3_greatestQuality 84 = .ok (.astore 7, 2) := by decide +kernel
theorem dX3_greatestQuality_86 : decode cX3_greatestQuality 86 = .ok (.goto (-58), 3) := by decide +kernel
theorem dX3_greatestQuality_89 : decode cX3_greatestQuality 89 = .ok (.iload 6, 2) := by decide +kernel
theorem dX3_greatestQuality_91 : decode cX3_greatestQuality 91 = .ok (.ireturn, 1) := by decide +kernel
theorem dX4_init_0 : decode cX4_init 0 = .ok (.aload_n 0, 1) := by decide +kernel
theorem dX4_init_1 : decode cX4_init 1 = .ok (.invokespecial 3, 3) := by decide +kernel
theorem dX4_init_4 : decode cX4_init 4 = .ok (.aload_n 0, 1) := by decide +kernel
theorem dX4_init_5 : decode cX4_init 5 = .ok (.sipush 1000, 3) := by decide +kernel
theorem dX4_init_8 : decode cX4_init 8 = .ok (.putfield 9, 3) := by decide +kernel
theorem dX4_init_11 : decode cX4_init 11 = .ok (.aload_n 0, 1) := by decide +kernel
theorem dX4_init_12 : decode cX4_init 12 = .ok (.iconst 0, 1) := by decide +kernel
theorem dX4_init_13 : decode cX4_init 13 = .ok (.putfield 15, 3) := by decide +kernel
theorem dX4_init_16 : decode cX4_init 16 = .ok (.aload_n 0, 1) := by decide +kernel
theorem dX4_init_17 : decode cX4_init 17 = .ok (.iload_n 1, 1) := by decide +kernel
theorem dX4_init_18 : decode cX4_init 18 = .ok (.putfield 18, 3) := by decide +kernel
theorem dX4_init_21 : decode cX4_init 21 = .ok (.aload_n 0, 1) := by decide +kernel
theorem dX4_init_22 : decode cX4_init 22 = .ok (.iload_n 2, 1) := by decide +kernel
theorem dX4_init_23 : decode cX4_init 23 = .ok (.putfield 21, 3) := by decide +kernel
theorem dX4_init_26 : decode cX4_init 26 = .ok (.aload_n 0, 1) := by decide +kernel
theorem dX4_init_27 : decode cX4_init 27 = .ok (.aload_n 3, 1) := by decide +kernel
theorem dX4_init_28 : decode cX4_init 28 = .ok (.putfield 24, 3) := by decide +kernel
theorem dX4_init_31 : decode cX4_init 31 = .ok (.aload_n 0, 1) := by decide +kernel
theorem dX4_init_32 : decode cX4_init 32 = .ok (.iload 4, 2) := by decide +kernel
theorem dX4_init_34 : decode cX4_init 34 = .ok (.aload_n 3, 1) := by decide +kernel
theorem dX4_init_35 : decode cX4_init 35 = .ok (.getfield 28, 3) := by decide +kernel
theorem dX4_init_38 : decode cX4_init 38 = .ok (.iadd, 1) := by decide +kernel
theorem dX4_init_39 : decode cX4_init 39 = .ok (.putfield 33, 3) := by decide +kernel
theorem dX4_init_42 : decode cX4_init 42 = .ok (.aload_n 0, 1) := by decide +kernel
theorem dX4_init_43 : decode cX4_init 43 = .ok (.iload 4, 2) := by decide +kernel
theorem dX4_init_45 : decode cX4_init 45 = .ok (.putfield 36, 3) := by decide +kernel
theorem dX4_init_48 : decode cX4_init 48 = .ok (.return_, 1) := by decide +kernel
theorem dX5_init_0 : decode cX5_init 0 = .ok (.aload_n 0, 1) := by decide +kernel
theorem dX5_init_1 : decode cX5_init 1 = .ok (.invokespecial 3, 3) := by decide +kernel
theorem dX5_init_4 : decode cX5_init 4 = .ok (.aload_n 0, 1) := by decide +kernel
theorem dX5_init_5 : decode cX5_init 5 = .ok (.bipush 10, 2) := by decide +kernel
theorem dX5_init_7 : decode cX5_init 7 = .ok (.newarray .int, 2) := by decide +kernel
theorem dX5_init_9 : decode cX5_init 9 = .ok (.putfield 9, 3) := by decide +kernel
theorem dX5_init_12 : decode cX5_init 12 = .ok (.aload_n 0, 1) := by decide +kernel
theorem dX5_init_13 : decode cX5_init 13 = .ok (.iconst 5, 1) := by decide +kernel
theorem dX5_init_14 : decode cX5_init 14 = .ok (.anewarray 13, 3) := by decide +kernel
theorem dX5_init_17 : decode cX5_init 17 = .ok (.putfield 15, 3) := by decide +kernel
theorem dX5_init_20 : decode cX5_init 20 = .ok (.aload_n 0, 1) := by decide +kernel
theorem dX5_init_21 : decode cX5_init 21 = .ok (.bipush 40, 2) := by decide +kernel
theorem dX5_init_23 : decode cX5_init 23 = .ok (.anewarray 19, 3) := by decide +kernel
theorem dX5_init_26 : decode cX5_init 26 = .ok (.putfield 21, 3) := by decide +kernel
theorem dX5_init_29 : decode cX5_init 29 = .ok (.aload_n 0, 1) := by decide +kernel
theorem dX5_init_30 : decode cX5_init 30 = .ok (.new 25, 3) := by decide +kernel
theorem dX5_init_33 : decode cX5_init 33 = .ok (.dup, 1) := by decide +kernel
theorem dX5_init_34 : decode cX5_init 34 = .ok (.invokespecial 27, 3) := by decide +kernel
theorem dX5_init_37 : decode cX5_init 37 = .ok (.putfield 28, 3) := by decide +kernel
theorem dX5_init_40 : decode cX5_init 40 = .ok (.aload_n 0, 1) := by decide +kernel
theorem dX5_init_41 : decode cX5_init 41 = .ok (.sipush 1000, 3) := by decide +kernel
theorem dX5_init_44 : decode cX5_init 44 = .ok (.putfield 32, 3) := by decide +kernel
theorem dX5_init_47 : decode cX5_init 47 = .ok (.aload_n 0, 1) := by decide +kernel
theorem dX5_init_48 : decode cX5_init 48 = .ok (.sipush 1000, 3) := by decide +kernel
theorem dX5_init_51 : decode cX5_init 51 = .ok (.putfield 36, 3) := by decide +kernel
theorem dX5_init_54 : decode cX5_init 54 = .ok (.iconst 0, 1) := by decide +kernel
theorem dX5_init_55 : decode cX5_init 55 = .ok (.istore_n 1, 1) := by decide +kernel
theorem dX5_init_56 : decode cX5_init 56 = .ok (.iload_n 1, 1) := by decide +kernel
theorem dX5_init_57 : decode cX5_init 57 = .ok (.bipush 10, 2) := by decide +kernel
theorem dX5_init_59 : decode cX5_init 59 = .ok (.if_icmp .ge 16, 3) := by decide +kernel
theorem dX5_init_62 : decode cX5_init 62 = .ok (.aload_n 0, 1) := by decide +kernel
theorem dX5_init_63 : decode cX5_init 63 = .ok (.getfield 9, 3) := by decide +kernel
theorem dX5_init_66 : decode cX5_init 66 = .ok (.iload_n 1, 1) := by decide +kernel
theorem dX5_init_67 : decode cX5_init 67 = .ok (.iconst (-1), 1) := by decide +kernel
theorem dX5_init_68 : decode cX5_init 68 = .ok (.iastore, 1) := by decide +kernel
theorem dX5_init_69 : decode cX5_init 69 = .ok (.iinc 1 1, 3) := by decide +kernel
theorem dX5_init_72 : decode cX5_init 72 = .ok (.goto (-16), 3) := by decide +kernel
theorem dX5_init_75 : decode cX5_init 75 = .ok (.iconst 0, 1) := by decide +kernel
theorem dX5_init_76 : decode cX5_init 76 = .ok (.istore_n 1, 1) := by decide +kernel
theorem dX5_init_77 : decode cX5_init 77 = .ok (.iload_n 1, 1) := by decide +kernel
theorem dX5_init_78 : decode cX5_init 78 = .ok (.iconst 5, 1) := by decide +kernel
theorem dX5_init_79 : decode cX5_init 79 = .ok (.if_icmp .ge 22, 3) := by decide +kernel
theorem dX5_init_82 : decode cX5_init 82 = .ok (.aload_n 0, 1) := by decide +kernel
theorem dX5_init_83 : decode cX5_init 83 = .ok (.getfield 15, 3) := by decide +kernel
theorem dX5_init_86 : decode cX5_init 86 = .ok (.iload_n 1, 1) := by decide +kernel
theorem dX5_init_87 : decode cX5_init 87 = .ok (.new 13, 3) := by decide +kernel
theorem dX5_init_90 : decode cX5_init 90 = .ok (.dup, 1) := by decide +kernel
theorem dX5_init_91 : decode cX5_init 91 = .ok (.invokespecial 39, 3) := by decide +kernel
theorem dX5_init_94 : decode cX5_init 94 = .ok (.aastore, 1) := by decide +kernel
theorem dX5_init_95 : decode cX5_init 95 = .ok (.iinc 1 1, 3) := by decide +kernel
theorem dX5_init_98 : decode cX5_init 98 = .ok (.goto (-21), 3) := by decide +kernel
theorem dX5_init_101 : decode cX5_init 101 = .ok (.return_, 1) := by decide +kernel
theorem dX5_setLast_0 : decode cX5_setLast 0 = .ok (.iload_n 1, 1) := by decide +kernel
theorem dX5_setLast_1 : decode cX5_setLast 1 = .ok (.invokestatic 40, 3) := by decide +kernel
theorem dX5_setLast_4 : decode cX5_setLast 4 = .ok (.iload_n 2, 1) := by decide +kernel
theorem dX5_setLast_5 : decode cX5_setLast 5 = .ok (.iconst (-1), 1) := by decide +kernel
theorem dX5_setLast_6 : decode cX5_setLast 6 = .ok (.if_icmp .eq 14, 3) := by decide +kernel
theorem dX5_setLast_9 : decode cX5_setLast 9 = .ok (.iload_n 2, 1) := by decide +kernel
theorem dX5_setLast_10 : decode cX5_setLast 10 = .ok (.aload_n 0, 1) := by decide +kernel
theorem dX5_setLast_11 : decode cX5_setLast 11 = .ok (.getfield 44, 3) := by decide +kernel
theorem dX5_setLast_14 : decode cX5_setLast 14 = .ok (.sipush 1000, 3) := by decide +kernel
theorem dX5_setLast_17 : decode cX5_setLast 17 = .ok (.invokestatic 47, 3) := by decide +kernel
theorem dX5_setLast_20 : decode cX5_setLast 20 = .ok (.aload_n 0, 1) := by decide +kernel
theorem dX5_setLast_21 : decode cX5_setLast 21 = .ok (.iload_n 1, 1) := by decide +kernel
theorem dX5_setLast_22 : decode cX5_setLast 22 = .ok (.invokevirtual 51, 3) := by decide +kernel
theorem dX5_setLast_25 : decode cX5_setLast 25 = .ok (.aload_n 0, 1) := by decide +kernel
theorem dX5_setLast_26 : decode cX5_setLast 26 = .ok (.getfield 9, 3) := by decide +kernel
theorem dX5_setLast_29 : decode cX5_setLast 29 = .ok (.iload_n 1, 1) := by decide +kernel
theorem dX5_setLast_30 : decode cX5_setLast 30 = .ok (.iaload, 1) := by decide +kernel
theorem dX5_setLast_31 : decode cX5_setLast 31 = .ok (.istore_n 3, 1) := by decide +kernel
theorem dX5_setLast_32 : decode cX5_setLast 32 = .ok (.aload_n 0, 1) := by decide +kernel
theorem dX5_setLast_33 : decode cX5_setLast 33 = .ok (.getfield 9, 3) := by decide +kernel
theorem dX5_setLast_36 : decode cX5_setLast 36 = .ok (.iload_n 1, 1) := by decide +kernel
theorem dX5_setLast_37 : decode cX5_setLast 37 = .ok (.iload_n 2, 1) := by decide +kernel
theorem dX5_setLast_38 : decode cX5_setLast 38 = .ok (.iastore, 1) := by decide +kernel
theorem dX5_setLast_39 : decode cX5_setLast 39 = .ok (.iload_n 3, 1) := by decide +kernel
theorem dX5_setLast_40 : decode cX5_setLast 40 = .ok (.ireturn, 1) := by decide +kernel
theorem dX5_converter_0 : decode cX5_converter 0 = .ok (.iload_n 1, 1) := by decide +kernel
theorem dX5_converter_1 : decode cX5_converter 1 = .ok (.invokestatic 40, 3) := by decide +kernel
theorem dX5_converter_4 : decode cX5_converter 4 = .ok (.iload_n 2, 1) := by decide +kernel
theorem dX5_converter_5 : decode cX5_converter 5 = .ok (.invokestatic 40, 3) := by decide +kernel
theorem dX5_converter_8 : decode cX5_converter 8 = .ok (.iload_n 3, 1) := by decide +kernel
theorem dX5_converter_9 : decode cX5_converter 9 = .ok (.iconst 0, 1) := by decide +kernel
theorem dX5_converter_10 : decode cX5_converter 10 = .ok (.sipush 500, 3) := by decide +kernel
theorem dX5_converter_13 : decode cX5_converter 13 = .ok (.invokestatic 47, 3) := by decide +kernel
theorem dX5_converter_16 : decode cX5_converter 16 = .ok (.iload 4, 2) := by decide +kernel
theorem dX5_converter_18 : decode cX5_converter 18 = .ok (.iconst 0, 1) := by decide +kernel
theorem dX5_converter_19 : decode cX5_converter 19 = .ok (.bipush 100, 2) := by decide +kernel
theorem dX5_converter_21 : decode cX5_converter 21 = .ok (.invokestatic 47, 3) := by decide +kernel
theorem dX5_converter_24 : decode cX5_converter 24 = .ok (.iload_n 1, 1) := by decide +kernel
theorem dX5_converter_25 : decode cX5_converter 25 = .ok (.iload_n 2, 1) := by decide +kernel
theorem dX5_converter_26 : decode cX5_converter 26 = .ok (.if_icmp .ne 13, 3) := by decide +kernel
theorem dX5_converter_29 : decode cX5_converter 29 = .ok (.new 54, 3) := by decide +kernel
theorem dX5_converter_32 : decode cX5_converter 32 = .ok (.dup, 1) := by decide +kernel
theorem dX5_converter_33 : decode cX5_converter 33 = .ok (.ldc 56, 2) := by decide +kernel
theorem dX5_converter_35 : decode cX5_converter 35 = .ok (.invokespecial 58, 3) := by decide +kernel
theorem dX5_converter_38 : decode cX5_converter 38 = .ok (.athrow, 1) := by decide +kernel
theorem dX5_converter_39 : decode cX5_converter 39 = .ok (.aload_n 0, 1) := by decide +kernel
theorem dX5_converter_40 : decode cX5_converter 40 = .ok (.getfield 28, 3) := by decide +kernel
theorem dX5_converter_43 : decode cX5_converter 43 = .ok (.getfield 61, 3) := by decide +kernel
theorem dX5_converter_46 : decode cX5_converter 46 = .ok (.bipush 30, 2) := by decide +kernel
theorem dX5_converter_48 : decode cX5_converter 48 = .ok (.if_icmp .lt 13, 3) := by decide +kernel
theorem dX5_converter_51 : decode cX5_converter 51 = .ok (.new 64, 3) := by decide +kernel
theorem dX5_converter_54 : decode cX5_converter 54 = .ok (.dup, 1) := by decide +kernel
theorem dX5_converter_55 : decode cX5_converter 55 = .ok (.ldc 66, 2) := by decide +kernel
theorem dX5_converter_57 : decode cX5_converter 57 = .ok (.invokespecial 68, 3) := by decide +kernel
theorem dX5_converter_60 : decode cX5_converter 60 = .ok (.athrow, 1) := by decide +kernel
theorem dX5_converter_61 : decode cX5_converter 61 = .ok (.aload_n 0, 1) := by decide +kernel
theorem dX5_converter_62 : decode cX5_converter 62 = .ok (.getfield 28, 3) := by decide +kernel
theorem dX5_converter_65 : decode cX5_converter 65 = .ok (.new 69, 3) := by decide +kernel
theorem dX5_converter_68 : decode cX5_converter 68 = .ok (.dup, 1) := by decide +kernel
theorem dX5_converter_69 : decode cX5_converter 69 = .ok (.aload_n 0, 1) := by decide +kernel
theorem dX5_converter_70 : decode cX5_converter 70 = .ok (.getfield 28, 3) := by decide +kernel
theorem dX5_converter_73 : decode cX5_converter 73 = .ok (.getfield 61, 3) := by decide +kernel
theorem dX5_converter_76 : decode cX5_converter 76 = .ok (.iload_n 1, 1) := by decide +kernel
theorem dX5_converter_77 : decode cX5_converter 77 = .ok (.iload_n 2, 1) := by decide +kernel
theorem dX5_converter_78 : decode cX5_converter 78 = .ok (.iload_n 3, 1) := by decide +kernel
theorem dX5_converter_79 : decode cX5_converter 79 = .ok (.iload 4, 2) := by decide +kernel
theorem dX5_converter_81 : decode cX5_converter 81 = .ok (.invokespecial 71, 3) := by decide +kernel
theorem dX5_converter_84 : decode cX5_converter 84 = .ok (.invokevirtual 74, 3) := by decide +kernel
theorem dX5_converter_87 : decode cX5_converter 87 = .ok (.ireturn, 1) := by decide +kernel
theorem dX5_withdraw_0 : decode cX5_withdraw 0 = .ok (.iload_n 1, 1) := by decide +kernel
theorem dX5_withdraw_1 : decode cX5_withdraw 1 = .ok (.ifCond .lt 14, 3) := by decide +kernel
theorem dX5_withdraw_4 : decode cX5_withdraw 4 = .ok (.iload_n 1, 1) := by decide +kernel
theorem dX5_withdraw_5 : decode cX5_withdraw 5 = .ok (.aload_n 0, 1) := by decide +kernel
theorem dX5_withdraw_6 : decode cX5_withdraw 6 = .ok (.getfield 28, 3) := by decide +kernel
theorem dX5_withdraw_9 : decode cX5_withdraw 9 = .ok (.getfield 61, 3) := by decide +kernel
theorem dX5_withdraw_12 : decode cX5_withdraw 12 = .ok (.if_icmp .lt 13, 3) := by decide +kernel
theorem dX5_withdraw_15 : decode cX5_withdraw 15 = .ok (.new 78, 3) := by decide +kernel
theorem dX5_withdraw_18 : decode cX5_withdraw 18 = .ok (.dup, 1) := by decide +kernel
theorem dX5_withdraw_19 : decode cX5_withdraw 19 = .ok (.ldc 80, 2) := by decide +kernel
theorem dX5_withdraw_21 : decode cX5_withdraw 21 = .ok (.invokespecial 82, 3) := by decide +kernel
theorem dX5_withdraw_24 : decode cX5_withdraw 24 = .ok (.athrow, 1) := by decide +kernel
theorem dX5_withdraw_25 : decode cX5_withdraw 25 = .ok (.aload_n 0, 1) := by decide +kernel
theorem dX5_withdraw_26 : decode cX5_withdraw 26 = .ok (.getfield 28, 3) := by decide +kernel
theorem dX5_withdraw_29 : decode cX5_withdraw 29 = .ok (.getfield 83, 3) := by decide +kernel
theorem dX5_withdraw_32 : decode cX5_withdraw 32 = .ok (.iload_n 1, 1) := by decide +kernel
theorem dX5_withdraw_33 : decode cX5_withdraw 33 = .ok (.aaload, 1) := by decide +kernel
theorem dX5_withdraw_34 : decode cX5_withdraw 34 = .ok (.getfield 87, 3) := by decide +kernel
theorem dX5_withdraw_37 : decode cX5_withdraw 37 = .ok (.ifCond .eq 13, 3) := by decide +kernel
theorem dX5_withdraw_40 : decode cX5_withdraw 40 = .ok (.new 64, 3) := by decide +kernel
theorem dX5_withdraw_43 : decode cX5_withdraw 43 = .ok (.dup, 1) := by decide +kernel
theorem dX5_withdraw_44 : decode cX5_withdraw 44 = .ok (.ldc 91, 2) := by decide +kernel
theorem dX5_withdraw_46 : decode cX5_withdraw 46 = .ok (.invokespecial 68, 3) := by decide +kernel
theorem dX5_withdraw_49 : decode cX5_withdraw 49 = .ok (.athrow, 1) := by decide +kernel
theorem dX5_withdraw_50 : decode cX5_withdraw 50 = .ok (.aload_n 0, 1) := by decide +kernel
theorem dX5_withdraw_51 : decode cX5_withdraw 51 = .ok (.invokevirtual 93, 3) := by decide +kernel
theorem dX5_withdraw_54 : decode cX5_withdraw 54 = .ok (.lstore_n 2, 1) := by decide +kernel
theorem dX5_withdraw_55 : decode cX5_withdraw 55 = .ok (.aload_n 0, 1) := by decide +kernel
theorem dX5_withdraw_56 : decode cX5_withdraw 56 = .ok (.getfield 28, 3) := by decide +kernel
theorem dX5_withdraw_59 : decode cX5_withdraw 59 = .ok (.iload_n 1, 1) := by decide +kernel
theorem dX5_withdraw_60 : decode cX5_withdraw 60 = .ok (.invokevirtual 97, 3) := by decide +kernel
theorem dX5_withdraw_63 : decode cX5_withdraw 63 = .ok (.lload_n 2, 1) := by decide +kernel
theorem dX5_withdraw_64 : decode cX5_withdraw 64 = .ok (.aload_n 0, 1) := by decide +kernel
theorem dX5_withdraw_65 : decode cX5_withdraw 65 = .ok (.invokevirtual 93, 3) := by decide +kernel
theorem dX5_withdraw_68 : decode cX5_withdraw 68 = .ok (.ldc2_w 100, 3) := by decide +kernel
theorem dX5_withdraw_71 : decode cX5_withdraw 71 = .ok (.lxor, 1) := by decide +kernel
theorem dX5_withdraw_72 : decode cX5_withdraw 72 = .ok (.land, 1) := by decide +kernel
theorem dX5_withdraw_73 : decode cX5_withdraw 73 = .ok (.invokestatic 102, 3) := by decide +kernel
theorem dX5_withdraw_76 : decode cX5_withdraw 76 = .ok (.ireturn, 1) := by decide +kernel
theorem dX5_law_0 : decode cX5_law 0 = .ok (.aload_n 0, 1) := by decide +kernel
theorem dX5_law_1 : decode cX5_law 1 = .ok (.iload_n 1, 1) := by decide +kernel
theorem dX5_law_2 : decode cX5_law 2 = .ok (.invokevirtual 108, 3) := by decide +kernel
theorem dX5_law_5 : decode cX5_law 5 = .ok (.astore 5, 2) := by decide +kernel
theorem dX5_law_7 : decode cX5_law 7 = .ok (.iload_n 2, 1) := by decide +kernel
theorem dX5_law_8 : decode cX5_law 8 = .ok (.iconst 1, 1) := by decide +kernel
theorem dX5_law_9 : decode cX5_law 9 = .ok (.bipush 100, 2) := by decide +kernel
theorem dX5_law_11 : decode cX5_law 11 = .ok (.invokestatic 47, 3) := by decide +kernel
theorem dX5_law_14 : decode cX5_law 14 = .ok (.iload_n 3, 1) := by decide +kernel
theorem dX5_law_15 : decode cX5_law 15 = .ok (.iconst 0, 1) := by decide +kernel
theorem dX5_law_16 : decode cX5_law 16 = .ok (.sipush 1000, 3) := by decide +kernel
theorem dX5_law_19 : decode cX5_law 19 = .ok (.invokestatic 47, 3) := by decide +kernel
theorem dX5_law_22 : decode cX5_law 22 = .ok (.iload 4, 2) := by decide +kernel
theorem dX5_law_24 : decode cX5_law 24 = .ok (.iconst 1, 1) := by decide +kernel
theorem dX5_law_25 : decode cX5_law 25 = .ok (.bipush 50, 2) := by decide +kernel
theorem dX5_law_27 : decode cX5_law 27 = .ok (.invokestatic 47, 3) := by decide +kernel
theorem dX5_law_30 : decode cX5_law 30 = .ok (.aload 5, 2) := by decide +kernel
theorem dX5_law_32 : decode cX5_law 32 = .ok (.iload_n 2, 1) := by decide +kernel
theorem dX5_law_33 : decode cX5_law 33 = .ok (.putfield 112, 3) := by decide +kernel
theorem dX5_law_36 : decode cX5_law 36 = .ok (.aload 5, 2) := by decide +kernel
theorem dX5_law_38 : decode cX5_law 38 = .ok (.iload_n 3, 1) := by decide +kernel
theorem dX5_law_39 : decode cX5_law 39 = .ok (.putfield 115, 3) := by decide +kernel
theorem dX5_law_42 : decode cX5_law 42 = .ok (.aload 5, 2) := by decide +kernel
theorem dX5_law_44 : decode cX5_law 44 = .ok (.iload 4, 2) := by decide +kernel
theorem dX5_law_46 : decode cX5_law 46 = .ok (.putfield 118, 3) := by decide +kernel
theorem dX5_law_49 : decode cX5_law 49 = .ok (.return_, 1) := by decide +kernel
theorem dX5_quality_0 : decode cX5_quality 0 = .ok (.iload_n 1, 1) := by decide +kernel
theorem dX5_quality_1 : decode cX5_quality 1 = .ok (.invokestatic 40, 3) := by decide +kernel
theorem dX5_quality_4 : decode cX5_quality 4 = .ok (.iload_n 2, 1) := by decide +kernel
theorem dX5_quality_5 : decode cX5_quality 5 = .ok (.invokestatic 40, 3) := by decide +kernel
theorem dX5_quality_8 : decode cX5_quality 8 = .ok (.aload_n 0, 1) := by decide +kernel
theorem dX5_quality_9 : decode cX5_quality 9 = .ok (.getfield 28, 3) := by decide +kernel
theorem dX5_quality_12 : decode cX5_quality 12 = .ok (.iload_n 1, 1) := by decide +kernel
theorem dX5_quality_13 : decode cX5_quality 13 = .ok (.invokevirtual 121, 3) := by decide +kernel
theorem dX5_quality_16 : decode cX5_quality 16 = .ok (.getfield 125, 3) := by decide +kernel
theorem dX5_quality_19 : decode cX5_quality 19 = .ok (.iload_n 2, 1) := by decide +kernel
theorem dX5_quality_20 : decode cX5_quality 20 = .ok (.iaload, 1) := by decide +kernel
theorem dX5_quality_21 : decode cX5_quality 21 = .ok (.ireturn, 1) := by decide +kernel
theorem dX5_qualityByAll_0 : decode cX5_qualityByAll 0 = .ok (.iload_n 1, 1) := by decide +kernel
theorem dX5_qualityByAll_1 : decode cX5_qualityByAll 1 = .ok (.invokestatic 40, 3) := by decide +kernel
theorem dX5_qualityByAll_4 : decode cX5_qualityByAll 4 = .ok (.iload_n 2, 1) := by decide +kernel
theorem dX5_qualityByAll_5 : decode cX5_qualityByAll 5 = .ok (.invokestatic 40, 3) := by decide +kernel
theorem dX5_qualityByAll_8 : decode cX5_qualityByAll 8 = .ok (.aload_n 0, 1) := by decide +kernel
theorem dX5_qualityByAll_9 : decode cX5_qualityByAll 9 = .ok (.getfield 28, 3) := by decide +kernel
theorem dX5_qualityByAll_12 : decode cX5_qualityByAll 12 = .ok (.iload_n 1, 1) := by decide +kernel
theorem dX5_qualityByAll_13 : decode cX5_qualityByAll 13 = .ok (.iload_n 2, 1) := by decide +kernel
theorem dX5_qualityByAll_14 : decode cX5_qualityByAll 14 = .ok (.invokevirtual 130, 3) := by decide +kernel
theorem dX5_qualityByAll_17 : decode cX5_qualityByAll 17 = .ok (.ireturn, 1) := by decide +kernel
theorem dX5_cost_0 : decode cX5_cost 0 = .ok (.iload_n 1, 1) := by decide +kernel
theorem dX5_cost_1 : decode cX5_cost 1 = .ok (.invokestatic 40, 3) := by decide +kernel
theorem dX5_cost_4 : decode cX5_cost 4 = .ok (.iload_n 2, 1) := by decide +kernel
theorem dX5_cost_5 : decode cX5_cost 5 = .ok (.invokestatic 40, 3) := by decide +kernel
theorem dX5_cost_8 : decode cX5_cost 8 = .ok (.aload_n 0, 1) := by decide +kernel
theorem dX5_cost_9 : decode cX5_cost 9 = .ok (.getfield 28, 3) := by decide +kernel
theorem dX5_cost_12 : decode cX5_cost 12 = .ok (.iload_n 1, 1) := by decide +kernel
theorem dX5_cost_13 : decode cX5_cost 13 = .ok (.invokevirtual 121, 3) := by decide +kernel
theorem dX5_cost_16 : decode cX5_cost 16 = .ok (.getfield 134, 3) := by decide +kernel
theorem dX5_cost_19 : decode cX5_cost 19 = .ok (.iload_n 2, 1) := by decide +kernel
theorem dX5_cost_20 : decode cX5_cost 20 = .ok (.iaload, 1) := by decide +kernel
theorem dX5_cost_21 : decode cX5_cost 21 = .ok (.ireturn, 1) := by decide +kernel
theorem dX5_stepAt_0 : decode cX5_stepAt 0 = .ok (.iload_n 1, 1) := by decide +kernel
theorem dX5_stepAt_1 : decode cX5_stepAt 1 = .ok (.invokestatic 40, 3) := by decide +kernel
theorem dX5_stepAt_4 : decode cX5_stepAt 4 = .ok (.iload_n 2, 1) := by decide +kernel
theorem dX5_stepAt_5 : decode cX5_stepAt 5 = .ok (.invokestatic 40, 3) := by decide +kernel
theorem dX5_stepAt_8 : decode cX5_stepAt 8 = .ok (.iload_n 3, 1) := by decide +kernel
theorem dX5_stepAt_9 : decode cX5_stepAt 9 = .ok (.ifCond .ge 13, 3) := by decide +kernel
theorem dX5_stepAt_12 : decode cX5_stepAt 12 = .ok (.new 78, 3) := by decide +kernel
theorem dX5_stepAt_15 : decode cX5_stepAt 15 = .ok (.dup, 1) := by decide +kernel
theorem dX5_stepAt_16 : decode cX5_stepAt 16 = .ok (.ldc 137, 2) := by decide +kernel
theorem dX5_stepAt_18 : decode cX5_stepAt 18 = .ok (.invokespecial 82, 3) := by decide +kernel
theorem dX5_stepAt_21 : decode cX5_stepAt 21 = .ok (.athrow, 1) := by decide +kernel
theorem dX5_stepAt_22 : decode cX5_stepAt 22 = .ok (.aload_n 0, 1) := by decide +kernel
theorem dX5_stepAt_23 : decode cX5_stepAt 23 = .ok (.getfield 28, 3) := by decide +kernel
theorem dX5_stepAt_26 : decode cX5_stepAt 26 = .ok (.iload_n 1, 1) := by decide +kernel
theorem dX5_stepAt_27 : decode cX5_stepAt 27 = .ok (.invokevirtual 121, 3) := by decide +kernel
theorem dX5_stepAt_30 : decode cX5_stepAt 30 = .ok (.astore 4, 2) := by decide +kernel
theorem dX5_stepAt_32 : decode cX5_stepAt 32 = .ok (.iload_n 3, 1) := by decide +kernel
theorem dX5_stepAt_33 : decode cX5_stepAt 33 = .ok (.aload 4, 2) := by decide +kernel
theorem dX5_stepAt_35 : decode cX5_stepAt 35 = .ok (.getfield 139, 3) := by decide +kernel
theorem dX5_stepAt_38 : decode cX5_stepAt 38 = .ok (.iload_n 2, 1) := by decide +kernel
theorem dX5_stepAt_39 : decode cX5_stepAt 39 = .ok (.iaload, 1) := by decide +kernel
theorem dX5_stepAt_40 : decode cX5_stepAt 40 = .ok (.if_icmp .ge 15, 3) := by decide +kernel
theorem dX5_stepAt_43 : decode cX5_stepAt 43 = .ok (.aload 4, 2) := by decide +kernel
theorem dX5_stepAt_45 : decode cX5_stepAt 45 = .ok (.getfield 142, 3) := by decide +kernel
theorem dX5_stepAt_48 : decode cX5_stepAt 48 = .ok (.iload_n 2, 1) := by decide +kernel
theorem dX5_stepAt_49 : decode cX5_stepAt 49 = .ok (.aaload, 1) := by decide +kernel
theorem dX5_stepAt_50 : decode cX5_stepAt 50 = .ok (.iload_n 3, 1) := by decide +kernel
theorem dX5_stepAt_51 : decode cX5_stepAt 51 = .ok (.iaload, 1) := by decide +kernel
theorem dX5_stepAt_52 : decode cX5_stepAt 52 = .ok (.goto 4, 3) := by decide +kernel
theorem dX5_stepAt_55 : decode cX5_stepAt 55 = .ok (.iconst (-1), 1) := by decide +kernel
theorem dX5_stepAt_56 : decode cX5_stepAt 56 = .ok (.ireturn, 1) := by decide +kernel
theorem dX5_file_0 : decode cX5_file 0 = .ok (.iload_n 1, 1) := by decide +kernel
theorem dX5_file_1 : decode cX5_file 1 = .ok (.invokestatic 40, 3) := by decide +kernel
theorem dX5_file_4 : decode cX5_file 4 = .ok (.aload_n 0, 1) := by decide +kernel
theorem dX5_file_5 : decode cX5_file 5 = .ok (.iload_n 3, 1) := by decide +kernel
theorem dX5_file_6 : decode cX5_file 6 = .ok (.invokevirtual 108, 3) := by decide +kernel
theorem dX5_file_9 : decode cX5_file 9 = .ok (.astore 4, 2) := by decide +kernel
theorem dX5_file_11 : decode cX5_file 11 = .ok (.iload_n 2, 1) := by decide +kernel
theorem dX5_file_12 : decode cX5_file 12 = .ok (.iconst 1, 1) := by decide +kernel
theorem dX5_file_13 : decode cX5_file 13 = .ok (.bipush 100, 2) := by decide +kernel
theorem dX5_file_15 : decode cX5_file 15 = .ok (.invokestatic 47, 3) := by decide +kernel
theorem dX5_file_18 : decode cX5_file 18 = .ok (.aload_n 0, 1) := by decide +kernel
theorem dX5_file_19 : decode cX5_file 19 = .ok (.getfield 146, 3) := by decide +kernel
theorem dX5_file_22 : decode cX5_file 22 = .ok (.bipush 40, 2) := by decide +kernel
theorem dX5_file_24 : decode cX5_file 24 = .ok (.if_icmp .lt 13, 3) := by decide +kernel
theorem dX5_file_27 : decode cX5_file 27 = .ok (.new 64, 3) := by decide +kernel
theorem dX5_file_30 : decode cX5_file 30 = .ok (.dup, 1) := by decide +kernel
theorem dX5_file_31 : decode cX5_file 31 = .ok (.ldc 149, 2) := by decide +kernel
theorem dX5_file_33 : decode cX5_file 33 = .ok (.invokespecial 68, 3) := by decide +kernel
theorem dX5_file_36 : decode cX5_file 36 = .ok (.athrow, 1) := by decide +kernel
theorem dX5_file_37 : decode cX5_file 37 = .ok (.aload_n 0, 1) := by decide +kernel
theorem dX5_file_38 : decode cX5_file 38 = .ok (.iload_n 1, 1) := by decide +kernel
theorem dX5_file_39 : decode cX5_file 39 = .ok (.invokevirtual 51, 3) := by decide +kernel
theorem dX5_file_42 : decode cX5_file 42 = .ok (.aload_n 0, 1) := by decide +kernel
theorem dX5_file_43 : decode cX5_file 43 = .ok (.getfield 21, 3) := by decide +kernel
theorem dX5_file_46 : decode cX5_file 46 = .ok (.aload_n 0, 1) := by decide +kernel
theorem dX5_file_47 : decode cX5_file 47 = .ok (.getfield 146, 3) := by decide +kernel
theorem dX5_file_50 : decode cX5_file 50 = .ok (.new 19, 3) := by decide +kernel
theorem dX5_file_53 : decode cX5_file 53 = .ok (.dup, 1) := by decide +kernel
theorem dX5_file_54 : decode cX5_file 54 = .ok (.iload_n 1, 1) := by decide +kernel
theorem dX5_file_55 : decode cX5_file 55 = .ok (.iload_n 2, 1) := by decide +kernel
theorem dX5_file_56 : decode cX5_file 56 = .ok (.aload 4, 2) := by decide +kernel
theorem dX5_file_58 : decode cX5_file 58 = .ok (.aload_n 0, 1) := by decide +kernel
theorem dX5_file_59 : decode cX5_file 59 = .ok (.getfield 44, 3) := by decide +kernel
theorem dX5_file_62 : decode cX5_file 62 = .ok (.invokespecial 151, 3) := by decide +kernel
theorem dX5_file_65 : decode cX5_file 65 = .ok (.aastore, 1) := by decide +kernel
theorem dX5_file_66 : decode cX5_file 66 = .ok (.aload_n 0, 1) := by decide +kernel
theorem dX5_file_67 : decode cX5_file 67 = .ok (.dup, 1) := by decide +kernel
theorem dX5_file_68 : decode cX5_file 68 = .ok (.getfield 146, 3) := by decide +kernel
theorem dX5_file_71 : decode cX5_file 71 = .ok (.iconst 1, 1) := by decide +kernel
theorem dX5_file_72 : decode cX5_file 72 = .ok (.iadd, 1) := by decide +kernel
theorem dX5_file_73 : decode cX5_file 73 = .ok (.putfield 146, 3) := by decide +kernel
theorem dX5_file_76 : decode cX5_file 76 = .ok (.aload_n 0, 1) := by decide +kernel
theorem dX5_file_77 : decode cX5_file 77 = .ok (.getfield 146, 3) := by decide +kernel
theorem dX5_file_80 : decode cX5_file 80 = .ok (.iconst 1, 1) := by decide +kernel
theorem dX5_file_81 : decode cX5_file 81 = .ok (.isub, 1) := by decide +kernel
theorem dX5_file_82 : decode cX5_file 82 = .ok (.ireturn, 1) := by decide +kernel
theorem dX5_hold_0 : decode cX5_hold 0 = .ok (.aload_n 0, 1) := by decide +kernel
theorem dX5_hold_1 : decode cX5_hold 1 = .ok (.iload_n 1, 1) := by decide +kernel
theorem dX5_hold_2 : decode cX5_hold 2 = .ok (.invokevirtual 154, 3) := by decide +kernel
theorem dX5_hold_5 : decode cX5_hold 5 = .ok (.astore_n 3, 1) := by decide +kernel
theorem dX5_hold_6 : decode cX5_hold 6 = .ok (.aload_n 3, 1) := by decide +kernel
theorem dX5_hold_7 : decode cX5_hold 7 = .ok (.invokestatic 158, 3) := by decide +kernel
theorem dX5_hold_10 : decode cX5_hold 10 = .ok (.aload_n 3, 1) := by decide +kernel
theorem dX5_hold_11 : decode cX5_hold 11 = .ok (.getfield 162, 3) := by decide +kernel
theorem dX5_hold_14 : decode cX5_hold 14 = .ok (.iload_n 2, 1) := by decide +kernel
theorem dX5_hold_15 : decode cX5_hold 15 = .ok (.if_icmp .eq 7, 3) := by decide +kernel
theorem dX5_hold_18 : decode cX5_hold 18 = .ok (.iconst 1, 1) := by decide +kernel
theorem dX5_hold_19 : decode cX5_hold 19 = .ok (.goto 4, 3) := by decide +kernel
theorem dX5_hold_22 : decode cX5_hold 22 = .ok (.iconst 0, 1) := by decide +kernel
theorem dX5_hold_23 : decode cX5_hold 23 = .ok (.istore 4, 2) := by decide +kernel
theorem dX5_hold_25 : decode cX5_hold 25 = .ok (.aload_n 3, 1) := by decide +kernel
theorem dX5_hold_26 : decode cX5_hold 26 = .ok (.iload_n 2, 1) := by decide +kernel
theorem dX5_hold_27 : decode cX5_hold 27 = .ok (.putfield 162, 3) := by decide +kernel
theorem dX5_hold_30 : decode cX5_hold 30 = .ok (.iload 4, 2) := by decide +kernel
theorem dX5_hold_32 : decode cX5_hold 32 = .ok (.ireturn, 1) := by decide +kernel
theorem dX5_read_0 : decode cX5_read 0 = .ok (.aload_n 0, 1) := by decide +kernel
theorem dX5_read_1 : decode cX5_read 1 = .ok (.iload_n 1, 1) := by decide +kernel
theorem dX5_read_2 : decode cX5_read 2 = .ok (.invokevirtual 154, 3) := by decide +kernel
theorem dX5_read_5 : decode cX5_read 5 = .ok (.astore_n 2, 1) := by decide +kernel
theorem dX5_read_6 : decode cX5_read 6 = .ok (.aload_n 2, 1) := by decide +kernel
theorem dX5_read_7 : decode cX5_read 7 = .ok (.invokestatic 158, 3) := by decide +kernel
theorem dX5_read_10 : decode cX5_read 10 = .ok (.aload_n 0, 1) := by decide +kernel
theorem dX5_read_11 : decode cX5_read 11 = .ok (.aload_n 2, 1) := by decide +kernel
theorem dX5_read_12 : decode cX5_read 12 = .ok (.getfield 165, 3) := by decide +kernel
theorem dX5_read_15 : decode cX5_read 15 = .ok (.invokevirtual 51, 3) := by decide +kernel
theorem dX5_read_18 : decode cX5_read 18 = .ok (.aload_n 2, 1) := by decide +kernel
theorem dX5_read_19 : decode cX5_read 19 = .ok (.getfield 168, 3) := by decide +kernel
theorem dX5_read_22 : decode cX5_read 22 = .ok (.aload_n 2, 1) := by decide +kernel
theorem dX5_read_23 : decode cX5_read 23 = .ok (.getfield 170, 3) := by decide +kernel
theorem dX5_read_26 : decode cX5_read 26 = .ok (.getfield 115, 3) := by decide +kernel
theorem dX5_read_29 : decode cX5_read 29 = .ok (.if_icmp .ge 13, 3) := by decide +kernel
theorem dX5_read_32 : decode cX5_read 32 = .ok (.new 64, 3) := by decide +kernel
theorem dX5_read_35 : decode cX5_read 35 = .ok (.dup, 1) := by decide +kernel
theorem dX5_read_36 : decode cX5_read 36 = .ok (.ldc 174, 2) := by decide +kernel
theorem dX5_read_38 : decode cX5_read 38 = .ok (.invokespecial 68, 3) := by decide +kernel
theorem dX5_read_41 : decode cX5_read 41 = .ok (.athrow, 1) := by decide +kernel
theorem dX5_read_42 : decode cX5_read 42 = .ok (.aload_n 0, 1) := by decide +kernel
theorem dX5_read_43 : decode cX5_read 43 = .ok (.getfield 44, 3) := by decide +kernel
theorem dX5_read_46 : decode cX5_read 46 = .ok (.aload_n 2, 1) := by decide +kernel
theorem dX5_read_47 : decode cX5_read 47 = .ok (.getfield 176, 3) := by decide +kernel
theorem dX5_read_50 : decode cX5_read 50 = .ok (.isub, 1) := by decide +kernel
theorem dX5_read_51 : decode cX5_read 51 = .ok (.istore_n 3, 1) := by decide +kernel
theorem dX5_read_52 : decode cX5_read 52 = .ok (.aload_n 2, 1) := by decide +kernel
theorem dX5_read_53 : decode cX5_read 53 = .ok (.aload_n 0, 1) := by decide +kernel
theorem dX5_read_54 : decode cX5_read 54 = .ok (.getfield 44, 3) := by decide +kernel
theorem dX5_read_57 : decode cX5_read 57 = .ok (.putfield 176, 3) := by decide +kernel
theorem dX5_read_60 : decode cX5_read 60 = .ok (.iload_n 3, 1) := by decide +kernel
theorem dX5_read_61 : decode cX5_read 61 = .ok (.ireturn, 1) := by decide +kernel
theorem dX5_moveAhead_0 : decode cX5_moveAhead 0 = .ok (.aload_n 0, 1) := by decide +kernel
theorem dX5_moveAhead_1 : decode cX5_moveAhead 1 = .ok (.invokevirtual 93, 3) := by decide +kernel
theorem dX5_moveAhead_4 : decode cX5_moveAhead 4 = .ok (.aload_n 0, 1) := by decide +kernel
theorem dX5_moveAhead_5 : decode cX5_moveAhead 5 = .ok (.invokevirtual 193, 3) := by decide +kernel
theorem dX5_moveAhead_8 : decode cX5_moveAhead 8 = .ok (.ldc2_w 100, 3) := by decide +kernel
theorem dX5_moveAhead_11 : decode cX5_moveAhead 11 = .ok (.lxor, 1) := by decide +kernel
theorem dX5_moveAhead_12 : decode cX5_moveAhead 12 = .ok (.land, 1) := by decide +kernel
theorem dX5_moveAhead_13 : decode cX5_moveAhead 13 = .ok (.lstore_n 1, 1) := by decide +kernel
theorem dX5_moveAhead_14 : decode cX5_moveAhead 14 = .ok (.iconst 0, 1) := by decide +kernel
theorem dX5_moveAhead_15 : decode cX5_moveAhead 15 = .ok (.istore_n 3, 1) := by decide +kernel
theorem dX5_moveAhead_16 : decode cX5_moveAhead 16 = .ok (.iconst 0, 1) := by decide +kernel
theorem dX5_moveAhead_17 : decode cX5_moveAhead 17 = .ok (.istore 4, 2) := by decide +kernel
theorem dX5_moveAhead_19 : decode cX5_moveAhead 19 = .ok (.iload 4, 2) := by decide +kernel
theorem dX5_moveAhead_21 : decode cX5_moveAhead 21 = .ok (.aload_n 0, 1) := by decide +kernel
theorem dX5_moveAhead_22 : decode cX5_moveAhead 22 = .ok (.getfield 146, 3) := by decide +kernel
theorem dX5_moveAhead_25 : decode cX5_moveAhead 25 = .ok (.if_icmp .ge 82, 3) := by decide +kernel
theorem dX5_moveAhead_28 : decode cX5_moveAhead 28 = .ok (.lload_n 1, 1) := by decide +kernel
theorem dX5_moveAhead_29 : decode cX5_moveAhead 29 = .ok (.lconst 0, 1) := by decide +kernel
theorem dX5_moveAhead_30 : decode cX5_moveAhead 30 = .ok (.lcmp, 1) := by decide +kernel
theorem dX5_moveAhead_31 : decode cX5_moveAhead 31 = .ok (.ifCond .eq 76, 3) := by decide +kernel
theorem dX5_moveAhead_34 : decode cX5_moveAhead 34 = .ok (.aload_n 0, 1) := by decide +kernel
theorem dX5_moveAhead_35 : decode cX5_moveAhead 35 = .ok (.lload_n 1, 1) := by decide +kernel
theorem dX5_moveAhead_36 : decode cX5_moveAhead 36 = .ok (.invokevirtual 196, 3) := by decide +kernel
theorem dX5_moveAhead_39 : decode cX5_moveAhead 39 = .ok (.istore 5, 2) := by decide +kernel
theorem dX5_moveAhead_41 : decode cX5_moveAhead 41 = .ok (.lload_n 1, 1) := by decide +kernel
theorem dX5_moveAhead_42 : decode cX5_moveAhead 42 = .ok (.lconst 1, 1) := by decide +kernel
theorem dX5_moveAhead_43 : decode cX5_moveAhead 43 = .ok (.iload 5, 2) := by decide +kernel
theorem dX5_moveAhead_45 : decode cX5_moveAhead 45 = .ok (.lshl, 1) := by decide +kernel
theorem dX5_moveAhead_46 : decode cX5_moveAhead 46 = .ok (.ldc2_w 100, 3) := by decide +kernel
theorem dX5_moveAhead_49 : decode cX5_moveAhead 49 = .ok (.lxor, 1) := by decide +kernel
theorem dX5_moveAhead_50 : decode cX5_moveAhead 50 = .ok (.land, 1) := by decide +kernel
theorem dX5_moveAhead_51 : decode cX5_moveAhead 51 = .ok (.lstore_n 1, 1) := by decide +kernel
theorem dX5_moveAhead_52 : decode cX5_moveAhead 52 = .ok (.aload_n 0, 1) := by decide +kernel
theorem dX5_moveAhead_53 : decode cX5_moveAhead 53 = .ok (.getfield 21, 3) := by decide +kernel
theorem dX5_moveAhead_56 : decode cX5_moveAhead 56 = .ok (.iload 5, 2) := by decide +kernel
theorem dX5_moveAhead_58 : decode cX5_moveAhead 58 = .ok (.aaload, 1) := by decide +kernel
theorem dX5_moveAhead_59 : decode cX5_moveAhead 59 = .ok (.astore 6, 2) := by decide +kernel
theorem dX5_moveAhead_61 : decode cX5_moveAhead 61 = .ok (.aload_n 0, 1) := by decide +kernel
theorem dX5_moveAhead_62 : decode cX5_moveAhead 62 = .ok (.aload 6, 2) := by decide +kernel
theorem dX5_moveAhead_64 : decode cX5_moveAhead 64 = .ok (.invokevirtual 199, 3) := by decide +kernel
theorem dX5_moveAhead_67 : decode cX5_moveAhead 67 = .ok (.istore 7, 2) := by decide +kernel
theorem dX5_moveAhead_69 : decode cX5_moveAhead 69 = .ok (.iload 7, 2) := by decide +kernel
theorem dX5_moveAhead_71 : decode cX5_moveAhead 71 = .ok (.iconst (-1), 1) := by decide +kernel
theorem dX5_moveAhead_72 : decode cX5_moveAhead 72 = .ok (.if_icmp .eq 29, 3) := by decide +kernel
theorem dX5_moveAhead_75 : decode cX5_moveAhead 75 = .ok (.aload_n 0, 1) := by decide +kernel
theorem dX5_moveAhead_76 : decode cX5_moveAhead 76 = .ok (.aload 6, 2) := by decide +kernel
theorem dX5_moveAhead_78 : decode cX5_moveAhead 78 = .ok (.iload 7, 2) := by decide +kernel
theorem dX5_moveAhead_80 : decode cX5_moveAhead 80 = .ok (.invokevirtual 183, 3) := by decide +kernel
theorem dX5_moveAhead_83 : decode cX5_moveAhead 83 = .ok (.aload_n 0, 1) := by decide +kernel
theorem dX5_moveAhead_84 : decode cX5_moveAhead 84 = .ok (.getfield 36, 3) := by decide +kernel
theorem dX5_moveAhead_87 : decode cX5_moveAhead 87 = .ok (.if_icmp .gt 14, 3) := by decide +kernel
theorem dX5_moveAhead_90 : decode cX5_moveAhead 90 = .ok (.aload_n 0, 1) := by decide +kernel
theorem dX5_moveAhead_91 : decode cX5_moveAhead 91 = .ok (.aload 6, 2) := by decide +kernel
theorem dX5_moveAhead_93 : decode cX5_moveAhead 93 = .ok (.iload 7, 2) := by decide +kernel
theorem dX5_moveAhead_95 : decode cX5_moveAhead 95 = .ok (.invokevirtual 189, 3) := by decide +kernel
theorem dX5_moveAhead_98 : decode cX5_moveAhead 98 = .ok (.iinc 3 1, 3) := by decide +kernel
theorem dX5_moveAhead_101 : decode cX5_moveAhead 101 = .ok (.iinc 4 1, 3) := by decide +kernel
theorem dX5_moveAhead_104 : decode cX5_moveAhead 104 = .ok (.goto (-85), 3) := by decide +kernel
theorem dX5_moveAhead_107 : decode cX5_moveAhead 107 = .ok (.iload_n 3, 1) := by decide +kernel
theorem dX5_moveAhead_108 : decode cX5_moveAhead 108 = .ok (.ireturn, 1) := by decide +kernel
theorem dX5_haven_0 : decode cX5_haven 0 = .ok (.aload_n 0, 1) := by decide +kernel
theorem dX5_haven_1 : decode cX5_haven 1 = .ok (.aload_n 0, 1) := by decide +kernel
theorem dX5_haven_2 : decode cX5_haven 2 = .ok (.iload_n 1, 1) := by decide +kernel
theorem dX5_haven_3 : decode cX5_haven 3 = .ok (.invokevirtual 154, 3) := by decide +kernel
theorem dX5_haven_6 : decode cX5_haven 6 = .ok (.invokevirtual 199, 3) := by decide +kernel
theorem dX5_haven_9 : decode cX5_haven 9 = .ok (.ireturn, 1) := by decide +kernel
theorem dX5_isSafe_0 : decode cX5_isSafe 0 = .ok (.aload_n 0, 1) := by decide +kernel
theorem dX5_isSafe_1 : decode cX5_isSafe 1 = .ok (.iload_n 1, 1) := by decide +kernel
theorem dX5_isSafe_2 : decode cX5_isSafe 2 = .ok (.invokevirtual 154, 3) := by decide +kernel
theorem dX5_isSafe_5 : decode cX5_isSafe 5 = .ok (.astore_n 2, 1) := by decide +kernel
theorem dX5_isSafe_6 : decode cX5_isSafe 6 = .ok (.aload_n 2, 1) := by decide +kernel
theorem dX5_isSafe_7 : decode cX5_isSafe 7 = .ok (.getfield 203, 3) := by decide +kernel
theorem dX5_isSafe_10 : decode cX5_isSafe 10 = .ok (.ifCond .ne 19, 3) := by decide +kernel
theorem dX5_isSafe_13 : decode cX5_isSafe 13 = .ok (.aload_n 0, 1) := by decide +kernel
theorem dX5_isSafe_14 : decode cX5_isSafe 14 = .ok (.aload_n 2, 1) := by decide +kernel
theorem dX5_isSafe_15 : decode cX5_isSafe 15 = .ok (.aload_n 2, 1) := by decide +kernel
theorem dX5_isSafe_16 : decode cX5_isSafe 16 = .ok (.getfield 165, 3) := by decide +kernel
theorem dX5_isSafe_19 : decode cX5_isSafe 19 = .ok (.invokevirtual 206, 3) := by decide +kernel
theorem dX5_isSafe_22 : decode cX5_isSafe 22 = .ok (.ifCond .eq 7, 3) := by decide +kernel
theorem dX5_isSafe_25 : decode cX5_isSafe 25 = .ok (.iconst 1, 1) := by decide +kernel
theorem dX5_isSafe_26 : decode cX5_isSafe 26 = .ok (.goto 4, 3) := by decide +kernel
theorem dX5_isSafe_29 : decode cX5_isSafe 29 = .ok (.iconst 0, 1) := by decide +kernel
theorem dX5_isSafe_30 : decode cX5_isSafe 30 = .ok (.ireturn, 1) := by decide +kernel
theorem dX5_stateOf_0 : decode cX5_stateOf 0 = .ok (.aload_n 0, 1) := by decide +kernel
theorem dX5_stateOf_1 : decode cX5_stateOf 1 = .ok (.iload_n 1, 1) := by decide +kernel
theorem dX5_stateOf_2 : decode cX5_stateOf 2 = .ok (.invokevirtual 154, 3) := by decide +kernel
theorem dX5_stateOf_5 : decode cX5_stateOf 5 = .ok (.getfield 203, 3) := by decide +kernel
theorem dX5_stateOf_8 : decode cX5_stateOf 8 = .ok (.ireturn, 1) := by decide +kernel
theorem dX5_formatOf_0 : decode cX5_formatOf 0 = .ok (.aload_n 0, 1) := by decide +kernel
theorem dX5_formatOf_1 : decode cX5_formatOf 1 = .ok (.iload_n 1, 1) := by decide +kernel
theorem dX5_formatOf_2 : decode cX5_formatOf 2 = .ok (.invokevirtual 154, 3) := by decide +kernel
theorem dX5_formatOf_5 : decode cX5_formatOf 5 = .ok (.getfield 165, 3) := by decide +kernel
theorem dX5_formatOf_8 : decode cX5_formatOf 8 = .ok (.ireturn, 1) := by decide +kernel
theorem dX5_qualityOf_0 : decode cX5_qualityOf 0 = .ok (.aload_n 0, 1) := by decide +kernel
theorem dX5_qualityOf_1 : decode cX5_qualityOf 1 = .ok (.iload_n 1, 1) := by decide +kernel
theorem dX5_qualityOf_2 : decode cX5_qualityOf 2 = .ok (.invokevirtual 154, 3) := by decide +kernel
theorem dX5_qualityOf_5 : decode cX5_qualityOf 5 = .ok (.getfield 168, 3) := by decide +kernel
theorem dX5_qualityOf_8 : decode cX5_qualityOf 8 = .ok (.ireturn, 1) := by decide +kernel
theorem dX5_endOf_0 : decode cX5_endOf 0 = .ok (.aload_n 0, 1) := by decide +kernel
theorem dX5_endOf_1 : decode cX5_endOf 1 = .ok (.iload_n 1, 1) := by decide +kernel
theorem dX5_endOf_2 : decode cX5_endOf 2 = .ok (.invokevirtual 154, 3) := by decide +kernel
theorem dX5_endOf_5 : decode cX5_endOf 5 = .ok (.getfield 210, 3) := by decide +kernel
theorem dX5_endOf_8 : decode cX5_endOf 8 = .ok (.ireturn, 1) := by decide +kernel
theorem dX5_setBudget_0 : decode cX5_setBudget 0 = .ok (.iload_n 1, 1) := by decide +kernel
theorem dX5_setBudget_1 : decode cX5_setBudget 1 = .ok (.iconst 0, 1) := by decide +kernel
theorem dX5_setBudget_2 : decode cX5_setBudget 2 = .ok (.ldc 213, 2) := by decide +kernel
theorem dX5_setBudget_4 : decode cX5_setBudget 4 = .ok (.invokestatic 47, 3) := by decide +kernel
theorem dX5_setBudget_7 : decode cX5_setBudget 7 = .ok (.aload_n 0, 1) := by decide +kernel
theorem dX5_setBudget_8 : decode cX5_setBudget 8 = .ok (.getfield 32, 3) := by decide +kernel
theorem dX5_setBudget_11 : decode cX5_setBudget 11 = .ok (.istore_n 2, 1) := by decide +kernel
theorem dX5_setBudget_12 : decode cX5_setBudget 12 = .ok (.aload_n 0, 1) := by decide +kernel
theorem dX5_setBudget_13 : decode cX5_setBudget 13 = .ok (.iload_n 1, 1) := by decide +kernel
theorem dX5_setBudget_14 : decode cX5_setBudget 14 = .ok (.putfield 32, 3) := by decide +kernel
theorem dX5_setBudget_17 : decode cX5_setBudget 17 = .ok (.iload_n 2, 1) := by decide +kernel
theorem dX5_setBudget_18 : decode cX5_setBudget 18 = .ok (.ireturn, 1) := by decide +kernel
theorem dX5_left_0 : decode cX5_left 0 = .ok (.aload_n 0, 1) := by decide +kernel
theorem dX5_left_1 : decode cX5_left 1 = .ok (.getfield 36, 3) := by decide +kernel
theorem dX5_left_4 : decode cX5_left 4 = .ok (.ireturn, 1) := by decide +kernel
theorem dX5_begin_0 : decode cX5_begin 0 = .ok (.aload_n 0, 1) := by decide +kernel
theorem dX5_begin_1 : decode cX5_begin 1 = .ok (.getfield 44, 3) := by decide +kernel
theorem dX5_begin_4 : decode cX5_begin 4 = .ok (.sipush 900, 3) := by decide +kernel
theorem dX5_begin_7 : decode cX5_begin 7 = .ok (.if_icmp .lt 13, 3) := by decide +kernel
theorem dX5_begin_10 : decode cX5_begin 10 = .ok (.new 64, 3) := by decide +kernel
theorem dX5_begin_13 : decode cX5_begin 13 = .ok (.dup, 1) := by decide +kernel
theorem dX5_begin_14 : decode cX5_begin 14 = .ok (.ldc 214, 2) := by decide +kernel
theorem dX5_begin_16 : decode cX5_begin 16 = .ok (.invokespecial 68, 3) := by decide +kernel
theorem dX5_begin_19 : decode cX5_begin 19 = .ok (.athrow, 1) := by decide +kernel
theorem dX5_begin_20 : decode cX5_begin 20 = .ok (.aload_n 0, 1) := by decide +kernel
theorem dX5_begin_21 : decode cX5_begin 21 = .ok (.dup, 1) := by decide +kernel
theorem dX5_begin_22 : decode cX5_begin 22 = .ok (.getfield 44, 3) := by decide +kernel
theorem dX5_begin_25 : decode cX5_begin 25 = .ok (.iconst 1, 1) := by decide +kernel
theorem dX5_begin_26 : decode cX5_begin 26 = .ok (.iadd, 1) := by decide +kernel
theorem dX5_begin_27 : decode cX5_begin 27 = .ok (.putfield 44, 3) := by decide +kernel
theorem dX5_begin_30 : decode cX5_begin 30 = .ok (.aload_n 0, 1) := by decide +kernel
theorem dX5_begin_31 : decode cX5_begin 31 = .ok (.aload_n 0, 1) := by decide +kernel
theorem dX5_begin_32 : decode cX5_begin 32 = .ok (.getfield 32, 3) := by decide +kernel
theorem dX5_begin_35 : decode cX5_begin 35 = .ok (.putfield 36, 3) := by decide +kernel
theorem dX5_begin_38 : decode cX5_begin 38 = .ok (.iconst 0, 1) := by decide +kernel
theorem dX5_begin_39 : decode cX5_begin 39 = .ok (.istore_n 1, 1) := by decide +kernel
theorem dX5_begin_40 : decode cX5_begin 40 = .ok (.iconst 0, 1) := by decide +kernel
theorem dX5_begin_41 : decode cX5_begin 41 = .ok (.istore_n 2, 1) := by decide +kernel
theorem dX5_begin_42 : decode cX5_begin 42 = .ok (.iload_n 2, 1) := by decide +kernel
theorem dX5_begin_43 : decode cX5_begin 43 = .ok (.aload_n 0, 1) := by decide +kernel
theorem dX5_begin_44 : decode cX5_begin 44 = .ok (.getfield 146, 3) := by decide +kernel
theorem dX5_begin_47 : decode cX5_begin 47 = .ok (.if_icmp .ge 48, 3) := by decide +kernel
theorem dX5_begin_50 : decode cX5_begin 50 = .ok (.aload_n 0, 1) := by decide +kernel
theorem dX5_begin_51 : decode cX5_begin 51 = .ok (.getfield 21, 3) := by decide +kernel
theorem dX5_begin_54 : decode cX5_begin 54 = .ok (.iload_n 2, 1) := by decide +kernel
theorem dX5_begin_55 : decode cX5_begin 55 = .ok (.aaload, 1) := by decide +kernel
theorem dX5_begin_56 : decode cX5_begin 56 = .ok (.astore_n 3, 1) := by decide +kernel
theorem dX5_begin_57 : decode cX5_begin 57 = .ok (.aload_n 3, 1) := by decide +kernel
theorem dX5_begin_58 : decode cX5_begin 58 = .ok (.getfield 203, 3) := by decide +kernel
theorem dX5_begin_61 : decode cX5_begin 61 = .ok (.ifCond .ne 28, 3) := by decide +kernel
theorem dX5_begin_64 : decode cX5_begin 64 = .ok (.aload_n 3, 1) := by decide +kernel
theorem dX5_begin_65 : decode cX5_begin 65 = .ok (.aload_n 0, 1) := by decide +kernel
theorem dX5_begin_66 : decode cX5_begin 66 = .ok (.aload_n 3, 1) := by decide +kernel
theorem dX5_begin_67 : decode cX5_begin 67 = .ok (.invokevirtual 216, 3) := by decide +kernel
theorem dX5_begin_70 : decode cX5_begin 70 = .ok (.putfield 203, 3) := by decide +kernel
theorem dX5_begin_73 : decode cX5_begin 73 = .ok (.iload_n 1, 1) := by decide +kernel
theorem dX5_begin_74 : decode cX5_begin 74 = .ok (.aload_n 3, 1) := by decide +kernel
theorem dX5_begin_75 : decode cX5_begin 75 = .ok (.getfield 203, 3) := by decide +kernel
theorem dX5_begin_78 : decode cX5_begin 78 = .ok (.iconst 2, 1) := by decide +kernel
theorem dX5_begin_79 : decode cX5_begin 79 = .ok (.if_icmp .ne 7, 3) := by decide +kernel
theorem dX5_begin_82 : decode cX5_begin 82 = .ok (.iconst 1, 1) := by decide +kernel
theorem dX5_begin_83 : decode cX5_begin 83 = .ok (.goto 4, 3) := by decide +kernel
theorem dX5_begin_86 : decode cX5_begin 86 = .ok (.iconst 0, 1) := by decide +kernel
theorem dX5_begin_87 : decode cX5_begin 87 = .ok (.iadd, 1) := by decide +kernel
theorem dX5_begin_88 : decode cX5_begin 88 = .ok (.istore_n 1, 1) := by decide +kernel
theorem dX5_begin_89 : decode cX5_begin 89 = .ok (.iinc 2 1, 3) := by decide +kernel
theorem dX5_begin_92 : decode cX5_begin 92 = .ok (.goto (-50), 3) := by decide +kernel
theorem dX5_begin_95 : decode cX5_begin 95 = .ok (.iload_n 1, 1) := by decide +kernel
theorem dX5_begin_96 : decode cX5_begin 96 = .ok (.ireturn, 1) := by decide +kernel
theorem dX5_year_0 : decode cX5_year 0 = .ok (.aload_n 0, 1) := by decide +kernel
theorem dX5_year_1 : decode cX5_year 1 = .ok (.getfield 44, 3) := by decide +kernel
theorem dX5_year_4 : decode cX5_year 4 = .ok (.ireturn, 1) := by decide +kernel
theorem dX5_overdue_0 : decode cX5_overdue 0 = .ok (.iconst 0, 1) := by decide +kernel
theorem dX5_overdue_1 : decode cX5_overdue 1 = .ok (.istore_n 1, 1) := by decide +kernel
theorem dX5_overdue_2 : decode cX5_overdue 2 = .ok (.iconst 0, 1) := by decide +kernel
theorem dX5_overdue_3 : decode cX5_overdue 3 = .ok (.istore_n 2, 1) := by decide +kernel
theorem dX5_overdue_4 : decode cX5_overdue 4 = .ok (.iload_n 2, 1) := by decide +kernel
theorem dX5_overdue_5 : decode cX5_overdue 5 = .ok (.aload_n 0, 1) := by decide +kernel
theorem dX5_overdue_6 : decode cX5_overdue 6 = .ok (.getfield 146, 3) := by decide +kernel
theorem dX5_overdue_9 : decode cX5_overdue 9 = .ok (.if_icmp .ge 45, 3) := by decide +kernel
theorem dX5_overdue_12 : decode cX5_overdue 12 = .ok (.aload_n 0, 1) := by decide +kernel
theorem dX5_overdue_13 : decode cX5_overdue 13 = .ok (.getfield 21, 3) := by decide +kernel
theorem dX5_overdue_16 : decode cX5_overdue 16 = .ok (.iload_n 2, 1) := by decide +kernel
theorem dX5_overdue_17 : decode cX5_overdue 17 = .ok (.aaload, 1) := by decide +kernel
theorem dX5_overdue_18 : decode cX5_overdue 18 = .ok (.astore_n 3, 1) := by decide +kernel
theorem dX5_overdue_19 : decode cX5_overdue 19 = .ok (.aload_n 3, 1) := by decide +kernel
theorem dX5_overdue_20 : decode cX5_overdue 20 = .ok (.getfield 203, 3) := by decide +kernel
theorem dX5_overdue_23 : decode cX5_overdue 23 = .ok (.ifCond .ne 25, 3) := by decide +kernel
theorem dX5_overdue_26 : decode cX5_overdue 26 = .ok (.aload_n 0, 1) := by decide +kernel
theorem dX5_overdue_27 : decode cX5_overdue 27 = .ok (.getfield 44, 3) := by decide +kernel
theorem dX5_overdue_30 : decode cX5_overdue 30 = .ok (.aload_n 3, 1) := by decide +kernel
theorem dX5_overdue_31 : decode cX5_overdue 31 = .ok (.getfield 176, 3) := by decide +kernel
theorem dX5_overdue_34 : decode cX5_overdue 34 = .ok (.aload_n 3, 1) := by decide +kernel
theorem dX5_overdue_35 : decode cX5_overdue 35 = .ok (.getfield 170, 3) := by decide +kernel
theorem dX5_overdue_38 : decode cX5_overdue 38 = .ok (.getfield 118, 3) := by decide +kernel
theorem dX5_overdue_41 : decode cX5_overdue 41 = .ok (.iadd, 1) := by decide +kernel
theorem dX5_overdue_42 : decode cX5_overdue 42 = .ok (.if_icmp .le 6, 3) := by decide +kernel
theorem dX5_overdue_45 : decode cX5_overdue 45 = .ok (.iinc 1 1, 3) := by decide +kernel
theorem dX5_overdue_48 : decode cX5_overdue 48 = .ok (.iinc 2 1, 3) := by decide +kernel
theorem dX5_overdue_51 : decode cX5_overdue 51 = .ok (.goto (-47), 3) := by decide +kernel
theorem dX5_overdue_54 : decode cX5_overdue 54 = .ok (.iload_n 1, 1) := by decide +kernel
theorem dX5_overdue_55 : decode cX5_overdue 55 = .ok (.ireturn, 1) := by decide +kernel
theorem dX5_requireFormat_0 : decode cX5_requireFormat 0 = .ok (.iload_n 0, 1) := by decide +kernel
theorem dX5_requireFormat_1 : decode cX5_requireFormat 1 = .ok (.ifCond .lt 9, 3) := by decide +kernel
theorem dX5_requireFormat_4 : decode cX5_requireFormat 4 = .ok (.iload_n 0, 1) := by decide +kernel
theorem dX5_requireFormat_5 : decode cX5_requireFormat 5 = .ok (.bipush 10, 2) := by decide +kernel
theorem dX5_requireFormat_7 : decode cX5_requireFormat 7 = .ok (.if_icmp .lt 13, 3) := by decide +kernel
theorem dX5_requireFormat_10 : decode cX5_requireFormat 10 = .ok (.new 78, 3) := by decide +kernel
theorem dX5_requireFormat_13 : decode cX5_requireFormat 13 = .ok (.dup, 1) := by decide +kernel
theorem dX5_requireFormat_14 : decode cX5_requireFormat 14 = .ok (.ldc 232, 2) := by decide +kernel
theorem dX5_requireFormat_16 : decode cX5_requireFormat 16 = .ok (.invokespecial 82, 3) := by decide +kernel
theorem dX5_requireFormat_19 : decode cX5_requireFormat 19 = .ok (.athrow, 1) := by decide +kernel
theorem dX5_requireFormat_20 : decode cX5_requireFormat 20 = .ok (.return_, 1) := by decide +kernel
theorem dX5_requireRange_0 : decode cX5_requireRange 0 = .ok (.iload_n 0, 1) := by decide +kernel
theorem dX5_requireRange_1 : decode cX5_requireRange 1 = .ok (.iload_n 1, 1) := by decide +kernel
theorem dX5_requireRange_2 : decode cX5_requireRange 2 = .ok (.if_icmp .lt 8, 3) := by decide +kernel
theorem dX5_requireRange_5 : decode cX5_requireRange 5 = .ok (.iload_n 0, 1) := by decide +kernel
theorem dX5_requireRange_6 : decode cX5_requireRange 6 = .ok (.iload_n 2, 1) := by decide +kernel
theorem dX5_requireRange_7 : decode cX5_requireRange 7 = .ok (.if_icmp .le 13, 3) := by decide +kernel
theorem dX5_requireRange_10 : decode cX5_requireRange 10 = .ok (.new 54, 3) := by decide +kernel
theorem dX5_requireRange_13 : decode cX5_requireRange 13 = .ok (.dup, 1) := by decide +kernel
theorem dX5_requireRange_14 : decode cX5_requireRange 14 = .ok (.ldc 234, 2) := by decide +kernel
theorem dX5_requireRange_16 : decode cX5_requireRange 16 = .ok (.invokespecial 58, 3) := by decide +kernel
theorem dX5_requireRange_19 : decode cX5_requireRange 19 = .ok (.athrow, 1) := by decide +kernel
theorem dX5_requireRange_20 : decode cX5_requireRange 20 = .ok (.return_, 1) := by decide +kernel
theorem dX5_requireKept_0 : decode cX5_requireKept 0 = .ok (.aload_n 0, 1) := by decide +kernel
theorem dX5_requireKept_1 : decode cX5_requireKept 1 = .ok (.getfield 203, 3) := by decide +kernel
theorem dX5_requireKept_4 : decode cX5_requireKept 4 = .ok (.ifCond .eq 13, 3) := by decide +kernel
theorem dX5_requireKept_7 : decode cX5_requireKept 7 = .ok (.new 64, 3) := by decide +kernel
theorem dX5_requireKept_10 : decode cX5_requireKept 10 = .ok (.dup, 1) := by decide +kernel
theorem dX5_requireKept_11 : decode cX5_requireKept 11 = .ok (.ldc 236, 2) := by decide +kernel
theorem dX5_requireKept_13 : decode cX5_requireKept 13 = .ok (.invokespecial 68, 3) := by decide +kernel
theorem dX5_requireKept_16 : decode cX5_requireKept 16 = .ok (.athrow, 1) := by decide +kernel
theorem dX5_requireKept_17 : decode cX5_requireKept 17 = .ok (.return_, 1) := by decide +kernel
theorem dX5_requireReadable_0 : decode cX5_requireReadable 0 = .ok (.aload_n 0, 1) := by decide +kernel
theorem dX5_requireReadable_1 : decode cX5_requireReadable 1 = .ok (.iload_n 1, 1) := by decide +kernel
theorem dX5_requireReadable_2 : decode cX5_requireReadable 2 = .ok (.invokevirtual 219, 3) := by decide +kernel
theorem dX5_requireReadable_5 : decode cX5_requireReadable 5 = .ok (.ifCond .ne 13, 3) := by decide +kernel
theorem dX5_requireReadable_8 : decode cX5_requireReadable 8 = .ok (.new 64, 3) := by decide +kernel
theorem dX5_requireReadable_11 : decode cX5_requireReadable 11 = .ok (.dup, 1) := by decide +kernel
theorem dX5_requireReadable_12 : decode cX5_requireReadable 12 = .ok (.ldc 238, 2) := by decide +kernel
theorem dX5_requireReadable_14 : decode cX5_requireReadable 14 = .ok (.invokespecial 68, 3) := by decide +kernel
theorem dX5_requireReadable_17 : decode cX5_requireReadable 17 = .ok (.athrow, 1) := by decide +kernel
theorem dX5_requireReadable_18 : decode cX5_requireReadable 18 = .ok (.return_, 1) := by decide +kernel
theorem dX5_lawAt_0 : decode cX5_lawAt 0 = .ok (.iload_n 1, 1) := by decide +kernel
theorem dX5_lawAt_1 : decode cX5_lawAt 1 = .ok (.ifCond .lt 8, 3) := by decide +kernel
theorem dX5_lawAt_4 : decode cX5_lawAt 4 = .ok (.iload_n 1, 1) := by decide +kernel
theorem dX5_lawAt_5 : decode cX5_lawAt 5 = .ok (.iconst 5, 1) := by decide +kernel
theorem dX5_lawAt_6 : decode cX5_lawAt 6 = .ok (.if_icmp .lt 13, 3) := by decide +kernel
theorem dX5_lawAt_9 : decode cX5_lawAt 9 = .ok (.new 78, 3) := by decide +kernel
theorem dX5_lawAt_12 : decode cX5_lawAt 12 = .ok (.dup, 1) := by decide +kernel
theorem dX5_lawAt_13 : decode cX5_lawAt 13 = .ok (.ldc 240, 2) := by decide +kernel
theorem dX5_lawAt_15 : decode cX5_lawAt 15 = .ok (.invokespecial 82, 3) := by decide +kernel
theorem dX5_lawAt_18 : decode cX5_lawAt 18 = .ok (.athrow, 1) := by decide +kernel
theorem dX5_lawAt_19 : decode cX5_lawAt 19 = .ok (.aload_n 0, 1) := by decide +kernel
theorem dX5_lawAt_20 : decode cX5_lawAt 20 = .ok (.getfield 15, 3) := by decide +kernel
theorem dX5_lawAt_23 : decode cX5_lawAt 23 = .ok (.iload_n 1, 1) := by decide +kernel
theorem dX5_lawAt_24 : decode cX5_lawAt 24 = .ok (.aaload, 1) := by decide +kernel
theorem dX5_lawAt_25 : decode cX5_lawAt 25 = .ok (.areturn, 1) := by decide +kernel
theorem dX5_fileAt_0 : decode cX5_fileAt 0 = .ok (.iload_n 1, 1) := by decide +kernel
theorem dX5_fileAt_1 : decode cX5_fileAt 1 = .ok (.ifCond .lt 11, 3) := by decide +kernel
theorem dX5_fileAt_4 : decode cX5_fileAt 4 = .ok (.iload_n 1, 1) := by decide +kernel
theorem dX5_fileAt_5 : decode cX5_fileAt 5 = .ok (.aload_n 0, 1) := by decide +kernel
theorem dX5_fileAt_6 : decode cX5_fileAt 6 = .ok (.getfield 146, 3) := by decide +kernel
theorem dX5_fileAt_9 : decode cX5_fileAt 9 = .ok (.if_icmp .lt 13, 3) := by decide +kernel
theorem dX5_fileAt_12 : decode cX5_fileAt 12 = .ok (.new 78, 3) := by decide +kernel
theorem dX5_fileAt_15 : decode cX5_fileAt 15 = .ok (.dup, 1) := by decide +kernel
theorem dX5_fileAt_16 : decode cX5_fileAt 16 = .ok (.ldc 242, 2) := by decide +kernel
theorem dX5_fileAt_18 : decode cX5_fileAt 18 = .ok (.invokespecial 82, 3) := by decide +kernel
theorem dX5_fileAt_21 : decode cX5_fileAt 21 = .ok (.athrow, 1) := by decide +kernel
theorem dX5_fileAt_22 : decode cX5_fileAt 22 = .ok (.aload_n 0, 1) := by decide +kernel
theorem dX5_fileAt_23 : decode cX5_fileAt 23 = .ok (.getfield 21, 3) := by decide +kernel
theorem dX5_fileAt_26 : decode cX5_fileAt 26 = .ok (.iload_n 1, 1) := by decide +kernel
theorem dX5_fileAt_27 : decode cX5_fileAt 27 = .ok (.aaload, 1) := by decide +kernel
theorem dX5_fileAt_28 : decode cX5_fileAt 28 = .ok (.areturn, 1) := by decide +kernel
theorem dX5_isReadable_0 : decode cX5_isReadable 0 = .ok (.aload_n 0, 1) := by decide +kernel
theorem dX5_isReadable_1 : decode cX5_isReadable 1 = .ok (.getfield 9, 3) := by decide +kernel
theorem dX5_isReadable_4 : decode cX5_isReadable 4 = .ok (.iload_n 1, 1) := by decide +kernel
theorem dX5_isReadable_5 : decode cX5_isReadable 5 = .ok (.iaload, 1) := by decide +kernel
theorem dX5_isReadable_6 : decode cX5_isReadable 6 = .ok (.iconst (-1), 1) := by decide +kernel
theorem dX5_isReadable_7 : decode cX5_isReadable 7 = .ok (.if_icmp .eq 16, 3) := by decide +kernel
theorem dX5_isReadable_10 : decode cX5_isReadable 10 = .ok (.aload_n 0, 1) := by decide +kernel
theorem dX5_isReadable_11 : decode cX5_isReadable 11 = .ok (.getfield 9, 3) := by decide +kernel
theorem dX5_isReadable_14 : decode cX5_isReadable 14 = .ok (.iload_n 1, 1) := by decide +kernel
theorem dX5_isReadable_15 : decode cX5_isReadable 15 = .ok (.iaload, 1) := by decide +kernel
theorem dX5_isReadable_16 : decode cX5_isReadable 16 = .ok (.aload_n 0, 1) := by decide +kernel
theorem dX5_isReadable_17 : decode cX5_isReadable 17 = .ok (.getfield 44, 3) := by decide +kernel
theorem dX5_isReadable_20 : decode cX5_isReadable 20 = .ok (.if_icmp .lt 7, 3) := by decide +kernel
theorem dX5_isReadable_23 : decode cX5_isReadable 23 = .ok (.iconst 1, 1) := by decide +kernel
theorem dX5_isReadable_24 : decode cX5_isReadable 24 = .ok (.goto 4, 3) := by decide +kernel
theorem dX5_isReadable_27 : decode cX5_isReadable 27 = .ok (.iconst 0, 1) := by decide +kernel
theorem dX5_isReadable_28 : decode cX5_isReadable 28 = .ok (.ireturn, 1) := by decide +kernel
theorem dX5_stateInNewYear_0 : decode cX5_stateInNewYear 0 = .ok (.aload_n 0, 1) := by decide +kernel
theorem dX5_stateInNewYear_1 : decode cX5_stateInNewYear 1 = .ok (.getfield 44, 3) := by decide +kernel
theorem dX5_stateInNewYear_4 : decode cX5_stateInNewYear 4 = .ok (.aload_n 1, 1) := by decide +kernel
theorem dX5_stateInNewYear_5 : decode cX5_stateInNewYear 5 = .ok (.getfield 210, 3) := by decide +kernel
theorem dX5_stateInNewYear_8 : decode cX5_stateInNewYear 8 = .ok (.if_icmp .le 12, 3) := by decide +kernel
theorem dX5_stateInNewYear_11 : decode cX5_stateInNewYear 11 = .ok (.aload_n 1, 1) := by decide +kernel
theorem dX5_stateInNewYear_12 : decode cX5_stateInNewYear 12 = .ok (.getfield 162, 3) := by decide +kernel
theorem dX5_stateInNewYear_15 : decode cX5_stateInNewYear 15 = .ok (.ifCond .ne 5, 3) := by decide +kernel
theorem dX5_stateInNewYear_18 : decode cX5_stateInNewYear 18 = .ok (.iconst 1, 1) := by decide +kernel
theorem dX5_stateInNewYear_19 : decode cX5_stateInNewYear 19 = .ok (.ireturn, 1) := by decide +kernel
theorem dX5_stateInNewYear_20 : decode cX5_stateInNewYear 20 = .ok (.aload_n 0, 1) := by decide +kernel
theorem dX5_stateInNewYear_21 : decode cX5_stateInNewYear 21 = .ok (.aload_n 1, 1) := by decide +kernel
theorem dX5_stateInNewYear_22 : decode cX5_stateInNewYear 22 = .ok (.getfield 165, 3) := by decide +kernel
theorem dX5_stateInNewYear_25 : decode cX5_stateInNewYear 25 = .ok (.invokevirtual 219, 3) := by decide +kernel
theorem dX5_stateInNewYear_28 : decode cX5_stateInNewYear 28 = .ok (.ifCond .eq 7, 3) := by decide +kernel
theorem dX5_stateInNewYear_31 : decode cX5_stateInNewYear 31 = .ok (.iconst 0, 1) := by decide +kernel
theorem dX5_stateInNewYear_32 : decode cX5_stateInNewYear 32 = .ok (.goto 4, 3) := by decide +kernel
theorem dX5_stateInNewYear_35 : decode cX5_stateInNewYear 35 = .ok (.iconst 2, 1) := by decide +kernel
theorem dX5_stateInNewYear_36 : decode cX5_stateInNewYear 36 = .ok (.ireturn, 1) := by decide +kernel
theorem dX5_isSafeIn_0 : decode cX5_isSafeIn 0 = .ok (.aload_n 0, 1) := by decide +kernel
theorem dX5_isSafeIn_1 : decode cX5_isSafeIn 1 = .ok (.getfield 9, 3) := by decide +kernel
theorem dX5_isSafeIn_4 : decode cX5_isSafeIn 4 = .ok (.iload_n 2, 1) := by decide +kernel
theorem dX5_isSafeIn_5 : decode cX5_isSafeIn 5 = .ok (.iaload, 1) := by decide +kernel
theorem dX5_isSafeIn_6 : decode cX5_isSafeIn 6 = .ok (.istore_n 3, 1) := by decide +kernel
theorem dX5_isSafeIn_7 : decode cX5_isSafeIn 7 = .ok (.iload_n 3, 1) := by decide +kernel
theorem dX5_isSafeIn_8 : decode cX5_isSafeIn 8 = .ok (.iconst (-1), 1) := by decide +kernel
theorem dX5_isSafeIn_9 : decode cX5_isSafeIn 9 = .ok (.if_icmp .eq 18, 3) := by decide +kernel
theorem dX5_isSafeIn_12 : decode cX5_isSafeIn 12 = .ok (.aload_n 1, 1) := by decide +kernel
theorem dX5_isSafeIn_13 : decode cX5_isSafeIn 13 = .ok (.getfield 162, 3) := by decide +kernel
theorem dX5_isSafeIn_16 : decode cX5_isSafeIn 16 = .ok (.ifCond .ne 15, 3) := by decide +kernel
theorem dX5_isSafeIn_19 : decode cX5_isSafeIn 19 = .ok (.iload_n 3, 1) := by decide +kernel
theorem dX5_isSafeIn_20 : decode cX5_isSafeIn 20 = .ok (.aload_n 1, 1) := by decide +kernel
theorem dX5_isSafeIn_21 : decode cX5_isSafeIn 21 = .ok (.getfield 210, 3) := by decide +kernel
theorem dX5_isSafeIn_24 : decode cX5_isSafeIn 24 = .ok (.if_icmp .lt 7, 3) := by decide +kernel
theorem dX5_isSafeIn_27 : decode cX5_isSafeIn 27 = .ok (.iconst 1, 1) := by decide +kernel
theorem dX5_isSafeIn_28 : decode cX5_isSafeIn 28 = .ok (.goto 4, 3) := by decide +kernel
theorem dX5_isSafeIn_31 : decode cX5_isSafeIn 31 = .ok (.iconst 0, 1) := by decide +kernel
theorem dX5_isSafeIn_32 : decode cX5_isSafeIn 32 = .ok (.ireturn, 1) := by decide +kernel
theorem dX5_findHaven_0 : decode cX5_findHaven 0 = .ok (.aload_n 1, 1) := by decide +kernel
theorem dX5_findHaven_1 : decode cX5_findHaven 1 = .ok (.getfield 203, 3) := by decide +kernel
theorem dX5_findHaven_4 : decode cX5_findHaven 4 = .ok (.ifCond .eq 5, 3) := by decide +kernel
theorem dX5_findHaven_7 : decode cX5_findHaven 7 = .ok (.iconst (-1), 1) := by decide +kernel
theorem dX5_findHaven_8 : decode cX5_findHaven 8 = .ok (.ireturn, 1) := by decide +kernel
theorem dX5_findHaven_9 : decode cX5_findHaven 9 = .ok (.aload_n 0, 1) := by decide +kernel
theorem dX5_findHaven_10 : decode cX5_findHaven 10 = .ok (.getfield 28, 3) := by decide +kernel
theorem dX5_findHaven_13 : decode cX5_findHaven 13 = .ok (.aload_n 1, 1) := by decide +kernel
theorem dX5_findHaven_14 : decode cX5_findHaven 14 = .ok (.getfield 165, 3) := by decide +kernel
theorem dX5_findHaven_17 : decode cX5_findHaven 17 = .ok (.invokevirtual 121, 3) := by decide +kernel
theorem dX5_findHaven_20 : decode cX5_findHaven 20 = .ok (.astore_n 2, 1) := by decide +kernel
theorem dX5_findHaven_21 : decode cX5_findHaven 21 = .ok (.iconst (-1), 1) := by decide +kernel
theorem dX5_findHaven_22 : decode cX5_findHaven 22 = .ok (.istore_n 3, 1) := by decide +kernel
theorem dX5_findHaven_23 : decode cX5_findHaven 23 = .ok (.iconst (-1), 1) := by decide +kernel
theorem dX5_findHaven_24 : decode cX5_findHaven 24 = .ok (.istore 4, 2) := by decide +kernel
theorem dX5_findHaven_26 : decode cX5_findHaven 26 = .ok (.iconst (-1), 1) := by decide +kernel
theorem dX5_findHaven_27 : decode cX5_findHaven 27 = .ok (.istore 5, 2) := by decide +kernel
theorem dX5_findHaven_29 : decode cX5_findHaven 29 = .ok (.iconst 0, 1) := by decide +kernel
theorem dX5_findHaven_30 : decode cX5_findHaven 30 = .ok (.istore 6, 2) := by decide +kernel
theorem dX5_findHaven_32 : decode cX5_findHaven 32 = .ok (.iload 6, 2) := by decide +kernel
theorem dX5_findHaven_34 : decode cX5_findHaven 34 = .ok (.bipush 10, 2) := by decide +kernel
theorem dX5_findHaven_36 : decode cX5_findHaven 36 = .ok (.if_icmp .ge 114, 3) := by decide +kernel
theorem dX5_findHaven_39 : decode cX5_findHaven 39 = .ok (.aload_n 2, 1) := by decide +kernel
theorem dX5_findHaven_40 : decode cX5_findHaven 40 = .ok (.getfield 125, 3) := by decide +kernel
theorem dX5_findHaven_43 : decode cX5_findHaven 43 = .ok (.iload 6, 2) := by decide +kernel
theorem dX5_findHaven_45 : decode cX5_findHaven 45 = .ok (.iaload, 1) := by decide +kernel
theorem dX5_findHaven_46 : decode cX5_findHaven 46 = .ok (.iconst (-1), 1) := by decide +kernel
theorem dX5_findHaven_47 : decode cX5_findHaven 47 = .ok (.if_icmp .eq 97, 3) := by decide +kernel
theorem dX5_findHaven_50 : decode cX5_findHaven 50 = .ok (.aload_n 0, 1) := by decide +kernel
theorem dX5_findHaven_51 : decode cX5_findHaven 51 = .ok (.aload_n 1, 1) := by decide +kernel
theorem dX5_findHaven_52 : decode cX5_findHaven 52 = .ok (.iload 6, 2) := by decide +kernel
theorem dX5_findHaven_54 : decode cX5_findHaven 54 = .ok (.invokevirtual 206, 3) := by decide +kernel
theorem dX5_findHaven_57 : decode cX5_findHaven 57 = .ok (.ifCond .ne 6, 3) := by decide +kernel
theorem dX5_findHaven_60 : decode cX5_findHaven 60 = .ok (.goto 84, 3) := by decide +kernel
theorem dX5_findHaven_63 : decode cX5_findHaven 63 = .ok (.aload_n 0, 1) := by decide +kernel
theorem dX5_findHaven_64 : decode cX5_findHaven 64 = .ok (.getfield 28, 3) := by decide +kernel
theorem dX5_findHaven_67 : decode cX5_findHaven 67 = .ok (.aload_n 2, 1) := by decide +kernel
theorem dX5_findHaven_68 : decode cX5_findHaven 68 = .ok (.iload 6, 2) := by decide +kernel
theorem dX5_findHaven_70 : decode cX5_findHaven 70 = .ok (.aload_n 1, 1) := by decide +kernel
theorem dX5_findHaven_71 : decode cX5_findHaven 71 = .ok (.getfield 168, 3) := by decide +kernel
theorem dX5_findHaven_74 : decode cX5_findHaven 74 = .ok (.invokevirtual 247, 3) := by decide +kernel
theorem dX5_findHaven_77 : decode cX5_findHaven 77 = .ok (.istore 7, 2) := by decide +kernel
theorem dX5_findHaven_79 : decode cX5_findHaven 79 = .ok (.aload_n 2, 1) := by decide +kernel
theorem dX5_findHaven_80 : decode cX5_findHaven 80 = .ok (.getfield 134, 3) := by decide +kernel
theorem dX5_findHaven_83 : decode cX5_findHaven 83 = .ok (.iload 6, 2) := by decide +kernel
theorem dX5_findHaven_85 : decode cX5_findHaven 85 = .ok (.iaload, 1) := by decide +kernel
theorem dX5_findHaven_86 : decode cX5_findHaven 86 = .ok (.istore 8, 2) := by decide +kernel
theorem dX5_findHaven_88 : decode cX5_findHaven 88 = .ok (.iload 7, 2) := by decide +kernel
theorem dX5_findHaven_90 : decode cX5_findHaven 90 = .ok (.iload 4, 2) := by decide +kernel
theorem dX5_findHaven_92 : decode cX5_findHaven 92 = .ok (.if_icmp .gt 17, 3) := by decide +kernel
theorem dX5_findHaven_95 : decode cX5_findHaven 95 = .ok (.iload 7, 2) := by decide +kernel
theorem dX5_findHaven_97 : decode cX5_findHaven 97 = .ok (.iload 4, 2) := by decide +kernel
theorem dX5_findHaven_99 : decode cX5_findHaven 99 = .ok (.if_icmp .ne 14, 3) := by decide +kernel
theorem dX5_findHaven_102 : decode cX5_findHaven 102 = .ok (.iload 8, 2) := by decide +kernel
theorem dX5_findHaven_104 : decode cX5_findHaven 104 = .ok (.iload 5, 2) := by decide +kernel
theorem dX5_findHaven_106 : decode cX5_findHaven 106 = .ok (.if_icmp .ge 7, 3) := by decide +kernel
theorem dX5_findHaven_109 : decode cX5_findHaven 109 = .ok (.iconst 1, 1) := by decide +kernel
theorem dX5_findHaven_110 : decode cX5_findHaven 110 = .ok (.goto 4, 3) := by decide +kernel
theorem dX5_findHaven_113 : decode cX5_findHaven 113 = .ok (.iconst 0, 1) := by decide +kernel
theorem dX5_findHaven_114 : decode cX5_findHaven 114 = .ok (.istore 9, 2) := by decide +kernel
theorem dX5_findHaven_116 : decode cX5_findHaven 116 = .ok (.iload 7, 2) := by decide +kernel
theorem dX5_findHaven_118 : decode cX5_findHaven 118 = .ok (.aload_n 1, 1) := by decide +kernel
theorem dX5_findHaven_119 : decode cX5_findHaven 119 = .ok (.getfield 170, 3) := by decide +kernel
theorem dX5_findHaven_122 : decode cX5_findHaven 122 = .ok (.getfield 115, 3) := by decide +kernel
theorem dX5_findHaven_125 : decode cX5_findHaven 125 = .ok (.if_icmp .lt 19, 3) := by decide +kernel
theorem dX5_findHaven_128 : decode cX5_findHaven 128 = .ok (.iload 9, 2) := by decide +kernel
theorem dX5_findHaven_130 : decode cX5_findHaven 130 = .ok (.ifCond .eq 14, 3) := by decide +kernel
theorem dX5_findHaven_133 : decode cX5_findHaven 133 = .ok (.iload 6, 2) := by decide +kernel
theorem dX5_findHaven_135 : decode cX5_findHaven 135 = .ok (.istore_n 3, 1) := by decide +kernel
theorem dX5_findHaven_136 : decode cX5_findHaven 136 = .ok (.iload 7, 2) := by decide +kernel
theorem dX5_findHaven_138 : decode cX5_findHaven 138 = .ok (.istore 4, 2) := by decide +kernel
theorem dX5_findHaven_140 : decode cX5_findHaven 140 = .ok (.iload 8, 2) := by decide +kernel
theorem dX5_findHaven_142 : decode cX5_findHaven 142 = .ok (.istore 5, 2) := by decide +kernel
theorem dX5_findHaven_144 : decode cX5_findHaven 144 = .ok (.iinc 6 1, 3) := by decide +kernel
theorem dX5_findHaven_147 : decode cX5_findHaven 147 = .ok (.goto (-115), 3) := by decide +kernel
theorem dX5_findHaven_150 : decode cX5_findHaven 150 = .ok (.iload_n 3, 1) := by decide +kernel
theorem dX5_findHaven_151 : decode cX5_findHaven 151 = .ok (.ireturn, 1) := by decide +kernel
theorem dX5_filesWithHaven_0 : decode cX5_filesWithHaven 0 = .ok (.lconst 0, 1) := by decide +kernel
theorem dX5_filesWithHaven_1 : decode cX5_filesWithHaven 1 = .ok (.lstore_n 1, 1) := by decide +kernel
theorem dX5_filesWithHaven_2 : decode cX5_filesWithHaven 2 = .ok (.iconst 0, 1) := by decide +kernel
theorem dX5_filesWithHaven_3 : decode cX5_filesWithHaven 3 = .ok (.istore_n 3, 1) := by decide +kernel
theorem dX5_filesWithHaven_4 : decode cX5_filesWithHaven 4 = .ok (.iload_n 3, 1) := by decide +kernel
theorem dX5_filesWithHaven_5 : decode cX5_filesWithHaven 5 = .ok (.aload_n 0, 1) := by decide +kernel
theorem dX5_filesWithHaven_6 : decode cX5_filesWithHaven 6 = .ok (.getfield 146, 3) := by decide +kernel
theorem dX5_filesWithHaven_9 : decode cX5_filesWithHaven 9 = .ok (.if_icmp .ge 29, 3) := by decide +kernel
theorem dX5_filesWithHaven_12 : decode cX5_filesWithHaven 12 = .ok (.aload_n 0, 1) := by decide +kernel
theorem dX5_filesWithHaven_13 : decode cX5_filesWithHaven 13 = .ok (.aload_n 0, 1) := by decide +kernel
theorem dX5_filesWithHaven_14 : decode cX5_filesWithHaven 14 = .ok (.getfield 21, 3) := by decide +kernel
theorem dX5_filesWithHaven_17 : decode cX5_filesWithHaven 17 = .ok (.iload_n 3, 1) := by decide +kernel
theorem dX5_filesWithHaven_18 : decode cX5_filesWithHaven 18 = .ok (.aaload, 1) := by decide +kernel
theorem dX5_filesWithHaven_19 : decode cX5_filesWithHaven 19 = .ok (.invokevirtual 199, 3) := by decide +kernel
theorem dX5_filesWithHaven_22 : decode cX5_filesWithHaven 22 = .ok (.iconst (-1), 1) := by decide +kernel
theorem dX5_filesWithHaven_23 : decode cX5_filesWithHaven 23 = .ok (.if_icmp .eq 9, 3) := by decide +kernel
theorem dX5_filesWithHaven_26 : decode cX5_filesWithHaven 26 = .ok (.lload_n 1, 1) := by decide +kernel
theorem dX5_filesWithHaven_27 : decode cX5_filesWithHaven 27 = .ok (.lconst 1, 1) := by decide +kernel
theorem dX5_filesWithHaven_28 : decode cX5_filesWithHaven 28 = .ok (.iload_n 3, 1) := by decide +kernel
theorem dX5_filesWithHaven_29 : decode cX5_filesWithHaven 29 = .ok (.lshl, 1) := by decide +kernel
theorem dX5_filesWithHaven_30 : decode cX5_filesWithHaven 30 = .ok (.lor, 1) := by decide +kernel
theorem dX5_filesWithHaven_31 : decode cX5_filesWithHaven 31 = .ok (.lstore_n 1, 1) := by decide +kernel
theorem dX5_filesWithHaven_32 : decode cX5_filesWithHaven 32 = .ok (.iinc 3 1, 3) := by decide +kernel
theorem dX5_filesWithHaven_35 : decode cX5_filesWithHaven 35 = .ok (.goto (-31), 3) := by decide +kernel
theorem dX5_filesWithHaven_38 : decode cX5_filesWithHaven 38 = .ok (.lload_n 1, 1) := by decide +kernel
theorem dX5_filesWithHaven_39 : decode cX5_filesWithHaven 39 = .ok (.lreturn, 1) := by decide +kernel
theorem dX5_filesThatAreSafe_0 : decode cX5_filesThatAreSafe 0 = .ok (.lconst 0, 1) := by decide +kernel
theorem dX5_filesThatAreSafe_1 : decode cX5_filesThatAreSafe 1 = .ok (.lstore_n 1, 1) := by decide +kernel
theorem dX5_filesThatAreSafe_2 : decode cX5_filesThatAreSafe 2 = .ok (.iconst 0, 1) := by decide +kernel
theorem dX5_filesThatAreSafe_3 : decode cX5_filesThatAreSafe 3 = .ok (.istore_n 3, 1) := by decide +kernel
theorem dX5_filesThatAreSafe_4 : decode cX5_filesThatAreSafe 4 = .ok (.iload_n 3, 1) := by decide +kernel
theorem dX5_filesThatAreSafe_5 : decode cX5_filesThatAreSafe 5 = .ok (.aload_n 0, 1) := by decide +kernel
theorem dX5_filesThatAreSafe_6 : decode cX5_filesThatAreSafe 6 = .ok (.getfield 146, 3) := by decide +kernel
theorem dX5_filesThatAreSafe_9 : decode cX5_filesThatAreSafe 9 = .ok (.if_icmp .ge 37, 3) := by decide +kernel
theorem dX5_filesThatAreSafe_12 : decode cX5_filesThatAreSafe 12 = .ok (.aload_n 0, 1) := by decide +kernel
theorem dX5_filesThatAreSafe_13 : decode cX5_filesThatAreSafe 13 = .ok (.aload_n 0, 1) := by decide +kernel
theorem dX5_filesThatAreSafe_14 : decode cX5_filesThatAreSafe 14 = .ok (.getfield 21, 3) := by decide +kernel
theorem dX5_filesThatAreSafe_17 : decode cX5_filesThatAreSafe 17 = .ok (.iload_n 3, 1) := by decide +kernel
theorem dX5_filesThatAreSafe_18 : decode cX5_filesThatAreSafe 18 = .ok (.aaload, 1) := by decide +kernel
theorem dX5_filesThatAreSafe_19 : decode cX5_filesThatAreSafe 19 = .ok (.aload_n 0, 1) := by decide +kernel
theorem dX5_filesThatAreSafe_20 : decode cX5_filesThatAreSafe 20 = .ok (.getfield 21, 3) := by decide +kernel
theorem dX5_filesThatAreSafe_23 : decode cX5_filesThatAreSafe 23 = .ok (.iload_n 3, 1) := by decide +kernel
theorem dX5_filesThatAreSafe_24 : decode cX5_filesThatAreSafe 24 = .ok (.aaload, 1) := by decide +kernel
theorem dX5_filesThatAreSafe_25 : decode cX5_filesThatAreSafe 25 = .ok (.getfield 165, 3) := by decide +kernel
theorem dX5_filesThatAreSafe_28 : decode cX5_filesThatAreSafe 28 = .ok (.invokevirtual 206, 3) := by decide +kernel
theorem dX5_filesThatAreSafe_31 : decode cX5_filesThatAreSafe 31 = .ok (.ifCond .eq 9, 3) := by decide +kernel
theorem dX5_filesThatAreSafe_34 : decode cX5_filesThatAreSafe 34 = .ok (.lload_n 1, 1) := by decide +kernel
theorem dX5_filesThatAreSafe_35 : decode cX5_filesThatAreSafe 35 = .ok (.lconst 1, 1) := by decide +kernel
theorem dX5_filesThatAreSafe_36 : decode cX5_filesThatAreSafe 36 = .ok (.iload_n 3, 1) := by decide +kernel
theorem dX5_filesThatAreSafe_37 : decode cX5_filesThatAreSafe 37 = .ok (.lshl, 1) := by decide +kernel
theorem dX5_filesThatAreSafe_38 : decode cX5_filesThatAreSafe 38 = .ok (.lor, 1) := by decide +kernel
theorem dX5_filesThatAreSafe_39 : decode cX5_filesThatAreSafe 39 = .ok (.lstore_n 1, 1) := by decide +kernel
theorem dX5_filesThatAreSafe_40 : decode cX5_filesThatAreSafe 40 = .ok (.iinc 3 1, 3) := by decide +kernel
theorem dX5_filesThatAreSafe_43 : decode cX5_filesThatAreSafe 43 = .ok (.goto (-39), 3) := by decide +kernel
theorem dX5_filesThatAreSafe_46 : decode cX5_filesThatAreSafe 46 = .ok (.lload_n 1, 1) := by decide +kernel
theorem dX5_filesThatAreSafe_47 : decode cX5_filesThatAreSafe 47 = .ok (.lreturn, 1) := by decide +kernel
theorem dX5_firstToEnd_0 : decode cX5_firstToEnd 0 = .ok (.iconst 0, 1) := by decide +kernel
theorem dX5_firstToEnd_1 : decode cX5_firstToEnd 1 = .ok (.istore_n 3, 1) := by decide +kernel
theorem dX5_firstToEnd_2 : decode cX5_firstToEnd 2 = .ok (.ldc 253, 2) := by decide +kernel
theorem dX5_firstToEnd_4 : decode cX5_firstToEnd 4 = .ok (.istore 4, 2) := by decide +kernel
theorem dX5_firstToEnd_6 : decode cX5_firstToEnd 6 = .ok (.iconst 0, 1) := by decide +kernel
theorem dX5_firstToEnd_7 : decode cX5_firstToEnd 7 = .ok (.istore 5, 2) := by decide +kernel
theorem dX5_firstToEnd_9 : decode cX5_firstToEnd 9 = .ok (.iload 5, 2) := by decide +kernel
theorem dX5_firstToEnd_11 : decode cX5_firstToEnd 11 = .ok (.aload_n 0, 1) := by decide +kernel
theorem dX5_firstToEnd_12 : decode cX5_firstToEnd 12 = .ok (.getfield 146, 3) := by decide +kernel
theorem dX5_firstToEnd_15 : decode cX5_firstToEnd 15 = .ok (.if_icmp .ge 51, 3) := by decide +kernel
theorem dX5_firstToEnd_18 : decode cX5_firstToEnd 18 = .ok (.aload_n 0, 1) := by decide +kernel
theorem dX5_firstToEnd_19 : decode cX5_firstToEnd 19 = .ok (.getfield 9, 3) := by decide +kernel
theorem dX5_firstToEnd_22 : decode cX5_firstToEnd 22 = .ok (.aload_n 0, 1) := by decide +kernel
theorem dX5_firstToEnd_23 : decode cX5_firstToEnd 23 = .ok (.getfield 21, 3) := by decide +kernel
theorem dX5_firstToEnd_26 : decode cX5_firstToEnd 26 = .ok (.iload 5, 2) := by decide +kernel
theorem dX5_firstToEnd_28 : decode cX5_firstToEnd 28 = .ok (.aaload, 1) := by decide +kernel
theorem dX5_firstToEnd_29 : decode cX5_firstToEnd 29 = .ok (.getfield 165, 3) := by decide +kernel
theorem dX5_firstToEnd_32 : decode cX5_firstToEnd 32 = .ok (.iaload, 1) := by decide +kernel
theorem dX5_firstToEnd_33 : decode cX5_firstToEnd 33 = .ok (.istore 6, 2) := by decide +kernel
theorem dX5_firstToEnd_35 : decode cX5_firstToEnd 35 = .ok (.lload_n 1, 1) := by decide +kernel
theorem dX5_firstToEnd_36 : decode cX5_firstToEnd 36 = .ok (.lconst 1, 1) := by decide +kernel
theorem dX5_firstToEnd_37 : decode cX5_firstToEnd 37 = .ok (.iload 5, 2) := by decide +kernel
theorem dX5_firstToEnd_39 : decode cX5_firstToEnd 39 = .ok (.lshl, 1) := by decide +kernel
theorem dX5_firstToEnd_40 : decode cX5_firstToEnd 40 = .ok (.land, 1) := by decide +kernel
theorem dX5_firstToEnd_41 : decode cX5_firstToEnd 41 = .ok (.lconst 0, 1) := by decide +kernel
theorem dX5_firstToEnd_42 : decode cX5_firstToEnd 42 = .ok (.lcmp, 1) := by decide +kernel
theorem dX5_firstToEnd_43 : decode cX5_firstToEnd 43 = .ok (.ifCond .eq 17, 3) := by decide +kernel
theorem dX5_firstToEnd_46 : decode cX5_firstToEnd 46 = .ok (.iload 6, 2) := by decide +kernel
theorem dX5_firstToEnd_48 : decode cX5_firstToEnd 48 = .ok (.iload 4, 2) := by decide +kernel
theorem dX5_firstToEnd_50 : decode cX5_firstToEnd 50 = .ok (.if_icmp .ge 10, 3) := by decide +kernel
theorem dX5_firstToEnd_53 : decode cX5_firstToEnd 53 = .ok (.iload 5, 2) := by decide +kernel
theorem dX5_firstToEnd_55 : decode cX5_firstToEnd 55 = .ok (.istore_n 3, 1) := by decide +kernel
theorem dX5_firstToEnd_56 : decode cX5_firstToEnd 56 = .ok (.iload 6, 2) := by decide +kernel
theorem dX5_firstToEnd_58 : decode cX5_firstToEnd 58 = .ok (.istore 4, 2) := by decide +kernel
theorem dX5_firstToEnd_60 : decode cX5_firstToEnd 60 = .ok (.iinc 5 1, 3) := by decide +kernel
theorem dX5_firstToEnd_63 : decode cX5_firstToEnd 63 = .ok (.goto (-54), 3) := by decide +kernel
theorem dX5_firstToEnd_66 : decode cX5_firstToEnd 66 = .ok (.iload_n 3, 1) := by decide +kernel
theorem dX5_firstToEnd_67 : decode cX5_firstToEnd 67 = .ok (.ireturn, 1) := by decide +kernel
theorem dX5_costOfMove_0 : decode cX5_costOfMove 0 = .ok (.aload_n 1, 1) := by decide +kernel
theorem dX5_costOfMove_1 : decode cX5_costOfMove 1 = .ok (.getfield 254, 3) := by decide +kernel
theorem dX5_costOfMove_4 : decode cX5_costOfMove 4 = .ok (.aload_n 0, 1) := by decide +kernel
theorem dX5_costOfMove_5 : decode cX5_costOfMove 5 = .ok (.getfield 28, 3) := by decide +kernel
theorem dX5_costOfMove_8 : decode cX5_costOfMove 8 = .ok (.aload_n 1, 1) := by decide +kernel
theorem dX5_costOfMove_9 : decode cX5_costOfMove 9 = .ok (.getfield 165, 3) := by decide +kernel
theorem dX5_costOfMove_12 : decode cX5_costOfMove 12 = .ok (.invokevirtual 121, 3) := by decide +kernel
theorem dX5_costOfMove_15 : decode cX5_costOfMove 15 = .ok (.getfield 134, 3) := by decide +kernel
theorem dX5_costOfMove_18 : decode cX5_costOfMove 18 = .ok (.iload_n 2, 1) := by decide +kernel
theorem dX5_costOfMove_19 : decode cX5_costOfMove 19 = .ok (.iaload, 1) := by decide +kernel
theorem dX5_costOfMove_20 : decode cX5_costOfMove 20 = .ok (.imul, 1) := by decide +kernel
theorem dX5_costOfMove_21 : decode cX5_costOfMove 21 = .ok (.ireturn, 1) := by decide +kernel
theorem dX5_take_0 : decode cX5_take 0 = .ok (.aload_n 0, 1) := by decide +kernel
theorem dX5_take_1 : decode cX5_take 1 = .ok (.getfield 28, 3) := by decide +kernel
theorem dX5_take_4 : decode cX5_take 4 = .ok (.aload_n 1, 1) := by decide +kernel
theorem dX5_take_5 : decode cX5_take 5 = .ok (.getfield 165, 3) := by decide +kernel
theorem dX5_take_8 : decode cX5_take 8 = .ok (.invokevirtual 121, 3) := by decide +kernel
theorem dX5_take_11 : decode cX5_take 11 = .ok (.astore_n 3, 1) := by decide +kernel
theorem dX5_take_12 : decode cX5_take 12 = .ok (.aload_n 0, 1) := by decide +kernel
theorem dX5_take_13 : decode cX5_take 13 = .ok (.dup, 1) := by decide +kernel
theorem dX5_take_14 : decode cX5_take 14 = .ok (.getfield 36, 3) := by decide +kernel
theorem dX5_take_17 : decode cX5_take 17 = .ok (.aload_n 0, 1) := by decide +kernel
theorem dX5_take_18 : decode cX5_take 18 = .ok (.aload_n 1, 1) := by decide +kernel
theorem dX5_take_19 : decode cX5_take 19 = .ok (.iload_n 2, 1) := by decide +kernel
theorem dX5_take_20 : decode cX5_take 20 = .ok (.invokevirtual 183, 3) := by decide +kernel
theorem dX5_take_23 : decode cX5_take 23 = .ok (.isub, 1) := by decide +kernel
theorem dX5_take_24 : decode cX5_take 24 = .ok (.putfield 36, 3) := by decide +kernel
theorem dX5_take_27 : decode cX5_take 27 = .ok (.aload_n 1, 1) := by decide +kernel
theorem dX5_take_28 : decode cX5_take 28 = .ok (.aload_n 0, 1) := by decide +kernel
theorem dX5_take_29 : decode cX5_take 29 = .ok (.getfield 28, 3) := by decide +kernel
theorem dX5_take_32 : decode cX5_take 32 = .ok (.aload_n 3, 1) := by decide +kernel
theorem dX5_take_33 : decode cX5_take 33 = .ok (.iload_n 2, 1) := by decide +kernel
theorem dX5_take_34 : decode cX5_take 34 = .ok (.aload_n 1, 1) := by decide +kernel
theorem dX5_take_35 : decode cX5_take 35 = .ok (.getfield 168, 3) := by decide +kernel
theorem dX5_take_38 : decode cX5_take 38 = .ok (.invokevirtual 247, 3) := by decide +kernel
theorem dX5_take_41 : decode cX5_take 41 = .ok (.putfield 168, 3) := by decide +kernel
theorem dX5_take_44 : decode cX5_take 44 = .ok (.aload_n 1, 1) := by decide +kernel
theorem dX5_take_45 : decode cX5_take 45 = .ok (.iload_n 2, 1) := by decide +kernel
theorem dX5_take_46 : decode cX5_take 46 = .ok (.putfield 165, 3) := by decide +kernel
theorem dX5_take_49 : decode cX5_take 49 = .ok (.return_, 1) := by decide +kernel
theorem dJ13_bitCount_95d88_0 : decode cJ13_bitCount_95d88 0 = .ok (.lload_n 0, 1) := by decide +kernel
theorem dJ13_bitCount_95d88_1 : decode cJ13_bitCount_95d88 1 = .ok (.lload_n 0, 1) := by decide +kernel
theorem dJ13_bitCount_95d88_2 : decode cJ13_bitCount_95d88 2 = .ok (.iconst 1, 1) := by decide +kernel
theorem dJ13_bitCount_95d88_3 : decode cJ13_bitCount_95d88 3 = .ok (.lushr, 1) := by decide +kernel
theorem dJ13_bitCount_95d88_4 : decode cJ13_bitCount_95d88 4 = .ok (.ldc2_w 314, 3) := by decide +kernel
theorem dJ13_bitCount_95d88_7 : decode cJ13_bitCount_95d88 7 = .ok (.land, 1) := by decide +kernel
theorem dJ13_bitCount_95d88_8 : decode cJ13_bitCount_95d88 8 = .ok (.lsub, 1) := by decide +kernel
theorem dJ13_bitCount_95d88_9 : decode cJ13_bitCount_95d88 9 = .ok (.lstore_n 0, 1) := by decide +kernel
theorem dJ13_bitCount_95d88_10 : decode cJ13_bitCount_95d88 10 = .ok (.lload_n 0, 1) := by decide +kernel
theorem dJ13_bitCount_95d88_11 : decode cJ13_bitCount_95d88 11 = .ok (.ldc2_w 316, 3) := by decide +kernel
theorem dJ13_bitCount_95d88_14 : decode cJ13_bitCount_95d88 14 = .ok (.land, 1) := by decide +kernel
theorem dJ13_bitCount_95d88_15 : decode cJ13_bitCount_95d88 15 = .ok (.lload_n 0, 1) := by decide +kernel
theorem dJ13_bitCount_95d88_16 : decode cJ13_bitCount_95d88 16 = .ok (.iconst 2, 1) := by decide +kernel
theorem dJ13_bitCount_95d88_17 : decode cJ13_bitCount_95d88 17 = .ok (.lushr, 1) := by decide +kernel
theorem dJ13_bitCount_95d88_18 : decode cJ13_bitCount_95d88 18 = .ok (.ldc2_w 316, 3) := by decide +kernel
theorem dJ13_bitCount_95d88_21 : decode cJ13_bitCount_95d88 21 = .ok (.land, 1) := by decide +kernel
theorem dJ13_bitCount_95d88_22 : decode cJ13_bitCount_95d88 22 = .ok (.ladd, 1) := by decide +kernel
theorem dJ13_bitCount_95d88_23 : decode cJ13_bitCount_95d88 23 = .ok (.lstore_n 0, 1) := by decide +kernel
theorem dJ13_bitCount_95d88_24 : decode cJ13_bitCount_95d88 24 = .ok (.lload_n 0, 1) := by decide +kernel
theorem dJ13_bitCount_95d88_25 : decode cJ13_bitCount_95d88 25 = .ok (.lload_n 0, 1) := by decide +kernel
theorem dJ13_bitCount_95d88_26 : decode cJ13_bitCount_95d88 26 = .ok (.iconst 4, 1) := by decide +kernel
theorem dJ13_bitCount_95d88_27 : decode cJ13_bitCount_95d88 27 = .ok (.lushr, 1) := by decide +kernel
theorem dJ13_bitCount_95d88_28 : decode cJ13_bitCount_95d88 28 = .ok (.ladd, 1) := by decide +kernel
theorem dJ13_bitCount_95d88_29 : decode cJ13_bitCount_95d88 29 = .ok (.ldc2_w 318, 3) := by decide +kernel
theorem dJ13_bitCount_95d88_32 : decode cJ13_bitCount_95d88 32 = .ok (.land, 1) := by decide +kernel
theorem dJ13_bitCount_95d88_33 : decode cJ13_bitCount_95d88 33 = .ok (.lstore_n 0, 1) := by decide +kernel
theorem dJ13_bitCount_95d88_34 : decode cJ13_bitCount_95d88 34 = .ok (.lload_n 0, 1) := by decide +kernel
theorem dJ13_bitCount_95d88_35 : decode cJ13_bitCount_95d88 35 = .ok (.lload_n 0, 1) := by decide +kernel
theorem dJ13_bitCount_95d88_36 : decode cJ13_bitCount_95d88 36 = .ok (.bipush 8, 2) := by decide +kernel
theorem dJ13_bitCount_95d88_38 : decode cJ13_bitCount_95d88 38 = .ok (.lushr, 1) := by decide +kernel
theorem dJ13_bitCount_95d88_39 : decode cJ13_bitCount_95d88 39 = .ok (.ladd, 1) := by decide +kernel
theorem dJ13_bitCount_95d88_40 : decode cJ13_bitCount_95d88 40 = .ok (.lstore_n 0, 1) := by decide +kernel
theorem dJ13_bitCount_95d88_41 : decode cJ13_bitCount_95d88 41 = .ok (.lload_n 0, 1) := by decide +kernel
theorem dJ13_bitCount_95d88_42 : decode cJ13_bitCount_95d88 42 = .ok (.lload_n 0, 1) := by decide +kernel
theorem dJ13_bitCount_95d88_43 : decode cJ13_bitCount_95d88 43 = .ok (.bipush 16, 2) := by decide +kernel
theorem dJ13_bitCount_95d88_45 : decode cJ13_bitCount_95d88 45 = .ok (.lushr, 1) := by decide +kernel
theorem dJ13_bitCount_95d88_46 : decode cJ13_bitCount_95d88 46 = .ok (.ladd, 1) := by decide +kernel
theorem dJ13_bitCount_95d88_47 : decode cJ13_bitCount_95d88 47 = .ok (.lstore_n 0, 1) := by decide +kernel
theorem dJ13_bitCount_95d88_48 : decode cJ13_bitCount_95d88 48 = .ok (.lload_n 0, 1) := by decide +kernel
theorem dJ13_bitCount_95d88_49 : decode cJ13_bitCount_95d88 49 = .ok (.lload_n 0, 1) := by decide +kernel
theorem dJ13_bitCount_95d88_50 : decode cJ13_bitCount_95d88 50 = .ok (.bipush 32, 2) := by decide +kernel
theorem dJ13_bitCount_95d88_52 : decode cJ13_bitCount_95d88 52 = .ok (.lushr, 1) := by decide +kernel
theorem dJ13_bitCount_95d88_53 : decode cJ13_bitCount_95d88 53 = .ok (.ladd, 1) := by decide +kernel
theorem dJ13_bitCount_95d88_54 : decode cJ13_bitCount_95d88 54 = .ok (.lstore_n 0, 1) := by decide +kernel
theorem dJ13_bitCount_95d88_55 : decode cJ13_bitCount_95d88 55 = .ok (.lload_n 0, 1) := by decide +kernel
theorem dJ13_bitCount_95d88_56 : decode cJ13_bitCount_95d88 56 = .ok (.l2i, 1) := by decide +kernel
theorem dJ13_bitCount_95d88_57 : decode cJ13_bitCount_95d88 57 = .ok (.bipush 127, 2) := by decide +kernel
theorem dJ13_bitCount_95d88_59 : decode cJ13_bitCount_95d88 59 = .ok (.iand, 1) := by decide +kernel
theorem dJ13_bitCount_95d88_60 : decode cJ13_bitCount_95d88 60 = .ok (.ireturn, 1) := by decide +kernel
theorem dJ9_max_7cf53_0 : decode cJ9_max_7cf53 0 = .ok (.iload_n 0, 1) := by decide +kernel
theorem dJ9_max_7cf53_1 : decode cJ9_max_7cf53 1 = .ok (.iload_n 1, 1) := by decide +kernel
theorem dJ9_max_7cf53_2 : decode cJ9_max_7cf53 2 = .ok (.if_icmp .lt 7, 3) := by decide +kernel
theorem dJ9_max_7cf53_5 : decode cJ9_max_7cf53 5 = .ok (.iload_n 0, 1) := by decide +kernel
theorem dJ9_max_7cf53_6 : decode cJ9_max_7cf53 6 = .ok (.goto 4, 3) := by decide +kernel
theorem dJ9_max_7cf53_9 : decode cJ9_max_7cf53 9 = .ok (.iload_n 1, 1) := by decide +kernel
theorem dJ9_max_7cf53_10 : decode cJ9_max_7cf53 10 = .ok (.ireturn, 1) := by decide +kernel
theorem dL_cell_0 : decode cL_cell 0 = .ok (.iload_n 1, 1) := by decide +kernel
theorem dL_cell_1 : decode cL_cell 1 = .ok (.aload_n 0, 1) := by decide +kernel
theorem dL_cell_2 : decode cL_cell 2 = .ok (.arraylength, 1) := by decide +kernel
theorem dL_cell_3 : decode cL_cell 3 = .ok (.if_icmp .ge 9, 3) := by decide +kernel
theorem dL_cell_6 : decode cL_cell 6 = .ok (.aload_n 0, 1) := by decide +kernel
theorem dL_cell_7 : decode cL_cell 7 = .ok (.iload_n 1, 1) := by decide +kernel
theorem dL_cell_8 : decode cL_cell 8 = .ok (.iaload, 1) := by decide +kernel
theorem dL_cell_9 : decode cL_cell 9 = .ok (.goto 10, 3) := by decide +kernel
theorem dL_cell_12 : decode cL_cell 12 = .ok (.ldc 7, 2) := by decide +kernel
theorem dL_cell_14 : decode cL_cell 14 = .ok (.iload_n 1, 1) := by decide +kernel
theorem dL_cell_15 : decode cL_cell 15 = .ok (.imul, 1) := by decide +kernel
theorem dL_cell_16 : decode cL_cell 16 = .ok (.ldc 8, 2) := by decide +kernel
theorem dL_cell_18 : decode cL_cell 18 = .ok (.iadd, 1) := by decide +kernel
theorem dL_cell_19 : decode cL_cell 19 = .ok (.ireturn, 1) := by decide +kernel
theorem dL_low_0 : decode cL_low 0 = .ok (.iload_n 0, 1) := by decide +kernel
theorem dL_low_1 : decode cL_low 1 = .ok (.ldc 9, 2) := by decide +kernel
theorem dL_low_3 : decode cL_low 3 = .ok (.iand, 1) := by decide +kernel
theorem dL_low_4 : decode cL_low 4 = .ok (.iload_n 1, 1) := by decide +kernel
theorem dL_low_5 : decode cL_low 5 = .ok (.irem, 1) := by decide +kernel
theorem dL_low_6 : decode cL_low 6 = .ok (.ireturn, 1) := by decide +kernel
theorem dL_isWay_0 : decode cL_isWay 0 = .ok (.aload_n 0, 1) := by decide +kernel
theorem dL_isWay_1 : decode cL_isWay 1 = .ok (.iload_n 1, 1) := by decide +kernel
theorem dL_isWay_2 : decode cL_isWay 2 = .ok (.iload_n 2, 1) := by decide +kernel
theorem dL_isWay_3 : decode cL_isWay 3 = .ok (.invokevirtual 10, 3) := by decide +kernel
theorem dL_isWay_6 : decode cL_isWay 6 = .ok (.istore 8, 2) := by decide +kernel
theorem dL_isWay_8 : decode cL_isWay 8 = .ok (.iload 8, 2) := by decide +kernel
theorem dL_isWay_10 : decode cL_isWay 10 = .ok (.aload_n 0, 1) := by decide +kernel
theorem dL_isWay_11 : decode cL_isWay 11 = .ok (.iload_n 1, 1) := by decide +kernel
theorem dL_isWay_12 : decode cL_isWay 12 = .ok (.iload_n 2, 1) := by decide +kernel
theorem dL_isWay_13 : decode cL_isWay 13 = .ok (.invokevirtual 16, 3) := by decide +kernel
theorem dL_isWay_16 : decode cL_isWay 16 = .ok (.if_icmp .eq 5, 3) := by decide +kernel
theorem dL_isWay_19 : decode cL_isWay 19 = .ok (.iconst 0, 1) := by decide +kernel
theorem dL_isWay_20 : decode cL_isWay 20 = .ok (.ireturn, 1) := by decide +kernel
theorem dL_isWay_21 : decode cL_isWay 21 = .ok (.iload 8, 2) := by decide +kernel
theorem dL_isWay_23 : decode cL_isWay 23 = .ok (.iconst (-1), 1) := by decide +kernel
theorem dL_isWay_24 : decode cL_isWay 24 = .ok (.if_icmp .ne 30, 3) := by decide +kernel
theorem dL_isWay_27 : decode cL_isWay 27 = .ok (.aload_n 0, 1) := by decide +kernel
theorem dL_isWay_28 : decode cL_isWay 28 = .ok (.iload_n 1, 1) := by decide +kernel
theorem dL_isWay_29 : decode cL_isWay 29 = .ok (.iload_n 2, 1) := by decide +kernel
theorem dL_isWay_30 : decode cL_isWay 30 = .ok (.invokevirtual 19, 3) := by decide +kernel
theorem dL_isWay_33 : decode cL_isWay 33 = .ok (.iconst (-1), 1) := by decide +kernel
theorem dL_isWay_34 : decode cL_isWay 34 = .ok (.if_icmp .ne 18, 3) := by decide +kernel
theorem dL_isWay_37 : decode cL_isWay 37 = .ok (.aload_n 0, 1) := by decide +kernel
theorem dL_isWay_38 : decode cL_isWay 38 = .ok (.iload_n 1, 1) := by decide +kernel
theorem dL_isWay_39 : decode cL_isWay 39 = .ok (.iload_n 2, 1) := by decide +kernel
theorem dL_isWay_40 : decode cL_isWay 40 = .ok (.iconst 0, 1) := by decide +kernel
theorem dL_isWay_41 : decode cL_isWay 41 = .ok (.invokevirtual 22, 3) := by decide +kernel
theorem dL_isWay_44 : decode cL_isWay 44 = .ok (.iconst (-1), 1) := by decide +kernel
theorem dL_isWay_45 : decode cL_isWay 45 = .ok (.if_icmp .ne 7, 3) := by decide +kernel
theorem dL_isWay_48 : decode cL_isWay 48 = .ok (.iconst 1, 1) := by decide +kernel
theorem dL_isWay_49 : decode cL_isWay 49 = .ok (.goto 4, 3) := by decide +kernel
theorem dL_isWay_52 : decode cL_isWay 52 = .ok (.iconst 0, 1) := by decide +kernel
theorem dL_isWay_53 : decode cL_isWay 53 = .ok (.ireturn, 1) := by decide +kernel
theorem dL_isWay_54 : decode cL_isWay 54 = .ok (.iload_n 1, 1) := by decide +kernel
theorem dL_isWay_55 : decode cL_isWay 55 = .ok (.istore 9, 2) := by decide +kernel
theorem dL_isWay_57 : decode cL_isWay 57 = .ok (.iconst 1, 1) := by decide +kernel
theorem dL_isWay_58 : decode cL_isWay 58 = .ok (.iload_n 1, 1) := by decide +kernel
theorem dL_isWay_59 : decode cL_isWay 59 = .ok (.ishl, 1) := by decide +kernel
theorem dL_isWay_60 : decode cL_isWay 60 = .ok (.istore 10, 2) := by decide +kernel
theorem dL_isWay_62 : decode cL_isWay 62 = .ok (.sipush 1000, 3) := by decide +kernel
theorem dL_isWay_65 : decode cL_isWay 65 = .ok (.istore 11, 2) := by decide +kernel
theorem dL_isWay_67 : decode cL_isWay 67 = .ok (.iconst 0, 1) := by decide +kernel
theorem dL_isWay_68 : decode cL_isWay 68 = .ok (.istore 12, 2) := by decide +kernel
theorem dL_isWay_70 : decode cL_isWay 70 = .ok (.iconst 0, 1) := by decide +kernel
theorem dL_isWay_71 : decode cL_isWay 71 = .ok (.istore 13, 2) := by decide +kernel
theorem dL_isWay_73 : decode cL_isWay 73 = .ok (.aload_n 0, 1) := by decide +kernel
theorem dL_isWay_74 : decode cL_isWay 74 = .ok (.iload_n 1, 1) := by decide +kernel
theorem dL_isWay_75 : decode cL_isWay 75 = .ok (.iload_n 2, 1) := by decide +kernel
theorem dL_isWay_76 : decode cL_isWay 76 = .ok (.iconst 0, 1) := by decide +kernel
theorem dL_isWay_77 : decode cL_isWay 77 = .ok (.invokevirtual 22, 3) := by decide +kernel
theorem dL_isWay_80 : decode cL_isWay 80 = .ok (.istore 14, 2) := by decide +kernel
theorem dL_isWay_82 : decode cL_isWay 82 = .ok (.iload 14, 2) := by decide +kernel
theorem dL_isWay_84 : decode cL_isWay 84 = .ok (.iconst (-1), 1) := by decide +kernel
theorem dL_isWay_85 : decode cL_isWay 85 = .ok (.if_icmp .eq 116, 3) := by decide +kernel
theorem dL_isWay_88 : decode cL_isWay 88 = .ok (.iload 13, 2) := by decide +kernel
theorem dL_isWay_90 : decode cL_isWay 90 = .ok (.bipush 8, 2) := by decide +kernel
theorem dL_isWay_92 : decode cL_isWay 92 = .ok (.if_icmp .gt 47, 3) := by decide +kernel
theorem dL_isWay_95 : decode cL_isWay 95 = .ok (.iload 14, 2) := by decide +kernel
theorem dL_isWay_97 : decode cL_isWay 97 = .ok (.ifCond .lt 42, 3) := by decide +kernel
theorem dL_isWay_100 : decode cL_isWay 100 = .ok (.iload 14, 2) := by decide +kernel
theorem dL_isWay_102 : decode cL_isWay 102 = .ok (.iload 7, 2) := by decide +kernel
theorem dL_isWay_104 : decode cL_isWay 104 = .ok (.if_icmp .ge 35, 3) := by decide +kernel
theorem dL_isWay_107 : decode cL_isWay 107 = .ok (.aload 5, 2) := by decide +kernel
theorem dL_isWay_109 : decode cL_isWay 109 = .ok (.iload 14, 2) := by decide +kernel
theorem dL_isWay_111 : decode cL_isWay 111 = .ok (.iaload, 1) := by decide +kernel
theorem dL_isWay_112 : decode cL_isWay 112 = .ok (.iconst (-1), 1) := by decide +kernel
theorem dL_isWay_113 : decode cL_isWay 113 = .ok (.if_icmp .eq 26, 3) := by decide +kernel
theorem dL_isWay_116 : decode cL_isWay 116 = .ok (.aload_n 3, 1) := by decide +kernel
theorem dL_isWay_117 : decode cL_isWay 117 = .ok (.iload 14, 2) := by decide +kernel
theorem dL_isWay_119 : decode cL_isWay 119 = .ok (.iaload, 1) := by decide +kernel
theorem dL_isWay_120 : decode cL_isWay 120 = .ok (.iload 9, 2) := by decide +kernel
theorem dL_isWay_122 : decode cL_isWay 122 = .ok (.if_icmp .ne 17, 3) := by decide +kernel
theorem dL_isWay_125 : decode cL_isWay 125 = .ok (.iload 10, 2) := by decide +kernel
theorem dL_isWay_127 : decode cL_isWay 127 = .ok (.aload 4, 2) := by decide +kernel
theorem dL_isWay_129 : decode cL_isWay 129 = .ok (.iload 14, 2) := by decide +kernel
theorem dL_isWay_131 : decode cL_isWay 131 = .ok (.iaload, 1) := by decide +kernel
theorem dL_isWay_132 : decode cL_isWay 132 = .ok (.ishr, 1) := by decide +kernel
theorem dL_isWay_133 : decode cL_isWay 133 = .ok (.iconst 1, 1) := by decide +kernel
theorem dL_isWay_134 : decode cL_isWay 134 = .ok (.iand, 1) := by decide +kernel
theorem dL_isWay_135 : decode cL_isWay 135 = .ok (.iconst 1, 1) := by decide +kernel
theorem dL_isWay_136 : decode cL_isWay 136 = .ok (.if_icmp .ne 5, 3) := by decide +kernel
theorem dL_isWay_139 : decode cL_isWay 139 = .ok (.iconst 0, 1) := by decide +kernel
theorem dL_isWay_140 : decode cL_isWay 140 = .ok (.ireturn, 1) := by decide +kernel
theorem dL_isWay_141 : decode cL_isWay 141 = .ok (.aload 4, 2) := by decide +kernel
theorem dL_isWay_143 : decode cL_isWay 143 = .ok (.iload 14, 2) := by decide +kernel
theorem dL_isWay_145 : decode cL_isWay 145 = .ok (.iaload, 1) := by decide +kernel
theorem dL_isWay_146 : decode cL_isWay 146 = .ok (.istore 9, 2) := by decide +kernel
theorem dL_isWay_148 : decode cL_isWay 148 = .ok (.iload 10, 2) := by decide +kernel
theorem dL_isWay_150 : decode cL_isWay 150 = .ok (.iconst 1, 1) := by decide +kernel
theorem dL_isWay_151 : decode cL_isWay 151 = .ok (.iload 9, 2) := by decide +kernel
theorem dL_isWay_153 : decode cL_isWay 153 = .ok (.ishl, 1) := by decide +kernel
theorem dL_isWay_154 : decode cL_isWay 154 = .ok (.ior, 1) := by decide +kernel
theorem dL_isWay_155 : decode cL_isWay 155 = .ok (.istore 10, 2) := by decide +kernel
theorem dL_isWay_157 : decode cL_isWay 157 = .ok (.iload 11, 2) := by decide +kernel
theorem dL_isWay_159 : decode cL_isWay 159 = .ok (.sipush 1000, 3) := by decide +kernel
theorem dL_isWay_162 : decode cL_isWay 162 = .ok (.aload 5, 2) := by decide +kernel
theorem dL_isWay_164 : decode cL_isWay 164 = .ok (.iload 14, 2) := by decide +kernel
theorem dL_isWay_166 : decode cL_isWay 166 = .ok (.iaload, 1) := by decide +kernel
theorem dL_isWay_167 : decode cL_isWay 167 = .ok (.isub, 1) := by decide +kernel
theorem dL_isWay_168 : decode cL_isWay 168 = .ok (.imul, 1) := by decide +kernel
theorem dL_isWay_169 : decode cL_isWay 169 = .ok (.sipush 1000, 3) := by decide +kernel
theorem dL_isWay_172 : decode cL_isWay 172 = .ok (.idiv, 1) := by decide +kernel
theorem dL_isWay_173 : decode cL_isWay 173 = .ok (.istore 11, 2) := by decide +kernel
theorem dL_isWay_175 : decode cL_isWay 175 = .ok (.iload 12, 2) := by decide +kernel
theorem dL_isWay_177 : decode cL_isWay 177 = .ok (.aload 6, 2) := by decide +kernel
theorem dL_isWay_179 : decode cL_isWay 179 = .ok (.iload 14, 2) := by decide +kernel
theorem dL_isWay_181 : decode cL_isWay 181 = .ok (.iaload, 1) := by decide +kernel
theorem dL_isWay_182 : decode cL_isWay 182 = .ok (.iadd, 1) := by decide +kernel
theorem dL_isWay_183 : decode cL_isWay 183 = .ok (.istore 12, 2) := by decide +kernel
theorem dL_isWay_185 : decode cL_isWay 185 = .ok (.iinc 13 1, 3) := by decide +kernel
theorem dL_isWay_188 : decode cL_isWay 188 = .ok (.aload_n 0, 1) := by decide +kernel
theorem dL_isWay_189 : decode cL_isWay 189 = .ok (.iload_n 1, 1) := by decide +kernel
theorem dL_isWay_190 : decode cL_isWay 190 = .ok (.iload_n 2, 1) := by decide +kernel
theorem dL_isWay_191 : decode cL_isWay 191 = .ok (.iload 13, 2) := by decide +kernel
theorem dL_isWay_193 : decode cL_isWay 193 = .ok (.invokevirtual 22, 3) := by decide +kernel
theorem dL_isWay_196 : decode cL_isWay 196 = .ok (.istore 14, 2) := by decide +kernel
theorem dL_isWay_198 : decode cL_isWay 198 = .ok (.goto (-116), 3) := by decide +kernel
theorem dL_isWay_201 : decode cL_isWay 201 = .ok (.iload 9, 2) := by decide +kernel
theorem dL_isWay_203 : decode cL_isWay 203 = .ok (.iload_n 2, 1) := by decide +kernel
theorem dL_isWay_204 : decode cL_isWay 204 = .ok (.if_icmp .ne 25, 3) := by decide +kernel
theorem dL_isWay_207 : decode cL_isWay 207 = .ok (.iload 11, 2) := by decide +kernel
theorem dL_isWay_209 : decode cL_isWay 209 = .ok (.iload 8, 2) := by decide +kernel
theorem dL_isWay_211 : decode cL_isWay 211 = .ok (.if_icmp .ne 18, 3) := by decide +kernel
theorem dL_isWay_214 : decode cL_isWay 214 = .ok (.iload 12, 2) := by decide +kernel
theorem dL_isWay_216 : decode cL_isWay 216 = .ok (.aload_n 0, 1) := by decide +kernel
theorem dL_isWay_217 : decode cL_isWay 217 = .ok (.iload_n 1, 1) := by decide +kernel
theorem dL_isWay_218 : decode cL_isWay 218 = .ok (.iload_n 2, 1) := by decide +kernel
theorem dL_isWay_219 : decode cL_isWay 219 = .ok (.invokevirtual 19, 3) := by decide +kernel
theorem dL_isWay_222 : decode cL_isWay 222 = .ok (.if_icmp .ne 7, 3) := by decide +kernel
theorem dL_isWay_225 : decode cL_isWay 225 = .ok (.iconst 1, 1) := by decide +kernel
theorem dL_isWay_226 : decode cL_isWay 226 = .ok (.goto 4, 3) := by decide +kernel
theorem dL_isWay_229 : decode cL_isWay 229 = .ok (.iconst 0, 1) := by decide +kernel
theorem dL_isWay_230 : decode cL_isWay 230 = .ok (.ireturn, 1) := by decide +kernel
theorem dL_isFile_0 : decode cL_isFile 0 = .ok (.aload_n 0, 1) := by decide +kernel
theorem dL_isFile_1 : decode cL_isFile 1 = .ok (.iload_n 1, 1) := by decide +kernel
theorem dL_isFile_2 : decode cL_isFile 2 = .ok (.invokevirtual 26, 3) := by decide +kernel
theorem dL_isFile_5 : decode cL_isFile 5 = .ok (.istore 8, 2) := by decide +kernel
theorem dL_isFile_7 : decode cL_isFile 7 = .ok (.aload_n 0, 1) := by decide +kernel
theorem dL_isFile_8 : decode cL_isFile 8 = .ok (.iload_n 1, 1) := by decide +kernel
theorem dL_isFile_9 : decode cL_isFile 9 = .ok (.invokevirtual 30, 3) := by decide +kernel
theorem dL_isFile_12 : decode cL_isFile 12 = .ok (.istore 9, 2) := by decide +kernel
theorem dL_isFile_14 : decode cL_isFile 14 = .ok (.aload_n 0, 1) := by decide +kernel
theorem dL_isFile_15 : decode cL_isFile 15 = .ok (.iload_n 1, 1) := by decide +kernel
theorem dL_isFile_16 : decode cL_isFile 16 = .ok (.invokevirtual 34, 3) := by decide +kernel
theorem dL_isFile_19 : decode cL_isFile 19 = .ok (.iload_n 2, 1) := by decide +kernel
theorem dL_isFile_20 : decode cL_isFile 20 = .ok (.if_icmp .ne 44, 3) := by decide +kernel
theorem dL_isFile_23 : decode cL_isFile 23 = .ok (.aload_n 0, 1) := by decide +kernel
theorem dL_isFile_24 : decode cL_isFile 24 = .ok (.iload_n 1, 1) := by decide +kernel
theorem dL_isFile_25 : decode cL_isFile 25 = .ok (.invokevirtual 37, 3) := by decide +kernel
theorem dL_isFile_28 : decode cL_isFile 28 = .ok (.iload_n 3, 1) := by decide +kernel
theorem dL_isFile_29 : decode cL_isFile 29 = .ok (.if_icmp .ne 35, 3) := by decide +kernel
theorem dL_isFile_32 : decode cL_isFile 32 = .ok (.aload_n 0, 1) := by decide +kernel
theorem dL_isFile_33 : decode cL_isFile 33 = .ok (.iload_n 1, 1) := by decide +kernel
theorem dL_isFile_34 : decode cL_isFile 34 = .ok (.invokevirtual 40, 3) := by decide +kernel
theorem dL_isFile_37 : decode cL_isFile 37 = .ok (.iload 6, 2) := by decide +kernel
theorem dL_isFile_39 : decode cL_isFile 39 = .ok (.if_icmp .ne 25, 3) := by decide +kernel
theorem dL_isFile_42 : decode cL_isFile 42 = .ok (.aload_n 0, 1) := by decide +kernel
theorem dL_isFile_43 : decode cL_isFile 43 = .ok (.iload_n 1, 1) := by decide +kernel
theorem dL_isFile_44 : decode cL_isFile 44 = .ok (.invokevirtual 43, 3) := by decide +kernel
theorem dL_isFile_47 : decode cL_isFile 47 = .ok (.iload 4, 2) := by decide +kernel
theorem dL_isFile_49 : decode cL_isFile 49 = .ok (.if_icmp .gt 15, 3) := by decide +kernel
theorem dL_isFile_52 : decode cL_isFile 52 = .ok (.aload_n 0, 1) := by decide +kernel
theorem dL_isFile_53 : decode cL_isFile 53 = .ok (.iload_n 1, 1) := by decide +kernel
theorem dL_isFile_54 : decode cL_isFile 54 = .ok (.invokevirtual 43, 3) := by decide +kernel
theorem dL_isFile_57 : decode cL_isFile 57 = .ok (.ifCond .lt 7, 3) := by decide +kernel
theorem dL_isFile_60 : decode cL_isFile 60 = .ok (.iconst 1, 1) := by decide +kernel
theorem dL_isFile_61 : decode cL_isFile 61 = .ok (.goto 4, 3) := by decide +kernel
theorem dL_isFile_64 : decode cL_isFile 64 = .ok (.iconst 0, 1) := by decide +kernel
theorem dL_isFile_65 : decode cL_isFile 65 = .ok (.istore 10, 2) := by decide +kernel
theorem dL_isFile_67 : decode cL_isFile 67 = .ok (.iload_n 2, 1) := by decide +kernel
theorem dL_isFile_68 : decode cL_isFile 68 = .ok (.ifCond .eq 14, 3) := by decide +kernel
theorem dL_isFile_71 : decode cL_isFile 71 = .ok (.iload 8, 2) := by decide +kernel
theorem dL_isFile_73 : decode cL_isFile 73 = .ok (.iconst (-1), 1) := by decide +kernel
theorem dL_isFile_74 : decode cL_isFile 74 = .ok (.if_icmp .ne 12, 3) := by decide +kernel
theorem dL_isFile_77 : decode cL_isFile 77 = .ok (.iload 9, 2) := by decide +kernel
theorem dL_isFile_79 : decode cL_isFile 79 = .ok (.ifCond .ne 7, 3) := by decide +kernel
theorem dL_isFile_82 : decode cL_isFile 82 = .ok (.iconst 1, 1) := by decide +kernel
theorem dL_isFile_83 : decode cL_isFile 83 = .ok (.goto 4, 3) := by decide +kernel
theorem dL_isFile_86 : decode cL_isFile 86 = .ok (.iconst 0, 1) := by decide +kernel
theorem dL_isFile_87 : decode cL_isFile 87 = .ok (.istore 11, 2) := by decide +kernel
theorem dL_isFile_89 : decode cL_isFile 89 = .ok (.iload 9, 2) := by decide +kernel
theorem dL_isFile_91 : decode cL_isFile 91 = .ok (.ifCond .eq 19, 3) := by decide +kernel
theorem dL_isFile_94 : decode cL_isFile 94 = .ok (.aload_n 0, 1) := by decide +kernel
theorem dL_isFile_95 : decode cL_isFile 95 = .ok (.iload_n 1, 1) := by decide +kernel
theorem dL_isFile_96 : decode cL_isFile 96 = .ok (.invokevirtual 43, 3) := by decide +kernel
theorem dL_isFile_99 : decode cL_isFile 99 = .ok (.iload 5, 2) := by decide +kernel
theorem dL_isFile_101 : decode cL_isFile 101 = .ok (.if_icmp .lt 9, 3) := by decide +kernel
theorem dL_isFile_104 : decode cL_isFile 104 = .ok (.iload 8, 2) := by decide +kernel
theorem dL_isFile_106 : decode cL_isFile 106 = .ok (.iconst (-1), 1) := by decide +kernel
theorem dL_isFile_107 : decode cL_isFile 107 = .ok (.if_icmp .eq 7, 3) := by decide +kernel
theorem dL_isFile_110 : decode cL_isFile 110 = .ok (.iconst 1, 1) := by decide +kernel
theorem dL_isFile_111 : decode cL_isFile 111 = .ok (.goto 4, 3) := by decide +kernel
theorem dL_isFile_114 : decode cL_isFile 114 = .ok (.iconst 0, 1) := by decide +kernel
theorem dL_isFile_115 : decode cL_isFile 115 = .ok (.istore 12, 2) := by decide +kernel
theorem dL_isFile_117 : decode cL_isFile 117 = .ok (.iload 8, 2) := by decide +kernel
theorem dL_isFile_119 : decode cL_isFile 119 = .ok (.iconst (-1), 1) := by decide +kernel
theorem dL_isFile_120 : decode cL_isFile 120 = .ok (.if_icmp .eq 14, 3) := by decide +kernel
theorem dL_isFile_123 : decode cL_isFile 123 = .ok (.aload_n 0, 1) := by decide +kernel
theorem dL_isFile_124 : decode cL_isFile 124 = .ok (.iload_n 3, 1) := by decide +kernel
theorem dL_isFile_125 : decode cL_isFile 125 = .ok (.iload 8, 2) := by decide +kernel
theorem dL_isFile_127 : decode cL_isFile 127 = .ok (.invokevirtual 10, 3) := by decide +kernel
theorem dL_isFile_130 : decode cL_isFile 130 = .ok (.iconst (-1), 1) := by decide +kernel
theorem dL_isFile_131 : decode cL_isFile 131 = .ok (.if_icmp .eq 7, 3) := by decide +kernel
theorem dL_isFile_134 : decode cL_isFile 134 = .ok (.iconst 1, 1) := by decide +kernel
theorem dL_isFile_135 : decode cL_isFile 135 = .ok (.goto 4, 3) := by decide +kernel
theorem dL_isFile_138 : decode cL_isFile 138 = .ok (.iconst 0, 1) := by decide +kernel
theorem dL_isFile_139 : decode cL_isFile 139 = .ok (.istore 13, 2) := by decide +kernel
theorem dL_isFile_141 : decode cL_isFile 141 = .ok (.iload 7, 2) := by decide +kernel
theorem dL_isFile_143 : decode cL_isFile 143 = .ok (.iconst (-1), 1) := by decide +kernel
theorem dL_isFile_144 : decode cL_isFile 144 = .ok (.if_icmp .ne 12, 3) := by decide +kernel
theorem dL_isFile_147 : decode cL_isFile 147 = .ok (.iload_n 2, 1) := by decide +kernel
theorem dL_isFile_148 : decode cL_isFile 148 = .ok (.ifCond .ne 8, 3) := by decide +kernel
theorem dL_isFile_151 : decode cL_isFile 151 = .ok (.iload 9, 2) := by decide +kernel
theorem dL_isFile_153 : decode cL_isFile 153 = .ok (.ifCond .eq 7, 3) := by decide +kernel
theorem dL_isFile_156 : decode cL_isFile 156 = .ok (.iconst 1, 1) := by decide +kernel
theorem dL_isFile_157 : decode cL_isFile 157 = .ok (.goto 4, 3) := by decide +kernel
theorem dL_isFile_160 : decode cL_isFile 160 = .ok (.iconst 0, 1) := by decide +kernel
theorem dL_isFile_161 : decode cL_isFile 161 = .ok (.istore 14, 2) := by decide +kernel
theorem dL_isFile_163 : decode cL_isFile 163 = .ok (.iload 10, 2) := by decide +kernel
theorem dL_isFile_165 : decode cL_isFile 165 = .ok (.ifCond .eq 27, 3) := by decide +kernel
