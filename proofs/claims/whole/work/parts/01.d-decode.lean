theorem dX6_isNoFormat_10 : decode cX6_isNoFormat 10 = .ok (.iconst 1, 1) := by decide +kernel
theorem dX6_isNoFormat_11 : decode cX6_isNoFormat 11 = .ok (.goto 4, 3) := by decide +kernel
theorem dX6_isNoFormat_14 : decode cX6_isNoFormat 14 = .ok (.iconst 0, 1) := by decide +kernel
theorem dX6_isNoFormat_15 : decode cX6_isNoFormat 15 = .ok (.ireturn, 1) := by decide +kernel
theorem dX6_isNoFile_0 : decode cX6_isNoFile 0 = .ok (.iload_n 1, 1) := by decide +kernel
theorem dX6_isNoFile_1 : decode cX6_isNoFile 1 = .ok (.iconst 0, 1) := by decide +kernel
theorem dX6_isNoFile_2 : decode cX6_isNoFile 2 = .ok (.aload_n 0, 1) := by decide +kernel
theorem dX6_isNoFile_3 : decode cX6_isNoFile 3 = .ok (.getfield 112, 3) := by decide +kernel
theorem dX6_isNoFile_6 : decode cX6_isNoFile 6 = .ok (.iconst 1, 1) := by decide +kernel
theorem dX6_isNoFile_7 : decode cX6_isNoFile 7 = .ok (.isub, 1) := by decide +kernel
theorem dX6_isNoFile_8 : decode cX6_isNoFile 8 = .ok (.invokestatic 108, 3) := by decide +kernel
theorem dX6_isNoFile_11 : decode cX6_isNoFile 11 = .ok (.ifCond .ne 7, 3) := by decide +kernel
theorem dX6_isNoFile_14 : decode cX6_isNoFile 14 = .ok (.iconst 1, 1) := by decide +kernel
theorem dX6_isNoFile_15 : decode cX6_isNoFile 15 = .ok (.goto 4, 3) := by decide +kernel
theorem dX6_isNoFile_18 : decode cX6_isNoFile 18 = .ok (.iconst 0, 1) := by decide +kernel
theorem dX6_isNoFile_19 : decode cX6_isNoFile 19 = .ok (.ireturn, 1) := by decide +kernel
theorem dX6_canBeRead_0 : decode cX6_canBeRead 0 = .ok (.aload_n 0, 1) := by decide +kernel
theorem dX6_canBeRead_1 : decode cX6_canBeRead 1 = .ok (.getfield 7, 3) := by decide +kernel
theorem dX6_canBeRead_4 : decode cX6_canBeRead 4 = .ok (.iload_n 1, 1) := by decide +kernel
theorem dX6_canBeRead_5 : decode cX6_canBeRead 5 = .ok (.iaload, 1) := by decide +kernel
theorem dX6_canBeRead_6 : decode cX6_canBeRead 6 = .ok (.iconst (-1), 1) := by decide +kernel
theorem dX6_canBeRead_7 : decode cX6_canBeRead 7 = .ok (.if_icmp .eq 16, 3) := by decide +kernel
theorem dX6_canBeRead_10 : decode cX6_canBeRead 10 = .ok (.aload_n 0, 1) := by decide +kernel
theorem dX6_canBeRead_11 : decode cX6_canBeRead 11 = .ok (.getfield 7, 3) := by decide +kernel
theorem dX6_canBeRead_14 : decode cX6_canBeRead 14 = .ok (.iload_n 1, 1) := by decide +kernel
theorem dX6_canBeRead_15 : decode cX6_canBeRead 15 = .ok (.iaload, 1) := by decide +kernel
theorem dX6_canBeRead_16 : decode cX6_canBeRead 16 = .ok (.aload_n 0, 1) := by decide +kernel
theorem dX6_canBeRead_17 : decode cX6_canBeRead 17 = .ok (.getfield 115, 3) := by decide +kernel
theorem dX6_canBeRead_20 : decode cX6_canBeRead 20 = .ok (.if_icmp .lt 7, 3) := by decide +kernel
theorem dX6_canBeRead_23 : decode cX6_canBeRead 23 = .ok (.iconst 1, 1) := by decide +kernel
theorem dX6_canBeRead_24 : decode cX6_canBeRead 24 = .ok (.goto 4, 3) := by decide +kernel
theorem dX6_canBeRead_27 : decode cX6_canBeRead 27 = .ok (.iconst 0, 1) := by decide +kernel
theorem dX6_canBeRead_28 : decode cX6_canBeRead 28 = .ok (.ireturn, 1) := by decide +kernel
theorem dX6_behind_0 : decode cX6_behind 0 = .ok (.iload_n 0, 1) := by decide +kernel
theorem dX6_behind_1 : decode cX6_behind 1 = .ok (.sipush 1000, 3) := by decide +kernel
theorem dX6_behind_4 : decode cX6_behind 4 = .ok (.iload_n 1, 1) := by decide +kernel
theorem dX6_behind_5 : decode cX6_behind 5 = .ok (.isub, 1) := by decide +kernel
theorem dX6_behind_6 : decode cX6_behind 6 = .ok (.imul, 1) := by decide +kernel
theorem dX6_behind_7 : decode cX6_behind 7 = .ok (.sipush 1000, 3) := by decide +kernel
theorem dX6_behind_10 : decode cX6_behind 10 = .ok (.idiv, 1) := by decide +kernel
theorem dX6_behind_11 : decode cX6_behind 11 = .ok (.ireturn, 1) := by decide +kernel
theorem dX6_offer_0 : decode cX6_offer 0 = .ok (.iload_n 2, 1) := by decide +kernel
theorem dX6_offer_1 : decode cX6_offer 1 = .ok (.aload_n 0, 1) := by decide +kernel
theorem dX6_offer_2 : decode cX6_offer 2 = .ok (.getfield 68, 3) := by decide +kernel
theorem dX6_offer_5 : decode cX6_offer 5 = .ok (.iload_n 1, 1) := by decide +kernel
theorem dX6_offer_6 : decode cX6_offer 6 = .ok (.iaload, 1) := by decide +kernel
theorem dX6_offer_7 : decode cX6_offer 7 = .ok (.if_icmp .le 7, 3) := by decide +kernel
theorem dX6_offer_10 : decode cX6_offer 10 = .ok (.iconst 1, 1) := by decide +kernel
theorem dX6_offer_11 : decode cX6_offer 11 = .ok (.goto 4, 3) := by decide +kernel
theorem dX6_offer_14 : decode cX6_offer 14 = .ok (.iconst 0, 1) := by decide +kernel
theorem dX6_offer_15 : decode cX6_offer 15 = .ok (.istore 5, 2) := by decide +kernel
theorem dX6_offer_17 : decode cX6_offer 17 = .ok (.iload_n 2, 1) := by decide +kernel
theorem dX6_offer_18 : decode cX6_offer 18 = .ok (.aload_n 0, 1) := by decide +kernel
theorem dX6_offer_19 : decode cX6_offer 19 = .ok (.getfield 68, 3) := by decide +kernel
theorem dX6_offer_22 : decode cX6_offer 22 = .ok (.iload_n 1, 1) := by decide +kernel
theorem dX6_offer_23 : decode cX6_offer 23 = .ok (.iaload, 1) := by decide +kernel
theorem dX6_offer_24 : decode cX6_offer 24 = .ok (.if_icmp .ne 41, 3) := by decide +kernel
theorem dX6_offer_27 : decode cX6_offer 27 = .ok (.iload_n 3, 1) := by decide +kernel
theorem dX6_offer_28 : decode cX6_offer 28 = .ok (.aload_n 0, 1) := by decide +kernel
theorem dX6_offer_29 : decode cX6_offer 29 = .ok (.getfield 71, 3) := by decide +kernel
theorem dX6_offer_32 : decode cX6_offer 32 = .ok (.iload_n 1, 1) := by decide +kernel
theorem dX6_offer_33 : decode cX6_offer 33 = .ok (.iaload, 1) := by decide +kernel
theorem dX6_offer_34 : decode cX6_offer 34 = .ok (.if_icmp .lt 24, 3) := by decide +kernel
theorem dX6_offer_37 : decode cX6_offer 37 = .ok (.iload_n 3, 1) := by decide +kernel
theorem dX6_offer_38 : decode cX6_offer 38 = .ok (.aload_n 0, 1) := by decide +kernel
theorem dX6_offer_39 : decode cX6_offer 39 = .ok (.getfield 71, 3) := by decide +kernel
theorem dX6_offer_42 : decode cX6_offer 42 = .ok (.iload_n 1, 1) := by decide +kernel
theorem dX6_offer_43 : decode cX6_offer 43 = .ok (.iaload, 1) := by decide +kernel
theorem dX6_offer_44 : decode cX6_offer 44 = .ok (.if_icmp .ne 18, 3) := by decide +kernel
theorem dX6_offer_47 : decode cX6_offer 47 = .ok (.iload 4, 2) := by decide +kernel
theorem dX6_offer_49 : decode cX6_offer 49 = .ok (.aload_n 0, 1) := by decide +kernel
theorem dX6_offer_50 : decode cX6_offer 50 = .ok (.getfield 74, 3) := by decide +kernel
theorem dX6_offer_53 : decode cX6_offer 53 = .ok (.iload_n 1, 1) := by decide +kernel
theorem dX6_offer_54 : decode cX6_offer 54 = .ok (.iaload, 1) := by decide +kernel
theorem dX6_offer_55 : decode cX6_offer 55 = .ok (.if_icmp .ge 7, 3) := by decide +kernel
theorem dX6_offer_58 : decode cX6_offer 58 = .ok (.iconst 1, 1) := by decide +kernel
theorem dX6_offer_59 : decode cX6_offer 59 = .ok (.goto 4, 3) := by decide +kernel
theorem dX6_offer_62 : decode cX6_offer 62 = .ok (.iconst 0, 1) := by decide +kernel
theorem dX6_offer_63 : decode cX6_offer 63 = .ok (.istore 5, 2) := by decide +kernel
theorem dX6_offer_65 : decode cX6_offer 65 = .ok (.iload 5, 2) := by decide +kernel
theorem dX6_offer_67 : decode cX6_offer 67 = .ok (.ifCond .eq 60, 3) := by decide +kernel
theorem dX6_offer_70 : decode cX6_offer 70 = .ok (.aload_n 0, 1) := by decide +kernel
theorem dX6_offer_71 : decode cX6_offer 71 = .ok (.getfield 68, 3) := by decide +kernel
theorem dX6_offer_74 : decode cX6_offer 74 = .ok (.iload_n 1, 1) := by decide +kernel
theorem dX6_offer_75 : decode cX6_offer 75 = .ok (.iload_n 2, 1) := by decide +kernel
theorem dX6_offer_76 : decode cX6_offer 76 = .ok (.iastore, 1) := by decide +kernel
theorem dX6_offer_77 : decode cX6_offer 77 = .ok (.aload_n 0, 1) := by decide +kernel
theorem dX6_offer_78 : decode cX6_offer 78 = .ok (.getfield 71, 3) := by decide +kernel
theorem dX6_offer_81 : decode cX6_offer 81 = .ok (.iload_n 1, 1) := by decide +kernel
theorem dX6_offer_82 : decode cX6_offer 82 = .ok (.iload_n 3, 1) := by decide +kernel
theorem dX6_offer_83 : decode cX6_offer 83 = .ok (.iastore, 1) := by decide +kernel
theorem dX6_offer_84 : decode cX6_offer 84 = .ok (.aload_n 0, 1) := by decide +kernel
theorem dX6_offer_85 : decode cX6_offer 85 = .ok (.getfield 74, 3) := by decide +kernel
theorem dX6_offer_88 : decode cX6_offer 88 = .ok (.iload_n 1, 1) := by decide +kernel
theorem dX6_offer_89 : decode cX6_offer 89 = .ok (.iload 4, 2) := by decide +kernel
theorem dX6_offer_91 : decode cX6_offer 91 = .ok (.iastore, 1) := by decide +kernel
theorem dX6_offer_92 : decode cX6_offer 92 = .ok (.iconst 0, 1) := by decide +kernel
theorem dX6_offer_93 : decode cX6_offer 93 = .ok (.istore 6, 2) := by decide +kernel
theorem dX6_offer_95 : decode cX6_offer 95 = .ok (.iload 6, 2) := by decide +kernel
theorem dX6_offer_97 : decode cX6_offer 97 = .ok (.iload 4, 2) := by decide +kernel
theorem dX6_offer_99 : decode cX6_offer 99 = .ok (.if_icmp .ge 28, 3) := by decide +kernel
theorem dX6_offer_102 : decode cX6_offer 102 = .ok (.aload_n 0, 1) := by decide +kernel
theorem dX6_offer_103 : decode cX6_offer 103 = .ok (.getfield 77, 3) := by decide +kernel
theorem dX6_offer_106 : decode cX6_offer 106 = .ok (.bipush 9, 2) := by decide +kernel
theorem dX6_offer_108 : decode cX6_offer 108 = .ok (.iload_n 1, 1) := by decide +kernel
theorem dX6_offer_109 : decode cX6_offer 109 = .ok (.imul, 1) := by decide +kernel
theorem dX6_offer_110 : decode cX6_offer 110 = .ok (.iload 6, 2) := by decide +kernel
theorem dX6_offer_112 : decode cX6_offer 112 = .ok (.iadd, 1) := by decide +kernel
theorem dX6_offer_113 : decode cX6_offer 113 = .ok (.aload_n 0, 1) := by decide +kernel
theorem dX6_offer_114 : decode cX6_offer 114 = .ok (.getfield 80, 3) := by decide +kernel
theorem dX6_offer_117 : decode cX6_offer 117 = .ok (.iload 6, 2) := by decide +kernel
theorem dX6_offer_119 : decode cX6_offer 119 = .ok (.iaload, 1) := by decide +kernel
theorem dX6_offer_120 : decode cX6_offer 120 = .ok (.iastore, 1) := by decide +kernel
theorem dX6_offer_121 : decode cX6_offer 121 = .ok (.iinc 6 1, 3) := by decide +kernel
theorem dX6_offer_124 : decode cX6_offer 124 = .ok (.goto (-29), 3) := by decide +kernel
theorem dX6_offer_127 : decode cX6_offer 127 = .ok (.return_, 1) := by decide +kernel
theorem dX6_nextFrom_0 : decode cX6_nextFrom 0 = .ok (.iload_n 2, 1) := by decide +kernel
theorem dX6_nextFrom_1 : decode cX6_nextFrom 1 = .ok (.istore_n 3, 1) := by decide +kernel
theorem dX6_nextFrom_2 : decode cX6_nextFrom 2 = .ok (.iload_n 3, 1) := by decide +kernel
theorem dX6_nextFrom_3 : decode cX6_nextFrom 3 = .ok (.aload_n 0, 1) := by decide +kernel
theorem dX6_nextFrom_4 : decode cX6_nextFrom 4 = .ok (.getfield 118, 3) := by decide +kernel
theorem dX6_nextFrom_7 : decode cX6_nextFrom 7 = .ok (.if_icmp .ge 42, 3) := by decide +kernel
theorem dX6_nextFrom_10 : decode cX6_nextFrom 10 = .ok (.aload_n 0, 1) := by decide +kernel
theorem dX6_nextFrom_11 : decode cX6_nextFrom 11 = .ok (.getfield 25, 3) := by decide +kernel
theorem dX6_nextFrom_14 : decode cX6_nextFrom 14 = .ok (.iload_n 3, 1) := by decide +kernel
theorem dX6_nextFrom_15 : decode cX6_nextFrom 15 = .ok (.baload, 1) := by decide +kernel
theorem dX6_nextFrom_16 : decode cX6_nextFrom 16 = .ok (.ifCond .ne 27, 3) := by decide +kernel
theorem dX6_nextFrom_19 : decode cX6_nextFrom 19 = .ok (.aload_n 0, 1) := by decide +kernel
theorem dX6_nextFrom_20 : decode cX6_nextFrom 20 = .ok (.getfield 13, 3) := by decide +kernel
theorem dX6_nextFrom_23 : decode cX6_nextFrom 23 = .ok (.iload_n 3, 1) := by decide +kernel
theorem dX6_nextFrom_24 : decode cX6_nextFrom 24 = .ok (.iaload, 1) := by decide +kernel
theorem dX6_nextFrom_25 : decode cX6_nextFrom 25 = .ok (.iload_n 1, 1) := by decide +kernel
theorem dX6_nextFrom_26 : decode cX6_nextFrom 26 = .ok (.if_icmp .ne 17, 3) := by decide +kernel
theorem dX6_nextFrom_29 : decode cX6_nextFrom 29 = .ok (.aload_n 0, 1) := by decide +kernel
theorem dX6_nextFrom_30 : decode cX6_nextFrom 30 = .ok (.getfield 95, 3) := by decide +kernel
theorem dX6_nextFrom_33 : decode cX6_nextFrom 33 = .ok (.aload_n 0, 1) := by decide +kernel
theorem dX6_nextFrom_34 : decode cX6_nextFrom 34 = .ok (.getfield 16, 3) := by decide +kernel
theorem dX6_nextFrom_37 : decode cX6_nextFrom 37 = .ok (.iload_n 3, 1) := by decide +kernel
theorem dX6_nextFrom_38 : decode cX6_nextFrom 38 = .ok (.iaload, 1) := by decide +kernel
theorem dX6_nextFrom_39 : decode cX6_nextFrom 39 = .ok (.baload, 1) := by decide +kernel
theorem dX6_nextFrom_40 : decode cX6_nextFrom 40 = .ok (.ifCond .eq 9, 3) := by decide +kernel
theorem dX6_nextFrom_43 : decode cX6_nextFrom 43 = .ok (.iinc 3 1, 3) := by decide +kernel
theorem dX6_nextFrom_46 : decode cX6_nextFrom 46 = .ok (.goto (-44), 3) := by decide +kernel
theorem dX6_nextFrom_49 : decode cX6_nextFrom 49 = .ok (.iload_n 3, 1) := by decide +kernel
theorem dX6_nextFrom_50 : decode cX6_nextFrom 50 = .ok (.ireturn, 1) := by decide +kernel
theorem dX6_goAll_0 : decode cX6_goAll 0 = .ok (.iconst 0, 1) := by decide +kernel
theorem dX6_goAll_1 : decode cX6_goAll 1 = .ok (.istore_n 3, 1) := by decide +kernel
theorem dX6_goAll_2 : decode cX6_goAll 2 = .ok (.iconst (-1), 1) := by decide +kernel
theorem dX6_goAll_3 : decode cX6_goAll 3 = .ok (.istore 4, 2) := by decide +kernel
theorem dX6_goAll_5 : decode cX6_goAll 5 = .ok (.aload_n 0, 1) := by decide +kernel
theorem dX6_goAll_6 : decode cX6_goAll 6 = .ok (.getfield 83, 3) := by decide +kernel
theorem dX6_goAll_9 : decode cX6_goAll 9 = .ok (.iconst 0, 1) := by decide +kernel
theorem dX6_goAll_10 : decode cX6_goAll 10 = .ok (.iload_n 1, 1) := by decide +kernel
theorem dX6_goAll_11 : decode cX6_goAll 11 = .ok (.iastore, 1) := by decide +kernel
theorem dX6_goAll_12 : decode cX6_goAll 12 = .ok (.aload_n 0, 1) := by decide +kernel
theorem dX6_goAll_13 : decode cX6_goAll 13 = .ok (.getfield 86, 3) := by decide +kernel
theorem dX6_goAll_16 : decode cX6_goAll 16 = .ok (.iconst 0, 1) := by decide +kernel
theorem dX6_goAll_17 : decode cX6_goAll 17 = .ok (.sipush 1000, 3) := by decide +kernel
theorem dX6_goAll_20 : decode cX6_goAll 20 = .ok (.iastore, 1) := by decide +kernel
theorem dX6_goAll_21 : decode cX6_goAll 21 = .ok (.aload_n 0, 1) := by decide +kernel
theorem dX6_goAll_22 : decode cX6_goAll 22 = .ok (.getfield 89, 3) := by decide +kernel
theorem dX6_goAll_25 : decode cX6_goAll 25 = .ok (.iconst 0, 1) := by decide +kernel
theorem dX6_goAll_26 : decode cX6_goAll 26 = .ok (.iconst 0, 1) := by decide +kernel
theorem dX6_goAll_27 : decode cX6_goAll 27 = .ok (.iastore, 1) := by decide +kernel
theorem dX6_goAll_28 : decode cX6_goAll 28 = .ok (.aload_n 0, 1) := by decide +kernel
theorem dX6_goAll_29 : decode cX6_goAll 29 = .ok (.getfield 92, 3) := by decide +kernel
theorem dX6_goAll_32 : decode cX6_goAll 32 = .ok (.iconst 0, 1) := by decide +kernel
theorem dX6_goAll_33 : decode cX6_goAll 33 = .ok (.iconst 0, 1) := by decide +kernel
theorem dX6_goAll_34 : decode cX6_goAll 34 = .ok (.iastore, 1) := by decide +kernel
theorem dX6_goAll_35 : decode cX6_goAll 35 = .ok (.aload_n 0, 1) := by decide +kernel
theorem dX6_goAll_36 : decode cX6_goAll 36 = .ok (.getfield 95, 3) := by decide +kernel
theorem dX6_goAll_39 : decode cX6_goAll 39 = .ok (.iload_n 1, 1) := by decide +kernel
theorem dX6_goAll_40 : decode cX6_goAll 40 = .ok (.iconst 1, 1) := by decide +kernel
theorem dX6_goAll_41 : decode cX6_goAll 41 = .ok (.bastore, 1) := by decide +kernel
theorem dX6_goAll_42 : decode cX6_goAll 42 = .ok (.iload_n 3, 1) := by decide +kernel
theorem dX6_goAll_43 : decode cX6_goAll 43 = .ok (.ifCond .lt 225, 3) := by decide +kernel
theorem dX6_goAll_46 : decode cX6_goAll 46 = .ok (.aload_n 0, 1) := by decide +kernel
theorem dX6_goAll_47 : decode cX6_goAll 47 = .ok (.getfield 92, 3) := by decide +kernel
theorem dX6_goAll_50 : decode cX6_goAll 50 = .ok (.iload_n 3, 1) := by decide +kernel
theorem dX6_goAll_51 : decode cX6_goAll 51 = .ok (.iaload, 1) := by decide +kernel
theorem dX6_goAll_52 : decode cX6_goAll 52 = .ok (.ifCond .ne 68, 3) := by decide +kernel
theorem dX6_goAll_55 : decode cX6_goAll 55 = .ok (.iload_n 2, 1) := by decide +kernel
theorem dX6_goAll_56 : decode cX6_goAll 56 = .ok (.iconst (-1), 1) := by decide +kernel
theorem dX6_goAll_57 : decode cX6_goAll 57 = .ok (.if_icmp .ne 34, 3) := by decide +kernel
theorem dX6_goAll_60 : decode cX6_goAll 60 = .ok (.aload_n 0, 1) := by decide +kernel
theorem dX6_goAll_61 : decode cX6_goAll 61 = .ok (.bipush 10, 2) := by decide +kernel
theorem dX6_goAll_63 : decode cX6_goAll 63 = .ok (.iload_n 1, 1) := by decide +kernel
theorem dX6_goAll_64 : decode cX6_goAll 64 = .ok (.imul, 1) := by decide +kernel
theorem dX6_goAll_65 : decode cX6_goAll 65 = .ok (.aload_n 0, 1) := by decide +kernel
theorem dX6_goAll_66 : decode cX6_goAll 66 = .ok (.getfield 83, 3) := by decide +kernel
theorem dX6_goAll_69 : decode cX6_goAll 69 = .ok (.iload_n 3, 1) := by decide +kernel
theorem dX6_goAll_70 : decode cX6_goAll 70 = .ok (.iaload, 1) := by decide +kernel
theorem dX6_goAll_71 : decode cX6_goAll 71 = .ok (.iadd, 1) := by decide +kernel
theorem dX6_goAll_72 : decode cX6_goAll 72 = .ok (.aload_n 0, 1) := by decide +kernel
theorem dX6_goAll_73 : decode cX6_goAll 73 = .ok (.getfield 86, 3) := by decide +kernel
theorem dX6_goAll_76 : decode cX6_goAll 76 = .ok (.iload_n 3, 1) := by decide +kernel
theorem dX6_goAll_77 : decode cX6_goAll 77 = .ok (.iaload, 1) := by decide +kernel
theorem dX6_goAll_78 : decode cX6_goAll 78 = .ok (.aload_n 0, 1) := by decide +kernel
theorem dX6_goAll_79 : decode cX6_goAll 79 = .ok (.getfield 89, 3) := by decide +kernel
theorem dX6_goAll_82 : decode cX6_goAll 82 = .ok (.iload_n 3, 1) := by decide +kernel
theorem dX6_goAll_83 : decode cX6_goAll 83 = .ok (.iaload, 1) := by decide +kernel
theorem dX6_goAll_84 : decode cX6_goAll 84 = .ok (.iload_n 3, 1) := by decide +kernel
theorem dX6_goAll_85 : decode cX6_goAll 85 = .ok (.invokevirtual 121, 3) := by decide +kernel
theorem dX6_goAll_88 : decode cX6_goAll 88 = .ok (.goto 32, 3) := by decide +kernel
theorem dX6_goAll_91 : decode cX6_goAll 91 = .ok (.aload_n 0, 1) := by decide +kernel
theorem dX6_goAll_92 : decode cX6_goAll 92 = .ok (.getfield 83, 3) := by decide +kernel
theorem dX6_goAll_95 : decode cX6_goAll 95 = .ok (.iload_n 3, 1) := by decide +kernel
theorem dX6_goAll_96 : decode cX6_goAll 96 = .ok (.iaload, 1) := by decide +kernel
theorem dX6_goAll_97 : decode cX6_goAll 97 = .ok (.iload_n 2, 1) := by decide +kernel
theorem dX6_goAll_98 : decode cX6_goAll 98 = .ok (.if_icmp .ne 22, 3) := by decide +kernel
theorem dX6_goAll_101 : decode cX6_goAll 101 = .ok (.aload_n 0, 1) := by decide +kernel
theorem dX6_goAll_102 : decode cX6_goAll 102 = .ok (.getfield 86, 3) := by decide +kernel
theorem dX6_goAll_105 : decode cX6_goAll 105 = .ok (.iload_n 3, 1) := by decide +kernel
theorem dX6_goAll_106 : decode cX6_goAll 106 = .ok (.iaload, 1) := by decide +kernel
theorem dX6_goAll_107 : decode cX6_goAll 107 = .ok (.iload 4, 2) := by decide +kernel
theorem dX6_goAll_109 : decode cX6_goAll 109 = .ok (.if_icmp .le 11, 3) := by decide +kernel
theorem dX6_goAll_112 : decode cX6_goAll 112 = .ok (.aload_n 0, 1) := by decide +kernel
theorem dX6_goAll_113 : decode cX6_goAll 113 = .ok (.getfield 86, 3) := by decide +kernel
theorem dX6_goAll_116 : decode cX6_goAll 116 = .ok (.iload_n 3, 1) := by decide +kernel
theorem dX6_goAll_117 : decode cX6_goAll 117 = .ok (.iaload, 1) := by decide +kernel
theorem dX6_goAll_118 : decode cX6_goAll 118 = .ok (.istore 4, 2) := by decide +kernel
theorem dX6_goAll_120 : decode cX6_goAll 120 = .ok (.aload_n 0, 1) := by decide +kernel
theorem dX6_goAll_121 : decode cX6_goAll 121 = .ok (.aload_n 0, 1) := by decide +kernel
theorem dX6_goAll_122 : decode cX6_goAll 122 = .ok (.getfield 83, 3) := by decide +kernel
theorem dX6_goAll_125 : decode cX6_goAll 125 = .ok (.iload_n 3, 1) := by decide +kernel
theorem dX6_goAll_126 : decode cX6_goAll 126 = .ok (.iaload, 1) := by decide +kernel
theorem dX6_goAll_127 : decode cX6_goAll 127 = .ok (.aload_n 0, 1) := by decide +kernel
theorem dX6_goAll_128 : decode cX6_goAll 128 = .ok (.getfield 92, 3) := by decide +kernel
theorem dX6_goAll_131 : decode cX6_goAll 131 = .ok (.iload_n 3, 1) := by decide +kernel
theorem dX6_goAll_132 : decode cX6_goAll 132 = .ok (.iaload, 1) := by decide +kernel
theorem dX6_goAll_133 : decode cX6_goAll 133 = .ok (.invokevirtual 125, 3) := by decide +kernel
theorem dX6_goAll_136 : decode cX6_goAll 136 = .ok (.istore 5, 2) := by decide +kernel
theorem dX6_goAll_138 : decode cX6_goAll 138 = .ok (.aload_n 0, 1) := by decide +kernel
theorem dX6_goAll_139 : decode cX6_goAll 139 = .ok (.getfield 92, 3) := by decide +kernel
theorem dX6_goAll_142 : decode cX6_goAll 142 = .ok (.iload_n 3, 1) := by decide +kernel
theorem dX6_goAll_143 : decode cX6_goAll 143 = .ok (.iload 5, 2) := by decide +kernel
theorem dX6_goAll_145 : decode cX6_goAll 145 = .ok (.iconst 1, 1) := by decide +kernel
theorem dX6_goAll_146 : decode cX6_goAll 146 = .ok (.iadd, 1) := by decide +kernel
theorem dX6_goAll_147 : decode cX6_goAll 147 = .ok (.iastore, 1) := by decide +kernel
theorem dX6_goAll_148 : decode cX6_goAll 148 = .ok (.iload 5, 2) := by decide +kernel
theorem dX6_goAll_150 : decode cX6_goAll 150 = .ok (.aload_n 0, 1) := by decide +kernel
theorem dX6_goAll_151 : decode cX6_goAll 151 = .ok (.getfield 118, 3) := by decide +kernel
theorem dX6_goAll_154 : decode cX6_goAll 154 = .ok (.if_icmp .ne 21, 3) := by decide +kernel
theorem dX6_goAll_157 : decode cX6_goAll 157 = .ok (.aload_n 0, 1) := by decide +kernel
theorem dX6_goAll_158 : decode cX6_goAll 158 = .ok (.getfield 95, 3) := by decide +kernel
theorem dX6_goAll_161 : decode cX6_goAll 161 = .ok (.aload_n 0, 1) := by decide +kernel
theorem dX6_goAll_162 : decode cX6_goAll 162 = .ok (.getfield 83, 3) := by decide +kernel
theorem dX6_goAll_165 : decode cX6_goAll 165 = .ok (.iload_n 3, 1) := by decide +kernel
theorem dX6_goAll_166 : decode cX6_goAll 166 = .ok (.iaload, 1) := by decide +kernel
theorem dX6_goAll_167 : decode cX6_goAll 167 = .ok (.iconst 0, 1) := by decide +kernel
theorem dX6_goAll_168 : decode cX6_goAll 168 = .ok (.bastore, 1) := by decide +kernel
theorem dX6_goAll_169 : decode cX6_goAll 169 = .ok (.iinc 3 (-1), 3) := by decide +kernel
theorem dX6_goAll_172 : decode cX6_goAll 172 = .ok (.goto 93, 3) := by decide +kernel
theorem dX6_goAll_175 : decode cX6_goAll 175 = .ok (.aload_n 0, 1) := by decide +kernel
theorem dX6_goAll_176 : decode cX6_goAll 176 = .ok (.getfield 80, 3) := by decide +kernel
theorem dX6_goAll_179 : decode cX6_goAll 179 = .ok (.iload_n 3, 1) := by decide +kernel
theorem dX6_goAll_180 : decode cX6_goAll 180 = .ok (.iload 5, 2) := by decide +kernel
theorem dX6_goAll_182 : decode cX6_goAll 182 = .ok (.iastore, 1) := by decide +kernel
theorem dX6_goAll_183 : decode cX6_goAll 183 = .ok (.iinc 3 1, 3) := by decide +kernel
theorem dX6_goAll_186 : decode cX6_goAll 186 = .ok (.aload_n 0, 1) := by decide +kernel
theorem dX6_goAll_187 : decode cX6_goAll 187 = .ok (.getfield 83, 3) := by decide +kernel
theorem dX6_goAll_190 : decode cX6_goAll 190 = .ok (.iload_n 3, 1) := by decide +kernel
theorem dX6_goAll_191 : decode cX6_goAll 191 = .ok (.aload_n 0, 1) := by decide +kernel
theorem dX6_goAll_192 : decode cX6_goAll 192 = .ok (.getfield 16, 3) := by decide +kernel
theorem dX6_goAll_195 : decode cX6_goAll 195 = .ok (.iload 5, 2) := by decide +kernel
theorem dX6_goAll_197 : decode cX6_goAll 197 = .ok (.iaload, 1) := by decide +kernel
theorem dX6_goAll_198 : decode cX6_goAll 198 = .ok (.iastore, 1) := by decide +kernel
theorem dX6_goAll_199 : decode cX6_goAll 199 = .ok (.aload_n 0, 1) := by decide +kernel
theorem dX6_goAll_200 : decode cX6_goAll 200 = .ok (.getfield 86, 3) := by decide +kernel
theorem dX6_goAll_203 : decode cX6_goAll 203 = .ok (.iload_n 3, 1) := by decide +kernel
theorem dX6_goAll_204 : decode cX6_goAll 204 = .ok (.aload_n 0, 1) := by decide +kernel
theorem dX6_goAll_205 : decode cX6_goAll 205 = .ok (.getfield 86, 3) := by decide +kernel
theorem dX6_goAll_208 : decode cX6_goAll 208 = .ok (.iload_n 3, 1) := by decide +kernel
theorem dX6_goAll_209 : decode cX6_goAll 209 = .ok (.iconst 1, 1) := by decide +kernel
theorem dX6_goAll_210 : decode cX6_goAll 210 = .ok (.isub, 1) := by decide +kernel
theorem dX6_goAll_211 : decode cX6_goAll 211 = .ok (.iaload, 1) := by decide +kernel
theorem dX6_goAll_212 : decode cX6_goAll 212 = .ok (.aload_n 0, 1) := by decide +kernel
theorem dX6_goAll_213 : decode cX6_goAll 213 = .ok (.getfield 19, 3) := by decide +kernel
theorem dX6_goAll_216 : decode cX6_goAll 216 = .ok (.iload 5, 2) := by decide +kernel
theorem dX6_goAll_218 : decode cX6_goAll 218 = .ok (.iaload, 1) := by decide +kernel
theorem dX6_goAll_219 : decode cX6_goAll 219 = .ok (.invokestatic 129, 3) := by decide +kernel
theorem dX6_goAll_222 : decode cX6_goAll 222 = .ok (.iastore, 1) := by decide +kernel
theorem dX6_goAll_223 : decode cX6_goAll 223 = .ok (.aload_n 0, 1) := by decide +kernel
theorem dX6_goAll_224 : decode cX6_goAll 224 = .ok (.getfield 89, 3) := by decide +kernel
theorem dX6_goAll_227 : decode cX6_goAll 227 = .ok (.iload_n 3, 1) := by decide +kernel
theorem dX6_goAll_228 : decode cX6_goAll 228 = .ok (.aload_n 0, 1) := by decide +kernel
theorem dX6_goAll_229 : decode cX6_goAll 229 = .ok (.getfield 89, 3) := by decide +kernel
theorem dX6_goAll_232 : decode cX6_goAll 232 = .ok (.iload_n 3, 1) := by decide +kernel
theorem dX6_goAll_233 : decode cX6_goAll 233 = .ok (.iconst 1, 1) := by decide +kernel
theorem dX6_goAll_234 : decode cX6_goAll 234 = .ok (.isub, 1) := by decide +kernel
theorem dX6_goAll_235 : decode cX6_goAll 235 = .ok (.iaload, 1) := by decide +kernel
theorem dX6_goAll_236 : decode cX6_goAll 236 = .ok (.aload_n 0, 1) := by decide +kernel
theorem dX6_goAll_237 : decode cX6_goAll 237 = .ok (.getfield 22, 3) := by decide +kernel
theorem dX6_goAll_240 : decode cX6_goAll 240 = .ok (.iload 5, 2) := by decide +kernel
theorem dX6_goAll_242 : decode cX6_goAll 242 = .ok (.iaload, 1) := by decide +kernel
theorem dX6_goAll_243 : decode cX6_goAll 243 = .ok (.iadd, 1) := by decide +kernel
theorem dX6_goAll_244 : decode cX6_goAll 244 = .ok (.iastore, 1) := by decide +kernel
theorem dX6_goAll_245 : decode cX6_goAll 245 = .ok (.aload_n 0, 1) := by decide +kernel
theorem dX6_goAll_246 : decode cX6_goAll 246 = .ok (.getfield 92, 3) := by decide +kernel
theorem dX6_goAll_249 : decode cX6_goAll 249 = .ok (.iload_n 3, 1) := by decide +kernel
theorem dX6_goAll_250 : decode cX6_goAll 250 = .ok (.iconst 0, 1) := by decide +kernel
theorem dX6_goAll_251 : decode cX6_goAll 251 = .ok (.iastore, 1) := by decide +kernel
theorem dX6_goAll_252 : decode cX6_goAll 252 = .ok (.aload_n 0, 1) := by decide +kernel
theorem dX6_goAll_253 : decode cX6_goAll 253 = .ok (.getfield 95, 3) := by decide +kernel
theorem dX6_goAll_256 : decode cX6_goAll 256 = .ok (.aload_n 0, 1) := by decide +kernel
theorem dX6_goAll_257 : decode cX6_goAll 257 = .ok (.getfield 16, 3) := by decide +kernel
theorem dX6_goAll_260 : decode cX6_goAll 260 = .ok (.iload 5, 2) := by decide +kernel
theorem dX6_goAll_262 : decode cX6_goAll 262 = .ok (.iaload, 1) := by decide +kernel
theorem dX6_goAll_263 : decode cX6_goAll 263 = .ok (.iconst 1, 1) := by decide +kernel
theorem dX6_goAll_264 : decode cX6_goAll 264 = .ok (.bastore, 1) := by decide +kernel
theorem dX6_goAll_265 : decode cX6_goAll 265 = .ok (.goto (-223), 3) := by decide +kernel
theorem dX6_goAll_268 : decode cX6_goAll 268 = .ok (.iload 4, 2) := by decide +kernel
theorem dX6_goAll_270 : decode cX6_goAll 270 = .ok (.ireturn, 1) := by decide +kernel
theorem dX6_find_0 : decode cX6_find 0 = .ok (.aload_n 0, 1) := by decide +kernel
theorem dX6_find_1 : decode cX6_find 1 = .ok (.getfield 132, 3) := by decide +kernel
theorem dX6_find_4 : decode cX6_find 4 = .ok (.ifCond .ne 68, 3) := by decide +kernel
theorem dX6_find_7 : decode cX6_find 7 = .ok (.iconst 0, 1) := by decide +kernel
theorem dX6_find_8 : decode cX6_find 8 = .ok (.istore_n 1, 1) := by decide +kernel
theorem dX6_find_9 : decode cX6_find 9 = .ok (.iload_n 1, 1) := by decide +kernel
theorem dX6_find_10 : decode cX6_find 10 = .ok (.bipush 100, 2) := by decide +kernel
theorem dX6_find_12 : decode cX6_find 12 = .ok (.if_icmp .ge 30, 3) := by decide +kernel
theorem dX6_find_15 : decode cX6_find 15 = .ok (.aload_n 0, 1) := by decide +kernel
theorem dX6_find_16 : decode cX6_find 16 = .ok (.getfield 68, 3) := by decide +kernel
theorem dX6_find_19 : decode cX6_find 19 = .ok (.iload_n 1, 1) := by decide +kernel
theorem dX6_find_20 : decode cX6_find 20 = .ok (.iconst (-1), 1) := by decide +kernel
theorem dX6_find_21 : decode cX6_find 21 = .ok (.iastore, 1) := by decide +kernel
theorem dX6_find_22 : decode cX6_find 22 = .ok (.aload_n 0, 1) := by decide +kernel
theorem dX6_find_23 : decode cX6_find 23 = .ok (.getfield 71, 3) := by decide +kernel
theorem dX6_find_26 : decode cX6_find 26 = .ok (.iload_n 1, 1) := by decide +kernel
theorem dX6_find_27 : decode cX6_find 27 = .ok (.iconst (-1), 1) := by decide +kernel
theorem dX6_find_28 : decode cX6_find 28 = .ok (.iastore, 1) := by decide +kernel
theorem dX6_find_29 : decode cX6_find 29 = .ok (.aload_n 0, 1) := by decide +kernel
theorem dX6_find_30 : decode cX6_find 30 = .ok (.getfield 74, 3) := by decide +kernel
theorem dX6_find_33 : decode cX6_find 33 = .ok (.iload_n 1, 1) := by decide +kernel
theorem dX6_find_34 : decode cX6_find 34 = .ok (.iconst 0, 1) := by decide +kernel
theorem dX6_find_35 : decode cX6_find 35 = .ok (.iastore, 1) := by decide +kernel
theorem dX6_find_36 : decode cX6_find 36 = .ok (.iinc 1 1, 3) := by decide +kernel
theorem dX6_find_39 : decode cX6_find 39 = .ok (.goto (-30), 3) := by decide +kernel
theorem dX6_find_42 : decode cX6_find 42 = .ok (.iconst 0, 1) := by decide +kernel
theorem dX6_find_43 : decode cX6_find 43 = .ok (.istore_n 1, 1) := by decide +kernel
theorem dX6_find_44 : decode cX6_find 44 = .ok (.iconst 0, 1) := by decide +kernel
theorem dX6_find_45 : decode cX6_find 45 = .ok (.istore_n 2, 1) := by decide +kernel
theorem dX6_find_46 : decode cX6_find 46 = .ok (.iload_n 2, 1) := by decide +kernel
theorem dX6_find_47 : decode cX6_find 47 = .ok (.bipush 10, 2) := by decide +kernel
theorem dX6_find_49 : decode cX6_find 49 = .ok (.if_icmp .ge 18, 3) := by decide +kernel
theorem dX6_find_52 : decode cX6_find 52 = .ok (.iload_n 1, 1) := by decide +kernel
theorem dX6_find_53 : decode cX6_find 53 = .ok (.aload_n 0, 1) := by decide +kernel
theorem dX6_find_54 : decode cX6_find 54 = .ok (.iload_n 2, 1) := by decide +kernel
theorem dX6_find_55 : decode cX6_find 55 = .ok (.iconst (-1), 1) := by decide +kernel
theorem dX6_find_56 : decode cX6_find 56 = .ok (.invokevirtual 136, 3) := by decide +kernel
theorem dX6_find_59 : decode cX6_find 59 = .ok (.iadd, 1) := by decide +kernel
theorem dX6_find_60 : decode cX6_find 60 = .ok (.istore_n 1, 1) := by decide +kernel
theorem dX6_find_61 : decode cX6_find 61 = .ok (.iinc 2 1, 3) := by decide +kernel
theorem dX6_find_64 : decode cX6_find 64 = .ok (.goto (-18), 3) := by decide +kernel
theorem dX6_find_67 : decode cX6_find 67 = .ok (.aload_n 0, 1) := by decide +kernel
theorem dX6_find_68 : decode cX6_find 68 = .ok (.iconst 1, 1) := by decide +kernel
theorem dX6_find_69 : decode cX6_find 69 = .ok (.putfield 132, 3) := by decide +kernel
theorem dX6_find_72 : decode cX6_find 72 = .ok (.return_, 1) := by decide +kernel
theorem dX6_along_0 : decode cX6_along 0 = .ok (.iload_n 2, 1) := by decide +kernel
theorem dX6_along_1 : decode cX6_along 1 = .ok (.istore_n 3, 1) := by decide +kernel
theorem dX6_along_2 : decode cX6_along 2 = .ok (.iconst 0, 1) := by decide +kernel
theorem dX6_along_3 : decode cX6_along 3 = .ok (.istore 4, 2) := by decide +kernel
theorem dX6_along_5 : decode cX6_along 5 = .ok (.iload 4, 2) := by decide +kernel
theorem dX6_along_7 : decode cX6_along 7 = .ok (.aload_n 0, 1) := by decide +kernel
theorem dX6_along_8 : decode cX6_along 8 = .ok (.getfield 74, 3) := by decide +kernel
theorem dX6_along_11 : decode cX6_along 11 = .ok (.iload_n 1, 1) := by decide +kernel
theorem dX6_along_12 : decode cX6_along 12 = .ok (.iaload, 1) := by decide +kernel
theorem dX6_along_13 : decode cX6_along 13 = .ok (.if_icmp .ge 31, 3) := by decide +kernel
theorem dX6_along_16 : decode cX6_along 16 = .ok (.iload_n 3, 1) := by decide +kernel
theorem dX6_along_17 : decode cX6_along 17 = .ok (.aload_n 0, 1) := by decide +kernel
theorem dX6_along_18 : decode cX6_along 18 = .ok (.getfield 19, 3) := by decide +kernel
theorem dX6_along_21 : decode cX6_along 21 = .ok (.aload_n 0, 1) := by decide +kernel
theorem dX6_along_22 : decode cX6_along 22 = .ok (.getfield 77, 3) := by decide +kernel
theorem dX6_along_25 : decode cX6_along 25 = .ok (.bipush 9, 2) := by decide +kernel
theorem dX6_along_27 : decode cX6_along 27 = .ok (.iload_n 1, 1) := by decide +kernel
theorem dX6_along_28 : decode cX6_along 28 = .ok (.imul, 1) := by decide +kernel
theorem dX6_along_29 : decode cX6_along 29 = .ok (.iload 4, 2) := by decide +kernel
theorem dX6_along_31 : decode cX6_along 31 = .ok (.iadd, 1) := by decide +kernel
theorem dX6_along_32 : decode cX6_along 32 = .ok (.iaload, 1) := by decide +kernel
theorem dX6_along_33 : decode cX6_along 33 = .ok (.iaload, 1) := by decide +kernel
theorem dX6_along_34 : decode cX6_along 34 = .ok (.invokestatic 129, 3) := by decide +kernel
theorem dX6_along_37 : decode cX6_along 37 = .ok (.istore_n 3, 1) := by decide +kernel
theorem dX6_along_38 : decode cX6_along 38 = .ok (.iinc 4 1, 3) := by decide +kernel
theorem dX6_along_41 : decode cX6_along 41 = .ok (.goto (-36), 3) := by decide +kernel
theorem dX6_along_44 : decode cX6_along 44 = .ok (.iload_n 3, 1) := by decide +kernel
theorem dX6_along_45 : decode cX6_along 45 = .ok (.ireturn, 1) := by decide +kernel
theorem dX6_isSafeIn_0 : decode cX6_isSafeIn 0 = .ok (.aload_n 0, 1) := by decide +kernel
theorem dX6_isSafeIn_1 : decode cX6_isSafeIn 1 = .ok (.getfield 7, 3) := by decide +kernel
theorem dX6_isSafeIn_4 : decode cX6_isSafeIn 4 = .ok (.iload_n 2, 1) := by decide +kernel
theorem dX6_isSafeIn_5 : decode cX6_isSafeIn 5 = .ok (.iaload, 1) := by decide +kernel
theorem dX6_isSafeIn_6 : decode cX6_isSafeIn 6 = .ok (.iconst (-1), 1) := by decide +kernel
theorem dX6_isSafeIn_7 : decode cX6_isSafeIn 7 = .ok (.if_icmp .eq 27, 3) := by decide +kernel
theorem dX6_isSafeIn_10 : decode cX6_isSafeIn 10 = .ok (.aload_n 0, 1) := by decide +kernel
theorem dX6_isSafeIn_11 : decode cX6_isSafeIn 11 = .ok (.getfield 59, 3) := by decide +kernel
theorem dX6_isSafeIn_14 : decode cX6_isSafeIn 14 = .ok (.iload_n 1, 1) := by decide +kernel
theorem dX6_isSafeIn_15 : decode cX6_isSafeIn 15 = .ok (.baload, 1) := by decide +kernel
theorem dX6_isSafeIn_16 : decode cX6_isSafeIn 16 = .ok (.ifCond .ne 22, 3) := by decide +kernel
theorem dX6_isSafeIn_19 : decode cX6_isSafeIn 19 = .ok (.aload_n 0, 1) := by decide +kernel
theorem dX6_isSafeIn_20 : decode cX6_isSafeIn 20 = .ok (.getfield 7, 3) := by decide +kernel
theorem dX6_isSafeIn_23 : decode cX6_isSafeIn 23 = .ok (.iload_n 2, 1) := by decide +kernel
theorem dX6_isSafeIn_24 : decode cX6_isSafeIn 24 = .ok (.iaload, 1) := by decide +kernel
theorem dX6_isSafeIn_25 : decode cX6_isSafeIn 25 = .ok (.aload_n 0, 1) := by decide +kernel
theorem dX6_isSafeIn_26 : decode cX6_isSafeIn 26 = .ok (.getfield 50, 3) := by decide +kernel
theorem dX6_isSafeIn_29 : decode cX6_isSafeIn 29 = .ok (.iload_n 1, 1) := by decide +kernel
theorem dX6_isSafeIn_30 : decode cX6_isSafeIn 30 = .ok (.iaload, 1) := by decide +kernel
theorem dX6_isSafeIn_31 : decode cX6_isSafeIn 31 = .ok (.if_icmp .lt 7, 3) := by decide +kernel
theorem dX6_isSafeIn_34 : decode cX6_isSafeIn 34 = .ok (.iconst 1, 1) := by decide +kernel
theorem dX6_isSafeIn_35 : decode cX6_isSafeIn 35 = .ok (.goto 4, 3) := by decide +kernel
theorem dX6_isSafeIn_38 : decode cX6_isSafeIn 38 = .ok (.iconst 0, 1) := by decide +kernel
theorem dX6_isSafeIn_39 : decode cX6_isSafeIn 39 = .ok (.ireturn, 1) := by decide +kernel
theorem dX6_havenOf_0 : decode cX6_havenOf 0 = .ok (.iconst (-1), 1) := by decide +kernel
theorem dX6_havenOf_1 : decode cX6_havenOf 1 = .ok (.istore_n 2, 1) := by decide +kernel
theorem dX6_havenOf_2 : decode cX6_havenOf 2 = .ok (.iconst (-1), 1) := by decide +kernel
theorem dX6_havenOf_3 : decode cX6_havenOf 3 = .ok (.istore_n 3, 1) := by decide +kernel
theorem dX6_havenOf_4 : decode cX6_havenOf 4 = .ok (.iconst 0, 1) := by decide +kernel
theorem dX6_havenOf_5 : decode cX6_havenOf 5 = .ok (.istore 4, 2) := by decide +kernel
theorem dX6_havenOf_7 : decode cX6_havenOf 7 = .ok (.iconst 0, 1) := by decide +kernel
theorem dX6_havenOf_8 : decode cX6_havenOf 8 = .ok (.istore 5, 2) := by decide +kernel
theorem dX6_havenOf_10 : decode cX6_havenOf 10 = .ok (.iload 5, 2) := by decide +kernel
theorem dX6_havenOf_12 : decode cX6_havenOf 12 = .ok (.bipush 10, 2) := by decide +kernel
theorem dX6_havenOf_14 : decode cX6_havenOf 14 = .ok (.if_icmp .ge 123, 3) := by decide +kernel
theorem dX6_havenOf_17 : decode cX6_havenOf 17 = .ok (.bipush 10, 2) := by decide +kernel
theorem dX6_havenOf_19 : decode cX6_havenOf 19 = .ok (.aload_n 0, 1) := by decide +kernel
theorem dX6_havenOf_20 : decode cX6_havenOf 20 = .ok (.getfield 38, 3) := by decide +kernel
theorem dX6_havenOf_23 : decode cX6_havenOf 23 = .ok (.iload_n 1, 1) := by decide +kernel
theorem dX6_havenOf_24 : decode cX6_havenOf 24 = .ok (.iaload, 1) := by decide +kernel
theorem dX6_havenOf_25 : decode cX6_havenOf 25 = .ok (.imul, 1) := by decide +kernel
theorem dX6_havenOf_26 : decode cX6_havenOf 26 = .ok (.iload 5, 2) := by decide +kernel
theorem dX6_havenOf_28 : decode cX6_havenOf 28 = .ok (.iadd, 1) := by decide +kernel
theorem dX6_havenOf_29 : decode cX6_havenOf 29 = .ok (.istore 6, 2) := by decide +kernel
theorem dX6_havenOf_31 : decode cX6_havenOf 31 = .ok (.aload_n 0, 1) := by decide +kernel
theorem dX6_havenOf_32 : decode cX6_havenOf 32 = .ok (.getfield 68, 3) := by decide +kernel
theorem dX6_havenOf_35 : decode cX6_havenOf 35 = .ok (.iload 6, 2) := by decide +kernel
theorem dX6_havenOf_37 : decode cX6_havenOf 37 = .ok (.iaload, 1) := by decide +kernel
theorem dX6_havenOf_38 : decode cX6_havenOf 38 = .ok (.iconst (-1), 1) := by decide +kernel
theorem dX6_havenOf_39 : decode cX6_havenOf 39 = .ok (.if_icmp .ne 7, 3) := by decide +kernel
theorem dX6_havenOf_42 : decode cX6_havenOf 42 = .ok (.iconst (-1), 1) := by decide +kernel
theorem dX6_havenOf_43 : decode cX6_havenOf 43 = .ok (.goto 15, 3) := by decide +kernel
theorem dX6_havenOf_46 : decode cX6_havenOf 46 = .ok (.aload_n 0, 1) := by decide +kernel
theorem dX6_havenOf_47 : decode cX6_havenOf 47 = .ok (.iload 6, 2) := by decide +kernel
theorem dX6_havenOf_49 : decode cX6_havenOf 49 = .ok (.aload_n 0, 1) := by decide +kernel
theorem dX6_havenOf_50 : decode cX6_havenOf 50 = .ok (.getfield 47, 3) := by decide +kernel
theorem dX6_havenOf_53 : decode cX6_havenOf 53 = .ok (.iload_n 1, 1) := by decide +kernel
theorem dX6_havenOf_54 : decode cX6_havenOf 54 = .ok (.iaload, 1) := by decide +kernel
theorem dX6_havenOf_55 : decode cX6_havenOf 55 = .ok (.invokevirtual 139, 3) := by decide +kernel
theorem dX6_havenOf_58 : decode cX6_havenOf 58 = .ok (.istore 7, 2) := by decide +kernel
theorem dX6_havenOf_60 : decode cX6_havenOf 60 = .ok (.iload 7, 2) := by decide +kernel
theorem dX6_havenOf_62 : decode cX6_havenOf 62 = .ok (.iconst (-1), 1) := by decide +kernel
theorem dX6_havenOf_63 : decode cX6_havenOf 63 = .ok (.if_icmp .eq 68, 3) := by decide +kernel
theorem dX6_havenOf_66 : decode cX6_havenOf 66 = .ok (.aload_n 0, 1) := by decide +kernel
theorem dX6_havenOf_67 : decode cX6_havenOf 67 = .ok (.iload_n 1, 1) := by decide +kernel
theorem dX6_havenOf_68 : decode cX6_havenOf 68 = .ok (.iload 5, 2) := by decide +kernel
theorem dX6_havenOf_70 : decode cX6_havenOf 70 = .ok (.invokevirtual 142, 3) := by decide +kernel
theorem dX6_havenOf_73 : decode cX6_havenOf 73 = .ok (.ifCond .eq 58, 3) := by decide +kernel
theorem dX6_havenOf_76 : decode cX6_havenOf 76 = .ok (.iload 7, 2) := by decide +kernel
theorem dX6_havenOf_78 : decode cX6_havenOf 78 = .ok (.aload_n 0, 1) := by decide +kernel
theorem dX6_havenOf_79 : decode cX6_havenOf 79 = .ok (.getfield 32, 3) := by decide +kernel
theorem dX6_havenOf_82 : decode cX6_havenOf 82 = .ok (.aload_n 0, 1) := by decide +kernel
theorem dX6_havenOf_83 : decode cX6_havenOf 83 = .ok (.getfield 44, 3) := by decide +kernel
theorem dX6_havenOf_86 : decode cX6_havenOf 86 = .ok (.iload_n 1, 1) := by decide +kernel
theorem dX6_havenOf_87 : decode cX6_havenOf 87 = .ok (.iaload, 1) := by decide +kernel
theorem dX6_havenOf_88 : decode cX6_havenOf 88 = .ok (.iaload, 1) := by decide +kernel
theorem dX6_havenOf_89 : decode cX6_havenOf 89 = .ok (.if_icmp .lt 42, 3) := by decide +kernel
theorem dX6_havenOf_92 : decode cX6_havenOf 92 = .ok (.iload 7, 2) := by decide +kernel
theorem dX6_havenOf_94 : decode cX6_havenOf 94 = .ok (.iload_n 3, 1) := by decide +kernel
theorem dX6_havenOf_95 : decode cX6_havenOf 95 = .ok (.if_icmp .gt 21, 3) := by decide +kernel
theorem dX6_havenOf_98 : decode cX6_havenOf 98 = .ok (.iload 7, 2) := by decide +kernel
theorem dX6_havenOf_100 : decode cX6_havenOf 100 = .ok (.iload_n 3, 1) := by decide +kernel
theorem dX6_havenOf_101 : decode cX6_havenOf 101 = .ok (.if_icmp .ne 30, 3) := by decide +kernel
theorem dX6_havenOf_104 : decode cX6_havenOf 104 = .ok (.aload_n 0, 1) := by decide +kernel
theorem dX6_havenOf_105 : decode cX6_havenOf 105 = .ok (.getfield 71, 3) := by decide +kernel
theorem dX6_havenOf_108 : decode cX6_havenOf 108 = .ok (.iload 6, 2) := by decide +kernel
theorem dX6_havenOf_110 : decode cX6_havenOf 110 = .ok (.iaload, 1) := by decide +kernel
theorem dX6_havenOf_111 : decode cX6_havenOf 111 = .ok (.iload 4, 2) := by decide +kernel
theorem dX6_havenOf_113 : decode cX6_havenOf 113 = .ok (.if_icmp .ge 18, 3) := by decide +kernel
theorem dX6_havenOf_116 : decode cX6_havenOf 116 = .ok (.iload 5, 2) := by decide +kernel
theorem dX6_havenOf_118 : decode cX6_havenOf 118 = .ok (.istore_n 2, 1) := by decide +kernel
theorem dX6_havenOf_119 : decode cX6_havenOf 119 = .ok (.iload 7, 2) := by decide +kernel
theorem dX6_havenOf_121 : decode cX6_havenOf 121 = .ok (.istore_n 3, 1) := by decide +kernel
theorem dX6_havenOf_122 : decode cX6_havenOf 122 = .ok (.aload_n 0, 1) := by decide +kernel
theorem dX6_havenOf_123 : decode cX6_havenOf 123 = .ok (.getfield 71, 3) := by decide +kernel
theorem dX6_havenOf_126 : decode cX6_havenOf 126 = .ok (.iload 6, 2) := by decide +kernel
theorem dX6_havenOf_128 : decode cX6_havenOf 128 = .ok (.iaload, 1) := by decide +kernel
theorem dX6_havenOf_129 : decode cX6_havenOf 129 = .ok (.istore 4, 2) := by decide +kernel
theorem dX6_havenOf_131 : decode cX6_havenOf 131 = .ok (.iinc 5 1, 3) := by decide +kernel
theorem dX6_havenOf_134 : decode cX6_havenOf 134 = .ok (.goto (-124), 3) := by decide +kernel
theorem dX6_havenOf_137 : decode cX6_havenOf 137 = .ok (.aload_n 0, 1) := by decide +kernel
theorem dX6_havenOf_138 : decode cX6_havenOf 138 = .ok (.getfield 56, 3) := by decide +kernel
theorem dX6_havenOf_141 : decode cX6_havenOf 141 = .ok (.iload_n 1, 1) := by decide +kernel
theorem dX6_havenOf_142 : decode cX6_havenOf 142 = .ok (.iaload, 1) := by decide +kernel
theorem dX6_havenOf_143 : decode cX6_havenOf 143 = .ok (.ifCond .ne 7, 3) := by decide +kernel
theorem dX6_havenOf_146 : decode cX6_havenOf 146 = .ok (.iload_n 2, 1) := by decide +kernel
theorem dX6_havenOf_147 : decode cX6_havenOf 147 = .ok (.goto 4, 3) := by decide +kernel
theorem dX6_havenOf_150 : decode cX6_havenOf 150 = .ok (.iconst (-1), 1) := by decide +kernel
theorem dX6_havenOf_151 : decode cX6_havenOf 151 = .ok (.ireturn, 1) := by decide +kernel
theorem dX6_affords_0 : decode cX6_affords 0 = .ok (.aload_n 0, 1) := by decide +kernel
theorem dX6_affords_1 : decode cX6_affords 1 = .ok (.getfield 41, 3) := by decide +kernel
theorem dX6_affords_4 : decode cX6_affords 4 = .ok (.iload_n 1, 1) := by decide +kernel
theorem dX6_affords_5 : decode cX6_affords 5 = .ok (.iaload, 1) := by decide +kernel
theorem dX6_affords_6 : decode cX6_affords 6 = .ok (.aload_n 0, 1) := by decide +kernel
theorem dX6_affords_7 : decode cX6_affords 7 = .ok (.getfield 71, 3) := by decide +kernel
theorem dX6_affords_10 : decode cX6_affords 10 = .ok (.bipush 10, 2) := by decide +kernel
theorem dX6_affords_12 : decode cX6_affords 12 = .ok (.aload_n 0, 1) := by decide +kernel
theorem dX6_affords_13 : decode cX6_affords 13 = .ok (.getfield 38, 3) := by decide +kernel
theorem dX6_affords_16 : decode cX6_affords 16 = .ok (.iload_n 1, 1) := by decide +kernel
theorem dX6_affords_17 : decode cX6_affords 17 = .ok (.iaload, 1) := by decide +kernel
theorem dX6_affords_18 : decode cX6_affords 18 = .ok (.imul, 1) := by decide +kernel
theorem dX6_affords_19 : decode cX6_affords 19 = .ok (.iload_n 2, 1) := by decide +kernel
theorem dX6_affords_20 : decode cX6_affords 20 = .ok (.iadd, 1) := by decide +kernel
theorem dX6_affords_21 : decode cX6_affords 21 = .ok (.iaload, 1) := by decide +kernel
theorem dX6_affords_22 : decode cX6_affords 22 = .ok (.imul, 1) := by decide +kernel
theorem dX6_affords_23 : decode cX6_affords 23 = .ok (.aload_n 0, 1) := by decide +kernel
theorem dX6_affords_24 : decode cX6_affords 24 = .ok (.getfield 102, 3) := by decide +kernel
theorem dX6_affords_27 : decode cX6_affords 27 = .ok (.if_icmp .gt 7, 3) := by decide +kernel
theorem dX6_affords_30 : decode cX6_affords 30 = .ok (.iconst 1, 1) := by decide +kernel
theorem dX6_affords_31 : decode cX6_affords 31 = .ok (.goto 4, 3) := by decide +kernel
theorem dX6_affords_34 : decode cX6_affords 34 = .ok (.iconst 0, 1) := by decide +kernel
theorem dX6_affords_35 : decode cX6_affords 35 = .ok (.ireturn, 1) := by decide +kernel
theorem dX6_take_0 : decode cX6_take 0 = .ok (.bipush 10, 2) := by decide +kernel
theorem dX6_take_2 : decode cX6_take 2 = .ok (.aload_n 0, 1) := by decide +kernel
theorem dX6_take_3 : decode cX6_take 3 = .ok (.getfield 38, 3) := by decide +kernel
theorem dX6_take_6 : decode cX6_take 6 = .ok (.iload_n 1, 1) := by decide +kernel
theorem dX6_take_7 : decode cX6_take 7 = .ok (.iaload, 1) := by decide +kernel
theorem dX6_take_8 : decode cX6_take 8 = .ok (.imul, 1) := by decide +kernel
theorem dX6_take_9 : decode cX6_take 9 = .ok (.iload_n 2, 1) := by decide +kernel
theorem dX6_take_10 : decode cX6_take 10 = .ok (.iadd, 1) := by decide +kernel
theorem dX6_take_11 : decode cX6_take 11 = .ok (.istore_n 3, 1) := by decide +kernel
theorem dX6_take_12 : decode cX6_take 12 = .ok (.aload_n 0, 1) := by decide +kernel
theorem dX6_take_13 : decode cX6_take 13 = .ok (.dup, 1) := by decide +kernel
theorem dX6_take_14 : decode cX6_take 14 = .ok (.getfield 102, 3) := by decide +kernel
theorem dX6_take_17 : decode cX6_take 17 = .ok (.aload_n 0, 1) := by decide +kernel
theorem dX6_take_18 : decode cX6_take 18 = .ok (.getfield 41, 3) := by decide +kernel
theorem dX6_take_21 : decode cX6_take 21 = .ok (.iload_n 1, 1) := by decide +kernel
theorem dX6_take_22 : decode cX6_take 22 = .ok (.iaload, 1) := by decide +kernel
theorem dX6_take_23 : decode cX6_take 23 = .ok (.aload_n 0, 1) := by decide +kernel
theorem dX6_take_24 : decode cX6_take 24 = .ok (.getfield 71, 3) := by decide +kernel
theorem dX6_take_27 : decode cX6_take 27 = .ok (.iload_n 3, 1) := by decide +kernel
theorem dX6_take_28 : decode cX6_take 28 = .ok (.iaload, 1) := by decide +kernel
theorem dX6_take_29 : decode cX6_take 29 = .ok (.imul, 1) := by decide +kernel
theorem dX6_take_30 : decode cX6_take 30 = .ok (.isub, 1) := by decide +kernel
theorem dX6_take_31 : decode cX6_take 31 = .ok (.putfield 102, 3) := by decide +kernel
theorem dX6_take_34 : decode cX6_take 34 = .ok (.aload_n 0, 1) := by decide +kernel
theorem dX6_take_35 : decode cX6_take 35 = .ok (.getfield 47, 3) := by decide +kernel
theorem dX6_take_38 : decode cX6_take 38 = .ok (.iload_n 1, 1) := by decide +kernel
theorem dX6_take_39 : decode cX6_take 39 = .ok (.aload_n 0, 1) := by decide +kernel
theorem dX6_take_40 : decode cX6_take 40 = .ok (.iload_n 3, 1) := by decide +kernel
theorem dX6_take_41 : decode cX6_take 41 = .ok (.aload_n 0, 1) := by decide +kernel
theorem dX6_take_42 : decode cX6_take 42 = .ok (.getfield 47, 3) := by decide +kernel
theorem dX6_take_45 : decode cX6_take 45 = .ok (.iload_n 1, 1) := by decide +kernel
theorem dX6_take_46 : decode cX6_take 46 = .ok (.iaload, 1) := by decide +kernel
theorem dX6_take_47 : decode cX6_take 47 = .ok (.invokevirtual 139, 3) := by decide +kernel
theorem dX6_take_50 : decode cX6_take 50 = .ok (.iastore, 1) := by decide +kernel
theorem dX6_take_51 : decode cX6_take 51 = .ok (.aload_n 0, 1) := by decide +kernel
theorem dX6_take_52 : decode cX6_take 52 = .ok (.getfield 38, 3) := by decide +kernel
theorem dX6_take_55 : decode cX6_take 55 = .ok (.iload_n 1, 1) := by decide +kernel
theorem dX6_take_56 : decode cX6_take 56 = .ok (.iload_n 2, 1) := by decide +kernel
theorem dX6_take_57 : decode cX6_take 57 = .ok (.iastore, 1) := by decide +kernel
theorem dX6_take_58 : decode cX6_take 58 = .ok (.return_, 1) := by decide +kernel
theorem dX6_setLast_0 : decode cX6_setLast 0 = .ok (.iload_n 1, 1) := by decide +kernel
theorem dX6_setLast_1 : decode cX6_setLast 1 = .ok (.invokestatic 146, 3) := by decide +kernel
theorem dX6_setLast_4 : decode cX6_setLast 4 = .ok (.ifCond .eq 9, 3) := by decide +kernel
theorem dX6_setLast_7 : decode cX6_setLast 7 = .ok (.aload_n 0, 1) := by decide +kernel
theorem dX6_setLast_8 : decode cX6_setLast 8 = .ok (.iconst 1, 1) := by decide +kernel
theorem dX6_setLast_9 : decode cX6_setLast 9 = .ok (.invokevirtual 150, 3) := by decide +kernel
theorem dX6_setLast_12 : decode cX6_setLast 12 = .ok (.ireturn, 1) := by decide +kernel
theorem dX6_setLast_13 : decode cX6_setLast 13 = .ok (.iload_n 2, 1) := by decide +kernel
theorem dX6_setLast_14 : decode cX6_setLast 14 = .ok (.iconst (-1), 1) := by decide +kernel
theorem dX6_setLast_15 : decode cX6_setLast 15 = .ok (.if_icmp .eq 23, 3) := by decide +kernel
theorem dX6_setLast_18 : decode cX6_setLast 18 = .ok (.iload_n 2, 1) := by decide +kernel
theorem dX6_setLast_19 : decode cX6_setLast 19 = .ok (.aload_n 0, 1) := by decide +kernel
theorem dX6_setLast_20 : decode cX6_setLast 20 = .ok (.getfield 115, 3) := by decide +kernel
theorem dX6_setLast_23 : decode cX6_setLast 23 = .ok (.sipush 1000, 3) := by decide +kernel
theorem dX6_setLast_26 : decode cX6_setLast 26 = .ok (.invokestatic 108, 3) := by decide +kernel
theorem dX6_setLast_29 : decode cX6_setLast 29 = .ok (.ifCond .ne 9, 3) := by decide +kernel
theorem dX6_setLast_32 : decode cX6_setLast 32 = .ok (.aload_n 0, 1) := by decide +kernel
theorem dX6_setLast_33 : decode cX6_setLast 33 = .ok (.iconst 2, 1) := by decide +kernel
theorem dX6_setLast_34 : decode cX6_setLast 34 = .ok (.invokevirtual 150, 3) := by decide +kernel
theorem dX6_setLast_37 : decode cX6_setLast 37 = .ok (.ireturn, 1) := by decide +kernel
theorem dX6_setLast_38 : decode cX6_setLast 38 = .ok (.aload_n 0, 1) := by decide +kernel
theorem dX6_setLast_39 : decode cX6_setLast 39 = .ok (.iload_n 1, 1) := by decide +kernel
theorem dX6_setLast_40 : decode cX6_setLast 40 = .ok (.invokevirtual 154, 3) := by decide +kernel
theorem dX6_setLast_43 : decode cX6_setLast 43 = .ok (.ifCond .ne 9, 3) := by decide +kernel
theorem dX6_setLast_46 : decode cX6_setLast 46 = .ok (.aload_n 0, 1) := by decide +kernel
theorem dX6_setLast_47 : decode cX6_setLast 47 = .ok (.iconst 3, 1) := by decide +kernel
theorem dX6_setLast_48 : decode cX6_setLast 48 = .ok (.invokevirtual 150, 3) := by decide +kernel
theorem dX6_setLast_51 : decode cX6_setLast 51 = .ok (.ireturn, 1) := by decide +kernel
theorem dX6_setLast_52 : decode cX6_setLast 52 = .ok (.aload_n 0, 1) := by decide +kernel
theorem dX6_setLast_53 : decode cX6_setLast 53 = .ok (.iconst 0, 1) := by decide +kernel
theorem dX6_setLast_54 : decode cX6_setLast 54 = .ok (.putfield 105, 3) := by decide +kernel
theorem dX6_setLast_57 : decode cX6_setLast 57 = .ok (.aload_n 0, 1) := by decide +kernel
theorem dX6_setLast_58 : decode cX6_setLast 58 = .ok (.getfield 7, 3) := by decide +kernel
theorem dX6_setLast_61 : decode cX6_setLast 61 = .ok (.iload_n 1, 1) := by decide +kernel
theorem dX6_setLast_62 : decode cX6_setLast 62 = .ok (.iaload, 1) := by decide +kernel
theorem dX6_setLast_63 : decode cX6_setLast 63 = .ok (.istore_n 3, 1) := by decide +kernel
theorem dX6_setLast_64 : decode cX6_setLast 64 = .ok (.aload_n 0, 1) := by decide +kernel
theorem dX6_setLast_65 : decode cX6_setLast 65 = .ok (.getfield 7, 3) := by decide +kernel
theorem dX6_setLast_68 : decode cX6_setLast 68 = .ok (.iload_n 1, 1) := by decide +kernel
theorem dX6_setLast_69 : decode cX6_setLast 69 = .ok (.iload_n 2, 1) := by decide +kernel
theorem dX6_setLast_70 : decode cX6_setLast 70 = .ok (.iastore, 1) := by decide +kernel
theorem dX6_setLast_71 : decode cX6_setLast 71 = .ok (.iload_n 3, 1) := by decide +kernel
theorem dX6_setLast_72 : decode cX6_setLast 72 = .ok (.ireturn, 1) := by decide +kernel
theorem dX6_converter_0 : decode cX6_converter 0 = .ok (.iload_n 1, 1) := by decide +kernel
theorem dX6_converter_1 : decode cX6_converter 1 = .ok (.invokestatic 146, 3) := by decide +kernel
theorem dX6_converter_4 : decode cX6_converter 4 = .ok (.ifCond .ne 10, 3) := by decide +kernel
theorem dX6_converter_7 : decode cX6_converter 7 = .ok (.iload_n 2, 1) := by decide +kernel
theorem dX6_converter_8 : decode cX6_converter 8 = .ok (.invokestatic 146, 3) := by decide +kernel
theorem dX6_converter_11 : decode cX6_converter 11 = .ok (.ifCond .eq 9, 3) := by decide +kernel
theorem dX6_converter_14 : decode cX6_converter 14 = .ok (.aload_n 0, 1) := by decide +kernel
theorem dX6_converter_15 : decode cX6_converter 15 = .ok (.iconst 1, 1) := by decide +kernel
theorem dX6_converter_16 : decode cX6_converter 16 = .ok (.invokevirtual 150, 3) := by decide +kernel
theorem dX6_converter_19 : decode cX6_converter 19 = .ok (.ireturn, 1) := by decide +kernel
theorem dX6_converter_20 : decode cX6_converter 20 = .ok (.iload_n 3, 1) := by decide +kernel
theorem dX6_converter_21 : decode cX6_converter 21 = .ok (.iconst 0, 1) := by decide +kernel
theorem dX6_converter_22 : decode cX6_converter 22 = .ok (.sipush 500, 3) := by decide +kernel
theorem dX6_converter_25 : decode cX6_converter 25 = .ok (.invokestatic 108, 3) := by decide +kernel
theorem dX6_converter_28 : decode cX6_converter 28 = .ok (.ifCond .eq 19, 3) := by decide +kernel
theorem dX6_converter_31 : decode cX6_converter 31 = .ok (.iload 4, 2) := by decide +kernel
theorem dX6_converter_33 : decode cX6_converter 33 = .ok (.iconst 0, 1) := by decide +kernel
theorem dX6_converter_34 : decode cX6_converter 34 = .ok (.bipush 100, 2) := by decide +kernel
theorem dX6_converter_36 : decode cX6_converter 36 = .ok (.invokestatic 108, 3) := by decide +kernel
theorem dX6_converter_39 : decode cX6_converter 39 = .ok (.ifCond .eq 8, 3) := by decide +kernel
theorem dX6_converter_42 : decode cX6_converter 42 = .ok (.iload_n 1, 1) := by decide +kernel
theorem dX6_converter_43 : decode cX6_converter 43 = .ok (.iload_n 2, 1) := by decide +kernel
theorem dX6_converter_44 : decode cX6_converter 44 = .ok (.if_icmp .ne 9, 3) := by decide +kernel
theorem dX6_converter_47 : decode cX6_converter 47 = .ok (.aload_n 0, 1) := by decide +kernel
theorem dX6_converter_48 : decode cX6_converter 48 = .ok (.iconst 2, 1) := by decide +kernel
theorem dX6_converter_49 : decode cX6_converter 49 = .ok (.invokevirtual 150, 3) := by decide +kernel
theorem dX6_converter_52 : decode cX6_converter 52 = .ok (.ireturn, 1) := by decide +kernel
theorem dX6_converter_53 : decode cX6_converter 53 = .ok (.aload_n 0, 1) := by decide +kernel
theorem dX6_converter_54 : decode cX6_converter 54 = .ok (.getfield 118, 3) := by decide +kernel
theorem dX6_converter_57 : decode cX6_converter 57 = .ok (.bipush 30, 2) := by decide +kernel
theorem dX6_converter_59 : decode cX6_converter 59 = .ok (.if_icmp .ne 9, 3) := by decide +kernel
theorem dX6_converter_62 : decode cX6_converter 62 = .ok (.aload_n 0, 1) := by decide +kernel
theorem dX6_converter_63 : decode cX6_converter 63 = .ok (.iconst 3, 1) := by decide +kernel
theorem dX6_converter_64 : decode cX6_converter 64 = .ok (.invokevirtual 150, 3) := by decide +kernel
theorem dX6_converter_67 : decode cX6_converter 67 = .ok (.ireturn, 1) := by decide +kernel
theorem dX6_converter_68 : decode cX6_converter 68 = .ok (.aload_n 0, 1) := by decide +kernel
theorem dX6_converter_69 : decode cX6_converter 69 = .ok (.iconst 0, 1) := by decide +kernel
theorem dX6_converter_70 : decode cX6_converter 70 = .ok (.putfield 105, 3) := by decide +kernel
theorem dX6_converter_73 : decode cX6_converter 73 = .ok (.aload_n 0, 1) := by decide +kernel
theorem dX6_converter_74 : decode cX6_converter 74 = .ok (.getfield 13, 3) := by decide +kernel
theorem dX6_converter_77 : decode cX6_converter 77 = .ok (.aload_n 0, 1) := by decide +kernel
theorem dX6_converter_78 : decode cX6_converter 78 = .ok (.getfield 118, 3) := by decide +kernel
theorem dX6_converter_81 : decode cX6_converter 81 = .ok (.iload_n 1, 1) := by decide +kernel
theorem dX6_converter_82 : decode cX6_converter 82 = .ok (.iastore, 1) := by decide +kernel
theorem dX6_converter_83 : decode cX6_converter 83 = .ok (.aload_n 0, 1) := by decide +kernel
theorem dX6_converter_84 : decode cX6_converter 84 = .ok (.getfield 16, 3) := by decide +kernel
theorem dX6_converter_87 : decode cX6_converter 87 = .ok (.aload_n 0, 1) := by decide +kernel
theorem dX6_converter_88 : decode cX6_converter 88 = .ok (.getfield 118, 3) := by decide +kernel
theorem dX6_converter_91 : decode cX6_converter 91 = .ok (.iload_n 2, 1) := by decide +kernel
theorem dX6_converter_92 : decode cX6_converter 92 = .ok (.iastore, 1) := by decide +kernel
theorem dX6_converter_93 : decode cX6_converter 93 = .ok (.aload_n 0, 1) := by decide +kernel
theorem dX6_converter_94 : decode cX6_converter 94 = .ok (.getfield 19, 3) := by decide +kernel
theorem dX6_converter_97 : decode cX6_converter 97 = .ok (.aload_n 0, 1) := by decide +kernel
theorem dX6_converter_98 : decode cX6_converter 98 = .ok (.getfield 118, 3) := by decide +kernel
theorem dX6_converter_101 : decode cX6_converter 101 = .ok (.iload_n 3, 1) := by decide +kernel
theorem dX6_converter_102 : decode cX6_converter 102 = .ok (.iastore, 1) := by decide +kernel
theorem dX6_converter_103 : decode cX6_converter 103 = .ok (.aload_n 0, 1) := by decide +kernel
theorem dX6_converter_104 : decode cX6_converter 104 = .ok (.getfield 22, 3) := by decide +kernel
theorem dX6_converter_107 : decode cX6_converter 107 = .ok (.aload_n 0, 1) := by decide +kernel
theorem dX6_converter_108 : decode cX6_converter 108 = .ok (.getfield 118, 3) := by decide +kernel
theorem dX6_converter_111 : decode cX6_converter 111 = .ok (.iload 4, 2) := by decide +kernel
theorem dX6_converter_113 : decode cX6_converter 113 = .ok (.iastore, 1) := by decide +kernel
theorem dX6_converter_114 : decode cX6_converter 114 = .ok (.aload_n 0, 1) := by decide +kernel
theorem dX6_converter_115 : decode cX6_converter 115 = .ok (.dup, 1) := by decide +kernel
theorem dX6_converter_116 : decode cX6_converter 116 = .ok (.getfield 118, 3) := by decide +kernel
theorem dX6_converter_119 : decode cX6_converter 119 = .ok (.iconst 1, 1) := by decide +kernel
theorem dX6_converter_120 : decode cX6_converter 120 = .ok (.iadd, 1) := by decide +kernel
theorem dX6_converter_121 : decode cX6_converter 121 = .ok (.putfield 118, 3) := by decide +kernel
theorem dX6_converter_124 : decode cX6_converter 124 = .ok (.aload_n 0, 1) := by decide +kernel
theorem dX6_converter_125 : decode cX6_converter 125 = .ok (.iconst 0, 1) := by decide +kernel
theorem dX6_converter_126 : decode cX6_converter 126 = .ok (.putfield 132, 3) := by decide +kernel
theorem dX6_converter_129 : decode cX6_converter 129 = .ok (.aload_n 0, 1) := by decide +kernel
theorem dX6_converter_130 : decode cX6_converter 130 = .ok (.getfield 118, 3) := by decide +kernel
theorem dX6_converter_133 : decode cX6_converter 133 = .ok (.iconst 1, 1) := by decide +kernel
theorem dX6_converter_134 : decode cX6_converter 134 = .ok (.isub, 1) := by decide +kernel
theorem dX6_converter_135 : decode cX6_converter 135 = .ok (.ireturn, 1) := by decide +kernel
theorem dX6_withdraw_0 : decode cX6_withdraw 0 = .ok (.iload_n 1, 1) := by decide +kernel
theorem dX6_withdraw_1 : decode cX6_withdraw 1 = .ok (.iconst 0, 1) := by decide +kernel
theorem dX6_withdraw_2 : decode cX6_withdraw 2 = .ok (.aload_n 0, 1) := by decide +kernel
theorem dX6_withdraw_3 : decode cX6_withdraw 3 = .ok (.getfield 118, 3) := by decide +kernel
theorem dX6_withdraw_6 : decode cX6_withdraw 6 = .ok (.iconst 1, 1) := by decide +kernel
theorem dX6_withdraw_7 : decode cX6_withdraw 7 = .ok (.isub, 1) := by decide +kernel
theorem dX6_withdraw_8 : decode cX6_withdraw 8 = .ok (.invokestatic 108, 3) := by decide +kernel
theorem dX6_withdraw_11 : decode cX6_withdraw 11 = .ok (.ifCond .ne 9, 3) := by decide +kernel
theorem dX6_withdraw_14 : decode cX6_withdraw 14 = .ok (.aload_n 0, 1) := by decide +kernel
theorem dX6_withdraw_15 : decode cX6_withdraw 15 = .ok (.iconst 1, 1) := by decide +kernel
theorem dX6_withdraw_16 : decode cX6_withdraw 16 = .ok (.invokevirtual 150, 3) := by decide +kernel
theorem dX6_withdraw_19 : decode cX6_withdraw 19 = .ok (.ireturn, 1) := by decide +kernel
theorem dX6_withdraw_20 : decode cX6_withdraw 20 = .ok (.aload_n 0, 1) := by decide +kernel
theorem dX6_withdraw_21 : decode cX6_withdraw 21 = .ok (.getfield 25, 3) := by decide +kernel
theorem dX6_withdraw_24 : decode cX6_withdraw 24 = .ok (.iload_n 1, 1) := by decide +kernel
theorem dX6_withdraw_25 : decode cX6_withdraw 25 = .ok (.baload, 1) := by decide +kernel
theorem dX6_withdraw_26 : decode cX6_withdraw 26 = .ok (.ifCond .eq 9, 3) := by decide +kernel
theorem dX6_withdraw_29 : decode cX6_withdraw 29 = .ok (.aload_n 0, 1) := by decide +kernel
theorem dX6_withdraw_30 : decode cX6_withdraw 30 = .ok (.iconst 2, 1) := by decide +kernel
theorem dX6_withdraw_31 : decode cX6_withdraw 31 = .ok (.invokevirtual 150, 3) := by decide +kernel
theorem dX6_withdraw_34 : decode cX6_withdraw 34 = .ok (.ireturn, 1) := by decide +kernel
theorem dX6_withdraw_35 : decode cX6_withdraw 35 = .ok (.aload_n 0, 1) := by decide +kernel
theorem dX6_withdraw_36 : decode cX6_withdraw 36 = .ok (.iconst 0, 1) := by decide +kernel
theorem dX6_withdraw_37 : decode cX6_withdraw 37 = .ok (.putfield 105, 3) := by decide +kernel
theorem dX6_withdraw_40 : decode cX6_withdraw 40 = .ok (.aload_n 0, 1) := by decide +kernel
theorem dX6_withdraw_41 : decode cX6_withdraw 41 = .ok (.invokevirtual 157, 3) := by decide +kernel
theorem dX6_withdraw_44 : decode cX6_withdraw 44 = .ok (.iconst 0, 1) := by decide +kernel
theorem dX6_withdraw_45 : decode cX6_withdraw 45 = .ok (.istore_n 2, 1) := by decide +kernel
theorem dX6_withdraw_46 : decode cX6_withdraw 46 = .ok (.iload_n 2, 1) := by decide +kernel
theorem dX6_withdraw_47 : decode cX6_withdraw 47 = .ok (.aload_n 0, 1) := by decide +kernel
theorem dX6_withdraw_48 : decode cX6_withdraw 48 = .ok (.getfield 112, 3) := by decide +kernel
theorem dX6_withdraw_51 : decode cX6_withdraw 51 = .ok (.if_icmp .ge 29, 3) := by decide +kernel
theorem dX6_withdraw_54 : decode cX6_withdraw 54 = .ok (.aload_n 0, 1) := by decide +kernel
theorem dX6_withdraw_55 : decode cX6_withdraw 55 = .ok (.getfield 62, 3) := by decide +kernel
theorem dX6_withdraw_58 : decode cX6_withdraw 58 = .ok (.iload_n 2, 1) := by decide +kernel
theorem dX6_withdraw_59 : decode cX6_withdraw 59 = .ok (.aload_n 0, 1) := by decide +kernel
theorem dX6_withdraw_60 : decode cX6_withdraw 60 = .ok (.iload_n 2, 1) := by decide +kernel
theorem dX6_withdraw_61 : decode cX6_withdraw 61 = .ok (.invokevirtual 160, 3) := by decide +kernel
theorem dX6_withdraw_64 : decode cX6_withdraw 64 = .ok (.iconst (-1), 1) := by decide +kernel
theorem dX6_withdraw_65 : decode cX6_withdraw 65 = .ok (.if_icmp .eq 7, 3) := by decide +kernel
theorem dX6_withdraw_68 : decode cX6_withdraw 68 = .ok (.iconst 1, 1) := by decide +kernel
theorem dX6_withdraw_69 : decode cX6_withdraw 69 = .ok (.goto 4, 3) := by decide +kernel
theorem dX6_withdraw_72 : decode cX6_withdraw 72 = .ok (.iconst 0, 1) := by decide +kernel
theorem dX6_withdraw_73 : decode cX6_withdraw 73 = .ok (.bastore, 1) := by decide +kernel
theorem dX6_withdraw_74 : decode cX6_withdraw 74 = .ok (.iinc 2 1, 3) := by decide +kernel
theorem dX6_withdraw_77 : decode cX6_withdraw 77 = .ok (.goto (-31), 3) := by decide +kernel
theorem dX6_withdraw_80 : decode cX6_withdraw 80 = .ok (.aload_n 0, 1) := by decide +kernel
theorem dX6_withdraw_81 : decode cX6_withdraw 81 = .ok (.getfield 25, 3) := by decide +kernel
theorem dX6_withdraw_84 : decode cX6_withdraw 84 = .ok (.iload_n 1, 1) := by decide +kernel
theorem dX6_withdraw_85 : decode cX6_withdraw 85 = .ok (.iconst 1, 1) := by decide +kernel
theorem dX6_withdraw_86 : decode cX6_withdraw 86 = .ok (.bastore, 1) := by decide +kernel
theorem dX6_withdraw_87 : decode cX6_withdraw 87 = .ok (.aload_n 0, 1) := by decide +kernel
theorem dX6_withdraw_88 : decode cX6_withdraw 88 = .ok (.iconst 0, 1) := by decide +kernel
theorem dX6_withdraw_89 : decode cX6_withdraw 89 = .ok (.putfield 132, 3) := by decide +kernel
theorem dX6_withdraw_92 : decode cX6_withdraw 92 = .ok (.aload_n 0, 1) := by decide +kernel
theorem dX6_withdraw_93 : decode cX6_withdraw 93 = .ok (.invokevirtual 157, 3) := by decide +kernel
theorem dX6_withdraw_96 : decode cX6_withdraw 96 = .ok (.iconst 0, 1) := by decide +kernel
theorem dX6_withdraw_97 : decode cX6_withdraw 97 = .ok (.istore_n 2, 1) := by decide +kernel
theorem dX6_withdraw_98 : decode cX6_withdraw 98 = .ok (.iconst 0, 1) := by decide +kernel
theorem dX6_withdraw_99 : decode cX6_withdraw 99 = .ok (.istore_n 3, 1) := by decide +kernel
theorem dX6_withdraw_100 : decode cX6_withdraw 100 = .ok (.iload_n 3, 1) := by decide +kernel
theorem dX6_withdraw_101 : decode cX6_withdraw 101 = .ok (.aload_n 0, 1) := by decide +kernel
theorem dX6_withdraw_102 : decode cX6_withdraw 102 = .ok (.getfield 112, 3) := by decide +kernel
theorem dX6_withdraw_105 : decode cX6_withdraw 105 = .ok (.if_icmp .ge 35, 3) := by decide +kernel
theorem dX6_withdraw_108 : decode cX6_withdraw 108 = .ok (.iload_n 2, 1) := by decide +kernel
theorem dX6_withdraw_109 : decode cX6_withdraw 109 = .ok (.aload_n 0, 1) := by decide +kernel
theorem dX6_withdraw_110 : decode cX6_withdraw 110 = .ok (.getfield 62, 3) := by decide +kernel
theorem dX6_withdraw_113 : decode cX6_withdraw 113 = .ok (.iload_n 3, 1) := by decide +kernel
theorem dX6_withdraw_114 : decode cX6_withdraw 114 = .ok (.baload, 1) := by decide +kernel
theorem dX6_withdraw_115 : decode cX6_withdraw 115 = .ok (.ifCond .eq 16, 3) := by decide +kernel
theorem dX6_withdraw_118 : decode cX6_withdraw 118 = .ok (.aload_n 0, 1) := by decide +kernel
theorem dX6_withdraw_119 : decode cX6_withdraw 119 = .ok (.iload_n 3, 1) := by decide +kernel
theorem dX6_withdraw_120 : decode cX6_withdraw 120 = .ok (.invokevirtual 160, 3) := by decide +kernel
theorem dX6_withdraw_123 : decode cX6_withdraw 123 = .ok (.iconst (-1), 1) := by decide +kernel
theorem dX6_withdraw_124 : decode cX6_withdraw 124 = .ok (.if_icmp .ne 7, 3) := by decide +kernel
theorem dX6_withdraw_127 : decode cX6_withdraw 127 = .ok (.iconst 1, 1) := by decide +kernel
theorem dX6_withdraw_128 : decode cX6_withdraw 128 = .ok (.goto 4, 3) := by decide +kernel
theorem dX6_withdraw_131 : decode cX6_withdraw 131 = .ok (.iconst 0, 1) := by decide +kernel
theorem dX6_withdraw_132 : decode cX6_withdraw 132 = .ok (.iadd, 1) := by decide +kernel
theorem dX6_withdraw_133 : decode cX6_withdraw 133 = .ok (.istore_n 2, 1) := by decide +kernel
theorem dX6_withdraw_134 : decode cX6_withdraw 134 = .ok (.iinc 3 1, 3) := by decide +kernel
theorem dX6_withdraw_137 : decode cX6_withdraw 137 = .ok (.goto (-37), 3) := by decide +kernel
theorem dX6_withdraw_140 : decode cX6_withdraw 140 = .ok (.iload_n 2, 1) := by decide +kernel
theorem dX6_withdraw_141 : decode cX6_withdraw 141 = .ok (.ireturn, 1) := by decide +kernel
theorem dX6_law_0 : decode cX6_law 0 = .ok (.iload_n 1, 1) := by decide +kernel
theorem dX6_law_1 : decode cX6_law 1 = .ok (.iconst 0, 1) := by decide +kernel
theorem dX6_law_2 : decode cX6_law 2 = .ok (.iconst 4, 1) := by decide +kernel
theorem dX6_law_3 : decode cX6_law 3 = .ok (.invokestatic 108, 3) := by decide +kernel
theorem dX6_law_6 : decode cX6_law 6 = .ok (.ifCond .ne 11, 3) := by decide +kernel
theorem dX6_law_9 : decode cX6_law 9 = .ok (.aload_n 0, 1) := by decide +kernel
theorem dX6_law_10 : decode cX6_law 10 = .ok (.iconst 1, 1) := by decide +kernel
theorem dX6_law_11 : decode cX6_law 11 = .ok (.putfield 105, 3) := by decide +kernel
theorem dX6_law_14 : decode cX6_law 14 = .ok (.goto 70, 3) := by decide +kernel
theorem dX6_law_17 : decode cX6_law 17 = .ok (.iload_n 2, 1) := by decide +kernel
theorem dX6_law_18 : decode cX6_law 18 = .ok (.iconst 1, 1) := by decide +kernel
theorem dX6_law_19 : decode cX6_law 19 = .ok (.bipush 100, 2) := by decide +kernel
theorem dX6_law_21 : decode cX6_law 21 = .ok (.invokestatic 108, 3) := by decide +kernel
theorem dX6_law_24 : decode cX6_law 24 = .ok (.ifCond .eq 25, 3) := by decide +kernel
theorem dX6_law_27 : decode cX6_law 27 = .ok (.iload_n 3, 1) := by decide +kernel
theorem dX6_law_28 : decode cX6_law 28 = .ok (.iconst 0, 1) := by decide +kernel
theorem dX6_law_29 : decode cX6_law 29 = .ok (.sipush 1000, 3) := by decide +kernel
theorem dX6_law_32 : decode cX6_law 32 = .ok (.invokestatic 108, 3) := by decide +kernel
theorem dX6_law_35 : decode cX6_law 35 = .ok (.ifCond .eq 14, 3) := by decide +kernel
theorem dX6_law_38 : decode cX6_law 38 = .ok (.iload 4, 2) := by decide +kernel
theorem dX6_law_40 : decode cX6_law 40 = .ok (.iconst 1, 1) := by decide +kernel
theorem dX6_law_41 : decode cX6_law 41 = .ok (.bipush 50, 2) := by decide +kernel
theorem dX6_law_43 : decode cX6_law 43 = .ok (.invokestatic 108, 3) := by decide +kernel
theorem dX6_law_46 : decode cX6_law 46 = .ok (.ifCond .ne 11, 3) := by decide +kernel
theorem dX6_law_49 : decode cX6_law 49 = .ok (.aload_n 0, 1) := by decide +kernel
theorem dX6_law_50 : decode cX6_law 50 = .ok (.iconst 2, 1) := by decide +kernel
theorem dX6_law_51 : decode cX6_law 51 = .ok (.putfield 105, 3) := by decide +kernel
theorem dX6_law_54 : decode cX6_law 54 = .ok (.goto 30, 3) := by decide +kernel
theorem dX6_law_57 : decode cX6_law 57 = .ok (.aload_n 0, 1) := by decide +kernel
theorem dX6_law_58 : decode cX6_law 58 = .ok (.iconst 0, 1) := by decide +kernel
theorem dX6_law_59 : decode cX6_law 59 = .ok (.putfield 105, 3) := by decide +kernel
theorem dX6_law_62 : decode cX6_law 62 = .ok (.aload_n 0, 1) := by decide +kernel
theorem dX6_law_63 : decode cX6_law 63 = .ok (.getfield 29, 3) := by decide +kernel
theorem dX6_law_66 : decode cX6_law 66 = .ok (.iload_n 1, 1) := by decide +kernel
theorem dX6_law_67 : decode cX6_law 67 = .ok (.iload_n 2, 1) := by decide +kernel
theorem dX6_law_68 : decode cX6_law 68 = .ok (.iastore, 1) := by decide +kernel
theorem dX6_law_69 : decode cX6_law 69 = .ok (.aload_n 0, 1) := by decide +kernel
theorem dX6_law_70 : decode cX6_law 70 = .ok (.getfield 32, 3) := by decide +kernel
theorem dX6_law_73 : decode cX6_law 73 = .ok (.iload_n 1, 1) := by decide +kernel
theorem dX6_law_74 : decode cX6_law 74 = .ok (.iload_n 3, 1) := by decide +kernel
theorem dX6_law_75 : decode cX6_law 75 = .ok (.iastore, 1) := by decide +kernel
theorem dX6_law_76 : decode cX6_law 76 = .ok (.aload_n 0, 1) := by decide +kernel
theorem dX6_law_77 : decode cX6_law 77 = .ok (.getfield 35, 3) := by decide +kernel
theorem dX6_law_80 : decode cX6_law 80 = .ok (.iload_n 1, 1) := by decide +kernel
theorem dX6_law_81 : decode cX6_law 81 = .ok (.iload 4, 2) := by decide +kernel
theorem dX6_law_83 : decode cX6_law 83 = .ok (.iastore, 1) := by decide +kernel
theorem dX6_law_84 : decode cX6_law 84 = .ok (.return_, 1) := by decide +kernel
theorem dX6_quality_0 : decode cX6_quality 0 = .ok (.iload_n 1, 1) := by decide +kernel
theorem dX6_quality_1 : decode cX6_quality 1 = .ok (.invokestatic 146, 3) := by decide +kernel
theorem dX6_quality_4 : decode cX6_quality 4 = .ok (.ifCond .ne 10, 3) := by decide +kernel
theorem dX6_quality_7 : decode cX6_quality 7 = .ok (.iload_n 2, 1) := by decide +kernel
theorem dX6_quality_8 : decode cX6_quality 8 = .ok (.invokestatic 146, 3) := by decide +kernel
theorem dX6_quality_11 : decode cX6_quality 11 = .ok (.ifCond .eq 9, 3) := by decide +kernel
theorem dX6_quality_14 : decode cX6_quality 14 = .ok (.aload_n 0, 1) := by decide +kernel
theorem dX6_quality_15 : decode cX6_quality 15 = .ok (.iconst 1, 1) := by decide +kernel
theorem dX6_quality_16 : decode cX6_quality 16 = .ok (.invokevirtual 150, 3) := by decide +kernel
theorem dX6_quality_19 : decode cX6_quality 19 = .ok (.ireturn, 1) := by decide +kernel
theorem dX6_quality_20 : decode cX6_quality 20 = .ok (.aload_n 0, 1) := by decide +kernel
theorem dX6_quality_21 : decode cX6_quality 21 = .ok (.iconst 0, 1) := by decide +kernel
theorem dX6_quality_22 : decode cX6_quality 22 = .ok (.putfield 105, 3) := by decide +kernel
theorem dX6_quality_25 : decode cX6_quality 25 = .ok (.aload_n 0, 1) := by decide +kernel
theorem dX6_quality_26 : decode cX6_quality 26 = .ok (.invokevirtual 157, 3) := by decide +kernel
theorem dX6_quality_29 : decode cX6_quality 29 = .ok (.aload_n 0, 1) := by decide +kernel
theorem dX6_quality_30 : decode cX6_quality 30 = .ok (.getfield 68, 3) := by decide +kernel
theorem dX6_quality_33 : decode cX6_quality 33 = .ok (.bipush 10, 2) := by decide +kernel
theorem dX6_quality_35 : decode cX6_quality 35 = .ok (.iload_n 1, 1) := by decide +kernel
theorem dX6_quality_36 : decode cX6_quality 36 = .ok (.imul, 1) := by decide +kernel
theorem dX6_quality_37 : decode cX6_quality 37 = .ok (.iload_n 2, 1) := by decide +kernel
theorem dX6_quality_38 : decode cX6_quality 38 = .ok (.iadd, 1) := by decide +kernel
theorem dX6_quality_39 : decode cX6_quality 39 = .ok (.iaload, 1) := by decide +kernel
theorem dX6_quality_40 : decode cX6_quality 40 = .ok (.ireturn, 1) := by decide +kernel
theorem dX6_qualityByAll_0 : decode cX6_qualityByAll 0 = .ok (.iload_n 1, 1) := by decide +kernel
theorem dX6_qualityByAll_1 : decode cX6_qualityByAll 1 = .ok (.invokestatic 146, 3) := by decide +kernel
theorem dX6_qualityByAll_4 : decode cX6_qualityByAll 4 = .ok (.ifCond .ne 10, 3) := by decide +kernel
theorem dX6_qualityByAll_7 : decode cX6_qualityByAll 7 = .ok (.iload_n 2, 1) := by decide +kernel
theorem dX6_qualityByAll_8 : decode cX6_qualityByAll 8 = .ok (.invokestatic 146, 3) := by decide +kernel
theorem dX6_qualityByAll_11 : decode cX6_qualityByAll 11 = .ok (.ifCond .eq 9, 3) := by decide +kernel
theorem dX6_qualityByAll_14 : decode cX6_qualityByAll 14 = .ok (.aload_n 0, 1) := by decide +kernel
theorem dX6_qualityByAll_15 : decode cX6_qualityByAll 15 = .ok (.iconst 1, 1) := by decide +kernel
theorem dX6_qualityByAll_16 : decode cX6_qualityByAll 16 = .ok (.invokevirtual 150, 3) := by decide +kernel
theorem dX6_qualityByAll_19 : decode cX6_qualityByAll 19 = .ok (.ireturn, 1) := by decide +kernel
theorem dX6_qualityByAll_20 : decode cX6_qualityByAll 20 = .ok (.aload_n 0, 1) := by decide +kernel
theorem dX6_qualityByAll_21 : decode cX6_qualityByAll 21 = .ok (.iconst 0, 1) := by decide +kernel
theorem dX6_qualityByAll_22 : decode cX6_qualityByAll 22 = .ok (.putfield 105, 3) := by decide +kernel
theorem dX6_qualityByAll_25 : decode cX6_qualityByAll 25 = .ok (.aload_n 0, 1) := by decide +kernel
theorem dX6_qualityByAll_26 : decode cX6_qualityByAll 26 = .ok (.iload_n 1, 1) := by decide +kernel
theorem dX6_qualityByAll_27 : decode cX6_qualityByAll 27 = .ok (.iload_n 2, 1) := by decide +kernel
theorem dX6_qualityByAll_28 : decode cX6_qualityByAll 28 = .ok (.invokevirtual 136, 3) := by decide +kernel
theorem dX6_qualityByAll_31 : decode cX6_qualityByAll 31 = .ok (.ireturn, 1) := by decide +kernel
theorem dX6_cost_0 : decode cX6_cost 0 = .ok (.iload_n 1, 1) := by decide +kernel
theorem dX6_cost_1 : decode cX6_cost 1 = .ok (.invokestatic 146, 3) := by decide +kernel
theorem dX6_cost_4 : decode cX6_cost 4 = .ok (.ifCond .ne 10, 3) := by decide +kernel
theorem dX6_cost_7 : decode cX6_cost 7 = .ok (.iload_n 2, 1) := by decide +kernel
theorem dX6_cost_8 : decode cX6_cost 8 = .ok (.invokestatic 146, 3) := by decide +kernel
theorem dX6_cost_11 : decode cX6_cost 11 = .ok (.ifCond .eq 9, 3) := by decide +kernel
theorem dX6_cost_14 : decode cX6_cost 14 = .ok (.aload_n 0, 1) := by decide +kernel
theorem dX6_cost_15 : decode cX6_cost 15 = .ok (.iconst 1, 1) := by decide +kernel
theorem dX6_cost_16 : decode cX6_cost 16 = .ok (.invokevirtual 150, 3) := by decide +kernel
theorem dX6_cost_19 : decode cX6_cost 19 = .ok (.ireturn, 1) := by decide +kernel
theorem dX6_cost_20 : decode cX6_cost 20 = .ok (.aload_n 0, 1) := by decide +kernel
theorem dX6_cost_21 : decode cX6_cost 21 = .ok (.iconst 0, 1) := by decide +kernel
theorem dX6_cost_22 : decode cX6_cost 22 = .ok (.putfield 105, 3) := by decide +kernel
theorem dX6_cost_25 : decode cX6_cost 25 = .ok (.aload_n 0, 1) := by decide +kernel
theorem dX6_cost_26 : decode cX6_cost 26 = .ok (.invokevirtual 157, 3) := by decide +kernel
theorem dX6_cost_29 : decode cX6_cost 29 = .ok (.aload_n 0, 1) := by decide +kernel
theorem dX6_cost_30 : decode cX6_cost 30 = .ok (.getfield 71, 3) := by decide +kernel
theorem dX6_cost_33 : decode cX6_cost 33 = .ok (.bipush 10, 2) := by decide +kernel
theorem dX6_cost_35 : decode cX6_cost 35 = .ok (.iload_n 1, 1) := by decide +kernel
theorem dX6_cost_36 : decode cX6_cost 36 = .ok (.imul, 1) := by decide +kernel
theorem dX6_cost_37 : decode cX6_cost 37 = .ok (.iload_n 2, 1) := by decide +kernel
theorem dX6_cost_38 : decode cX6_cost 38 = .ok (.iadd, 1) := by decide +kernel
theorem dX6_cost_39 : decode cX6_cost 39 = .ok (.iaload, 1) := by decide +kernel
theorem dX6_cost_40 : decode cX6_cost 40 = .ok (.ireturn, 1) := by decide +kernel
theorem dX6_stepAt_0 : decode cX6_stepAt 0 = .ok (.iload_n 1, 1) := by decide +kernel
theorem dX6_stepAt_1 : decode cX6_stepAt 1 = .ok (.invokestatic 146, 3) := by decide +kernel
theorem dX6_stepAt_4 : decode cX6_stepAt 4 = .ok (.ifCond .ne 14, 3) := by decide +kernel
theorem dX6_stepAt_7 : decode cX6_stepAt 7 = .ok (.iload_n 2, 1) := by decide +kernel
theorem dX6_stepAt_8 : decode cX6_stepAt 8 = .ok (.invokestatic 146, 3) := by decide +kernel
theorem dX6_stepAt_11 : decode cX6_stepAt 11 = .ok (.ifCond .ne 7, 3) := by decide +kernel
theorem dX6_stepAt_14 : decode cX6_stepAt 14 = .ok (.iload_n 3, 1) := by decide +kernel
theorem dX6_stepAt_15 : decode cX6_stepAt 15 = .ok (.ifCond .ge 9, 3) := by decide +kernel
theorem dX6_stepAt_18 : decode cX6_stepAt 18 = .ok (.aload_n 0, 1) := by decide +kernel
theorem dX6_stepAt_19 : decode cX6_stepAt 19 = .ok (.iconst 1, 1) := by decide +kernel
theorem dX6_stepAt_20 : decode cX6_stepAt 20 = .ok (.invokevirtual 150, 3) := by decide +kernel
theorem dX6_stepAt_23 : decode cX6_stepAt 23 = .ok (.ireturn, 1) := by decide +kernel
theorem dX6_stepAt_24 : decode cX6_stepAt 24 = .ok (.aload_n 0, 1) := by decide +kernel
theorem dX6_stepAt_25 : decode cX6_stepAt 25 = .ok (.iconst 0, 1) := by decide +kernel
theorem dX6_stepAt_26 : decode cX6_stepAt 26 = .ok (.putfield 105, 3) := by decide +kernel
theorem dX6_stepAt_29 : decode cX6_stepAt 29 = .ok (.aload_n 0, 1) := by decide +kernel
theorem dX6_stepAt_30 : decode cX6_stepAt 30 = .ok (.invokevirtual 157, 3) := by decide +kernel
theorem dX6_stepAt_33 : decode cX6_stepAt 33 = .ok (.bipush 10, 2) := by decide +kernel
theorem dX6_stepAt_35 : decode cX6_stepAt 35 = .ok (.iload_n 1, 1) := by decide +kernel
theorem dX6_stepAt_36 : decode cX6_stepAt 36 = .ok (.imul, 1) := by decide +kernel
theorem dX6_stepAt_37 : decode cX6_stepAt 37 = .ok (.iload_n 2, 1) := by decide +kernel
theorem dX6_stepAt_38 : decode cX6_stepAt 38 = .ok (.iadd, 1) := by decide +kernel
theorem dX6_stepAt_39 : decode cX6_stepAt 39 = .ok (.istore 4, 2) := by decide +kernel
theorem dX6_stepAt_41 : decode cX6_stepAt 41 = .ok (.aload_n 0, 1) := by decide +kernel
theorem dX6_stepAt_42 : decode cX6_stepAt 42 = .ok (.getfield 68, 3) := by decide +kernel
theorem dX6_stepAt_45 : decode cX6_stepAt 45 = .ok (.iload 4, 2) := by decide +kernel
theorem dX6_stepAt_47 : decode cX6_stepAt 47 = .ok (.iaload, 1) := by decide +kernel
theorem dX6_stepAt_48 : decode cX6_stepAt 48 = .ok (.iconst (-1), 1) := by decide +kernel
theorem dX6_stepAt_49 : decode cX6_stepAt 49 = .ok (.if_icmp .eq 14, 3) := by decide +kernel
theorem dX6_stepAt_52 : decode cX6_stepAt 52 = .ok (.iload_n 3, 1) := by decide +kernel
theorem dX6_stepAt_53 : decode cX6_stepAt 53 = .ok (.aload_n 0, 1) := by decide +kernel
theorem dX6_stepAt_54 : decode cX6_stepAt 54 = .ok (.getfield 74, 3) := by decide +kernel
theorem dX6_stepAt_57 : decode cX6_stepAt 57 = .ok (.iload 4, 2) := by decide +kernel
theorem dX6_stepAt_59 : decode cX6_stepAt 59 = .ok (.iaload, 1) := by decide +kernel
theorem dX6_stepAt_60 : decode cX6_stepAt 60 = .ok (.if_icmp .lt 7, 3) := by decide +kernel
theorem dX6_stepAt_63 : decode cX6_stepAt 63 = .ok (.iconst (-1), 1) := by decide +kernel
theorem dX6_stepAt_64 : decode cX6_stepAt 64 = .ok (.goto 15, 3) := by decide +kernel
theorem dX6_stepAt_67 : decode cX6_stepAt 67 = .ok (.aload_n 0, 1) := by decide +kernel
theorem dX6_stepAt_68 : decode cX6_stepAt 68 = .ok (.getfield 77, 3) := by decide +kernel
theorem dX6_stepAt_71 : decode cX6_stepAt 71 = .ok (.bipush 9, 2) := by decide +kernel
theorem dX6_stepAt_73 : decode cX6_stepAt 73 = .ok (.iload 4, 2) := by decide +kernel
theorem dX6_stepAt_75 : decode cX6_stepAt 75 = .ok (.imul, 1) := by decide +kernel
theorem dX6_stepAt_76 : decode cX6_stepAt 76 = .ok (.iload_n 3, 1) := by decide +kernel
theorem dX6_stepAt_77 : decode cX6_stepAt 77 = .ok (.iadd, 1) := by decide +kernel
theorem dX6_stepAt_78 : decode cX6_stepAt 78 = .ok (.iaload, 1) := by decide +kernel
theorem dX6_stepAt_79 : decode cX6_stepAt 79 = .ok (.ireturn, 1) := by decide +kernel
theorem dX6_file_0 : decode cX6_file 0 = .ok (.iload_n 1, 1) := by decide +kernel
theorem dX6_file_1 : decode cX6_file 1 = .ok (.invokestatic 146, 3) := by decide +kernel
theorem dX6_file_4 : decode cX6_file 4 = .ok (.ifCond .ne 12, 3) := by decide +kernel
theorem dX6_file_7 : decode cX6_file 7 = .ok (.iload_n 3, 1) := by decide +kernel
theorem dX6_file_8 : decode cX6_file 8 = .ok (.iconst 0, 1) := by decide +kernel
theorem dX6_file_9 : decode cX6_file 9 = .ok (.iconst 4, 1) := by decide +kernel
theorem dX6_file_10 : decode cX6_file 10 = .ok (.invokestatic 108, 3) := by decide +kernel
theorem dX6_file_13 : decode cX6_file 13 = .ok (.ifCond .ne 9, 3) := by decide +kernel
theorem dX6_file_16 : decode cX6_file 16 = .ok (.aload_n 0, 1) := by decide +kernel
theorem dX6_file_17 : decode cX6_file 17 = .ok (.iconst 1, 1) := by decide +kernel
theorem dX6_file_18 : decode cX6_file 18 = .ok (.invokevirtual 150, 3) := by decide +kernel
theorem dX6_file_21 : decode cX6_file 21 = .ok (.ireturn, 1) := by decide +kernel
theorem dX6_file_22 : decode cX6_file 22 = .ok (.iload_n 2, 1) := by decide +kernel
theorem dX6_file_23 : decode cX6_file 23 = .ok (.iconst 1, 1) := by decide +kernel
theorem dX6_file_24 : decode cX6_file 24 = .ok (.bipush 100, 2) := by decide +kernel
theorem dX6_file_26 : decode cX6_file 26 = .ok (.invokestatic 108, 3) := by decide +kernel
theorem dX6_file_29 : decode cX6_file 29 = .ok (.ifCond .ne 9, 3) := by decide +kernel
theorem dX6_file_32 : decode cX6_file 32 = .ok (.aload_n 0, 1) := by decide +kernel
theorem dX6_file_33 : decode cX6_file 33 = .ok (.iconst 2, 1) := by decide +kernel
theorem dX6_file_34 : decode cX6_file 34 = .ok (.invokevirtual 150, 3) := by decide +kernel
theorem dX6_file_37 : decode cX6_file 37 = .ok (.ireturn, 1) := by decide +kernel
theorem dX6_file_38 : decode cX6_file 38 = .ok (.aload_n 0, 1) := by decide +kernel
theorem dX6_file_39 : decode cX6_file 39 = .ok (.getfield 112, 3) := by decide +kernel
theorem dX6_file_42 : decode cX6_file 42 = .ok (.bipush 40, 2) := by decide +kernel
theorem dX6_file_44 : decode cX6_file 44 = .ok (.if_icmp .eq 11, 3) := by decide +kernel
theorem dX6_file_47 : decode cX6_file 47 = .ok (.aload_n 0, 1) := by decide +kernel
theorem dX6_file_48 : decode cX6_file 48 = .ok (.iload_n 1, 1) := by decide +kernel
theorem dX6_file_49 : decode cX6_file 49 = .ok (.invokevirtual 154, 3) := by decide +kernel
theorem dX6_file_52 : decode cX6_file 52 = .ok (.ifCond .ne 9, 3) := by decide +kernel
theorem dX6_file_55 : decode cX6_file 55 = .ok (.aload_n 0, 1) := by decide +kernel
theorem dX6_file_56 : decode cX6_file 56 = .ok (.iconst 3, 1) := by decide +kernel
theorem dX6_file_57 : decode cX6_file 57 = .ok (.invokevirtual 150, 3) := by decide +kernel
theorem dX6_file_60 : decode cX6_file 60 = .ok (.ireturn, 1) := by decide +kernel
theorem dX6_file_61 : decode cX6_file 61 = .ok (.aload_n 0, 1) := by decide +kernel
theorem dX6_file_62 : decode cX6_file 62 = .ok (.iconst 0, 1) := by decide +kernel
theorem dX6_file_63 : decode cX6_file 63 = .ok (.putfield 105, 3) := by decide +kernel
theorem dX6_file_66 : decode cX6_file 66 = .ok (.aload_n 0, 1) := by decide +kernel
theorem dX6_file_67 : decode cX6_file 67 = .ok (.getfield 38, 3) := by decide +kernel
theorem dX6_file_70 : decode cX6_file 70 = .ok (.aload_n 0, 1) := by decide +kernel
theorem dX6_file_71 : decode cX6_file 71 = .ok (.getfield 112, 3) := by decide +kernel
theorem dX6_file_74 : decode cX6_file 74 = .ok (.iload_n 1, 1) := by decide +kernel
theorem dX6_file_75 : decode cX6_file 75 = .ok (.iastore, 1) := by decide +kernel
theorem dX6_file_76 : decode cX6_file 76 = .ok (.aload_n 0, 1) := by decide +kernel
theorem dX6_file_77 : decode cX6_file 77 = .ok (.getfield 41, 3) := by decide +kernel
theorem dX6_file_80 : decode cX6_file 80 = .ok (.aload_n 0, 1) := by decide +kernel
theorem dX6_file_81 : decode cX6_file 81 = .ok (.getfield 112, 3) := by decide +kernel
theorem dX6_file_84 : decode cX6_file 84 = .ok (.iload_n 2, 1) := by decide +kernel
theorem dX6_file_85 : decode cX6_file 85 = .ok (.iastore, 1) := by decide +kernel
theorem dX6_file_86 : decode cX6_file 86 = .ok (.aload_n 0, 1) := by decide +kernel
theorem dX6_file_87 : decode cX6_file 87 = .ok (.getfield 44, 3) := by decide +kernel
theorem dX6_file_90 : decode cX6_file 90 = .ok (.aload_n 0, 1) := by decide +kernel
theorem dX6_file_91 : decode cX6_file 91 = .ok (.getfield 112, 3) := by decide +kernel
theorem dX6_file_94 : decode cX6_file 94 = .ok (.iload_n 3, 1) := by decide +kernel
theorem dX6_file_95 : decode cX6_file 95 = .ok (.iastore, 1) := by decide +kernel
theorem dX6_file_96 : decode cX6_file 96 = .ok (.aload_n 0, 1) := by decide +kernel
theorem dX6_file_97 : decode cX6_file 97 = .ok (.getfield 47, 3) := by decide +kernel
theorem dX6_file_100 : decode cX6_file 100 = .ok (.aload_n 0, 1) := by decide +kernel
theorem dX6_file_101 : decode cX6_file 101 = .ok (.getfield 112, 3) := by decide +kernel
theorem dX6_file_104 : decode cX6_file 104 = .ok (.sipush 1000, 3) := by decide +kernel
theorem dX6_file_107 : decode cX6_file 107 = .ok (.iastore, 1) := by decide +kernel
theorem dX6_file_108 : decode cX6_file 108 = .ok (.aload_n 0, 1) := by decide +kernel
theorem dX6_file_109 : decode cX6_file 109 = .ok (.getfield 50, 3) := by decide +kernel
theorem dX6_file_112 : decode cX6_file 112 = .ok (.aload_n 0, 1) := by decide +kernel
theorem dX6_file_113 : decode cX6_file 113 = .ok (.getfield 112, 3) := by decide +kernel
theorem dX6_file_116 : decode cX6_file 116 = .ok (.aload_n 0, 1) := by decide +kernel
theorem dX6_file_117 : decode cX6_file 117 = .ok (.getfield 115, 3) := by decide +kernel
theorem dX6_file_120 : decode cX6_file 120 = .ok (.aload_n 0, 1) := by decide +kernel
theorem dX6_file_121 : decode cX6_file 121 = .ok (.getfield 29, 3) := by decide +kernel
theorem dX6_file_124 : decode cX6_file 124 = .ok (.iload_n 3, 1) := by decide +kernel
theorem dX6_file_125 : decode cX6_file 125 = .ok (.iaload, 1) := by decide +kernel
theorem dX6_file_126 : decode cX6_file 126 = .ok (.iadd, 1) := by decide +kernel
theorem dX6_file_127 : decode cX6_file 127 = .ok (.iastore, 1) := by decide +kernel
theorem dX6_file_128 : decode cX6_file 128 = .ok (.aload_n 0, 1) := by decide +kernel
theorem dX6_file_129 : decode cX6_file 129 = .ok (.getfield 53, 3) := by decide +kernel
theorem dX6_file_132 : decode cX6_file 132 = .ok (.aload_n 0, 1) := by decide +kernel
theorem dX6_file_133 : decode cX6_file 133 = .ok (.getfield 112, 3) := by decide +kernel
theorem dX6_file_136 : decode cX6_file 136 = .ok (.aload_n 0, 1) := by decide +kernel
theorem dX6_file_137 : decode cX6_file 137 = .ok (.getfield 115, 3) := by decide +kernel
theorem dX6_file_140 : decode cX6_file 140 = .ok (.iastore, 1) := by decide +kernel
theorem dX6_file_141 : decode cX6_file 141 = .ok (.aload_n 0, 1) := by decide +kernel
theorem dX6_file_142 : decode cX6_file 142 = .ok (.getfield 56, 3) := by decide +kernel
theorem dX6_file_145 : decode cX6_file 145 = .ok (.aload_n 0, 1) := by decide +kernel
theorem dX6_file_146 : decode cX6_file 146 = .ok (.getfield 112, 3) := by decide +kernel
theorem dX6_file_149 : decode cX6_file 149 = .ok (.iconst 0, 1) := by decide +kernel
theorem dX6_file_150 : decode cX6_file 150 = .ok (.iastore, 1) := by decide +kernel
theorem dX6_file_151 : decode cX6_file 151 = .ok (.aload_n 0, 1) := by decide +kernel
theorem dX6_file_152 : decode cX6_file 152 = .ok (.getfield 59, 3) := by decide +kernel
theorem dX6_file_155 : decode cX6_file 155 = .ok (.aload_n 0, 1) := by decide +kernel
theorem dX6_file_156 : decode cX6_file 156 = .ok (.getfield 112, 3) := by decide +kernel
theorem dX6_file_159 : decode cX6_file 159 = .ok (.iconst 0, 1) := by decide +kernel
theorem dX6_file_160 : decode cX6_file 160 = .ok (.bastore, 1) := by decide +kernel
theorem dX6_file_161 : decode cX6_file 161 = .ok (.aload_n 0, 1) := by decide +kernel
theorem dX6_file_162 : decode cX6_file 162 = .ok (.dup, 1) := by decide +kernel
theorem dX6_file_163 : decode cX6_file 163 = .ok (.getfield 112, 3) := by decide +kernel
theorem dX6_file_166 : decode cX6_file 166 = .ok (.iconst 1, 1) := by decide +kernel
theorem dX6_file_167 : decode cX6_file 167 = .ok (.iadd, 1) := by decide +kernel
theorem dX6_file_168 : decode cX6_file 168 = .ok (.putfield 112, 3) := by decide +kernel
theorem dX6_file_171 : decode cX6_file 171 = .ok (.aload_n 0, 1) := by decide +kernel
theorem dX6_file_172 : decode cX6_file 172 = .ok (.getfield 112, 3) := by decide +kernel
theorem dX6_file_175 : decode cX6_file 175 = .ok (.iconst 1, 1) := by decide +kernel
theorem dX6_file_176 : decode cX6_file 176 = .ok (.isub, 1) := by decide +kernel
theorem dX6_file_177 : decode cX6_file 177 = .ok (.ireturn, 1) := by decide +kernel
theorem dX6_hold_0 : decode cX6_hold 0 = .ok (.aload_n 0, 1) := by decide +kernel
theorem dX6_hold_1 : decode cX6_hold 1 = .ok (.iload_n 1, 1) := by decide +kernel
theorem dX6_hold_2 : decode cX6_hold 2 = .ok (.invokevirtual 163, 3) := by decide +kernel
theorem dX6_hold_5 : decode cX6_hold 5 = .ok (.ifCond .eq 18, 3) := by decide +kernel
theorem dX6_hold_8 : decode cX6_hold 8 = .ok (.aload_n 0, 1) := by decide +kernel
theorem dX6_hold_9 : decode cX6_hold 9 = .ok (.iconst 1, 1) := by decide +kernel
theorem dX6_hold_10 : decode cX6_hold 10 = .ok (.invokevirtual 150, 3) := by decide +kernel
theorem dX6_hold_13 : decode cX6_hold 13 = .ok (.iconst 1, 1) := by decide +kernel
theorem dX6_hold_14 : decode cX6_hold 14 = .ok (.if_icmp .ne 7, 3) := by decide +kernel
theorem dX6_hold_17 : decode cX6_hold 17 = .ok (.iconst 1, 1) := by decide +kernel
theorem dX6_hold_18 : decode cX6_hold 18 = .ok (.goto 4, 3) := by decide +kernel
theorem dX6_hold_21 : decode cX6_hold 21 = .ok (.iconst 0, 1) := by decide +kernel
theorem dX6_hold_22 : decode cX6_hold 22 = .ok (.ireturn, 1) := by decide +kernel
theorem dX6_hold_23 : decode cX6_hold 23 = .ok (.aload_n 0, 1) := by decide +kernel
theorem dX6_hold_24 : decode cX6_hold 24 = .ok (.getfield 56, 3) := by decide +kernel
theorem dX6_hold_27 : decode cX6_hold 27 = .ok (.iload_n 1, 1) := by decide +kernel
theorem dX6_hold_28 : decode cX6_hold 28 = .ok (.iaload, 1) := by decide +kernel
theorem dX6_hold_29 : decode cX6_hold 29 = .ok (.ifCond .eq 18, 3) := by decide +kernel
theorem dX6_hold_32 : decode cX6_hold 32 = .ok (.aload_n 0, 1) := by decide +kernel
theorem dX6_hold_33 : decode cX6_hold 33 = .ok (.iconst 2, 1) := by decide +kernel
theorem dX6_hold_34 : decode cX6_hold 34 = .ok (.invokevirtual 150, 3) := by decide +kernel
theorem dX6_hold_37 : decode cX6_hold 37 = .ok (.iconst 1, 1) := by decide +kernel
theorem dX6_hold_38 : decode cX6_hold 38 = .ok (.if_icmp .ne 7, 3) := by decide +kernel
theorem dX6_hold_41 : decode cX6_hold 41 = .ok (.iconst 1, 1) := by decide +kernel
theorem dX6_hold_42 : decode cX6_hold 42 = .ok (.goto 4, 3) := by decide +kernel
theorem dX6_hold_45 : decode cX6_hold 45 = .ok (.iconst 0, 1) := by decide +kernel
theorem dX6_hold_46 : decode cX6_hold 46 = .ok (.ireturn, 1) := by decide +kernel
theorem dX6_hold_47 : decode cX6_hold 47 = .ok (.aload_n 0, 1) := by decide +kernel
theorem dX6_hold_48 : decode cX6_hold 48 = .ok (.iconst 0, 1) := by decide +kernel
theorem dX6_hold_49 : decode cX6_hold 49 = .ok (.putfield 105, 3) := by decide +kernel
theorem dX6_hold_52 : decode cX6_hold 52 = .ok (.aload_n 0, 1) := by decide +kernel
theorem dX6_hold_53 : decode cX6_hold 53 = .ok (.getfield 59, 3) := by decide +kernel
theorem dX6_hold_56 : decode cX6_hold 56 = .ok (.iload_n 1, 1) := by decide +kernel
theorem dX6_hold_57 : decode cX6_hold 57 = .ok (.baload, 1) := by decide +kernel
theorem dX6_hold_58 : decode cX6_hold 58 = .ok (.iload_n 2, 1) := by decide +kernel
theorem dX6_hold_59 : decode cX6_hold 59 = .ok (.if_icmp .eq 7, 3) := by decide +kernel
theorem dX6_hold_62 : decode cX6_hold 62 = .ok (.iconst 1, 1) := by decide +kernel
theorem dX6_hold_63 : decode cX6_hold 63 = .ok (.goto 4, 3) := by decide +kernel
theorem dX6_hold_66 : decode cX6_hold 66 = .ok (.iconst 0, 1) := by decide +kernel
theorem dX6_hold_67 : decode cX6_hold 67 = .ok (.istore_n 3, 1) := by decide +kernel
theorem dX6_hold_68 : decode cX6_hold 68 = .ok (.aload_n 0, 1) := by decide +kernel
theorem dX6_hold_69 : decode cX6_hold 69 = .ok (.getfield 59, 3) := by decide +kernel
theorem dX6_hold_72 : decode cX6_hold 72 = .ok (.iload_n 1, 1) := by decide +kernel
theorem dX6_hold_73 : decode cX6_hold 73 = .ok (.iload_n 2, 1) := by decide +kernel
theorem dX6_hold_74 : decode cX6_hold 74 = .ok (.bastore, 1) := by decide +kernel
theorem dX6_hold_75 : decode cX6_hold 75 = .ok (.iload_n 3, 1) := by decide +kernel
theorem dX6_hold_76 : decode cX6_hold 76 = .ok (.ireturn, 1) := by decide +kernel
theorem dX6_read_0 : decode cX6_read 0 = .ok (.aload_n 0, 1) := by decide +kernel
theorem dX6_read_1 : decode cX6_read 1 = .ok (.iload_n 1, 1) := by decide +kernel
theorem dX6_read_2 : decode cX6_read 2 = .ok (.invokevirtual 163, 3) := by decide +kernel
theorem dX6_read_5 : decode cX6_read 5 = .ok (.ifCond .eq 9, 3) := by decide +kernel
theorem dX6_read_8 : decode cX6_read 8 = .ok (.aload_n 0, 1) := by decide +kernel
theorem dX6_read_9 : decode cX6_read 9 = .ok (.iconst 1, 1) := by decide +kernel
theorem dX6_read_10 : decode cX6_read 10 = .ok (.invokevirtual 150, 3) := by decide +kernel
theorem dX6_read_13 : decode cX6_read 13 = .ok (.ireturn, 1) := by decide +kernel
theorem dX6_read_14 : decode cX6_read 14 = .ok (.aload_n 0, 1) := by decide +kernel
theorem dX6_read_15 : decode cX6_read 15 = .ok (.getfield 56, 3) := by decide +kernel
theorem dX6_read_18 : decode cX6_read 18 = .ok (.iload_n 1, 1) := by decide +kernel
theorem dX6_read_19 : decode cX6_read 19 = .ok (.iaload, 1) := by decide +kernel
theorem dX6_read_20 : decode cX6_read 20 = .ok (.ifCond .ne 36, 3) := by decide +kernel
theorem dX6_read_23 : decode cX6_read 23 = .ok (.aload_n 0, 1) := by decide +kernel
theorem dX6_read_24 : decode cX6_read 24 = .ok (.aload_n 0, 1) := by decide +kernel
theorem dX6_read_25 : decode cX6_read 25 = .ok (.getfield 38, 3) := by decide +kernel
theorem dX6_read_28 : decode cX6_read 28 = .ok (.iload_n 1, 1) := by decide +kernel
theorem dX6_read_29 : decode cX6_read 29 = .ok (.iaload, 1) := by decide +kernel
theorem dX6_read_30 : decode cX6_read 30 = .ok (.invokevirtual 154, 3) := by decide +kernel
theorem dX6_read_33 : decode cX6_read 33 = .ok (.ifCond .eq 23, 3) := by decide +kernel
theorem dX6_read_36 : decode cX6_read 36 = .ok (.aload_n 0, 1) := by decide +kernel
theorem dX6_read_37 : decode cX6_read 37 = .ok (.getfield 47, 3) := by decide +kernel
theorem dX6_read_40 : decode cX6_read 40 = .ok (.iload_n 1, 1) := by decide +kernel
theorem dX6_read_41 : decode cX6_read 41 = .ok (.iaload, 1) := by decide +kernel
theorem dX6_read_42 : decode cX6_read 42 = .ok (.aload_n 0, 1) := by decide +kernel
theorem dX6_read_43 : decode cX6_read 43 = .ok (.getfield 32, 3) := by decide +kernel
theorem dX6_read_46 : decode cX6_read 46 = .ok (.aload_n 0, 1) := by decide +kernel
theorem dX6_read_47 : decode cX6_read 47 = .ok (.getfield 44, 3) := by decide +kernel
theorem dX6_read_50 : decode cX6_read 50 = .ok (.iload_n 1, 1) := by decide +kernel
theorem dX6_read_51 : decode cX6_read 51 = .ok (.iaload, 1) := by decide +kernel
theorem dX6_read_52 : decode cX6_read 52 = .ok (.iaload, 1) := by decide +kernel
theorem dX6_read_53 : decode cX6_read 53 = .ok (.if_icmp .ge 9, 3) := by decide +kernel
theorem dX6_read_56 : decode cX6_read 56 = .ok (.aload_n 0, 1) := by decide +kernel
theorem dX6_read_57 : decode cX6_read 57 = .ok (.iconst 2, 1) := by decide +kernel
theorem dX6_read_58 : decode cX6_read 58 = .ok (.invokevirtual 150, 3) := by decide +kernel
theorem dX6_read_61 : decode cX6_read 61 = .ok (.ireturn, 1) := by decide +kernel
theorem dX6_read_62 : decode cX6_read 62 = .ok (.aload_n 0, 1) := by decide +kernel
theorem dX6_read_63 : decode cX6_read 63 = .ok (.iconst 0, 1) := by decide +kernel
theorem dX6_read_64 : decode cX6_read 64 = .ok (.putfield 105, 3) := by decide +kernel
theorem dX6_read_67 : decode cX6_read 67 = .ok (.aload_n 0, 1) := by decide +kernel
theorem dX6_read_68 : decode cX6_read 68 = .ok (.getfield 115, 3) := by decide +kernel
theorem dX6_read_71 : decode cX6_read 71 = .ok (.aload_n 0, 1) := by decide +kernel
theorem dX6_read_72 : decode cX6_read 72 = .ok (.getfield 53, 3) := by decide +kernel
theorem dX6_read_75 : decode cX6_read 75 = .ok (.iload_n 1, 1) := by decide +kernel
theorem dX6_read_76 : decode cX6_read 76 = .ok (.iaload, 1) := by decide +kernel
theorem dX6_read_77 : decode cX6_read 77 = .ok (.isub, 1) := by decide +kernel
theorem dX6_read_78 : decode cX6_read 78 = .ok (.istore_n 2, 1) := by decide +kernel
theorem dX6_read_79 : decode cX6_read 79 = .ok (.aload_n 0, 1) := by decide +kernel
theorem dX6_read_80 : decode cX6_read 80 = .ok (.getfield 53, 3) := by decide +kernel
theorem dX6_read_83 : decode cX6_read 83 = .ok (.iload_n 1, 1) := by decide +kernel
theorem dX6_read_84 : decode cX6_read 84 = .ok (.aload_n 0, 1) := by decide +kernel
theorem dX6_read_85 : decode cX6_read 85 = .ok (.getfield 115, 3) := by decide +kernel
theorem dX6_read_88 : decode cX6_read 88 = .ok (.iastore, 1) := by decide +kernel
theorem dX6_read_89 : decode cX6_read 89 = .ok (.iload_n 2, 1) := by decide +kernel
theorem dX6_read_90 : decode cX6_read 90 = .ok (.ireturn, 1) := by decide +kernel
theorem dX6_move_0 : decode cX6_move 0 = .ok (.aload_n 0, 1) := by decide +kernel
theorem dX6_move_1 : decode cX6_move 1 = .ok (.iload_n 1, 1) := by decide +kernel
theorem dX6_move_2 : decode cX6_move 2 = .ok (.invokevirtual 163, 3) := by decide +kernel
theorem dX6_move_5 : decode cX6_move 5 = .ok (.ifCond .ne 10, 3) := by decide +kernel
theorem dX6_move_8 : decode cX6_move 8 = .ok (.iload_n 2, 1) := by decide +kernel
theorem dX6_move_9 : decode cX6_move 9 = .ok (.invokestatic 146, 3) := by decide +kernel
theorem dX6_move_12 : decode cX6_move 12 = .ok (.ifCond .eq 9, 3) := by decide +kernel
theorem dX6_move_15 : decode cX6_move 15 = .ok (.aload_n 0, 1) := by decide +kernel
theorem dX6_move_16 : decode cX6_move 16 = .ok (.iconst 1, 1) := by decide +kernel
theorem dX6_move_17 : decode cX6_move 17 = .ok (.invokevirtual 150, 3) := by decide +kernel
theorem dX6_move_20 : decode cX6_move 20 = .ok (.ireturn, 1) := by decide +kernel
theorem dX6_move_21 : decode cX6_move 21 = .ok (.iload_n 2, 1) := by decide +kernel
theorem dX6_move_22 : decode cX6_move 22 = .ok (.aload_n 0, 1) := by decide +kernel
theorem dX6_move_23 : decode cX6_move 23 = .ok (.getfield 38, 3) := by decide +kernel
theorem dX6_move_26 : decode cX6_move 26 = .ok (.iload_n 1, 1) := by decide +kernel
theorem dX6_move_27 : decode cX6_move 27 = .ok (.iaload, 1) := by decide +kernel
theorem dX6_move_28 : decode cX6_move 28 = .ok (.if_icmp .ne 9, 3) := by decide +kernel
theorem dX6_move_31 : decode cX6_move 31 = .ok (.aload_n 0, 1) := by decide +kernel
theorem dX6_move_32 : decode cX6_move 32 = .ok (.iconst 2, 1) := by decide +kernel
theorem dX6_move_33 : decode cX6_move 33 = .ok (.invokevirtual 150, 3) := by decide +kernel
theorem dX6_move_36 : decode cX6_move 36 = .ok (.ireturn, 1) := by decide +kernel
theorem dX6_move_37 : decode cX6_move 37 = .ok (.aload_n 0, 1) := by decide +kernel
theorem dX6_move_38 : decode cX6_move 38 = .ok (.invokevirtual 157, 3) := by decide +kernel
theorem dX6_move_41 : decode cX6_move 41 = .ok (.aload_n 0, 1) := by decide +kernel
theorem dX6_move_42 : decode cX6_move 42 = .ok (.getfield 56, 3) := by decide +kernel
theorem dX6_move_45 : decode cX6_move 45 = .ok (.iload_n 1, 1) := by decide +kernel
theorem dX6_move_46 : decode cX6_move 46 = .ok (.iaload, 1) := by decide +kernel
theorem dX6_move_47 : decode cX6_move 47 = .ok (.ifCond .ne 40, 3) := by decide +kernel
theorem dX6_move_50 : decode cX6_move 50 = .ok (.aload_n 0, 1) := by decide +kernel
theorem dX6_move_51 : decode cX6_move 51 = .ok (.iload_n 2, 1) := by decide +kernel
theorem dX6_move_52 : decode cX6_move 52 = .ok (.invokevirtual 154, 3) := by decide +kernel
theorem dX6_move_55 : decode cX6_move 55 = .ok (.ifCond .eq 32, 3) := by decide +kernel
theorem dX6_move_58 : decode cX6_move 58 = .ok (.aload_n 0, 1) := by decide +kernel
theorem dX6_move_59 : decode cX6_move 59 = .ok (.getfield 68, 3) := by decide +kernel
theorem dX6_move_62 : decode cX6_move 62 = .ok (.bipush 10, 2) := by decide +kernel
theorem dX6_move_64 : decode cX6_move 64 = .ok (.aload_n 0, 1) := by decide +kernel
theorem dX6_move_65 : decode cX6_move 65 = .ok (.getfield 38, 3) := by decide +kernel
theorem dX6_move_68 : decode cX6_move 68 = .ok (.iload_n 1, 1) := by decide +kernel
theorem dX6_move_69 : decode cX6_move 69 = .ok (.iaload, 1) := by decide +kernel
theorem dX6_move_70 : decode cX6_move 70 = .ok (.imul, 1) := by decide +kernel
theorem dX6_move_71 : decode cX6_move 71 = .ok (.iload_n 2, 1) := by decide +kernel
theorem dX6_move_72 : decode cX6_move 72 = .ok (.iadd, 1) := by decide +kernel
theorem dX6_move_73 : decode cX6_move 73 = .ok (.iaload, 1) := by decide +kernel
theorem dX6_move_74 : decode cX6_move 74 = .ok (.iconst (-1), 1) := by decide +kernel
theorem dX6_move_75 : decode cX6_move 75 = .ok (.if_icmp .eq 12, 3) := by decide +kernel
theorem dX6_move_78 : decode cX6_move 78 = .ok (.aload_n 0, 1) := by decide +kernel
theorem dX6_move_79 : decode cX6_move 79 = .ok (.iload_n 1, 1) := by decide +kernel
theorem dX6_move_80 : decode cX6_move 80 = .ok (.iload_n 2, 1) := by decide +kernel
theorem dX6_move_81 : decode cX6_move 81 = .ok (.invokevirtual 166, 3) := by decide +kernel
theorem dX6_move_84 : decode cX6_move 84 = .ok (.ifCond .ne 9, 3) := by decide +kernel
theorem dX6_move_87 : decode cX6_move 87 = .ok (.aload_n 0, 1) := by decide +kernel
theorem dX6_move_88 : decode cX6_move 88 = .ok (.iconst 3, 1) := by decide +kernel
theorem dX6_move_89 : decode cX6_move 89 = .ok (.invokevirtual 150, 3) := by decide +kernel
theorem dX6_move_92 : decode cX6_move 92 = .ok (.ireturn, 1) := by decide +kernel
theorem dX6_move_93 : decode cX6_move 93 = .ok (.aload_n 0, 1) := by decide +kernel
theorem dX6_move_94 : decode cX6_move 94 = .ok (.iconst 0, 1) := by decide +kernel
theorem dX6_move_95 : decode cX6_move 95 = .ok (.putfield 105, 3) := by decide +kernel
theorem dX6_move_98 : decode cX6_move 98 = .ok (.aload_n 0, 1) := by decide +kernel
theorem dX6_move_99 : decode cX6_move 99 = .ok (.iload_n 1, 1) := by decide +kernel
theorem dX6_move_100 : decode cX6_move 100 = .ok (.iload_n 2, 1) := by decide +kernel
theorem dX6_move_101 : decode cX6_move 101 = .ok (.invokevirtual 169, 3) := by decide +kernel
theorem dX6_move_104 : decode cX6_move 104 = .ok (.aload_n 0, 1) := by decide +kernel
theorem dX6_move_105 : decode cX6_move 105 = .ok (.getfield 47, 3) := by decide +kernel
theorem dX6_move_108 : decode cX6_move 108 = .ok (.iload_n 1, 1) := by decide +kernel
theorem dX6_move_109 : decode cX6_move 109 = .ok (.iaload, 1) := by decide +kernel
theorem dX6_move_110 : decode cX6_move 110 = .ok (.ireturn, 1) := by decide +kernel
theorem dX6_nextDue_0 : decode cX6_nextDue 0 = .ok (.iconst (-1), 1) := by decide +kernel
theorem dX6_nextDue_1 : decode cX6_nextDue 1 = .ok (.istore_n 1, 1) := by decide +kernel
theorem dX6_nextDue_2 : decode cX6_nextDue 2 = .ok (.iconst 0, 1) := by decide +kernel
theorem dX6_nextDue_3 : decode cX6_nextDue 3 = .ok (.istore_n 2, 1) := by decide +kernel
theorem dX6_nextDue_4 : decode cX6_nextDue 4 = .ok (.iload_n 2, 1) := by decide +kernel
theorem dX6_nextDue_5 : decode cX6_nextDue 5 = .ok (.aload_n 0, 1) := by decide +kernel
theorem dX6_nextDue_6 : decode cX6_nextDue 6 = .ok (.getfield 112, 3) := by decide +kernel
theorem dX6_nextDue_9 : decode cX6_nextDue 9 = .ok (.if_icmp .ge 50, 3) := by decide +kernel
theorem dX6_nextDue_12 : decode cX6_nextDue 12 = .ok (.aload_n 0, 1) := by decide +kernel
theorem dX6_nextDue_13 : decode cX6_nextDue 13 = .ok (.getfield 65, 3) := by decide +kernel
theorem dX6_nextDue_16 : decode cX6_nextDue 16 = .ok (.iload_n 2, 1) := by decide +kernel
theorem dX6_nextDue_17 : decode cX6_nextDue 17 = .ok (.baload, 1) := by decide +kernel
theorem dX6_nextDue_18 : decode cX6_nextDue 18 = .ok (.ifCond .eq 35, 3) := by decide +kernel
theorem dX6_nextDue_21 : decode cX6_nextDue 21 = .ok (.iload_n 1, 1) := by decide +kernel
theorem dX6_nextDue_22 : decode cX6_nextDue 22 = .ok (.iconst (-1), 1) := by decide +kernel
theorem dX6_nextDue_23 : decode cX6_nextDue 23 = .ok (.if_icmp .eq 28, 3) := by decide +kernel
theorem dX6_nextDue_26 : decode cX6_nextDue 26 = .ok (.aload_n 0, 1) := by decide +kernel
theorem dX6_nextDue_27 : decode cX6_nextDue 27 = .ok (.getfield 7, 3) := by decide +kernel
theorem dX6_nextDue_30 : decode cX6_nextDue 30 = .ok (.aload_n 0, 1) := by decide +kernel
theorem dX6_nextDue_31 : decode cX6_nextDue 31 = .ok (.getfield 38, 3) := by decide +kernel
theorem dX6_nextDue_34 : decode cX6_nextDue 34 = .ok (.iload_n 2, 1) := by decide +kernel
theorem dX6_nextDue_35 : decode cX6_nextDue 35 = .ok (.iaload, 1) := by decide +kernel
theorem dX6_nextDue_36 : decode cX6_nextDue 36 = .ok (.iaload, 1) := by decide +kernel
theorem dX6_nextDue_37 : decode cX6_nextDue 37 = .ok (.aload_n 0, 1) := by decide +kernel
theorem dX6_nextDue_38 : decode cX6_nextDue 38 = .ok (.getfield 7, 3) := by decide +kernel
theorem dX6_nextDue_41 : decode cX6_nextDue 41 = .ok (.aload_n 0, 1) := by decide +kernel
theorem dX6_nextDue_42 : decode cX6_nextDue 42 = .ok (.getfield 38, 3) := by decide +kernel
theorem dX6_nextDue_45 : decode cX6_nextDue 45 = .ok (.iload_n 1, 1) := by decide +kernel
theorem dX6_nextDue_46 : decode cX6_nextDue 46 = .ok (.iaload, 1) := by decide +kernel
theorem dX6_nextDue_47 : decode cX6_nextDue 47 = .ok (.iaload, 1) := by decide +kernel
theorem dX6_nextDue_48 : decode cX6_nextDue 48 = .ok (.if_icmp .ge 5, 3) := by decide +kernel
theorem dX6_nextDue_51 : decode cX6_nextDue 51 = .ok (.iload_n 2, 1) := by decide +kernel
theorem dX6_nextDue_52 : decode cX6_nextDue 52 = .ok (.istore_n 1, 1) := by decide +kernel
theorem dX6_nextDue_53 : decode cX6_nextDue 53 = .ok (.iinc 2 1, 3) := by decide +kernel
theorem dX6_nextDue_56 : decode cX6_nextDue 56 = .ok (.goto (-52), 3) := by decide +kernel
theorem dX6_nextDue_59 : decode cX6_nextDue 59 = .ok (.iload_n 1, 1) := by decide +kernel
theorem dX6_nextDue_60 : decode cX6_nextDue 60 = .ok (.ireturn, 1) := by decide +kernel
theorem dX6_moveAhead_0 : decode cX6_moveAhead 0 = .ok (.aload_n 0, 1) := by decide +kernel
theorem dX6_moveAhead_1 : decode cX6_moveAhead 1 = .ok (.iconst 0, 1) := by decide +kernel
theorem dX6_moveAhead_2 : decode cX6_moveAhead 2 = .ok (.putfield 105, 3) := by decide +kernel
theorem dX6_moveAhead_5 : decode cX6_moveAhead 5 = .ok (.aload_n 0, 1) := by decide +kernel
theorem dX6_moveAhead_6 : decode cX6_moveAhead 6 = .ok (.invokevirtual 157, 3) := by decide +kernel
theorem dX6_moveAhead_9 : decode cX6_moveAhead 9 = .ok (.iconst 0, 1) := by decide +kernel
theorem dX6_moveAhead_10 : decode cX6_moveAhead 10 = .ok (.istore_n 1, 1) := by decide +kernel
theorem dX6_moveAhead_11 : decode cX6_moveAhead 11 = .ok (.iload_n 1, 1) := by decide +kernel
theorem dX6_moveAhead_12 : decode cX6_moveAhead 12 = .ok (.aload_n 0, 1) := by decide +kernel
theorem dX6_moveAhead_13 : decode cX6_moveAhead 13 = .ok (.getfield 112, 3) := by decide +kernel
theorem dX6_moveAhead_16 : decode cX6_moveAhead 16 = .ok (.if_icmp .ge 52, 3) := by decide +kernel
theorem dX6_moveAhead_19 : decode cX6_moveAhead 19 = .ok (.aload_n 0, 1) := by decide +kernel
theorem dX6_moveAhead_20 : decode cX6_moveAhead 20 = .ok (.getfield 65, 3) := by decide +kernel
theorem dX6_moveAhead_23 : decode cX6_moveAhead 23 = .ok (.iload_n 1, 1) := by decide +kernel
theorem dX6_moveAhead_24 : decode cX6_moveAhead 24 = .ok (.aload_n 0, 1) := by decide +kernel
theorem dX6_moveAhead_25 : decode cX6_moveAhead 25 = .ok (.getfield 56, 3) := by decide +kernel
theorem dX6_moveAhead_28 : decode cX6_moveAhead 28 = .ok (.iload_n 1, 1) := by decide +kernel
theorem dX6_moveAhead_29 : decode cX6_moveAhead 29 = .ok (.iaload, 1) := by decide +kernel
theorem dX6_moveAhead_30 : decode cX6_moveAhead 30 = .ok (.ifCond .ne 30, 3) := by decide +kernel
theorem dX6_moveAhead_33 : decode cX6_moveAhead 33 = .ok (.aload_n 0, 1) := by decide +kernel
theorem dX6_moveAhead_34 : decode cX6_moveAhead 34 = .ok (.iload_n 1, 1) := by decide +kernel
theorem dX6_moveAhead_35 : decode cX6_moveAhead 35 = .ok (.aload_n 0, 1) := by decide +kernel
theorem dX6_moveAhead_36 : decode cX6_moveAhead 36 = .ok (.getfield 38, 3) := by decide +kernel
theorem dX6_moveAhead_39 : decode cX6_moveAhead 39 = .ok (.iload_n 1, 1) := by decide +kernel
theorem dX6_moveAhead_40 : decode cX6_moveAhead 40 = .ok (.iaload, 1) := by decide +kernel
theorem dX6_moveAhead_41 : decode cX6_moveAhead 41 = .ok (.invokevirtual 142, 3) := by decide +kernel
theorem dX6_moveAhead_44 : decode cX6_moveAhead 44 = .ok (.ifCond .ne 16, 3) := by decide +kernel
theorem dX6_moveAhead_47 : decode cX6_moveAhead 47 = .ok (.aload_n 0, 1) := by decide +kernel
theorem dX6_moveAhead_48 : decode cX6_moveAhead 48 = .ok (.iload_n 1, 1) := by decide +kernel
theorem dX6_moveAhead_49 : decode cX6_moveAhead 49 = .ok (.invokevirtual 160, 3) := by decide +kernel
theorem dX6_moveAhead_52 : decode cX6_moveAhead 52 = .ok (.iconst (-1), 1) := by decide +kernel
theorem dX6_moveAhead_53 : decode cX6_moveAhead 53 = .ok (.if_icmp .eq 7, 3) := by decide +kernel
theorem dX6_moveAhead_56 : decode cX6_moveAhead 56 = .ok (.iconst 1, 1) := by decide +kernel
theorem dX6_moveAhead_57 : decode cX6_moveAhead 57 = .ok (.goto 4, 3) := by decide +kernel
theorem dX6_moveAhead_60 : decode cX6_moveAhead 60 = .ok (.iconst 0, 1) := by decide +kernel
theorem dX6_moveAhead_61 : decode cX6_moveAhead 61 = .ok (.bastore, 1) := by decide +kernel
theorem dX6_moveAhead_62 : decode cX6_moveAhead 62 = .ok (.iinc 1 1, 3) := by decide +kernel
theorem dX6_moveAhead_65 : decode cX6_moveAhead 65 = .ok (.goto (-54), 3) := by decide +kernel
theorem dX6_moveAhead_68 : decode cX6_moveAhead 68 = .ok (.iconst 0, 1) := by decide +kernel
theorem dX6_moveAhead_69 : decode cX6_moveAhead 69 = .ok (.istore_n 1, 1) := by decide +kernel
theorem dX6_moveAhead_70 : decode cX6_moveAhead 70 = .ok (.aload_n 0, 1) := by decide +kernel
theorem dX6_moveAhead_71 : decode cX6_moveAhead 71 = .ok (.invokevirtual 173, 3) := by decide +kernel
theorem dX6_moveAhead_74 : decode cX6_moveAhead 74 = .ok (.istore_n 2, 1) := by decide +kernel
theorem dX6_moveAhead_75 : decode cX6_moveAhead 75 = .ok (.iload_n 2, 1) := by decide +kernel
theorem dX6_moveAhead_76 : decode cX6_moveAhead 76 = .ok (.iconst (-1), 1) := by decide +kernel
theorem dX6_moveAhead_77 : decode cX6_moveAhead 77 = .ok (.if_icmp .eq 42, 3) := by decide +kernel
theorem dX6_moveAhead_80 : decode cX6_moveAhead 80 = .ok (.aload_n 0, 1) := by decide +kernel
theorem dX6_moveAhead_81 : decode cX6_moveAhead 81 = .ok (.getfield 65, 3) := by decide +kernel
theorem dX6_moveAhead_84 : decode cX6_moveAhead 84 = .ok (.iload_n 2, 1) := by decide +kernel
theorem dX6_moveAhead_85 : decode cX6_moveAhead 85 = .ok (.iconst 0, 1) := by decide +kernel
theorem dX6_moveAhead_86 : decode cX6_moveAhead 86 = .ok (.bastore, 1) := by decide +kernel
theorem dX6_moveAhead_87 : decode cX6_moveAhead 87 = .ok (.aload_n 0, 1) := by decide +kernel
theorem dX6_moveAhead_88 : decode cX6_moveAhead 88 = .ok (.iload_n 2, 1) := by decide +kernel
theorem dX6_moveAhead_89 : decode cX6_moveAhead 89 = .ok (.invokevirtual 160, 3) := by decide +kernel
theorem dX6_moveAhead_92 : decode cX6_moveAhead 92 = .ok (.istore_n 3, 1) := by decide +kernel
theorem dX6_moveAhead_93 : decode cX6_moveAhead 93 = .ok (.aload_n 0, 1) := by decide +kernel
theorem dX6_moveAhead_94 : decode cX6_moveAhead 94 = .ok (.iload_n 2, 1) := by decide +kernel
theorem dX6_moveAhead_95 : decode cX6_moveAhead 95 = .ok (.iload_n 3, 1) := by decide +kernel
theorem dX6_moveAhead_96 : decode cX6_moveAhead 96 = .ok (.invokevirtual 166, 3) := by decide +kernel
theorem dX6_moveAhead_99 : decode cX6_moveAhead 99 = .ok (.ifCond .eq 12, 3) := by decide +kernel
theorem dX6_moveAhead_102 : decode cX6_moveAhead 102 = .ok (.aload_n 0, 1) := by decide +kernel
theorem dX6_moveAhead_103 : decode cX6_moveAhead 103 = .ok (.iload_n 2, 1) := by decide +kernel
theorem dX6_moveAhead_104 : decode cX6_moveAhead 104 = .ok (.iload_n 3, 1) := by decide +kernel
theorem dX6_moveAhead_105 : decode cX6_moveAhead 105 = .ok (.invokevirtual 169, 3) := by decide +kernel
theorem dX6_moveAhead_108 : decode cX6_moveAhead 108 = .ok (.iinc 1 1, 3) := by decide +kernel
theorem dX6_moveAhead_111 : decode cX6_moveAhead 111 = .ok (.aload_n 0, 1) := by decide +kernel
theorem dX6_moveAhead_112 : decode cX6_moveAhead 112 = .ok (.invokevirtual 173, 3) := by decide +kernel
theorem dX6_moveAhead_115 : decode cX6_moveAhead 115 = .ok (.istore_n 2, 1) := by decide +kernel
theorem dX6_moveAhead_116 : decode cX6_moveAhead 116 = .ok (.goto (-41), 3) := by decide +kernel
theorem dX6_moveAhead_119 : decode cX6_moveAhead 119 = .ok (.iload_n 1, 1) := by decide +kernel
theorem dX6_moveAhead_120 : decode cX6_moveAhead 120 = .ok (.ireturn, 1) := by decide +kernel
theorem dX6_haven_0 : decode cX6_haven 0 = .ok (.aload_n 0, 1) := by decide +kernel
theorem dX6_haven_1 : decode cX6_haven 1 = .ok (.iload_n 1, 1) := by decide +kernel
theorem dX6_haven_2 : decode cX6_haven 2 = .ok (.invokevirtual 163, 3) := by decide +kernel
theorem dX6_haven_5 : decode cX6_haven 5 = .ok (.ifCond .eq 9, 3) := by decide +kernel
theorem dX6_haven_8 : decode cX6_haven 8 = .ok (.aload_n 0, 1) := by decide +kernel
theorem dX6_haven_9 : decode cX6_haven 9 = .ok (.iconst 1, 1) := by decide +kernel
theorem dX6_haven_10 : decode cX6_haven 10 = .ok (.invokevirtual 150, 3) := by decide +kernel
theorem dX6_haven_13 : decode cX6_haven 13 = .ok (.ireturn, 1) := by decide +kernel
theorem dX6_haven_14 : decode cX6_haven 14 = .ok (.aload_n 0, 1) := by decide +kernel
theorem dX6_haven_15 : decode cX6_haven 15 = .ok (.iconst 0, 1) := by decide +kernel
theorem dX6_haven_16 : decode cX6_haven 16 = .ok (.putfield 105, 3) := by decide +kernel
theorem dX6_haven_19 : decode cX6_haven 19 = .ok (.aload_n 0, 1) := by decide +kernel
theorem dX6_haven_20 : decode cX6_haven 20 = .ok (.invokevirtual 157, 3) := by decide +kernel
theorem dX6_haven_23 : decode cX6_haven 23 = .ok (.aload_n 0, 1) := by decide +kernel
theorem dX6_haven_24 : decode cX6_haven 24 = .ok (.iload_n 1, 1) := by decide +kernel
theorem dX6_haven_25 : decode cX6_haven 25 = .ok (.invokevirtual 160, 3) := by decide +kernel
theorem dX6_haven_28 : decode cX6_haven 28 = .ok (.ireturn, 1) := by decide +kernel
theorem dX6_isSafe_0 : decode cX6_isSafe 0 = .ok (.aload_n 0, 1) := by decide +kernel
theorem dX6_isSafe_1 : decode cX6_isSafe 1 = .ok (.iload_n 1, 1) := by decide +kernel
theorem dX6_isSafe_2 : decode cX6_isSafe 2 = .ok (.invokevirtual 163, 3) := by decide +kernel
theorem dX6_isSafe_5 : decode cX6_isSafe 5 = .ok (.ifCond .eq 18, 3) := by decide +kernel
theorem dX6_isSafe_8 : decode cX6_isSafe 8 = .ok (.aload_n 0, 1) := by decide +kernel
theorem dX6_isSafe_9 : decode cX6_isSafe 9 = .ok (.iconst 1, 1) := by decide +kernel
theorem dX6_isSafe_10 : decode cX6_isSafe 10 = .ok (.invokevirtual 150, 3) := by decide +kernel
theorem dX6_isSafe_13 : decode cX6_isSafe 13 = .ok (.iconst 1, 1) := by decide +kernel
theorem dX6_isSafe_14 : decode cX6_isSafe 14 = .ok (.if_icmp .ne 7, 3) := by decide +kernel
theorem dX6_isSafe_17 : decode cX6_isSafe 17 = .ok (.iconst 1, 1) := by decide +kernel
theorem dX6_isSafe_18 : decode cX6_isSafe 18 = .ok (.goto 4, 3) := by decide +kernel
theorem dX6_isSafe_21 : decode cX6_isSafe 21 = .ok (.iconst 0, 1) := by decide +kernel
theorem dX6_isSafe_22 : decode cX6_isSafe 22 = .ok (.ireturn, 1) := by decide +kernel
theorem dX6_isSafe_23 : decode cX6_isSafe 23 = .ok (.aload_n 0, 1) := by decide +kernel
theorem dX6_isSafe_24 : decode cX6_isSafe 24 = .ok (.iconst 0, 1) := by decide +kernel
theorem dX6_isSafe_25 : decode cX6_isSafe 25 = .ok (.putfield 105, 3) := by decide +kernel
theorem dX6_isSafe_28 : decode cX6_isSafe 28 = .ok (.aload_n 0, 1) := by decide +kernel
theorem dX6_isSafe_29 : decode cX6_isSafe 29 = .ok (.getfield 56, 3) := by decide +kernel
theorem dX6_isSafe_32 : decode cX6_isSafe 32 = .ok (.iload_n 1, 1) := by decide +kernel
theorem dX6_isSafe_33 : decode cX6_isSafe 33 = .ok (.iaload, 1) := by decide +kernel
theorem dX6_isSafe_34 : decode cX6_isSafe 34 = .ok (.ifCond .ne 21, 3) := by decide +kernel
theorem dX6_isSafe_37 : decode cX6_isSafe 37 = .ok (.aload_n 0, 1) := by decide +kernel
theorem dX6_isSafe_38 : decode cX6_isSafe 38 = .ok (.iload_n 1, 1) := by decide +kernel
theorem dX6_isSafe_39 : decode cX6_isSafe 39 = .ok (.aload_n 0, 1) := by decide +kernel
theorem dX6_isSafe_40 : decode cX6_isSafe 40 = .ok (.getfield 38, 3) := by decide +kernel
theorem dX6_isSafe_43 : decode cX6_isSafe 43 = .ok (.iload_n 1, 1) := by decide +kernel
theorem dX6_isSafe_44 : decode cX6_isSafe 44 = .ok (.iaload, 1) := by decide +kernel
theorem dX6_isSafe_45 : decode cX6_isSafe 45 = .ok (.invokevirtual 142, 3) := by decide +kernel
theorem dX6_isSafe_48 : decode cX6_isSafe 48 = .ok (.ifCond .eq 7, 3) := by decide +kernel
theorem dX6_isSafe_51 : decode cX6_isSafe 51 = .ok (.iconst 1, 1) := by decide +kernel
theorem dX6_isSafe_52 : decode cX6_isSafe 52 = .ok (.goto 4, 3) := by decide +kernel
theorem dX6_isSafe_55 : decode cX6_isSafe 55 = .ok (.iconst 0, 1) := by decide +kernel
theorem dX6_isSafe_56 : decode cX6_isSafe 56 = .ok (.ireturn, 1) := by decide +kernel
theorem dX6_stateOf_0 : decode cX6_stateOf 0 = .ok (.aload_n 0, 1) := by decide +kernel
theorem dX6_stateOf_1 : decode cX6_stateOf 1 = .ok (.iload_n 1, 1) := by decide +kernel
theorem dX6_stateOf_2 : decode cX6_stateOf 2 = .ok (.invokevirtual 163, 3) := by decide +kernel
theorem dX6_stateOf_5 : decode cX6_stateOf 5 = .ok (.ifCond .eq 9, 3) := by decide +kernel
theorem dX6_stateOf_8 : decode cX6_stateOf 8 = .ok (.aload_n 0, 1) := by decide +kernel
theorem dX6_stateOf_9 : decode cX6_stateOf 9 = .ok (.iconst 1, 1) := by decide +kernel
theorem dX6_stateOf_10 : decode cX6_stateOf 10 = .ok (.invokevirtual 150, 3) := by decide +kernel
theorem dX6_stateOf_13 : decode cX6_stateOf 13 = .ok (.ireturn, 1) := by decide +kernel
theorem dX6_stateOf_14 : decode cX6_stateOf 14 = .ok (.aload_n 0, 1) := by decide +kernel
theorem dX6_stateOf_15 : decode cX6_stateOf 15 = .ok (.iconst 0, 1) := by decide +kernel
theorem dX6_stateOf_16 : decode cX6_stateOf 16 = .ok (.putfield 105, 3) := by decide +kernel
theorem dX6_stateOf_19 : decode cX6_stateOf 19 = .ok (.aload_n 0, 1) := by decide +kernel
theorem dX6_stateOf_20 : decode cX6_stateOf 20 = .ok (.getfield 56, 3) := by decide +kernel
theorem dX6_stateOf_23 : decode cX6_stateOf 23 = .ok (.iload_n 1, 1) := by decide +kernel
theorem dX6_stateOf_24 : decode cX6_stateOf 24 = .ok (.iaload, 1) := by decide +kernel
theorem dX6_stateOf_25 : decode cX6_stateOf 25 = .ok (.ireturn, 1) := by decide +kernel
theorem dX6_formatOf_0 : decode cX6_formatOf 0 = .ok (.aload_n 0, 1) := by decide +kernel
theorem dX6_formatOf_1 : decode cX6_formatOf 1 = .ok (.iload_n 1, 1) := by decide +kernel
theorem dX6_formatOf_2 : decode cX6_formatOf 2 = .ok (.invokevirtual 163, 3) := by decide +kernel
theorem dX6_formatOf_5 : decode cX6_formatOf 5 = .ok (.ifCond .eq 9, 3) := by decide +kernel
theorem dX6_formatOf_8 : decode cX6_formatOf 8 = .ok (.aload_n 0, 1) := by decide +kernel
theorem dX6_formatOf_9 : decode cX6_formatOf 9 = .ok (.iconst 1, 1) := by decide +kernel
theorem dX6_formatOf_10 : decode cX6_formatOf 10 = .ok (.invokevirtual 150, 3) := by decide +kernel
theorem dX6_formatOf_13 : decode cX6_formatOf 13 = .ok (.ireturn, 1) := by decide +kernel
theorem dX6_formatOf_14 : decode cX6_formatOf 14 = .ok (.aload_n 0, 1) := by decide +kernel
theorem dX6_formatOf_15 : decode cX6_formatOf 15 = .ok (.iconst 0, 1) := by decide +kernel
theorem dX6_formatOf_16 : decode cX6_formatOf 16 = .ok (.putfield 105, 3) := by decide +kernel
theorem dX6_formatOf_19 : decode cX6_formatOf 19 = .ok (.aload_n 0, 1) := by decide +kernel
theorem dX6_formatOf_20 : decode cX6_formatOf 20 = .ok (.getfield 38, 3) := by decide +kernel
theorem dX6_formatOf_23 : decode cX6_formatOf 23 = .ok (.iload_n 1, 1) := by decide +kernel
theorem dX6_formatOf_24 : decode cX6_formatOf 24 = .ok (.iaload, 1) := by decide +kernel
theorem dX6_formatOf_25 : decode cX6_formatOf 25 = .ok (.ireturn, 1) := by decide +kernel
theorem dX6_qualityOf_0 : decode cX6_qualityOf 0 = .ok (.aload_n 0, 1) := by decide +kernel
theorem dX6_qualityOf_1 : decode cX6_qualityOf 1 = .ok (.iload_n 1, 1) := by decide +kernel
theorem dX6_qualityOf_2 : decode cX6_qualityOf 2 = .ok (.invokevirtual 163, 3) := by decide +kernel
theorem dX6_qualityOf_5 : decode cX6_qualityOf 5 = .ok (.ifCond .eq 9, 3) := by decide +kernel
theorem dX6_qualityOf_8 : decode cX6_qualityOf 8 = .ok (.aload_n 0, 1) := by decide +kernel
theorem dX6_qualityOf_9 : decode cX6_qualityOf 9 = .ok (.iconst 1, 1) := by decide +kernel
theorem dX6_qualityOf_10 : decode cX6_qualityOf 10 = .ok (.invokevirtual 150, 3) := by decide +kernel
theorem dX6_qualityOf_13 : decode cX6_qualityOf 13 = .ok (.ireturn, 1) := by decide +kernel
theorem dX6_qualityOf_14 : decode cX6_qualityOf 14 = .ok (.aload_n 0, 1) := by decide +kernel
theorem dX6_qualityOf_15 : decode cX6_qualityOf 15 = .ok (.iconst 0, 1) := by decide +kernel
theorem dX6_qualityOf_16 : decode cX6_qualityOf 16 = .ok (.putfield 105, 3) := by decide +kernel
theorem dX6_qualityOf_19 : decode cX6_qualityOf 19 = .ok (.aload_n 0, 1) := by decide +kernel
theorem dX6_qualityOf_20 : decode cX6_qualityOf 20 = .ok (.getfield 47, 3) := by decide +kernel
theorem dX6_qualityOf_23 : decode cX6_qualityOf 23 = .ok (.iload_n 1, 1) := by decide +kernel
theorem dX6_qualityOf_24 : decode cX6_qualityOf 24 = .ok (.iaload, 1) := by decide +kernel
theorem dX6_qualityOf_25 : decode cX6_qualityOf 25 = .ok (.ireturn, 1) := by decide +kernel
theorem dX6_endOf_0 : decode cX6_endOf 0 = .ok (.aload_n 0, 1) := by decide +kernel
theorem dX6_endOf_1 : decode cX6_endOf 1 = .ok (.iload_n 1, 1) := by decide +kernel
theorem dX6_endOf_2 : decode cX6_endOf 2 = .ok (.invokevirtual 163, 3) := by decide +kernel
theorem dX6_endOf_5 : decode cX6_endOf 5 = .ok (.ifCond .eq 9, 3) := by decide +kernel
theorem dX6_endOf_8 : decode cX6_endOf 8 = .ok (.aload_n 0, 1) := by decide +kernel
theorem dX6_endOf_9 : decode cX6_endOf 9 = .ok (.iconst 1, 1) := by decide +kernel
theorem dX6_endOf_10 : decode cX6_endOf 10 = .ok (.invokevirtual 150, 3) := by decide +kernel
theorem dX6_endOf_13 : decode cX6_endOf 13 = .ok (.ireturn, 1) := by decide +kernel
theorem dX6_endOf_14 : decode cX6_endOf 14 = .ok (.aload_n 0, 1) := by decide +kernel
theorem dX6_endOf_15 : decode cX6_endOf 15 = .ok (.iconst 0, 1) := by decide +kernel
theorem dX6_endOf_16 : decode cX6_endOf 16 = .ok (.putfield 105, 3) := by decide +kernel
theorem dX6_endOf_19 : decode cX6_endOf 19 = .ok (.aload_n 0, 1) := by decide +kernel
theorem dX6_endOf_20 : decode cX6_endOf 20 = .ok (.getfield 50, 3) := by decide +kernel
theorem dX6_endOf_23 : decode cX6_endOf 23 = .ok (.iload_n 1, 1) := by decide +kernel
theorem dX6_endOf_24 : decode cX6_endOf 24 = .ok (.iaload, 1) := by decide +kernel
theorem dX6_endOf_25 : decode cX6_endOf 25 = .ok (.ireturn, 1) := by decide +kernel
theorem dX6_setBudget_0 : decode cX6_setBudget 0 = .ok (.iload_n 1, 1) := by decide +kernel
theorem dX6_setBudget_1 : decode cX6_setBudget 1 = .ok (.iconst 0, 1) := by decide +kernel
theorem dX6_setBudget_2 : decode cX6_setBudget 2 = .ok (.ldc 177, 2) := by decide +kernel
theorem dX6_setBudget_4 : decode cX6_setBudget 4 = .ok (.invokestatic 108, 3) := by decide +kernel
theorem dX6_setBudget_7 : decode cX6_setBudget 7 = .ok (.ifCond .ne 9, 3) := by decide +kernel
theorem dX6_setBudget_10 : decode cX6_setBudget 10 = .ok (.aload_n 0, 1) := by decide +kernel
theorem dX6_setBudget_11 : decode cX6_setBudget 11 = .ok (.iconst 1, 1) := by decide +kernel
theorem dX6_setBudget_12 : decode cX6_setBudget 12 = .ok (.invokevirtual 150, 3) := by decide +kernel
theorem dX6_setBudget_15 : decode cX6_setBudget 15 = .ok (.ireturn, 1) := by decide +kernel
theorem dX6_setBudget_16 : decode cX6_setBudget 16 = .ok (.aload_n 0, 1) := by decide +kernel
theorem dX6_setBudget_17 : decode cX6_setBudget 17 = .ok (.iconst 0, 1) := by decide +kernel
theorem dX6_setBudget_18 : decode cX6_setBudget 18 = .ok (.putfield 105, 3) := by decide +kernel
theorem dX6_setBudget_21 : decode cX6_setBudget 21 = .ok (.aload_n 0, 1) := by decide +kernel
theorem dX6_setBudget_22 : decode cX6_setBudget 22 = .ok (.getfield 98, 3) := by decide +kernel
theorem dX6_setBudget_25 : decode cX6_setBudget 25 = .ok (.istore_n 2, 1) := by decide +kernel
theorem dX6_setBudget_26 : decode cX6_setBudget 26 = .ok (.aload_n 0, 1) := by decide +kernel
theorem dX6_setBudget_27 : decode cX6_setBudget 27 = .ok (.iload_n 1, 1) := by decide +kernel
theorem dX6_setBudget_28 : decode cX6_setBudget 28 = .ok (.putfield 98, 3) := by decide +kernel
theorem dX6_setBudget_31 : decode cX6_setBudget 31 = .ok (.iload_n 2, 1) := by decide +kernel
theorem dX6_setBudget_32 : decode cX6_setBudget 32 = .ok (.ireturn, 1) := by decide +kernel
theorem dX6_left_0 : decode cX6_left 0 = .ok (.aload_n 0, 1) := by decide +kernel
theorem dX6_left_1 : decode cX6_left 1 = .ok (.iconst 0, 1) := by decide +kernel
theorem dX6_left_2 : decode cX6_left 2 = .ok (.putfield 105, 3) := by decide +kernel
theorem dX6_left_5 : decode cX6_left 5 = .ok (.aload_n 0, 1) := by decide +kernel
theorem dX6_left_6 : decode cX6_left 6 = .ok (.getfield 102, 3) := by decide +kernel
theorem dX6_left_9 : decode cX6_left 9 = .ok (.ireturn, 1) := by decide +kernel
theorem dX6_begin_0 : decode cX6_begin 0 = .ok (.aload_n 0, 1) := by decide +kernel
theorem dX6_begin_1 : decode cX6_begin 1 = .ok (.getfield 115, 3) := by decide +kernel
theorem dX6_begin_4 : decode cX6_begin 4 = .ok (.sipush 900, 3) := by decide +kernel
theorem dX6_begin_7 : decode cX6_begin 7 = .ok (.if_icmp .ne 9, 3) := by decide +kernel
theorem dX6_begin_10 : decode cX6_begin 10 = .ok (.aload_n 0, 1) := by decide +kernel
theorem dX6_begin_11 : decode cX6_begin 11 = .ok (.iconst 1, 1) := by decide +kernel
theorem dX6_begin_12 : decode cX6_begin 12 = .ok (.invokevirtual 150, 3) := by decide +kernel
theorem dX6_begin_15 : decode cX6_begin 15 = .ok (.ireturn, 1) := by decide +kernel
theorem dX6_begin_16 : decode cX6_begin 16 = .ok (.aload_n 0, 1) := by decide +kernel
theorem dX6_begin_17 : decode cX6_begin 17 = .ok (.iconst 0, 1) := by decide +kernel
theorem dX6_begin_18 : decode cX6_begin 18 = .ok (.putfield 105, 3) := by decide +kernel
theorem dX6_begin_21 : decode cX6_begin 21 = .ok (.aload_n 0, 1) := by decide +kernel
theorem dX6_begin_22 : decode cX6_begin 22 = .ok (.dup, 1) := by decide +kernel
theorem dX6_begin_23 : decode cX6_begin 23 = .ok (.getfield 115, 3) := by decide +kernel
theorem dX6_begin_26 : decode cX6_begin 26 = .ok (.iconst 1, 1) := by decide +kernel
theorem dX6_begin_27 : decode cX6_begin 27 = .ok (.iadd, 1) := by decide +kernel
theorem dX6_begin_28 : decode cX6_begin 28 = .ok (.putfield 115, 3) := by decide +kernel
theorem dX6_begin_31 : decode cX6_begin 31 = .ok (.aload_n 0, 1) := by decide +kernel
theorem dX6_begin_32 : decode cX6_begin 32 = .ok (.aload_n 0, 1) := by decide +kernel
theorem dX6_begin_33 : decode cX6_begin 33 = .ok (.getfield 98, 3) := by decide +kernel
theorem dX6_begin_36 : decode cX6_begin 36 = .ok (.putfield 102, 3) := by decide +kernel
theorem dX6_begin_39 : decode cX6_begin 39 = .ok (.iconst 0, 1) := by decide +kernel
theorem dX6_begin_40 : decode cX6_begin 40 = .ok (.istore_n 1, 1) := by decide +kernel
theorem dX6_begin_41 : decode cX6_begin 41 = .ok (.iconst 0, 1) := by decide +kernel
theorem dX6_begin_42 : decode cX6_begin 42 = .ok (.istore_n 2, 1) := by decide +kernel
theorem dX6_begin_43 : decode cX6_begin 43 = .ok (.iload_n 2, 1) := by decide +kernel
theorem dX6_begin_44 : decode cX6_begin 44 = .ok (.aload_n 0, 1) := by decide +kernel
theorem dX6_begin_45 : decode cX6_begin 45 = .ok (.getfield 112, 3) := by decide +kernel
theorem dX6_begin_48 : decode cX6_begin 48 = .ok (.if_icmp .ge 82, 3) := by decide +kernel
theorem dX6_begin_51 : decode cX6_begin 51 = .ok (.aload_n 0, 1) := by decide +kernel
theorem dX6_begin_52 : decode cX6_begin 52 = .ok (.getfield 56, 3) := by decide +kernel
theorem dX6_begin_55 : decode cX6_begin 55 = .ok (.iload_n 2, 1) := by decide +kernel
theorem dX6_begin_56 : decode cX6_begin 56 = .ok (.iaload, 1) := by decide +kernel
theorem dX6_begin_57 : decode cX6_begin 57 = .ok (.ifCond .ne 35, 3) := by decide +kernel
theorem dX6_begin_60 : decode cX6_begin 60 = .ok (.aload_n 0, 1) := by decide +kernel
theorem dX6_begin_61 : decode cX6_begin 61 = .ok (.getfield 115, 3) := by decide +kernel
theorem dX6_begin_64 : decode cX6_begin 64 = .ok (.aload_n 0, 1) := by decide +kernel
theorem dX6_begin_65 : decode cX6_begin 65 = .ok (.getfield 50, 3) := by decide +kernel
theorem dX6_begin_68 : decode cX6_begin 68 = .ok (.iload_n 2, 1) := by decide +kernel
theorem dX6_begin_69 : decode cX6_begin 69 = .ok (.iaload, 1) := by decide +kernel
theorem dX6_begin_70 : decode cX6_begin 70 = .ok (.if_icmp .le 22, 3) := by decide +kernel
theorem dX6_begin_73 : decode cX6_begin 73 = .ok (.aload_n 0, 1) := by decide +kernel
theorem dX6_begin_74 : decode cX6_begin 74 = .ok (.getfield 59, 3) := by decide +kernel
theorem dX6_begin_77 : decode cX6_begin 77 = .ok (.iload_n 2, 1) := by decide +kernel
theorem dX6_begin_78 : decode cX6_begin 78 = .ok (.baload, 1) := by decide +kernel
theorem dX6_begin_79 : decode cX6_begin 79 = .ok (.ifCond .ne 13, 3) := by decide +kernel
theorem dX6_begin_82 : decode cX6_begin 82 = .ok (.aload_n 0, 1) := by decide +kernel
theorem dX6_begin_83 : decode cX6_begin 83 = .ok (.getfield 56, 3) := by decide +kernel
theorem dX6_begin_86 : decode cX6_begin 86 = .ok (.iload_n 2, 1) := by decide +kernel
theorem dX6_begin_87 : decode cX6_begin 87 = .ok (.iconst 1, 1) := by decide +kernel
theorem dX6_begin_88 : decode cX6_begin 88 = .ok (.iastore, 1) := by decide +kernel
theorem dX6_begin_89 : decode cX6_begin 89 = .ok (.goto 35, 3) := by decide +kernel
theorem dX6_begin_92 : decode cX6_begin 92 = .ok (.aload_n 0, 1) := by decide +kernel
theorem dX6_begin_93 : decode cX6_begin 93 = .ok (.getfield 56, 3) := by decide +kernel
theorem dX6_begin_96 : decode cX6_begin 96 = .ok (.iload_n 2, 1) := by decide +kernel
theorem dX6_begin_97 : decode cX6_begin 97 = .ok (.iaload, 1) := by decide +kernel
theorem dX6_begin_98 : decode cX6_begin 98 = .ok (.ifCond .ne 26, 3) := by decide +kernel
theorem dX6_begin_101 : decode cX6_begin 101 = .ok (.aload_n 0, 1) := by decide +kernel
theorem dX6_begin_102 : decode cX6_begin 102 = .ok (.aload_n 0, 1) := by decide +kernel
theorem dX6_begin_103 : decode cX6_begin 103 = .ok (.getfield 38, 3) := by decide +kernel
theorem dX6_begin_106 : decode cX6_begin 106 = .ok (.iload_n 2, 1) := by decide +kernel
theorem dX6_begin_107 : decode cX6_begin 107 = .ok (.iaload, 1) := by decide +kernel
theorem dX6_begin_108 : decode cX6_begin 108 = .ok (.invokevirtual 154, 3) := by decide +kernel
theorem dX6_begin_111 : decode cX6_begin 111 = .ok (.ifCond .ne 13, 3) := by decide +kernel
theorem dX6_begin_114 : decode cX6_begin 114 = .ok (.aload_n 0, 1) := by decide +kernel
theorem dX6_begin_115 : decode cX6_begin 115 = .ok (.getfield 56, 3) := by decide +kernel
theorem dX6_begin_118 : decode cX6_begin 118 = .ok (.iload_n 2, 1) := by decide +kernel
theorem dX6_begin_119 : decode cX6_begin 119 = .ok (.iconst 2, 1) := by decide +kernel
theorem dX6_begin_120 : decode cX6_begin 120 = .ok (.iastore, 1) := by decide +kernel
theorem dX6_begin_121 : decode cX6_begin 121 = .ok (.iinc 1 1, 3) := by decide +kernel
theorem dX6_begin_124 : decode cX6_begin 124 = .ok (.iinc 2 1, 3) := by decide +kernel
theorem dX6_begin_127 : decode cX6_begin 127 = .ok (.goto (-84), 3) := by decide +kernel
theorem dX6_begin_130 : decode cX6_begin 130 = .ok (.iload_n 1, 1) := by decide +kernel
theorem dX6_begin_131 : decode cX6_begin 131 = .ok (.ireturn, 1) := by decide +kernel
theorem dX6_year_0 : decode cX6_year 0 = .ok (.aload_n 0, 1) := by decide +kernel
theorem dX6_year_1 : decode cX6_year 1 = .ok (.iconst 0, 1) := by decide +kernel
theorem dX6_year_2 : decode cX6_year 2 = .ok (.putfield 105, 3) := by decide +kernel
theorem dX6_year_5 : decode cX6_year 5 = .ok (.aload_n 0, 1) := by decide +kernel
theorem dX6_year_6 : decode cX6_year 6 = .ok (.getfield 115, 3) := by decide +kernel
theorem dX6_year_9 : decode cX6_year 9 = .ok (.ireturn, 1) := by decide +kernel
theorem dX6_overdue_0 : decode cX6_overdue 0 = .ok (.aload_n 0, 1) := by decide +kernel
theorem dX6_overdue_1 : decode cX6_overdue 1 = .ok (.iconst 0, 1) := by decide +kernel
theorem dX6_overdue_2 : decode cX6_overdue 2 = .ok (.putfield 105, 3) := by decide +kernel
theorem dX6_overdue_5 : decode cX6_overdue 5 = .ok (.iconst 0, 1) := by decide +kernel
theorem dX6_overdue_6 : decode cX6_overdue 6 = .ok (.istore_n 1, 1) := by decide +kernel
theorem dX6_overdue_7 : decode cX6_overdue 7 = .ok (.iconst 0, 1) := by decide +kernel
theorem dX6_overdue_8 : decode cX6_overdue 8 = .ok (.istore_n 2, 1) := by decide +kernel
theorem dX6_overdue_9 : decode cX6_overdue 9 = .ok (.iload_n 2, 1) := by decide +kernel
theorem dX6_overdue_10 : decode cX6_overdue 10 = .ok (.aload_n 0, 1) := by decide +kernel
theorem dX6_overdue_11 : decode cX6_overdue 11 = .ok (.getfield 112, 3) := by decide +kernel
theorem dX6_overdue_14 : decode cX6_overdue 14 = .ok (.if_icmp .ge 51, 3) := by decide +kernel
theorem dX6_overdue_17 : decode cX6_overdue 17 = .ok (.iload_n 1, 1) := by decide +kernel
theorem dX6_overdue_18 : decode cX6_overdue 18 = .ok (.aload_n 0, 1) := by decide +kernel
theorem dX6_overdue_19 : decode cX6_overdue 19 = .ok (.getfield 56, 3) := by decide +kernel
theorem dX6_overdue_22 : decode cX6_overdue 22 = .ok (.iload_n 2, 1) := by decide +kernel
theorem dX6_overdue_23 : decode cX6_overdue 23 = .ok (.iaload, 1) := by decide +kernel
theorem dX6_overdue_24 : decode cX6_overdue 24 = .ok (.ifCond .ne 32, 3) := by decide +kernel
theorem dX6_overdue_27 : decode cX6_overdue 27 = .ok (.aload_n 0, 1) := by decide +kernel
theorem dX6_overdue_28 : decode cX6_overdue 28 = .ok (.getfield 115, 3) := by decide +kernel
theorem dX6_overdue_31 : decode cX6_overdue 31 = .ok (.aload_n 0, 1) := by decide +kernel
theorem dX6_overdue_32 : decode cX6_overdue 32 = .ok (.getfield 53, 3) := by decide +kernel
theorem dX6_overdue_35 : decode cX6_overdue 35 = .ok (.iload_n 2, 1) := by decide +kernel
theorem dX6_overdue_36 : decode cX6_overdue 36 = .ok (.iaload, 1) := by decide +kernel
theorem dX6_overdue_37 : decode cX6_overdue 37 = .ok (.aload_n 0, 1) := by decide +kernel
theorem dX6_overdue_38 : decode cX6_overdue 38 = .ok (.getfield 35, 3) := by decide +kernel
theorem dX6_overdue_41 : decode cX6_overdue 41 = .ok (.aload_n 0, 1) := by decide +kernel
theorem dX6_overdue_42 : decode cX6_overdue 42 = .ok (.getfield 44, 3) := by decide +kernel
theorem dX6_overdue_45 : decode cX6_overdue 45 = .ok (.iload_n 2, 1) := by decide +kernel
theorem dX6_overdue_46 : decode cX6_overdue 46 = .ok (.iaload, 1) := by decide +kernel
theorem dX6_overdue_47 : decode cX6_overdue 47 = .ok (.iaload, 1) := by decide +kernel
theorem dX6_overdue_48 : decode cX6_overdue 48 = .ok (.iadd, 1) := by decide +kernel
theorem dX6_overdue_49 : decode cX6_overdue 49 = .ok (.if_icmp .le 7, 3) := by decide +kernel
theorem dX6_overdue_52 : decode cX6_overdue 52 = .ok (.iconst 1, 1) := by decide +kernel
theorem dX6_overdue_53 : decode cX6_overdue 53 = .ok (.goto 4, 3) := by decide +kernel
theorem dX6_overdue_56 : decode cX6_overdue 56 = .ok (.iconst 0, 1) := by decide +kernel
theorem dX6_overdue_57 : decode cX6_overdue 57 = .ok (.iadd, 1) := by decide +kernel
theorem dX6_overdue_58 : decode cX6_overdue 58 = .ok (.istore_n 1, 1) := by decide +kernel
theorem dX6_overdue_59 : decode cX6_overdue 59 = .ok (.iinc 2 1, 3) := by decide +kernel
theorem dX6_overdue_62 : decode cX6_overdue 62 = .ok (.goto (-53), 3) := by decide +kernel
theorem dX6_overdue_65 : decode cX6_overdue 65 = .ok (.iload_n 1, 1) := by decide +kernel
theorem dX6_overdue_66 : decode cX6_overdue 66 = .ok (.ireturn, 1) := by decide +kernel
theorem dX6_promise_0 : decode cX6_promise 0 = .ok (.iload_n 1, 1) := by decide +kernel
theorem dX6_promise_1 : decode cX6_promise 1 = .ok (.invokestatic 146, 3) := by decide +kernel
theorem dX6_promise_4 : decode cX6_promise 4 = .ok (.ifCond .ne 12, 3) := by decide +kernel
theorem dX6_promise_7 : decode cX6_promise 7 = .ok (.iload_n 2, 1) := by decide +kernel
theorem dX6_promise_8 : decode cX6_promise 8 = .ok (.iconst 0, 1) := by decide +kernel
theorem dX6_promise_9 : decode cX6_promise 9 = .ok (.iconst 4, 1) := by decide +kernel
theorem dX6_promise_10 : decode cX6_promise 10 = .ok (.invokestatic 108, 3) := by decide +kernel
theorem dX6_promise_13 : decode cX6_promise 13 = .ok (.ifCond .ne 9, 3) := by decide +kernel
theorem dX6_promise_16 : decode cX6_promise 16 = .ok (.aload_n 0, 1) := by decide +kernel
theorem dX6_promise_17 : decode cX6_promise 17 = .ok (.iconst 1, 1) := by decide +kernel
theorem dX6_promise_18 : decode cX6_promise 18 = .ok (.invokevirtual 150, 3) := by decide +kernel
theorem dX6_promise_21 : decode cX6_promise 21 = .ok (.ireturn, 1) := by decide +kernel
theorem dX6_promise_22 : decode cX6_promise 22 = .ok (.aload_n 0, 1) := by decide +kernel
theorem dX6_promise_23 : decode cX6_promise 23 = .ok (.iconst 0, 1) := by decide +kernel
theorem dX6_promise_24 : decode cX6_promise 24 = .ok (.putfield 105, 3) := by decide +kernel
theorem dX6_promise_27 : decode cX6_promise 27 = .ok (.aload_n 0, 1) := by decide +kernel
theorem dX6_promise_28 : decode cX6_promise 28 = .ok (.invokevirtual 157, 3) := by decide +kernel
theorem dX6_promise_31 : decode cX6_promise 31 = .ok (.iconst 0, 1) := by decide +kernel
theorem dX6_promise_32 : decode cX6_promise 32 = .ok (.istore_n 3, 1) := by decide +kernel
theorem dX6_promise_33 : decode cX6_promise 33 = .ok (.iconst 0, 1) := by decide +kernel
theorem dX6_promise_34 : decode cX6_promise 34 = .ok (.istore 4, 2) := by decide +kernel
theorem dX6_promise_36 : decode cX6_promise 36 = .ok (.iload 4, 2) := by decide +kernel
theorem dX6_promise_38 : decode cX6_promise 38 = .ok (.bipush 10, 2) := by decide +kernel
theorem dX6_promise_40 : decode cX6_promise 40 = .ok (.if_icmp .ge 100, 3) := by decide +kernel
theorem dX6_promise_43 : decode cX6_promise 43 = .ok (.aload_n 0, 1) := by decide +kernel
theorem dX6_promise_44 : decode cX6_promise 44 = .ok (.getfield 68, 3) := by decide +kernel
theorem dX6_promise_47 : decode cX6_promise 47 = .ok (.bipush 10, 2) := by decide +kernel
theorem dX6_promise_49 : decode cX6_promise 49 = .ok (.iload_n 1, 1) := by decide +kernel
theorem dX6_promise_50 : decode cX6_promise 50 = .ok (.imul, 1) := by decide +kernel
theorem dX6_promise_51 : decode cX6_promise 51 = .ok (.iload 4, 2) := by decide +kernel
theorem dX6_promise_53 : decode cX6_promise 53 = .ok (.iadd, 1) := by decide +kernel
theorem dX6_promise_54 : decode cX6_promise 54 = .ok (.iaload, 1) := by decide +kernel
theorem dX6_promise_55 : decode cX6_promise 55 = .ok (.istore 5, 2) := by decide +kernel
theorem dX6_promise_57 : decode cX6_promise 57 = .ok (.aload_n 0, 1) := by decide +kernel
theorem dX6_promise_58 : decode cX6_promise 58 = .ok (.getfield 7, 3) := by decide +kernel
theorem dX6_promise_61 : decode cX6_promise 61 = .ok (.iload 4, 2) := by decide +kernel
theorem dX6_promise_63 : decode cX6_promise 63 = .ok (.iaload, 1) := by decide +kernel
theorem dX6_promise_64 : decode cX6_promise 64 = .ok (.iconst (-1), 1) := by decide +kernel
theorem dX6_promise_65 : decode cX6_promise 65 = .ok (.if_icmp .eq 20, 3) := by decide +kernel
theorem dX6_promise_68 : decode cX6_promise 68 = .ok (.aload_n 0, 1) := by decide +kernel
theorem dX6_promise_69 : decode cX6_promise 69 = .ok (.getfield 7, 3) := by decide +kernel
theorem dX6_promise_72 : decode cX6_promise 72 = .ok (.iload 4, 2) := by decide +kernel
theorem dX6_promise_74 : decode cX6_promise 74 = .ok (.iaload, 1) := by decide +kernel
theorem dX6_promise_75 : decode cX6_promise 75 = .ok (.aload_n 0, 1) := by decide +kernel
theorem dX6_promise_76 : decode cX6_promise 76 = .ok (.getfield 115, 3) := by decide +kernel
theorem dX6_promise_79 : decode cX6_promise 79 = .ok (.isub, 1) := by decide +kernel
theorem dX6_promise_80 : decode cX6_promise 80 = .ok (.bipush 100, 2) := by decide +kernel
theorem dX6_promise_82 : decode cX6_promise 82 = .ok (.if_icmp .le 8, 3) := by decide +kernel
theorem dX6_promise_85 : decode cX6_promise 85 = .ok (.bipush 100, 2) := by decide +kernel
theorem dX6_promise_87 : decode cX6_promise 87 = .ok (.goto 15, 3) := by decide +kernel
theorem dX6_promise_90 : decode cX6_promise 90 = .ok (.aload_n 0, 1) := by decide +kernel
theorem dX6_promise_91 : decode cX6_promise 91 = .ok (.getfield 7, 3) := by decide +kernel
theorem dX6_promise_94 : decode cX6_promise 94 = .ok (.iload 4, 2) := by decide +kernel
theorem dX6_promise_96 : decode cX6_promise 96 = .ok (.iaload, 1) := by decide +kernel
theorem dX6_promise_97 : decode cX6_promise 97 = .ok (.aload_n 0, 1) := by decide +kernel
theorem dX6_promise_98 : decode cX6_promise 98 = .ok (.getfield 115, 3) := by decide +kernel
theorem dX6_promise_101 : decode cX6_promise 101 = .ok (.isub, 1) := by decide +kernel
theorem dX6_promise_102 : decode cX6_promise 102 = .ok (.istore 6, 2) := by decide +kernel
theorem dX6_promise_104 : decode cX6_promise 104 = .ok (.iload 5, 2) := by decide +kernel
theorem dX6_promise_106 : decode cX6_promise 106 = .ok (.iconst (-1), 1) := by decide +kernel
theorem dX6_promise_107 : decode cX6_promise 107 = .ok (.if_icmp .eq 25, 3) := by decide +kernel
theorem dX6_promise_110 : decode cX6_promise 110 = .ok (.iload 5, 2) := by decide +kernel
theorem dX6_promise_112 : decode cX6_promise 112 = .ok (.aload_n 0, 1) := by decide +kernel
theorem dX6_promise_113 : decode cX6_promise 113 = .ok (.getfield 32, 3) := by decide +kernel
theorem dX6_promise_116 : decode cX6_promise 116 = .ok (.iload_n 2, 1) := by decide +kernel
theorem dX6_promise_117 : decode cX6_promise 117 = .ok (.iaload, 1) := by decide +kernel
theorem dX6_promise_118 : decode cX6_promise 118 = .ok (.if_icmp .lt 14, 3) := by decide +kernel
theorem dX6_promise_121 : decode cX6_promise 121 = .ok (.iload 6, 2) := by decide +kernel
theorem dX6_promise_123 : decode cX6_promise 123 = .ok (.iload_n 3, 1) := by decide +kernel
theorem dX6_promise_124 : decode cX6_promise 124 = .ok (.if_icmp .le 8, 3) := by decide +kernel
theorem dX6_promise_127 : decode cX6_promise 127 = .ok (.iload 6, 2) := by decide +kernel
theorem dX6_promise_129 : decode cX6_promise 129 = .ok (.goto 4, 3) := by decide +kernel
theorem dX6_promise_132 : decode cX6_promise 132 = .ok (.iload_n 3, 1) := by decide +kernel
theorem dX6_promise_133 : decode cX6_promise 133 = .ok (.istore_n 3, 1) := by decide +kernel
theorem dX6_promise_134 : decode cX6_promise 134 = .ok (.iinc 4 1, 3) := by decide +kernel
theorem dX6_promise_137 : decode cX6_promise 137 = .ok (.goto (-101), 3) := by decide +kernel
theorem dX6_promise_140 : decode cX6_promise 140 = .ok (.aload_n 0, 1) := by decide +kernel
theorem dX6_promise_141 : decode cX6_promise 141 = .ok (.iload_n 1, 1) := by decide +kernel
theorem dX6_promise_142 : decode cX6_promise 142 = .ok (.invokevirtual 154, 3) := by decide +kernel
theorem dX6_promise_145 : decode cX6_promise 145 = .ok (.ifCond .eq 7, 3) := by decide +kernel
theorem dX6_promise_148 : decode cX6_promise 148 = .ok (.iload_n 3, 1) := by decide +kernel
theorem dX6_promise_149 : decode cX6_promise 149 = .ok (.goto 4, 3) := by decide +kernel
theorem dX6_promise_152 : decode cX6_promise 152 = .ok (.iconst 0, 1) := by decide +kernel
theorem dX6_promise_153 : decode cX6_promise 153 = .ok (.ireturn, 1) := by decide +kernel
theorem dJ13_bitCount_95d88_0 : decode cJ13_bitCount_95d88 0 = .ok (.lload_n 0, 1) := by decide +kernel
theorem dJ13_bitCount_95d88_1 : decode cJ13_bitCount_95d88 1 = .ok (.lload_n 0, 1) := by decide +kernel
theorem dJ13_bitCount_95d88_2 : decode cJ13_bitCount_95d88 2 = .ok (.iconst 1, 1) := by decide +kernel
theorem dJ13_bitCount_95d88_3 : decode cJ13_bitCount_95d88 3 = .ok (.lushr, 1) := by decide +kernel
theorem dJ13_bitCount_95d88_4 : decode cJ13_bitCount_95d88 4 = .ok (.ldc2_w 314, 3) := by decide +kernel
theorem dJ13_bitCount_95d88_7 : decode cJ13_bitCount_95d88 7 = .ok (.land, 1) := by decide +kernel
theorem dJ13_bitCount_95d88_8 : decode cJ13_bitCount_95d88 8 = .ok (.lsub, 1) := by decide +kernel
theorem dJ13_bitCount_95d88_9 : decode cJ13_bitCount_95d88 9 = .ok (.lstore_n 0, 1) := by decide +kernel
theorem dJ13_bitCount_95d88_10 : decode cJ13_bitCount_95d88 10 = .ok (.lload_n 0, 1) := by decide +kernel
theorem dJ13_bitCount_95d88_11 : decode cJ13_bitCount_95d88 11 = .ok (.ldc2_w 316, 3) := by decide +kernel
theorem dJ13_bitCount_95d88_14 : decode cJ13_bitCount_95d88 14 = .ok (.land, 1) := by decide +kernel
theorem dJ13_bitCount_95d88_15 : decode cJ13_bitCount_95d88 15 = .ok (.lload_n 0, 1) := by decide +kernel
theorem dJ13_bitCount_95d88_16 : decode cJ13_bitCount_95d88 16 = .ok (.iconst 2, 1) := by decide +kernel
theorem dJ13_bitCount_95d88_17 : decode cJ13_bitCount_95d88 17 = .ok (.lushr, 1) := by decide +kernel
theorem dJ13_bitCount_95d88_18 : decode cJ13_bitCount_95d88 18 = .ok (.ldc2_w 316, 3) := by decide +kernel
theorem dJ13_bitCount_95d88_21 : decode cJ13_bitCount_95d88 21 = .ok (.land, 1) := by decide +kernel
theorem dJ13_bitCount_95d88_22 : decode cJ13_bitCount_95d88 22 = .ok (.ladd, 1) := by decide +kernel
theorem dJ13_bitCount_95d88_23 : decode cJ13_bitCount_95d88 23 = .ok (.lstore_n 0, 1) := by decide +kernel
theorem dJ13_bitCount_95d88_24 : decode cJ13_bitCount_95d88 24 = .ok (.lload_n 0, 1) := by decide +kernel
theorem dJ13_bitCount_95d88_25 : decode cJ13_bitCount_95d88 25 = .ok (.lload_n 0, 1) := by decide +kernel
theorem dJ13_bitCount_95d88_26 : decode cJ13_bitCount_95d88 26 = .ok (.iconst 4, 1) := by decide +kernel
theorem dJ13_bitCount_95d88_27 : decode cJ13_bitCount_95d88 27 = .ok (.lushr, 1) := by decide +kernel
theorem dJ13_bitCount_95d88_28 : decode cJ13_bitCount_95d88 28 = .ok (.ladd, 1) := by decide +kernel
theorem dJ13_bitCount_95d88_29 : decode cJ13_bitCount_95d88 29 = .ok (.ldc2_w 318, 3) := by decide +kernel
theorem dJ13_bitCount_95d88_32 : decode cJ13_bitCount_95d88 32 = .ok (.land, 1) := by decide +kernel
theorem dJ13_bitCount_95d88_33 : decode cJ13_bitCount_95d88 33 = .ok (.lstore_n 0, 1) := by decide +kernel
theorem dJ13_bitCount_95d88_34 : decode cJ13_bitCount_95d88 34 = .ok (.lload_n 0, 1) := by decide +kernel
theorem dJ13_bitCount_95d88_35 : decode cJ13_bitCount_95d88 35 = .ok (.lload_n 0, 1) := by decide +kernel
theorem dJ13_bitCount_95d88_36 : decode cJ13_bitCount_95d88 36 = .ok (.bipush 8, 2) := by decide +kernel
theorem dJ13_bitCount_95d88_38 : decode cJ13_bitCount_95d88 38 = .ok (.lushr, 1) := by decide +kernel
theorem dJ13_bitCount_95d88_39 : decode cJ13_bitCount_95d88 39 = .ok (.ladd, 1) := by decide +kernel
theorem dJ13_bitCount_95d88_40 : decode cJ13_bitCount_95d88 40 = .ok (.lstore_n 0, 1) := by decide +kernel
theorem dJ13_bitCount_95d88_41 : decode cJ13_bitCount_95d88 41 = .ok (.lload_n 0, 1) := by decide +kernel
theorem dJ13_bitCount_95d88_42 : decode cJ13_bitCount_95d88 42 = .ok (.lload_n 0, 1) := by decide +kernel
theorem dJ13_bitCount_95d88_43 : decode cJ13_bitCount_95d88 43 = .ok (.bipush 16, 2) := by decide +kernel
theorem dJ13_bitCount_95d88_45 : decode cJ13_bitCount_95d88 45 = .ok (.lushr, 1) := by decide +kernel
theorem dJ13_bitCount_95d88_46 : decode cJ13_bitCount_95d88 46 = .ok (.ladd, 1) := by decide +kernel
theorem dJ13_bitCount_95d88_47 : decode cJ13_bitCount_95d88 47 = .ok (.lstore_n 0, 1) := by decide +kernel
theorem dJ13_bitCount_95d88_48 : decode cJ13_bitCount_95d88 48 = .ok (.lload_n 0, 1) := by decide +kernel
theorem dJ13_bitCount_95d88_49 : decode cJ13_bitCount_95d88 49 = .ok (.lload_n 0, 1) := by decide +kernel
theorem dJ13_bitCount_95d88_50 : decode cJ13_bitCount_95d88 50 = .ok (.bipush 32, 2) := by decide +kernel
theorem dJ13_bitCount_95d88_52 : decode cJ13_bitCount_95d88 52 = .ok (.lushr, 1) := by decide +kernel
theorem dJ13_bitCount_95d88_53 : decode cJ13_bitCount_95d88 53 = .ok (.ladd, 1) := by decide +kernel
theorem dJ13_bitCount_95d88_54 : decode cJ13_bitCount_95d88 54 = .ok (.lstore_n 0, 1) := by decide +kernel
theorem dJ13_bitCount_95d88_55 : decode cJ13_bitCount_95d88 55 = .ok (.lload_n 0, 1) := by decide +kernel
theorem dJ13_bitCount_95d88_56 : decode cJ13_bitCount_95d88 56 = .ok (.l2i, 1) := by decide +kernel
theorem dJ13_bitCount_95d88_57 : decode cJ13_bitCount_95d88 57 = .ok (.bipush 127, 2) := by decide +kernel
theorem dJ13_bitCount_95d88_59 : decode cJ13_bitCount_95d88 59 = .ok (.iand, 1) := by decide +kernel
theorem dJ13_bitCount_95d88_60 : decode cJ13_bitCount_95d88 60 = .ok (.ireturn, 1) := by decide +kernel
theorem dJ9_max_7cf53_0 : decode cJ9_max_7cf53 0 = .ok (.iload_n 0, 1) := by decide +kernel
theorem dJ9_max_7cf53_1 : decode cJ9_max_7cf53 1 = .ok (.iload_n 1, 1) := by decide +kernel
theorem dJ9_max_7cf53_2 : decode cJ9_max_7cf53 2 = .ok (.if_icmp .lt 7, 3) := by decide +kernel
theorem dJ9_max_7cf53_5 : decode cJ9_max_7cf53 5 = .ok (.iload_n 0, 1) := by decide +kernel
theorem dJ9_max_7cf53_6 : decode cJ9_max_7cf53 6 = .ok (.goto 4, 3) := by decide +kernel
theorem dJ9_max_7cf53_9 : decode cJ9_max_7cf53 9 = .ok (.iload_n 1, 1) := by decide +kernel
theorem dJ9_max_7cf53_10 : decode cJ9_max_7cf53 10 = .ok (.ireturn, 1) := by decide +kernel
theorem dJ9_min_7cf53_0 : decode cJ9_min_7cf53 0 = .ok (.iload_n 0, 1) := by decide +kernel
