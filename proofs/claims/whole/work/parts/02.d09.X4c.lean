theorem dX4_hill_94 : decode cX4_hill 94 = .ok (.aload_n 0, 1) := by decide +kernel
theorem dX4_hill_95 : decode cX4_hill 95 = .ok (.getfield 13, 3) := by decide +kernel
theorem dX4_hill_98 : decode cX4_hill 98 = .ok (.iload_n 1, 1) := by decide +kernel
theorem dX4_hill_99 : decode cX4_hill 99 = .ok (.invokestatic 64, 3) := by decide +kernel
theorem dX4_hill_102 : decode cX4_hill 102 = .ok (.invokestatic 147, 3) := by decide +kernel
theorem dX4_hill_105 : decode cX4_hill 105 = .ok (.istore 7, 2) := by decide +kernel
theorem dX4_hill_107 : decode cX4_hill 107 = .ok (.iload_n 2, 1) := by decide +kernel
theorem dX4_hill_108 : decode cX4_hill 108 = .ok (.ifCond .ne 13, 3) := by decide +kernel
theorem dX4_hill_111 : decode cX4_hill 111 = .ok (.iload 7, 2) := by decide +kernel
theorem dX4_hill_113 : decode cX4_hill 113 = .ok (.iload 4, 2) := by decide +kernel
theorem dX4_hill_115 : decode cX4_hill 115 = .ok (.if_icmp .gt 16, 3) := by decide +kernel
theorem dX4_hill_118 : decode cX4_hill 118 = .ok (.goto 21, 3) := by decide +kernel
theorem dX4_hill_121 : decode cX4_hill 121 = .ok (.iload 7, 2) := by decide +kernel
theorem dX4_hill_123 : decode cX4_hill 123 = .ok (.iload 4, 2) := by decide +kernel
theorem dX4_hill_125 : decode cX4_hill 125 = .ok (.if_icmp .lt 6, 3) := by decide +kernel
theorem dX4_hill_128 : decode cX4_hill 128 = .ok (.goto 11, 3) := by decide +kernel
theorem dX4_hill_131 : decode cX4_hill 131 = .ok (.iload 6, 2) := by decide +kernel
theorem dX4_hill_133 : decode cX4_hill 133 = .ok (.istore 5, 2) := by decide +kernel
theorem dX4_hill_135 : decode cX4_hill 135 = .ok (.iload 7, 2) := by decide +kernel
theorem dX4_hill_137 : decode cX4_hill 137 = .ok (.istore 4, 2) := by decide +kernel
theorem dX4_hill_139 : decode cX4_hill 139 = .ok (.iinc 6 1, 3) := by decide +kernel
theorem dX4_hill_142 : decode cX4_hill 142 = .ok (.goto (-85), 3) := by decide +kernel
theorem dX4_hill_145 : decode cX4_hill 145 = .ok (.iload 5, 2) := by decide +kernel
theorem dX4_hill_147 : decode cX4_hill 147 = .ok (.ireturn, 1) := by decide +kernel
set_option maxRecDepth 20000 in
theorem ggX4_hide_X4_isVerdict : GoodIn wsX4_hide wsX4_isVerdict := goodIn_r _ [6, 7, 8, 5, 9] (by decide +kernel) (by decide +kernel)
set_option maxRecDepth 20000 in
theorem gX4_hide_X4_isVerdict : GoodIn wsX4_hide (va_wsS RX4 105 yX4_isVerdict wsX4_isVerdict) := goodIn_app (goodIn_of _ (by decide +kernel)) ggX4_hide_X4_isVerdict
set_option maxRecDepth 20000 in
theorem ggX4_hide_X4_no : GoodIn wsX4_hide wsX4_no := goodIn_r _ [13, 14, 48, 49, 50, 51, 52, 53, 54, 55, 56, 57, 58, 59, 60] (by decide +kernel) (by decide +kernel)
set_option maxRecDepth 20000 in
theorem gX4_hide_X4_no : GoodIn wsX4_hide (wsV RX4 36 RX4 yX4_no wsX4_no) := goodIn_app (goodIn_of _ (by decide +kernel)) ggX4_hide_X4_no
set_option maxRecDepth 20000 in
theorem ggX4_hide_X4_bits : GoodIn wsX4_hide wsX4_bits := goodIn_r _ [17] (by decide +kernel) (by decide +kernel)
set_option maxRecDepth 20000 in
theorem gX4_hide_X4_bits : GoodIn wsX4_hide (va_wsS RX4 147 yX4_bits wsX4_bits) := goodIn_app (goodIn_of _ (by decide +kernel)) ggX4_hide_X4_bits
set_option maxRecDepth 20000 in
theorem ggX4_hide_X4_copies : GoodIn wsX4_hide wsX4_copies := goodIn_r _ [20] (by decide +kernel) (by decide +kernel)
set_option maxRecDepth 20000 in
theorem gX4_hide_X4_copies : GoodIn wsX4_hide (va_wsS RX4 118 yX4_copies wsX4_copies) := goodIn_app (goodIn_of _ (by decide +kernel)) ggX4_hide_X4_copies
set_option maxRecDepth 20000 in
theorem ggX4_hide_X4_branchesIn : GoodIn wsX4_hide wsX4_branchesIn := goodIn_r _ [23, 24, 25, 5, 26, 27, 28, 29, 30, 31, 32, 33, 34, 35, 36, 37, 38, 39, 40, 41, 42, 43, 44, 45, 46, 47] (by decide +kernel) (by decide +kernel)
set_option maxRecDepth 20000 in
theorem gX4_hide_X4_branchesIn : GoodIn wsX4_hide (va_wsS RX4 144 yX4_branchesIn wsX4_branchesIn) := goodIn_app (goodIn_of _ (by decide +kernel)) ggX4_hide_X4_branchesIn
theorem dX4_hide_0 : decode cX4_hide 0 = .ok (.iload_n 1, 1) := by decide +kernel
theorem dX4_hide_1 : decode cX4_hide 1 = .ok (.invokestatic 105, 3) := by decide +kernel
theorem dX4_hide_4 : decode cX4_hide 4 = .ok (.ifCond .ne 10, 3) := by decide +kernel
theorem dX4_hide_7 : decode cX4_hide 7 = .ok (.aload_n 0, 1) := by decide +kernel
theorem dX4_hide_8 : decode cX4_hide 8 = .ok (.bipush (-2), 2) := by decide +kernel
theorem dX4_hide_10 : decode cX4_hide 10 = .ok (.invokevirtual 36, 3) := by decide +kernel
theorem dX4_hide_13 : decode cX4_hide 13 = .ok (.ireturn, 1) := by decide +kernel
theorem dX4_hide_14 : decode cX4_hide 14 = .ok (.bipush (-9), 2) := by decide +kernel
theorem dX4_hide_16 : decode cX4_hide 16 = .ok (.istore_n 2, 1) := by decide +kernel
theorem dX4_hide_17 : decode cX4_hide 17 = .ok (.iconst 0, 1) := by decide +kernel
theorem dX4_hide_18 : decode cX4_hide 18 = .ok (.istore_n 3, 1) := by decide +kernel
theorem dX4_hide_19 : decode cX4_hide 19 = .ok (.iload_n 3, 1) := by decide +kernel
theorem dX4_hide_20 : decode cX4_hide 20 = .ok (.iconst 1, 1) := by decide +kernel
theorem dX4_hide_21 : decode cX4_hide 21 = .ok (.aload_n 0, 1) := by decide +kernel
theorem dX4_hide_22 : decode cX4_hide 22 = .ok (.getfield 9, 3) := by decide +kernel
theorem dX4_hide_25 : decode cX4_hide 25 = .ok (.iconst 0, 1) := by decide +kernel
theorem dX4_hide_26 : decode cX4_hide 26 = .ok (.iaload, 1) := by decide +kernel
theorem dX4_hide_27 : decode cX4_hide 27 = .ok (.ishl, 1) := by decide +kernel
theorem dX4_hide_28 : decode cX4_hide 28 = .ok (.if_icmp .ge 66, 3) := by decide +kernel
theorem dX4_hide_31 : decode cX4_hide 31 = .ok (.iload_n 2, 1) := by decide +kernel
theorem dX4_hide_32 : decode cX4_hide 32 = .ok (.ifCond .lt 17, 3) := by decide +kernel
theorem dX4_hide_35 : decode cX4_hide 35 = .ok (.iload_n 3, 1) := by decide +kernel
theorem dX4_hide_36 : decode cX4_hide 36 = .ok (.invokestatic 147, 3) := by decide +kernel
theorem dX4_hide_39 : decode cX4_hide 39 = .ok (.iload_n 2, 1) := by decide +kernel
theorem dX4_hide_40 : decode cX4_hide 40 = .ok (.invokestatic 147, 3) := by decide +kernel
theorem dX4_hide_43 : decode cX4_hide 43 = .ok (.if_icmp .lt 6, 3) := by decide +kernel
theorem dX4_hide_46 : decode cX4_hide 46 = .ok (.goto 42, 3) := by decide +kernel
theorem dX4_hide_49 : decode cX4_hide 49 = .ok (.aload_n 0, 1) := by decide +kernel
theorem dX4_hide_50 : decode cX4_hide 50 = .ok (.getfield 9, 3) := by decide +kernel
theorem dX4_hide_53 : decode cX4_hide 53 = .ok (.aload_n 0, 1) := by decide +kernel
theorem dX4_hide_54 : decode cX4_hide 54 = .ok (.getfield 13, 3) := by decide +kernel
theorem dX4_hide_57 : decode cX4_hide 57 = .ok (.invokestatic 118, 3) := by decide +kernel
theorem dX4_hide_60 : decode cX4_hide 60 = .ok (.aload_n 0, 1) := by decide +kernel
theorem dX4_hide_61 : decode cX4_hide 61 = .ok (.getfield 13, 3) := by decide +kernel
theorem dX4_hide_64 : decode cX4_hide 64 = .ok (.iconst 3, 1) := by decide +kernel
theorem dX4_hide_65 : decode cX4_hide 65 = .ok (.dup2, 1) := by decide +kernel
theorem dX4_hide_66 : decode cX4_hide 66 = .ok (.iaload, 1) := by decide +kernel
theorem dX4_hide_67 : decode cX4_hide 67 = .ok (.iload_n 3, 1) := by decide +kernel
theorem dX4_hide_68 : decode cX4_hide 68 = .ok (.ior, 1) := by decide +kernel
theorem dX4_hide_69 : decode cX4_hide 69 = .ok (.iastore, 1) := by decide +kernel
theorem dX4_hide_70 : decode cX4_hide 70 = .ok (.aload_n 0, 1) := by decide +kernel
theorem dX4_hide_71 : decode cX4_hide 71 = .ok (.getfield 13, 3) := by decide +kernel
theorem dX4_hide_74 : decode cX4_hide 74 = .ok (.iload_n 1, 1) := by decide +kernel
theorem dX4_hide_75 : decode cX4_hide 75 = .ok (.invokestatic 144, 3) := by decide +kernel
theorem dX4_hide_78 : decode cX4_hide 78 = .ok (.invokestatic 147, 3) := by decide +kernel
theorem dX4_hide_81 : decode cX4_hide 81 = .ok (.bipush 10, 2) := by decide +kernel
theorem dX4_hide_83 : decode cX4_hide 83 = .ok (.if_icmp .ne 5, 3) := by decide +kernel
theorem dX4_hide_86 : decode cX4_hide 86 = .ok (.iload_n 3, 1) := by decide +kernel
theorem dX4_hide_87 : decode cX4_hide 87 = .ok (.istore_n 2, 1) := by decide +kernel
theorem dX4_hide_88 : decode cX4_hide 88 = .ok (.iinc 3 1, 3) := by decide +kernel
theorem dX4_hide_91 : decode cX4_hide 91 = .ok (.goto (-72), 3) := by decide +kernel
theorem dX4_hide_94 : decode cX4_hide 94 = .ok (.iload_n 2, 1) := by decide +kernel
theorem dX4_hide_95 : decode cX4_hide 95 = .ok (.ireturn, 1) := by decide +kernel
set_option maxRecDepth 20000 in
theorem ggX4_eyesBest_X4_isBranch : GoodIn wsX4_eyesBest wsX4_isBranch := goodIn_r _ [6, 7, 8, 5, 9] (by decide +kernel) (by decide +kernel)
set_option maxRecDepth 20000 in
theorem gX4_eyesBest_X4_isBranch : GoodIn wsX4_eyesBest (va_wsS RX4 131 yX4_isBranch wsX4_isBranch) := goodIn_app (goodIn_of _ (by decide +kernel)) ggX4_eyesBest_X4_isBranch
set_option maxRecDepth 20000 in
theorem ggX4_eyesBest_X4_isVerdict : GoodIn wsX4_eyesBest wsX4_isVerdict := goodIn_r _ [12, 7, 8, 5, 9] (by decide +kernel) (by decide +kernel)
set_option maxRecDepth 20000 in
theorem gX4_eyesBest_X4_isVerdict : GoodIn wsX4_eyesBest (va_wsS RX4 105 yX4_isVerdict wsX4_isVerdict) := goodIn_app (goodIn_of _ (by decide +kernel)) ggX4_eyesBest_X4_isVerdict
set_option maxRecDepth 20000 in
theorem ggX4_eyesBest_X4_isIn : GoodIn wsX4_eyesBest wsX4_isIn := goodIn_r _ [9] (by decide +kernel) (by decide +kernel)
set_option maxRecDepth 20000 in
theorem gX4_eyesBest_X4_isIn : GoodIn wsX4_eyesBest (va_wsS RX4 40 yX4_isIn wsX4_isIn) := goodIn_app (goodIn_of _ (by decide +kernel)) ggX4_eyesBest_X4_isIn
set_option maxRecDepth 20000 in
theorem ggX4_eyesBest_X4_no : GoodIn wsX4_eyesBest wsX4_no := goodIn_r _ [16, 17, 45, 46, 47, 48, 49, 50, 51, 52, 53, 54, 55, 56, 57] (by decide +kernel) (by decide +kernel)
set_option maxRecDepth 20000 in
theorem gX4_eyesBest_X4_no : GoodIn wsX4_eyesBest (wsV RX4 36 RX4 yX4_no wsX4_no) := goodIn_app (goodIn_of _ (by decide +kernel)) ggX4_eyesBest_X4_no
set_option maxRecDepth 20000 in
theorem ggX4_eyesBest_X4_copies : GoodIn wsX4_eyesBest wsX4_copies := goodIn_r _ [20] (by decide +kernel) (by decide +kernel)
set_option maxRecDepth 20000 in
theorem gX4_eyesBest_X4_copies : GoodIn wsX4_eyesBest (va_wsS RX4 118 yX4_copies wsX4_copies) := goodIn_app (goodIn_of _ (by decide +kernel)) ggX4_eyesBest_X4_copies
set_option maxRecDepth 20000 in
theorem ggX4_eyesBest_X4_verdictIn : GoodIn wsX4_eyesBest wsX4_verdictIn := goodIn_r _ [23, 24, 25, 5, 26, 27, 28, 29, 30, 31, 32, 33, 34, 35, 36, 37, 38, 39, 40, 41, 42, 43, 44] (by decide +kernel) (by decide +kernel)
set_option maxRecDepth 20000 in
theorem gX4_eyesBest_X4_verdictIn : GoodIn wsX4_eyesBest (va_wsS RX4 70 yX4_verdictIn wsX4_verdictIn) := goodIn_app (goodIn_of _ (by decide +kernel)) ggX4_eyesBest_X4_verdictIn
theorem dX4_eyesBest_0 : decode cX4_eyesBest 0 = .ok (.iload_n 1, 1) := by decide +kernel
theorem dX4_eyesBest_1 : decode cX4_eyesBest 1 = .ok (.invokestatic 131, 3) := by decide +kernel
theorem dX4_eyesBest_4 : decode cX4_eyesBest 4 = .ok (.ifCond .ne 7, 3) := by decide +kernel
theorem dX4_eyesBest_7 : decode cX4_eyesBest 7 = .ok (.iconst (-1), 1) := by decide +kernel
theorem dX4_eyesBest_8 : decode cX4_eyesBest 8 = .ok (.goto 25, 3) := by decide +kernel
theorem dX4_eyesBest_11 : decode cX4_eyesBest 11 = .ok (.iload_n 2, 1) := by decide +kernel
theorem dX4_eyesBest_12 : decode cX4_eyesBest 12 = .ok (.invokestatic 105, 3) := by decide +kernel
theorem dX4_eyesBest_15 : decode cX4_eyesBest 15 = .ok (.ifCond .eq 16, 3) := by decide +kernel
theorem dX4_eyesBest_18 : decode cX4_eyesBest 18 = .ok (.iload_n 3, 1) := by decide +kernel
theorem dX4_eyesBest_19 : decode cX4_eyesBest 19 = .ok (.iconst 0, 1) := by decide +kernel
theorem dX4_eyesBest_20 : decode cX4_eyesBest 20 = .ok (.iconst 1, 1) := by decide +kernel
theorem dX4_eyesBest_21 : decode cX4_eyesBest 21 = .ok (.invokestatic 40, 3) := by decide +kernel
theorem dX4_eyesBest_24 : decode cX4_eyesBest 24 = .ok (.ifCond .eq 7, 3) := by decide +kernel
theorem dX4_eyesBest_27 : decode cX4_eyesBest 27 = .ok (.iconst 0, 1) := by decide +kernel
theorem dX4_eyesBest_28 : decode cX4_eyesBest 28 = .ok (.goto 5, 3) := by decide +kernel
theorem dX4_eyesBest_31 : decode cX4_eyesBest 31 = .ok (.bipush (-2), 2) := by decide +kernel
theorem dX4_eyesBest_33 : decode cX4_eyesBest 33 = .ok (.istore 4, 2) := by decide +kernel
theorem dX4_eyesBest_35 : decode cX4_eyesBest 35 = .ok (.iload 4, 2) := by decide +kernel
theorem dX4_eyesBest_37 : decode cX4_eyesBest 37 = .ok (.ifCond .eq 10, 3) := by decide +kernel
theorem dX4_eyesBest_40 : decode cX4_eyesBest 40 = .ok (.aload_n 0, 1) := by decide +kernel
theorem dX4_eyesBest_41 : decode cX4_eyesBest 41 = .ok (.iload 4, 2) := by decide +kernel
theorem dX4_eyesBest_43 : decode cX4_eyesBest 43 = .ok (.invokevirtual 36, 3) := by decide +kernel
theorem dX4_eyesBest_46 : decode cX4_eyesBest 46 = .ok (.ireturn, 1) := by decide +kernel
theorem dX4_eyesBest_47 : decode cX4_eyesBest 47 = .ok (.bipush (-9), 2) := by decide +kernel
theorem dX4_eyesBest_49 : decode cX4_eyesBest 49 = .ok (.istore 5, 2) := by decide +kernel
theorem dX4_eyesBest_51 : decode cX4_eyesBest 51 = .ok (.iconst 0, 1) := by decide +kernel
theorem dX4_eyesBest_52 : decode cX4_eyesBest 52 = .ok (.istore 6, 2) := by decide +kernel
theorem dX4_eyesBest_54 : decode cX4_eyesBest 54 = .ok (.iload 6, 2) := by decide +kernel
theorem dX4_eyesBest_56 : decode cX4_eyesBest 56 = .ok (.bipush 16, 2) := by decide +kernel
theorem dX4_eyesBest_58 : decode cX4_eyesBest 58 = .ok (.if_icmp .gt 54, 3) := by decide +kernel
theorem dX4_eyesBest_61 : decode cX4_eyesBest 61 = .ok (.aload_n 0, 1) := by decide +kernel
theorem dX4_eyesBest_62 : decode cX4_eyesBest 62 = .ok (.getfield 9, 3) := by decide +kernel
theorem dX4_eyesBest_65 : decode cX4_eyesBest 65 = .ok (.aload_n 0, 1) := by decide +kernel
theorem dX4_eyesBest_66 : decode cX4_eyesBest 66 = .ok (.getfield 13, 3) := by decide +kernel
theorem dX4_eyesBest_69 : decode cX4_eyesBest 69 = .ok (.invokestatic 118, 3) := by decide +kernel
theorem dX4_eyesBest_72 : decode cX4_eyesBest 72 = .ok (.aload_n 0, 1) := by decide +kernel
theorem dX4_eyesBest_73 : decode cX4_eyesBest 73 = .ok (.getfield 13, 3) := by decide +kernel
theorem dX4_eyesBest_76 : decode cX4_eyesBest 76 = .ok (.iconst 2, 1) := by decide +kernel
theorem dX4_eyesBest_77 : decode cX4_eyesBest 77 = .ok (.iload 6, 2) := by decide +kernel
theorem dX4_eyesBest_79 : decode cX4_eyesBest 79 = .ok (.iastore, 1) := by decide +kernel
theorem dX4_eyesBest_80 : decode cX4_eyesBest 80 = .ok (.aload_n 0, 1) := by decide +kernel
theorem dX4_eyesBest_81 : decode cX4_eyesBest 81 = .ok (.getfield 13, 3) := by decide +kernel
theorem dX4_eyesBest_84 : decode cX4_eyesBest 84 = .ok (.iload_n 1, 1) := by decide +kernel
theorem dX4_eyesBest_85 : decode cX4_eyesBest 85 = .ok (.invokestatic 70, 3) := by decide +kernel
theorem dX4_eyesBest_88 : decode cX4_eyesBest 88 = .ok (.iload_n 2, 1) := by decide +kernel
theorem dX4_eyesBest_89 : decode cX4_eyesBest 89 = .ok (.if_icmp .ne 17, 3) := by decide +kernel
theorem dX4_eyesBest_92 : decode cX4_eyesBest 92 = .ok (.iload 5, 2) := by decide +kernel
theorem dX4_eyesBest_94 : decode cX4_eyesBest 94 = .ok (.ifCond .lt 8, 3) := by decide +kernel
theorem dX4_eyesBest_97 : decode cX4_eyesBest 97 = .ok (.iload_n 3, 1) := by decide +kernel
theorem dX4_eyesBest_98 : decode cX4_eyesBest 98 = .ok (.iconst 1, 1) := by decide +kernel
theorem dX4_eyesBest_99 : decode cX4_eyesBest 99 = .ok (.if_icmp .ne 7, 3) := by decide +kernel
theorem dX4_eyesBest_102 : decode cX4_eyesBest 102 = .ok (.iload 6, 2) := by decide +kernel
theorem dX4_eyesBest_104 : decode cX4_eyesBest 104 = .ok (.istore 5, 2) := by decide +kernel
theorem dX4_eyesBest_106 : decode cX4_eyesBest 106 = .ok (.iinc 6 1, 3) := by decide +kernel
theorem dX4_eyesBest_109 : decode cX4_eyesBest 109 = .ok (.goto (-55), 3) := by decide +kernel
theorem dX4_eyesBest_112 : decode cX4_eyesBest 112 = .ok (.iload 5, 2) := by decide +kernel
theorem dX4_eyesBest_114 : decode cX4_eyesBest 114 = .ok (.ireturn, 1) := by decide +kernel
set_option maxRecDepth 20000 in
theorem ggX4_ranked_X4_isVerdict : GoodIn wsX4_ranked wsX4_isVerdict := goodIn_r _ [6, 7, 8, 5, 9] (by decide +kernel) (by decide +kernel)
set_option maxRecDepth 20000 in
theorem gX4_ranked_X4_isVerdict : GoodIn wsX4_ranked (va_wsS RX4 105 yX4_isVerdict wsX4_isVerdict) := goodIn_app (goodIn_of _ (by decide +kernel)) ggX4_ranked_X4_isVerdict
set_option maxRecDepth 20000 in
theorem ggX4_ranked_X4_isIn : GoodIn wsX4_ranked wsX4_isIn := goodIn_r _ [9] (by decide +kernel) (by decide +kernel)
set_option maxRecDepth 20000 in
theorem gX4_ranked_X4_isIn : GoodIn wsX4_ranked (va_wsS RX4 40 yX4_isIn wsX4_isIn) := goodIn_app (goodIn_of _ (by decide +kernel)) ggX4_ranked_X4_isIn
set_option maxRecDepth 20000 in
theorem ggX4_ranked_X4_no : GoodIn wsX4_ranked wsX4_no := goodIn_r _ [13, 14, 48, 49, 50, 51, 52, 53, 54, 55, 56, 57, 58, 59, 60] (by decide +kernel) (by decide +kernel)
set_option maxRecDepth 20000 in
theorem gX4_ranked_X4_no : GoodIn wsX4_ranked (wsV RX4 36 RX4 yX4_no wsX4_no) := goodIn_app (goodIn_of _ (by decide +kernel)) ggX4_ranked_X4_no
set_option maxRecDepth 20000 in
theorem ggX4_ranked_X4_copies : GoodIn wsX4_ranked wsX4_copies := goodIn_r _ [17] (by decide +kernel) (by decide +kernel)
set_option maxRecDepth 20000 in
theorem gX4_ranked_X4_copies : GoodIn wsX4_ranked (va_wsS RX4 118 yX4_copies wsX4_copies) := goodIn_app (goodIn_of _ (by decide +kernel)) ggX4_ranked_X4_copies
set_option maxRecDepth 20000 in
theorem ggX4_ranked_X4_branchesIn : GoodIn wsX4_ranked wsX4_branchesIn := goodIn_r _ [20, 21, 22, 5, 23, 24, 25, 26, 27, 28, 29, 30, 31, 32, 33, 34, 35, 36, 37, 38, 39, 40, 41, 42, 43, 44] (by decide +kernel) (by decide +kernel)
set_option maxRecDepth 20000 in
theorem gX4_ranked_X4_branchesIn : GoodIn wsX4_ranked (va_wsS RX4 144 yX4_branchesIn wsX4_branchesIn) := goodIn_app (goodIn_of _ (by decide +kernel)) ggX4_ranked_X4_branchesIn
set_option maxRecDepth 20000 in
theorem ggX4_ranked_X4_bits : GoodIn wsX4_ranked wsX4_bits := goodIn_r _ [47] (by decide +kernel) (by decide +kernel)
set_option maxRecDepth 20000 in
theorem gX4_ranked_X4_bits : GoodIn wsX4_ranked (va_wsS RX4 147 yX4_bits wsX4_bits) := goodIn_app (goodIn_of _ (by decide +kernel)) ggX4_ranked_X4_bits
theorem dX4_ranked_0 : decode cX4_ranked 0 = .ok (.iload_n 1, 1) := by decide +kernel
theorem dX4_ranked_1 : decode cX4_ranked 1 = .ok (.invokestatic 105, 3) := by decide +kernel
theorem dX4_ranked_4 : decode cX4_ranked 4 = .ok (.ifCond .eq 12, 3) := by decide +kernel
theorem dX4_ranked_7 : decode cX4_ranked 7 = .ok (.iload_n 2, 1) := by decide +kernel
theorem dX4_ranked_8 : decode cX4_ranked 8 = .ok (.iconst 0, 1) := by decide +kernel
theorem dX4_ranked_9 : decode cX4_ranked 9 = .ok (.iconst 1, 1) := by decide +kernel
theorem dX4_ranked_10 : decode cX4_ranked 10 = .ok (.invokestatic 40, 3) := by decide +kernel
theorem dX4_ranked_13 : decode cX4_ranked 13 = .ok (.ifCond .ne 10, 3) := by decide +kernel
theorem dX4_ranked_16 : decode cX4_ranked 16 = .ok (.aload_n 0, 1) := by decide +kernel
theorem dX4_ranked_17 : decode cX4_ranked 17 = .ok (.bipush (-2), 2) := by decide +kernel
theorem dX4_ranked_19 : decode cX4_ranked 19 = .ok (.invokevirtual 36, 3) := by decide +kernel
theorem dX4_ranked_22 : decode cX4_ranked 22 = .ok (.ireturn, 1) := by decide +kernel
theorem dX4_ranked_23 : decode cX4_ranked 23 = .ok (.iconst 0, 1) := by decide +kernel
theorem dX4_ranked_24 : decode cX4_ranked 24 = .ok (.istore_n 3, 1) := by decide +kernel
theorem dX4_ranked_25 : decode cX4_ranked 25 = .ok (.iconst (-1), 1) := by decide +kernel
theorem dX4_ranked_26 : decode cX4_ranked 26 = .ok (.istore 4, 2) := by decide +kernel
theorem dX4_ranked_28 : decode cX4_ranked 28 = .ok (.iconst 0, 1) := by decide +kernel
theorem dX4_ranked_29 : decode cX4_ranked 29 = .ok (.istore 5, 2) := by decide +kernel
theorem dX4_ranked_31 : decode cX4_ranked 31 = .ok (.iload 5, 2) := by decide +kernel
theorem dX4_ranked_33 : decode cX4_ranked 33 = .ok (.bipush 6, 2) := by decide +kernel
theorem dX4_ranked_35 : decode cX4_ranked 35 = .ok (.if_icmp .ge 62, 3) := by decide +kernel
theorem dX4_ranked_38 : decode cX4_ranked 38 = .ok (.aload_n 0, 1) := by decide +kernel
theorem dX4_ranked_39 : decode cX4_ranked 39 = .ok (.getfield 9, 3) := by decide +kernel
theorem dX4_ranked_42 : decode cX4_ranked 42 = .ok (.aload_n 0, 1) := by decide +kernel
theorem dX4_ranked_43 : decode cX4_ranked 43 = .ok (.getfield 13, 3) := by decide +kernel
theorem dX4_ranked_46 : decode cX4_ranked 46 = .ok (.invokestatic 118, 3) := by decide +kernel
theorem dX4_ranked_49 : decode cX4_ranked 49 = .ok (.aload_n 0, 1) := by decide +kernel
theorem dX4_ranked_50 : decode cX4_ranked 50 = .ok (.getfield 13, 3) := by decide +kernel
theorem dX4_ranked_53 : decode cX4_ranked 53 = .ok (.bipush 26, 2) := by decide +kernel
theorem dX4_ranked_55 : decode cX4_ranked 55 = .ok (.iload 5, 2) := by decide +kernel
theorem dX4_ranked_57 : decode cX4_ranked 57 = .ok (.iadd, 1) := by decide +kernel
theorem dX4_ranked_58 : decode cX4_ranked 58 = .ok (.bipush 10, 2) := by decide +kernel
theorem dX4_ranked_60 : decode cX4_ranked 60 = .ok (.iastore, 1) := by decide +kernel
theorem dX4_ranked_61 : decode cX4_ranked 61 = .ok (.aload_n 0, 1) := by decide +kernel
theorem dX4_ranked_62 : decode cX4_ranked 62 = .ok (.getfield 13, 3) := by decide +kernel
theorem dX4_ranked_65 : decode cX4_ranked 65 = .ok (.iload_n 1, 1) := by decide +kernel
theorem dX4_ranked_66 : decode cX4_ranked 66 = .ok (.invokestatic 144, 3) := by decide +kernel
theorem dX4_ranked_69 : decode cX4_ranked 69 = .ok (.invokestatic 147, 3) := by decide +kernel
theorem dX4_ranked_72 : decode cX4_ranked 72 = .ok (.istore 6, 2) := by decide +kernel
theorem dX4_ranked_74 : decode cX4_ranked 74 = .ok (.iload 6, 2) := by decide +kernel
theorem dX4_ranked_76 : decode cX4_ranked 76 = .ok (.iload 4, 2) := by decide +kernel
theorem dX4_ranked_78 : decode cX4_ranked 78 = .ok (.if_icmp .gt 6, 3) := by decide +kernel
theorem dX4_ranked_81 : decode cX4_ranked 81 = .ok (.goto 10, 3) := by decide +kernel
theorem dX4_ranked_84 : decode cX4_ranked 84 = .ok (.iload 5, 2) := by decide +kernel
theorem dX4_ranked_86 : decode cX4_ranked 86 = .ok (.istore_n 3, 1) := by decide +kernel
theorem dX4_ranked_87 : decode cX4_ranked 87 = .ok (.iload 6, 2) := by decide +kernel
theorem dX4_ranked_89 : decode cX4_ranked 89 = .ok (.istore 4, 2) := by decide +kernel
theorem dX4_ranked_91 : decode cX4_ranked 91 = .ok (.iinc 5 1, 3) := by decide +kernel
theorem dX4_ranked_94 : decode cX4_ranked 94 = .ok (.goto (-63), 3) := by decide +kernel
theorem dX4_ranked_97 : decode cX4_ranked 97 = .ok (.iload_n 2, 1) := by decide +kernel
theorem dX4_ranked_98 : decode cX4_ranked 98 = .ok (.ifCond .ne 7, 3) := by decide +kernel
theorem dX4_ranked_101 : decode cX4_ranked 101 = .ok (.iload_n 3, 1) := by decide +kernel
theorem dX4_ranked_102 : decode cX4_ranked 102 = .ok (.goto 5, 3) := by decide +kernel
theorem dX4_ranked_105 : decode cX4_ranked 105 = .ok (.iload 4, 2) := by decide +kernel
theorem dX4_ranked_107 : decode cX4_ranked 107 = .ok (.ireturn, 1) := by decide +kernel
set_option maxRecDepth 20000 in
theorem ggX4_runFrom_X4_verdictIn : GoodIn wsX4_runFrom wsX4_verdictIn := goodIn_r _ [5, 6, 7, 4, 8, 9, 10, 11, 12, 13, 14, 15, 16, 17, 18, 19, 20, 21, 22, 23, 24, 25, 26] (by decide +kernel) (by decide +kernel)
set_option maxRecDepth 20000 in
theorem gX4_runFrom_X4_verdictIn : GoodIn wsX4_runFrom (va_wsS RX4 70 yX4_verdictIn wsX4_verdictIn) := goodIn_app (goodIn_of _ (by decide +kernel)) ggX4_runFrom_X4_verdictIn
theorem dX4_runFrom_0 : decode cX4_runFrom 0 = .ok (.iload_n 1, 1) := by decide +kernel
theorem dX4_runFrom_1 : decode cX4_runFrom 1 = .ok (.istore_n 2, 1) := by decide +kernel
theorem dX4_runFrom_2 : decode cX4_runFrom 2 = .ok (.iload_n 2, 1) := by decide +kernel
theorem dX4_runFrom_3 : decode cX4_runFrom 3 = .ok (.bipush 10, 2) := by decide +kernel
theorem dX4_runFrom_5 : decode cX4_runFrom 5 = .ok (.if_icmp .ge 28, 3) := by decide +kernel
theorem dX4_runFrom_8 : decode cX4_runFrom 8 = .ok (.aload_n 0, 1) := by decide +kernel
theorem dX4_runFrom_9 : decode cX4_runFrom 9 = .ok (.getfield 9, 3) := by decide +kernel
theorem dX4_runFrom_12 : decode cX4_runFrom 12 = .ok (.iload_n 2, 1) := by decide +kernel
theorem dX4_runFrom_13 : decode cX4_runFrom 13 = .ok (.invokestatic 70, 3) := by decide +kernel
theorem dX4_runFrom_16 : decode cX4_runFrom 16 = .ok (.aload_n 0, 1) := by decide +kernel
theorem dX4_runFrom_17 : decode cX4_runFrom 17 = .ok (.getfield 9, 3) := by decide +kernel
theorem dX4_runFrom_20 : decode cX4_runFrom 20 = .ok (.iload_n 1, 1) := by decide +kernel
theorem dX4_runFrom_21 : decode cX4_runFrom 21 = .ok (.invokestatic 70, 3) := by decide +kernel
theorem dX4_runFrom_24 : decode cX4_runFrom 24 = .ok (.if_icmp .ne 9, 3) := by decide +kernel
theorem dX4_runFrom_27 : decode cX4_runFrom 27 = .ok (.iinc 2 1, 3) := by decide +kernel
theorem dX4_runFrom_30 : decode cX4_runFrom 30 = .ok (.goto (-28), 3) := by decide +kernel
theorem dX4_runFrom_33 : decode cX4_runFrom 33 = .ok (.iload_n 2, 1) := by decide +kernel
theorem dX4_runFrom_34 : decode cX4_runFrom 34 = .ok (.iload_n 1, 1) := by decide +kernel
theorem dX4_runFrom_35 : decode cX4_runFrom 35 = .ok (.isub, 1) := by decide +kernel
theorem dX4_runFrom_36 : decode cX4_runFrom 36 = .ok (.ireturn, 1) := by decide +kernel
set_option maxRecDepth 20000 in
theorem ggX4_highest_X4_top : GoodIn wsX4_highest wsX4_top := goodIn_r _ [5, 6, 7, 4, 8, 9, 10, 11] (by decide +kernel) (by decide +kernel)
set_option maxRecDepth 20000 in
theorem gX4_highest_X4_top : GoodIn wsX4_highest (va_wsS RX4 56 yX4_top wsX4_top) := goodIn_app (goodIn_of _ (by decide +kernel)) ggX4_highest_X4_top
theorem dX4_highest_0 : decode cX4_highest 0 = .ok (.bipush (-9), 2) := by decide +kernel
theorem dX4_highest_2 : decode cX4_highest 2 = .ok (.istore_n 1, 1) := by decide +kernel
theorem dX4_highest_3 : decode cX4_highest 3 = .ok (.iconst 0, 1) := by decide +kernel
theorem dX4_highest_4 : decode cX4_highest 4 = .ok (.istore_n 2, 1) := by decide +kernel
theorem dX4_highest_5 : decode cX4_highest 5 = .ok (.iload_n 2, 1) := by decide +kernel
theorem dX4_highest_6 : decode cX4_highest 6 = .ok (.aload_n 0, 1) := by decide +kernel
theorem dX4_highest_7 : decode cX4_highest 7 = .ok (.getfield 9, 3) := by decide +kernel
theorem dX4_highest_10 : decode cX4_highest 10 = .ok (.iconst 0, 1) := by decide +kernel
theorem dX4_highest_11 : decode cX4_highest 11 = .ok (.iaload, 1) := by decide +kernel
theorem dX4_highest_12 : decode cX4_highest 12 = .ok (.if_icmp .ge 34, 3) := by decide +kernel
theorem dX4_highest_15 : decode cX4_highest 15 = .ok (.iload_n 1, 1) := by decide +kernel
theorem dX4_highest_16 : decode cX4_highest 16 = .ok (.ifCond .lt 22, 3) := by decide +kernel
theorem dX4_highest_19 : decode cX4_highest 19 = .ok (.aload_n 0, 1) := by decide +kernel
theorem dX4_highest_20 : decode cX4_highest 20 = .ok (.getfield 9, 3) := by decide +kernel
theorem dX4_highest_23 : decode cX4_highest 23 = .ok (.iload_n 2, 1) := by decide +kernel
theorem dX4_highest_24 : decode cX4_highest 24 = .ok (.invokestatic 56, 3) := by decide +kernel
theorem dX4_highest_27 : decode cX4_highest 27 = .ok (.aload_n 0, 1) := by decide +kernel
theorem dX4_highest_28 : decode cX4_highest 28 = .ok (.getfield 9, 3) := by decide +kernel
theorem dX4_highest_31 : decode cX4_highest 31 = .ok (.iload_n 1, 1) := by decide +kernel
theorem dX4_highest_32 : decode cX4_highest 32 = .ok (.invokestatic 56, 3) := by decide +kernel
theorem dX4_highest_35 : decode cX4_highest 35 = .ok (.if_icmp .le 5, 3) := by decide +kernel
theorem dX4_highest_38 : decode cX4_highest 38 = .ok (.iload_n 2, 1) := by decide +kernel
theorem dX4_highest_39 : decode cX4_highest 39 = .ok (.istore_n 1, 1) := by decide +kernel
theorem dX4_highest_40 : decode cX4_highest 40 = .ok (.iinc 2 1, 3) := by decide +kernel
theorem dX4_highest_43 : decode cX4_highest 43 = .ok (.goto (-38), 3) := by decide +kernel
theorem dX4_highest_46 : decode cX4_highest 46 = .ok (.iload_n 1, 1) := by decide +kernel
theorem dX4_highest_47 : decode cX4_highest 47 = .ok (.ireturn, 1) := by decide +kernel
set_option maxRecDepth 20000 in
theorem ggX4_sameOnes_X4_of : GoodIn wsX4_sameOnes wsX4_of := goodIn_r _ [5] (by decide +kernel) (by decide +kernel)
set_option maxRecDepth 20000 in
theorem gX4_sameOnes_X4_of : GoodIn wsX4_sameOnes (va_wsS RX4 44 yX4_of wsX4_of) := goodIn_app (goodIn_of _ (by decide +kernel)) ggX4_sameOnes_X4_of
theorem dX4_sameOnes_0 : decode cX4_sameOnes 0 = .ok (.iconst 0, 1) := by decide +kernel
theorem dX4_sameOnes_1 : decode cX4_sameOnes 1 = .ok (.istore_n 1, 1) := by decide +kernel
theorem dX4_sameOnes_2 : decode cX4_sameOnes 2 = .ok (.iconst 0, 1) := by decide +kernel
theorem dX4_sameOnes_3 : decode cX4_sameOnes 3 = .ok (.istore_n 2, 1) := by decide +kernel
theorem dX4_sameOnes_4 : decode cX4_sameOnes 4 = .ok (.iload_n 2, 1) := by decide +kernel
theorem dX4_sameOnes_5 : decode cX4_sameOnes 5 = .ok (.aload_n 0, 1) := by decide +kernel
theorem dX4_sameOnes_6 : decode cX4_sameOnes 6 = .ok (.getfield 9, 3) := by decide +kernel
theorem dX4_sameOnes_9 : decode cX4_sameOnes 9 = .ok (.iconst 0, 1) := by decide +kernel
theorem dX4_sameOnes_10 : decode cX4_sameOnes 10 = .ok (.iaload, 1) := by decide +kernel
theorem dX4_sameOnes_11 : decode cX4_sameOnes 11 = .ok (.if_icmp .ge 60, 3) := by decide +kernel
theorem dX4_sameOnes_14 : decode cX4_sameOnes 14 = .ok (.iload_n 2, 1) := by decide +kernel
theorem dX4_sameOnes_15 : decode cX4_sameOnes 15 = .ok (.iconst 1, 1) := by decide +kernel
theorem dX4_sameOnes_16 : decode cX4_sameOnes 16 = .ok (.iadd, 1) := by decide +kernel
theorem dX4_sameOnes_17 : decode cX4_sameOnes 17 = .ok (.istore_n 3, 1) := by decide +kernel
theorem dX4_sameOnes_18 : decode cX4_sameOnes 18 = .ok (.iload_n 3, 1) := by decide +kernel
theorem dX4_sameOnes_19 : decode cX4_sameOnes 19 = .ok (.aload_n 0, 1) := by decide +kernel
theorem dX4_sameOnes_20 : decode cX4_sameOnes 20 = .ok (.getfield 9, 3) := by decide +kernel
theorem dX4_sameOnes_23 : decode cX4_sameOnes 23 = .ok (.iconst 0, 1) := by decide +kernel
theorem dX4_sameOnes_24 : decode cX4_sameOnes 24 = .ok (.iaload, 1) := by decide +kernel
theorem dX4_sameOnes_25 : decode cX4_sameOnes 25 = .ok (.if_icmp .ge 40, 3) := by decide +kernel
theorem dX4_sameOnes_28 : decode cX4_sameOnes 28 = .ok (.iload_n 1, 1) := by decide +kernel
theorem dX4_sameOnes_29 : decode cX4_sameOnes 29 = .ok (.aload_n 0, 1) := by decide +kernel
theorem dX4_sameOnes_30 : decode cX4_sameOnes 30 = .ok (.getfield 9, 3) := by decide +kernel
theorem dX4_sameOnes_33 : decode cX4_sameOnes 33 = .ok (.iload_n 2, 1) := by decide +kernel
theorem dX4_sameOnes_34 : decode cX4_sameOnes 34 = .ok (.iconst 2, 1) := by decide +kernel
theorem dX4_sameOnes_35 : decode cX4_sameOnes 35 = .ok (.invokestatic 44, 3) := by decide +kernel
theorem dX4_sameOnes_38 : decode cX4_sameOnes 38 = .ok (.iaload, 1) := by decide +kernel
theorem dX4_sameOnes_39 : decode cX4_sameOnes 39 = .ok (.aload_n 0, 1) := by decide +kernel
theorem dX4_sameOnes_40 : decode cX4_sameOnes 40 = .ok (.getfield 9, 3) := by decide +kernel
theorem dX4_sameOnes_43 : decode cX4_sameOnes 43 = .ok (.iload_n 3, 1) := by decide +kernel
theorem dX4_sameOnes_44 : decode cX4_sameOnes 44 = .ok (.iconst 2, 1) := by decide +kernel
theorem dX4_sameOnes_45 : decode cX4_sameOnes 45 = .ok (.invokestatic 44, 3) := by decide +kernel
theorem dX4_sameOnes_48 : decode cX4_sameOnes 48 = .ok (.iaload, 1) := by decide +kernel
theorem dX4_sameOnes_49 : decode cX4_sameOnes 49 = .ok (.if_icmp .ne 7, 3) := by decide +kernel
theorem dX4_sameOnes_52 : decode cX4_sameOnes 52 = .ok (.iconst 1, 1) := by decide +kernel
theorem dX4_sameOnes_53 : decode cX4_sameOnes 53 = .ok (.goto 4, 3) := by decide +kernel
theorem dX4_sameOnes_56 : decode cX4_sameOnes 56 = .ok (.iconst 0, 1) := by decide +kernel
theorem dX4_sameOnes_57 : decode cX4_sameOnes 57 = .ok (.iadd, 1) := by decide +kernel
theorem dX4_sameOnes_58 : decode cX4_sameOnes 58 = .ok (.istore_n 1, 1) := by decide +kernel
theorem dX4_sameOnes_59 : decode cX4_sameOnes 59 = .ok (.iinc 3 1, 3) := by decide +kernel
theorem dX4_sameOnes_62 : decode cX4_sameOnes 62 = .ok (.goto (-44), 3) := by decide +kernel
theorem dX4_sameOnes_65 : decode cX4_sameOnes 65 = .ok (.iinc 2 1, 3) := by decide +kernel
theorem dX4_sameOnes_68 : decode cX4_sameOnes 68 = .ok (.goto (-64), 3) := by decide +kernel
theorem dX4_sameOnes_71 : decode cX4_sameOnes 71 = .ok (.iload_n 1, 1) := by decide +kernel
theorem dX4_sameOnes_72 : decode cX4_sameOnes 72 = .ok (.ireturn, 1) := by decide +kernel
set_option maxRecDepth 20000 in
theorem ggX4_lostOnes_X4_seenIn : GoodIn wsX4_lostOnes wsX4_seenIn := goodIn_r _ [5, 6, 7, 4, 8, 9, 10, 11, 12, 13, 14, 15, 16, 17, 18, 19, 20] (by decide +kernel) (by decide +kernel)
set_option maxRecDepth 20000 in
theorem gX4_lostOnes_X4_seenIn : GoodIn wsX4_lostOnes (va_wsS RX4 64 yX4_seenIn wsX4_seenIn) := goodIn_app (goodIn_of _ (by decide +kernel)) ggX4_lostOnes_X4_seenIn
theorem dX4_lostOnes_0 : decode cX4_lostOnes 0 = .ok (.iconst 1, 1) := by decide +kernel
theorem dX4_lostOnes_1 : decode cX4_lostOnes 1 = .ok (.aload_n 0, 1) := by decide +kernel
theorem dX4_lostOnes_2 : decode cX4_lostOnes 2 = .ok (.getfield 9, 3) := by decide +kernel
theorem dX4_lostOnes_5 : decode cX4_lostOnes 5 = .ok (.iconst 0, 1) := by decide +kernel
theorem dX4_lostOnes_6 : decode cX4_lostOnes 6 = .ok (.iaload, 1) := by decide +kernel
theorem dX4_lostOnes_7 : decode cX4_lostOnes 7 = .ok (.ishl, 1) := by decide +kernel
theorem dX4_lostOnes_8 : decode cX4_lostOnes 8 = .ok (.iconst 1, 1) := by decide +kernel
theorem dX4_lostOnes_9 : decode cX4_lostOnes 9 = .ok (.isub, 1) := by decide +kernel
theorem dX4_lostOnes_10 : decode cX4_lostOnes 10 = .ok (.istore_n 1, 1) := by decide +kernel
theorem dX4_lostOnes_11 : decode cX4_lostOnes 11 = .ok (.iconst 0, 1) := by decide +kernel
theorem dX4_lostOnes_12 : decode cX4_lostOnes 12 = .ok (.istore_n 2, 1) := by decide +kernel
theorem dX4_lostOnes_13 : decode cX4_lostOnes 13 = .ok (.iload_n 2, 1) := by decide +kernel
theorem dX4_lostOnes_14 : decode cX4_lostOnes 14 = .ok (.bipush 10, 2) := by decide +kernel
theorem dX4_lostOnes_16 : decode cX4_lostOnes 16 = .ok (.if_icmp .ge 22, 3) := by decide +kernel
theorem dX4_lostOnes_19 : decode cX4_lostOnes 19 = .ok (.iload_n 1, 1) := by decide +kernel
theorem dX4_lostOnes_20 : decode cX4_lostOnes 20 = .ok (.aload_n 0, 1) := by decide +kernel
theorem dX4_lostOnes_21 : decode cX4_lostOnes 21 = .ok (.getfield 9, 3) := by decide +kernel
theorem dX4_lostOnes_24 : decode cX4_lostOnes 24 = .ok (.iload_n 2, 1) := by decide +kernel
theorem dX4_lostOnes_25 : decode cX4_lostOnes 25 = .ok (.invokestatic 64, 3) := by decide +kernel
theorem dX4_lostOnes_28 : decode cX4_lostOnes 28 = .ok (.iconst (-1), 1) := by decide +kernel
theorem dX4_lostOnes_29 : decode cX4_lostOnes 29 = .ok (.ixor, 1) := by decide +kernel
theorem dX4_lostOnes_30 : decode cX4_lostOnes 30 = .ok (.iand, 1) := by decide +kernel
theorem dX4_lostOnes_31 : decode cX4_lostOnes 31 = .ok (.istore_n 1, 1) := by decide +kernel
theorem dX4_lostOnes_32 : decode cX4_lostOnes 32 = .ok (.iinc 2 1, 3) := by decide +kernel
theorem dX4_lostOnes_35 : decode cX4_lostOnes 35 = .ok (.goto (-22), 3) := by decide +kernel
theorem dX4_lostOnes_38 : decode cX4_lostOnes 38 = .ok (.iload_n 1, 1) := by decide +kernel
theorem dX4_lostOnes_39 : decode cX4_lostOnes 39 = .ok (.ireturn, 1) := by decide +kernel
set_option maxRecDepth 20000 in
theorem ggX4_window_X4_isIn : GoodIn wsX4_window wsX4_isIn := goodIn_r _ [4] (by decide +kernel) (by decide +kernel)
set_option maxRecDepth 20000 in
theorem gX4_window_X4_isIn : GoodIn wsX4_window (va_wsS RX4 40 yX4_isIn wsX4_isIn) := goodIn_app (goodIn_of _ (by decide +kernel)) ggX4_window_X4_isIn
set_option maxRecDepth 20000 in
theorem ggX4_window_X4_no : GoodIn wsX4_window wsX4_no := goodIn_r _ [8, 9, 51, 52, 53, 54, 55, 56, 57, 58, 59, 60, 61, 62, 63] (by decide +kernel) (by decide +kernel)
set_option maxRecDepth 20000 in
theorem gX4_window_X4_no : GoodIn wsX4_window (wsV RX4 36 RX4 yX4_no wsX4_no) := goodIn_app (goodIn_of _ (by decide +kernel)) ggX4_window_X4_no
set_option maxRecDepth 20000 in
theorem ggX4_window_X4_runFrom : GoodIn wsX4_window wsX4_runFrom := goodIn_r _ [13, 14, 15, 16, 3, 17, 18, 19, 20, 21, 22, 23, 24, 25, 26, 27, 28, 29, 30, 31, 32, 33, 34, 35, 36, 37, 38, 51, 52, 53, 54, 55, 56, 57, 58, 59, 60, 61, 62, 63] (by decide +kernel) (by decide +kernel)
set_option maxRecDepth 20000 in
theorem gX4_window_X4_runFrom : GoodIn wsX4_window (wsV RX4 157 RX4 yX4_runFrom wsX4_runFrom) := goodIn_app (goodIn_of _ (by decide +kernel)) ggX4_window_X4_runFrom
set_option maxRecDepth 20000 in
theorem ggX4_window_X4_highest : GoodIn wsX4_window wsX4_highest := goodIn_r _ [42, 14, 30, 31, 3, 32, 27, 28, 29, 33, 34, 35, 51, 52, 53, 54, 55, 56, 57, 58, 59, 60, 61, 62, 63] (by decide +kernel) (by decide +kernel)
set_option maxRecDepth 20000 in
theorem gX4_window_X4_highest : GoodIn wsX4_window (wsV RX4 160 RX4 yX4_highest wsX4_highest) := goodIn_app (goodIn_of _ (by decide +kernel)) ggX4_window_X4_highest
set_option maxRecDepth 20000 in
theorem ggX4_window_X4_sameOnes : GoodIn wsX4_window wsX4_sameOnes := goodIn_r _ [46, 14, 27, 28, 3, 29, 51, 52, 53, 54, 55, 56, 57, 58, 59, 60, 61, 62, 63] (by decide +kernel) (by decide +kernel)
set_option maxRecDepth 20000 in
theorem gX4_window_X4_sameOnes : GoodIn wsX4_window (wsV RX4 163 RX4 yX4_sameOnes wsX4_sameOnes) := goodIn_app (goodIn_of _ (by decide +kernel)) ggX4_window_X4_sameOnes
set_option maxRecDepth 20000 in
theorem ggX4_window_X4_lostOnes : GoodIn wsX4_window wsX4_lostOnes := goodIn_r _ [50, 14, 21, 22, 3, 23, 24, 25, 26, 27, 28, 29, 30, 31, 32, 33, 34, 35, 36, 37, 38, 51, 52, 53, 54, 55, 56, 57, 58, 59, 60, 61, 62, 63] (by decide +kernel) (by decide +kernel)
set_option maxRecDepth 20000 in
theorem gX4_window_X4_lostOnes : GoodIn wsX4_window (wsV RX4 166 RX4 yX4_lostOnes wsX4_lostOnes) := goodIn_app (goodIn_of _ (by decide +kernel)) ggX4_window_X4_lostOnes
theorem dX4_window_0 : decode cX4_window 0 = .ok (.iload_n 1, 1) := by decide +kernel
theorem dX4_window_1 : decode cX4_window 1 = .ok (.iconst 0, 1) := by decide +kernel
theorem dX4_window_2 : decode cX4_window 2 = .ok (.iconst 4, 1) := by decide +kernel
theorem dX4_window_3 : decode cX4_window 3 = .ok (.invokestatic 40, 3) := by decide +kernel
theorem dX4_window_6 : decode cX4_window 6 = .ok (.ifCond .ne 10, 3) := by decide +kernel
theorem dX4_window_9 : decode cX4_window 9 = .ok (.aload_n 0, 1) := by decide +kernel
theorem dX4_window_10 : decode cX4_window 10 = .ok (.bipush (-2), 2) := by decide +kernel
theorem dX4_window_12 : decode cX4_window 12 = .ok (.invokevirtual 36, 3) := by decide +kernel
theorem dX4_window_15 : decode cX4_window 15 = .ok (.ireturn, 1) := by decide +kernel
theorem dX4_window_16 : decode cX4_window 16 = .ok (.iconst 0, 1) := by decide +kernel
theorem dX4_window_17 : decode cX4_window 17 = .ok (.istore_n 2, 1) := by decide +kernel
theorem dX4_window_18 : decode cX4_window 18 = .ok (.iconst 0, 1) := by decide +kernel
theorem dX4_window_19 : decode cX4_window 19 = .ok (.istore_n 3, 1) := by decide +kernel
theorem dX4_window_20 : decode cX4_window 20 = .ok (.iload_n 3, 1) := by decide +kernel
theorem dX4_window_21 : decode cX4_window 21 = .ok (.bipush 10, 2) := by decide +kernel
theorem dX4_window_23 : decode cX4_window 23 = .ok (.if_icmp .ge 24, 3) := by decide +kernel
theorem dX4_window_26 : decode cX4_window 26 = .ok (.aload_n 0, 1) := by decide +kernel
theorem dX4_window_27 : decode cX4_window 27 = .ok (.iload_n 3, 1) := by decide +kernel
theorem dX4_window_28 : decode cX4_window 28 = .ok (.invokevirtual 157, 3) := by decide +kernel
theorem dX4_window_31 : decode cX4_window 31 = .ok (.aload_n 0, 1) := by decide +kernel
theorem dX4_window_32 : decode cX4_window 32 = .ok (.iload_n 2, 1) := by decide +kernel
theorem dX4_window_33 : decode cX4_window 33 = .ok (.invokevirtual 157, 3) := by decide +kernel
theorem dX4_window_36 : decode cX4_window 36 = .ok (.if_icmp .le 5, 3) := by decide +kernel
theorem dX4_window_39 : decode cX4_window 39 = .ok (.iload_n 3, 1) := by decide +kernel
theorem dX4_window_40 : decode cX4_window 40 = .ok (.istore_n 2, 1) := by decide +kernel
theorem dX4_window_41 : decode cX4_window 41 = .ok (.iinc 3 1, 3) := by decide +kernel
theorem dX4_window_44 : decode cX4_window 44 = .ok (.goto (-24), 3) := by decide +kernel
theorem dX4_window_47 : decode cX4_window 47 = .ok (.iload_n 1, 1) := by decide +kernel
theorem dX4_window_48 : decode cX4_window 48 = .ok (.ifCond .ne 11, 3) := by decide +kernel
theorem dX4_window_51 : decode cX4_window 51 = .ok (.aload_n 0, 1) := by decide +kernel
theorem dX4_window_52 : decode cX4_window 52 = .ok (.iload_n 2, 1) := by decide +kernel
theorem dX4_window_53 : decode cX4_window 53 = .ok (.invokevirtual 157, 3) := by decide +kernel
theorem dX4_window_56 : decode cX4_window 56 = .ok (.goto 40, 3) := by decide +kernel
theorem dX4_window_59 : decode cX4_window 59 = .ok (.iload_n 1, 1) := by decide +kernel
theorem dX4_window_60 : decode cX4_window 60 = .ok (.iconst 1, 1) := by decide +kernel
theorem dX4_window_61 : decode cX4_window 61 = .ok (.if_icmp .ne 7, 3) := by decide +kernel
theorem dX4_window_64 : decode cX4_window 64 = .ok (.iload_n 2, 1) := by decide +kernel
theorem dX4_window_65 : decode cX4_window 65 = .ok (.goto 31, 3) := by decide +kernel
theorem dX4_window_68 : decode cX4_window 68 = .ok (.iload_n 1, 1) := by decide +kernel
theorem dX4_window_69 : decode cX4_window 69 = .ok (.iconst 2, 1) := by decide +kernel
theorem dX4_window_70 : decode cX4_window 70 = .ok (.if_icmp .ne 10, 3) := by decide +kernel
theorem dX4_window_73 : decode cX4_window 73 = .ok (.aload_n 0, 1) := by decide +kernel
theorem dX4_window_74 : decode cX4_window 74 = .ok (.invokevirtual 160, 3) := by decide +kernel
theorem dX4_window_77 : decode cX4_window 77 = .ok (.goto 19, 3) := by decide +kernel
theorem dX4_window_80 : decode cX4_window 80 = .ok (.iload_n 1, 1) := by decide +kernel
theorem dX4_window_81 : decode cX4_window 81 = .ok (.iconst 3, 1) := by decide +kernel
theorem dX4_window_82 : decode cX4_window 82 = .ok (.if_icmp .ne 10, 3) := by decide +kernel
theorem dX4_window_85 : decode cX4_window 85 = .ok (.aload_n 0, 1) := by decide +kernel
theorem dX4_window_86 : decode cX4_window 86 = .ok (.invokevirtual 163, 3) := by decide +kernel
theorem dX4_window_89 : decode cX4_window 89 = .ok (.goto 7, 3) := by decide +kernel
theorem dX4_window_92 : decode cX4_window 92 = .ok (.aload_n 0, 1) := by decide +kernel
theorem dX4_window_93 : decode cX4_window 93 = .ok (.invokevirtual 166, 3) := by decide +kernel
theorem dX4_window_96 : decode cX4_window 96 = .ok (.ireturn, 1) := by decide +kernel
set_option maxRecDepth 20000 in
theorem ggX4_leadBy_X4_copies : GoodIn wsX4_leadBy wsX4_copies := goodIn_r _ [6] (by decide +kernel) (by decide +kernel)
set_option maxRecDepth 20000 in
theorem gX4_leadBy_X4_copies : GoodIn wsX4_leadBy (va_wsS RX4 118 yX4_copies wsX4_copies) := goodIn_app (goodIn_of _ (by decide +kernel)) ggX4_leadBy_X4_copies
set_option maxRecDepth 20000 in
theorem ggX4_leadBy_X4_of : GoodIn wsX4_leadBy wsX4_of := goodIn_r _ [9] (by decide +kernel) (by decide +kernel)
set_option maxRecDepth 20000 in
theorem gX4_leadBy_X4_of : GoodIn wsX4_leadBy (va_wsS RX4 44 yX4_of wsX4_of) := goodIn_app (goodIn_of _ (by decide +kernel)) ggX4_leadBy_X4_of
set_option maxRecDepth 20000 in
theorem ggX4_leadBy_X4_hoursOn : GoodIn wsX4_leadBy wsX4_hoursOn := goodIn_r _ [12, 13, 14, 5, 15, 7, 8, 9, 16, 17, 18] (by decide +kernel) (by decide +kernel)
set_option maxRecDepth 20000 in
theorem gX4_leadBy_X4_hoursOn : GoodIn wsX4_leadBy (va_wsS RX4 111 yX4_hoursOn wsX4_hoursOn) := goodIn_app (goodIn_of _ (by decide +kernel)) ggX4_leadBy_X4_hoursOn
set_option maxRecDepth 20000 in
theorem ggX4_leadBy_X4_branchesIn : GoodIn wsX4_leadBy wsX4_branchesIn := goodIn_r _ [21, 22, 23, 5, 24, 25, 26, 27, 28, 29, 30, 31, 32, 33, 7, 8, 9, 34, 35, 36, 37, 38, 39, 40, 41, 42] (by decide +kernel) (by decide +kernel)
set_option maxRecDepth 20000 in
theorem gX4_leadBy_X4_branchesIn : GoodIn wsX4_leadBy (va_wsS RX4 144 yX4_branchesIn wsX4_branchesIn) := goodIn_app (goodIn_of _ (by decide +kernel)) ggX4_leadBy_X4_branchesIn
set_option maxRecDepth 20000 in
theorem ggX4_leadBy_X4_bits : GoodIn wsX4_leadBy wsX4_bits := goodIn_r _ [45] (by decide +kernel) (by decide +kernel)
set_option maxRecDepth 20000 in
theorem gX4_leadBy_X4_bits : GoodIn wsX4_leadBy (va_wsS RX4 147 yX4_bits wsX4_bits) := goodIn_app (goodIn_of _ (by decide +kernel)) ggX4_leadBy_X4_bits
theorem dX4_leadBy_0 : decode cX4_leadBy 0 = .ok (.aload_n 0, 1) := by decide +kernel
theorem dX4_leadBy_1 : decode cX4_leadBy 1 = .ok (.getfield 9, 3) := by decide +kernel
theorem dX4_leadBy_4 : decode cX4_leadBy 4 = .ok (.aload_n 0, 1) := by decide +kernel
theorem dX4_leadBy_5 : decode cX4_leadBy 5 = .ok (.getfield 13, 3) := by decide +kernel
theorem dX4_leadBy_8 : decode cX4_leadBy 8 = .ok (.invokestatic 118, 3) := by decide +kernel
theorem dX4_leadBy_11 : decode cX4_leadBy 11 = .ok (.aload_n 0, 1) := by decide +kernel
theorem dX4_leadBy_12 : decode cX4_leadBy 12 = .ok (.getfield 13, 3) := by decide +kernel
theorem dX4_leadBy_15 : decode cX4_leadBy 15 = .ok (.iload_n 1, 1) := by decide +kernel
theorem dX4_leadBy_16 : decode cX4_leadBy 16 = .ok (.iconst 2, 1) := by decide +kernel
theorem dX4_leadBy_17 : decode cX4_leadBy 17 = .ok (.invokestatic 44, 3) := by decide +kernel
theorem dX4_leadBy_20 : decode cX4_leadBy 20 = .ok (.aload_n 0, 1) := by decide +kernel
theorem dX4_leadBy_21 : decode cX4_leadBy 21 = .ok (.getfield 13, 3) := by decide +kernel
theorem dX4_leadBy_24 : decode cX4_leadBy 24 = .ok (.iload_n 1, 1) := by decide +kernel
theorem dX4_leadBy_25 : decode cX4_leadBy 25 = .ok (.iconst 2, 1) := by decide +kernel
theorem dX4_leadBy_26 : decode cX4_leadBy 26 = .ok (.invokestatic 44, 3) := by decide +kernel
theorem dX4_leadBy_29 : decode cX4_leadBy 29 = .ok (.iaload, 1) := by decide +kernel
theorem dX4_leadBy_30 : decode cX4_leadBy 30 = .ok (.iload_n 2, 1) := by decide +kernel
theorem dX4_leadBy_31 : decode cX4_leadBy 31 = .ok (.iadd, 1) := by decide +kernel
theorem dX4_leadBy_32 : decode cX4_leadBy 32 = .ok (.bipush 16, 2) := by decide +kernel
theorem dX4_leadBy_34 : decode cX4_leadBy 34 = .ok (.irem, 1) := by decide +kernel
theorem dX4_leadBy_35 : decode cX4_leadBy 35 = .ok (.iastore, 1) := by decide +kernel
theorem dX4_leadBy_36 : decode cX4_leadBy 36 = .ok (.aload_n 0, 1) := by decide +kernel
theorem dX4_leadBy_37 : decode cX4_leadBy 37 = .ok (.getfield 13, 3) := by decide +kernel
theorem dX4_leadBy_40 : decode cX4_leadBy 40 = .ok (.iload_n 3, 1) := by decide +kernel
theorem dX4_leadBy_41 : decode cX4_leadBy 41 = .ok (.iconst 2, 1) := by decide +kernel
theorem dX4_leadBy_42 : decode cX4_leadBy 42 = .ok (.invokestatic 44, 3) := by decide +kernel
theorem dX4_leadBy_45 : decode cX4_leadBy 45 = .ok (.aload_n 0, 1) := by decide +kernel
theorem dX4_leadBy_46 : decode cX4_leadBy 46 = .ok (.getfield 13, 3) := by decide +kernel
theorem dX4_leadBy_49 : decode cX4_leadBy 49 = .ok (.iload_n 3, 1) := by decide +kernel
theorem dX4_leadBy_50 : decode cX4_leadBy 50 = .ok (.iconst 2, 1) := by decide +kernel
theorem dX4_leadBy_51 : decode cX4_leadBy 51 = .ok (.invokestatic 44, 3) := by decide +kernel
theorem dX4_leadBy_54 : decode cX4_leadBy 54 = .ok (.iaload, 1) := by decide +kernel
theorem dX4_leadBy_55 : decode cX4_leadBy 55 = .ok (.iload 4, 2) := by decide +kernel
theorem dX4_leadBy_57 : decode cX4_leadBy 57 = .ok (.iadd, 1) := by decide +kernel
theorem dX4_leadBy_58 : decode cX4_leadBy 58 = .ok (.bipush 16, 2) := by decide +kernel
theorem dX4_leadBy_60 : decode cX4_leadBy 60 = .ok (.irem, 1) := by decide +kernel
theorem dX4_leadBy_61 : decode cX4_leadBy 61 = .ok (.iastore, 1) := by decide +kernel
theorem dX4_leadBy_62 : decode cX4_leadBy 62 = .ok (.aload_n 0, 1) := by decide +kernel
theorem dX4_leadBy_63 : decode cX4_leadBy 63 = .ok (.getfield 13, 3) := by decide +kernel
theorem dX4_leadBy_66 : decode cX4_leadBy 66 = .ok (.iload 5, 2) := by decide +kernel
theorem dX4_leadBy_68 : decode cX4_leadBy 68 = .ok (.invokestatic 111, 3) := by decide +kernel
theorem dX4_leadBy_71 : decode cX4_leadBy 71 = .ok (.aload_n 0, 1) := by decide +kernel
theorem dX4_leadBy_72 : decode cX4_leadBy 72 = .ok (.getfield 13, 3) := by decide +kernel
theorem dX4_leadBy_75 : decode cX4_leadBy 75 = .ok (.iconst 1, 1) := by decide +kernel
theorem dX4_leadBy_76 : decode cX4_leadBy 76 = .ok (.invokestatic 144, 3) := by decide +kernel
theorem dX4_leadBy_79 : decode cX4_leadBy 79 = .ok (.invokestatic 147, 3) := by decide +kernel
theorem dX4_leadBy_82 : decode cX4_leadBy 82 = .ok (.aload_n 0, 1) := by decide +kernel
theorem dX4_leadBy_83 : decode cX4_leadBy 83 = .ok (.getfield 13, 3) := by decide +kernel
theorem dX4_leadBy_86 : decode cX4_leadBy 86 = .ok (.iconst 2, 1) := by decide +kernel
theorem dX4_leadBy_87 : decode cX4_leadBy 87 = .ok (.invokestatic 144, 3) := by decide +kernel
theorem dX4_leadBy_90 : decode cX4_leadBy 90 = .ok (.invokestatic 147, 3) := by decide +kernel
theorem dX4_leadBy_93 : decode cX4_leadBy 93 = .ok (.isub, 1) := by decide +kernel
theorem dX4_leadBy_94 : decode cX4_leadBy 94 = .ok (.ireturn, 1) := by decide +kernel
set_option maxRecDepth 20000 in
theorem ggX4_two_X4_isThing : GoodIn wsX4_two wsX4_isThing := goodIn_r _ [5, 6, 7, 8, 4, 9, 65, 66, 67, 68, 69, 70, 71, 72, 73, 74, 75, 76, 77] (by decide +kernel) (by decide +kernel)
set_option maxRecDepth 20000 in
theorem gX4_two_X4_isThing : GoodIn wsX4_two (wsV RX4 108 RX4 yX4_isThing wsX4_isThing) := goodIn_app (goodIn_of _ (by decide +kernel)) ggX4_two_X4_isThing
set_option maxRecDepth 20000 in
theorem ggX4_two_X4_wrongBy : GoodIn wsX4_two wsX4_wrongBy := goodIn_r _ [12] (by decide +kernel) (by decide +kernel)
set_option maxRecDepth 20000 in
theorem gX4_two_X4_wrongBy : GoodIn wsX4_two (va_wsS RX4 125 yX4_wrongBy wsX4_wrongBy) := goodIn_app (goodIn_of _ (by decide +kernel)) ggX4_two_X4_wrongBy
set_option maxRecDepth 20000 in
theorem ggX4_two_X4_no : GoodIn wsX4_two wsX4_no := goodIn_r _ [16, 17, 65, 66, 67, 68, 69, 70, 71, 72, 73, 74, 75, 76, 77] (by decide +kernel) (by decide +kernel)
set_option maxRecDepth 20000 in
theorem gX4_two_X4_no : GoodIn wsX4_two (wsV RX4 36 RX4 yX4_no wsX4_no) := goodIn_app (goodIn_of _ (by decide +kernel)) ggX4_two_X4_no
set_option maxRecDepth 20000 in
theorem ggX4_two_X4_leadBy : GoodIn wsX4_two wsX4_leadBy := goodIn_r _ [21, 6, 22, 23, 24, 4, 25, 26, 27, 28, 29, 30, 31, 32, 33, 34, 35, 36, 37, 38, 39, 40, 41, 42, 43, 44, 45, 46, 47, 48, 49, 50, 51, 52, 53, 54, 55, 56, 57, 58, 59, 60, 61, 62, 63, 64, 65, 66, 67, 68, 69, 70, 71, 72, 73, 74, 75, 76, 77] (by decide +kernel) (by decide +kernel)
set_option maxRecDepth 20000 in
theorem gX4_two_X4_leadBy : GoodIn wsX4_two (wsV RX4 169 RX4 yX4_leadBy wsX4_leadBy) := goodIn_app (goodIn_of _ (by decide +kernel)) ggX4_two_X4_leadBy
theorem dX4_two_0 : decode cX4_two 0 = .ok (.aload_n 0, 1) := by decide +kernel
theorem dX4_two_1 : decode cX4_two 1 = .ok (.iload_n 1, 1) := by decide +kernel
theorem dX4_two_2 : decode cX4_two 2 = .ok (.invokevirtual 108, 3) := by decide +kernel
theorem dX4_two_5 : decode cX4_two 5 = .ok (.ifCond .eq 26, 3) := by decide +kernel
theorem dX4_two_8 : decode cX4_two 8 = .ok (.aload_n 0, 1) := by decide +kernel
theorem dX4_two_9 : decode cX4_two 9 = .ok (.iload_n 2, 1) := by decide +kernel
theorem dX4_two_10 : decode cX4_two 10 = .ok (.invokevirtual 108, 3) := by decide +kernel
theorem dX4_two_13 : decode cX4_two 13 = .ok (.ifCond .eq 18, 3) := by decide +kernel
theorem dX4_two_16 : decode cX4_two 16 = .ok (.iload_n 1, 1) := by decide +kernel
theorem dX4_two_17 : decode cX4_two 17 = .ok (.iload_n 2, 1) := by decide +kernel
theorem dX4_two_18 : decode cX4_two 18 = .ok (.if_icmp .eq 13, 3) := by decide +kernel
theorem dX4_two_21 : decode cX4_two 21 = .ok (.iload_n 3, 1) := by decide +kernel
theorem dX4_two_22 : decode cX4_two 22 = .ok (.iconst 0, 1) := by decide +kernel
theorem dX4_two_23 : decode cX4_two 23 = .ok (.bipush 30, 2) := by decide +kernel
theorem dX4_two_25 : decode cX4_two 25 = .ok (.invokestatic 125, 3) := by decide +kernel
theorem dX4_two_28 : decode cX4_two 28 = .ok (.goto 4, 3) := by decide +kernel
theorem dX4_two_31 : decode cX4_two 31 = .ok (.iconst (-1), 1) := by decide +kernel
theorem dX4_two_32 : decode cX4_two 32 = .ok (.istore 4, 2) := by decide +kernel
theorem dX4_two_34 : decode cX4_two 34 = .ok (.iload 4, 2) := by decide +kernel
theorem dX4_two_36 : decode cX4_two 36 = .ok (.ifCond .eq 10, 3) := by decide +kernel
theorem dX4_two_39 : decode cX4_two 39 = .ok (.aload_n 0, 1) := by decide +kernel
theorem dX4_two_40 : decode cX4_two 40 = .ok (.iload 4, 2) := by decide +kernel
theorem dX4_two_42 : decode cX4_two 42 = .ok (.invokevirtual 36, 3) := by decide +kernel
theorem dX4_two_45 : decode cX4_two 45 = .ok (.ireturn, 1) := by decide +kernel
theorem dX4_two_46 : decode cX4_two 46 = .ok (.iconst 0, 1) := by decide +kernel
theorem dX4_two_47 : decode cX4_two 47 = .ok (.istore 5, 2) := by decide +kernel
theorem dX4_two_49 : decode cX4_two 49 = .ok (.iload 5, 2) := by decide +kernel
theorem dX4_two_51 : decode cX4_two 51 = .ok (.iconst 4, 1) := by decide +kernel
theorem dX4_two_52 : decode cX4_two 52 = .ok (.if_icmp .ge 79, 3) := by decide +kernel
theorem dX4_two_55 : decode cX4_two 55 = .ok (.iload 5, 2) := by decide +kernel
theorem dX4_two_57 : decode cX4_two 57 = .ok (.iconst 2, 1) := by decide +kernel
theorem dX4_two_58 : decode cX4_two 58 = .ok (.idiv, 1) := by decide +kernel
theorem dX4_two_59 : decode cX4_two 59 = .ok (.istore 6, 2) := by decide +kernel
theorem dX4_two_61 : decode cX4_two 61 = .ok (.iload 5, 2) := by decide +kernel
theorem dX4_two_63 : decode cX4_two 63 = .ok (.iconst 2, 1) := by decide +kernel
theorem dX4_two_64 : decode cX4_two 64 = .ok (.irem, 1) := by decide +kernel
theorem dX4_two_65 : decode cX4_two 65 = .ok (.istore 7, 2) := by decide +kernel
theorem dX4_two_67 : decode cX4_two 67 = .ok (.aload_n 0, 1) := by decide +kernel
theorem dX4_two_68 : decode cX4_two 68 = .ok (.iload_n 1, 1) := by decide +kernel
theorem dX4_two_69 : decode cX4_two 69 = .ok (.iload 6, 2) := by decide +kernel
theorem dX4_two_71 : decode cX4_two 71 = .ok (.iload_n 2, 1) := by decide +kernel
theorem dX4_two_72 : decode cX4_two 72 = .ok (.iload 7, 2) := by decide +kernel
theorem dX4_two_74 : decode cX4_two 74 = .ok (.iload_n 3, 1) := by decide +kernel
theorem dX4_two_75 : decode cX4_two 75 = .ok (.invokevirtual 169, 3) := by decide +kernel
theorem dX4_two_78 : decode cX4_two 78 = .ok (.istore 8, 2) := by decide +kernel
theorem dX4_two_80 : decode cX4_two 80 = .ok (.aload_n 0, 1) := by decide +kernel
theorem dX4_two_81 : decode cX4_two 81 = .ok (.iload_n 1, 1) := by decide +kernel
theorem dX4_two_82 : decode cX4_two 82 = .ok (.iconst 1, 1) := by decide +kernel
theorem dX4_two_83 : decode cX4_two 83 = .ok (.iload 6, 2) := by decide +kernel
theorem dX4_two_85 : decode cX4_two 85 = .ok (.isub, 1) := by decide +kernel
theorem dX4_two_86 : decode cX4_two 86 = .ok (.iload_n 2, 1) := by decide +kernel
theorem dX4_two_87 : decode cX4_two 87 = .ok (.iload 7, 2) := by decide +kernel
theorem dX4_two_89 : decode cX4_two 89 = .ok (.iload_n 3, 1) := by decide +kernel
theorem dX4_two_90 : decode cX4_two 90 = .ok (.invokevirtual 169, 3) := by decide +kernel
theorem dX4_two_93 : decode cX4_two 93 = .ok (.iload 8, 2) := by decide +kernel
theorem dX4_two_95 : decode cX4_two 95 = .ok (.if_icmp .gt 30, 3) := by decide +kernel
theorem dX4_two_98 : decode cX4_two 98 = .ok (.aload_n 0, 1) := by decide +kernel
theorem dX4_two_99 : decode cX4_two 99 = .ok (.iload_n 1, 1) := by decide +kernel
theorem dX4_two_100 : decode cX4_two 100 = .ok (.iload 6, 2) := by decide +kernel
theorem dX4_two_102 : decode cX4_two 102 = .ok (.iload_n 2, 1) := by decide +kernel
theorem dX4_two_103 : decode cX4_two 103 = .ok (.iconst 1, 1) := by decide +kernel
theorem dX4_two_104 : decode cX4_two 104 = .ok (.iload 7, 2) := by decide +kernel
theorem dX4_two_106 : decode cX4_two 106 = .ok (.isub, 1) := by decide +kernel
theorem dX4_two_107 : decode cX4_two 107 = .ok (.iload_n 3, 1) := by decide +kernel
theorem dX4_two_108 : decode cX4_two 108 = .ok (.invokevirtual 169, 3) := by decide +kernel
theorem dX4_two_111 : decode cX4_two 111 = .ok (.iload 8, 2) := by decide +kernel
theorem dX4_two_113 : decode cX4_two 113 = .ok (.if_icmp .lt 12, 3) := by decide +kernel
theorem dX4_two_116 : decode cX4_two 116 = .ok (.bipush 10, 2) := by decide +kernel
theorem dX4_two_118 : decode cX4_two 118 = .ok (.iload 6, 2) := by decide +kernel
theorem dX4_two_120 : decode cX4_two 120 = .ok (.imul, 1) := by decide +kernel
theorem dX4_two_121 : decode cX4_two 121 = .ok (.iload 7, 2) := by decide +kernel
theorem dX4_two_123 : decode cX4_two 123 = .ok (.iadd, 1) := by decide +kernel
theorem dX4_two_124 : decode cX4_two 124 = .ok (.ireturn, 1) := by decide +kernel
theorem dX4_two_125 : decode cX4_two 125 = .ok (.iinc 5 1, 3) := by decide +kernel
theorem dX4_two_128 : decode cX4_two 128 = .ok (.goto (-79), 3) := by decide +kernel
theorem dX4_two_131 : decode cX4_two 131 = .ok (.bipush (-9), 2) := by decide +kernel
theorem dX4_two_133 : decode cX4_two 133 = .ok (.ireturn, 1) := by decide +kernel
theorem dX4_gcd_0 : decode cX4_gcd 0 = .ok (.lload_n 0, 1) := by decide +kernel
theorem dX4_gcd_1 : decode cX4_gcd 1 = .ok (.lstore 4, 2) := by decide +kernel
theorem dX4_gcd_3 : decode cX4_gcd 3 = .ok (.lload_n 2, 1) := by decide +kernel
theorem dX4_gcd_4 : decode cX4_gcd 4 = .ok (.lstore 6, 2) := by decide +kernel
theorem dX4_gcd_6 : decode cX4_gcd 6 = .ok (.lload 6, 2) := by decide +kernel
theorem dX4_gcd_8 : decode cX4_gcd 8 = .ok (.lconst 0, 1) := by decide +kernel
theorem dX4_gcd_9 : decode cX4_gcd 9 = .ok (.lcmp, 1) := by decide +kernel
theorem dX4_gcd_10 : decode cX4_gcd 10 = .ok (.ifCond .eq 21, 3) := by decide +kernel
theorem dX4_gcd_13 : decode cX4_gcd 13 = .ok (.lload 4, 2) := by decide +kernel
theorem dX4_gcd_15 : decode cX4_gcd 15 = .ok (.lload 6, 2) := by decide +kernel
theorem dX4_gcd_17 : decode cX4_gcd 17 = .ok (.lrem, 1) := by decide +kernel
theorem dX4_gcd_18 : decode cX4_gcd 18 = .ok (.lstore 8, 2) := by decide +kernel
theorem dX4_gcd_20 : decode cX4_gcd 20 = .ok (.lload 6, 2) := by decide +kernel
theorem dX4_gcd_22 : decode cX4_gcd 22 = .ok (.lstore 4, 2) := by decide +kernel
theorem dX4_gcd_24 : decode cX4_gcd 24 = .ok (.lload 8, 2) := by decide +kernel
theorem dX4_gcd_26 : decode cX4_gcd 26 = .ok (.lstore 6, 2) := by decide +kernel
theorem dX4_gcd_28 : decode cX4_gcd 28 = .ok (.goto (-22), 3) := by decide +kernel
theorem dX4_gcd_31 : decode cX4_gcd 31 = .ok (.lload 4, 2) := by decide +kernel
theorem dX4_gcd_33 : decode cX4_gcd 33 = .ok (.lreturn, 1) := by decide +kernel
set_option maxRecDepth 20000 in
theorem ggX4_partOf_X4_gcd : GoodIn wsX4_partOf wsX4_gcd := goodIn_r _ [4] (by decide +kernel) (by decide +kernel)
set_option maxRecDepth 20000 in
theorem gX4_partOf_X4_gcd : GoodIn wsX4_partOf (va_wsS RX4 173 yX4_gcd wsX4_gcd) := goodIn_app (goodIn_of _ (by decide +kernel)) ggX4_partOf_X4_gcd
theorem dX4_partOf_0 : decode cX4_partOf 0 = .ok (.lload_n 0, 1) := by decide +kernel
theorem dX4_partOf_1 : decode cX4_partOf 1 = .ok (.lconst 0, 1) := by decide +kernel
theorem dX4_partOf_2 : decode cX4_partOf 2 = .ok (.lcmp, 1) := by decide +kernel
theorem dX4_partOf_3 : decode cX4_partOf 3 = .ok (.ifCond .ne 7, 3) := by decide +kernel
theorem dX4_partOf_6 : decode cX4_partOf 6 = .ok (.iload 4, 2) := by decide +kernel
theorem dX4_partOf_8 : decode cX4_partOf 8 = .ok (.i2l, 1) := by decide +kernel
theorem dX4_partOf_9 : decode cX4_partOf 9 = .ok (.lreturn, 1) := by decide +kernel
theorem dX4_partOf_10 : decode cX4_partOf 10 = .ok (.iload 4, 2) := by decide +kernel
theorem dX4_partOf_12 : decode cX4_partOf 12 = .ok (.ifCond .ne 7, 3) := by decide +kernel
theorem dX4_partOf_15 : decode cX4_partOf 15 = .ok (.lload_n 0, 1) := by decide +kernel
theorem dX4_partOf_16 : decode cX4_partOf 16 = .ok (.goto 4, 3) := by decide +kernel
theorem dX4_partOf_19 : decode cX4_partOf 19 = .ok (.lload_n 2, 1) := by decide +kernel
theorem dX4_partOf_20 : decode cX4_partOf 20 = .ok (.lload_n 0, 1) := by decide +kernel
theorem dX4_partOf_21 : decode cX4_partOf 21 = .ok (.lload_n 2, 1) := by decide +kernel
theorem dX4_partOf_22 : decode cX4_partOf 22 = .ok (.invokestatic 173, 3) := by decide +kernel
theorem dX4_partOf_25 : decode cX4_partOf 25 = .ok (.ldiv, 1) := by decide +kernel
theorem dX4_partOf_26 : decode cX4_partOf 26 = .ok (.lreturn, 1) := by decide +kernel
set_option maxRecDepth 20000 in
theorem ggX4_mist_X4_isBranch : GoodIn wsX4_mist wsX4_isBranch := goodIn_r _ [6, 7, 8, 5, 9] (by decide +kernel) (by decide +kernel)
set_option maxRecDepth 20000 in
theorem gX4_mist_X4_isBranch : GoodIn wsX4_mist (va_wsS RX4 131 yX4_isBranch wsX4_isBranch) := goodIn_app (goodIn_of _ (by decide +kernel)) ggX4_mist_X4_isBranch
set_option maxRecDepth 20000 in
theorem ggX4_mist_X4_noWide : GoodIn wsX4_mist wsX4_noWide := goodIn_r _ [13, 14, 15, 16, 17, 5, 18, 19, 62, 63, 64, 65, 66, 67, 68, 69, 70, 71, 72, 73, 74] (by decide +kernel) (by decide +kernel)
set_option maxRecDepth 20000 in
theorem gX4_mist_X4_noWide : GoodIn wsX4_mist (wsV RX4 177 RX4 yX4_noWide wsX4_noWide) := goodIn_app (goodIn_of _ (by decide +kernel)) ggX4_mist_X4_noWide
set_option maxRecDepth 20000 in
theorem ggX4_mist_X4_isVerdict : GoodIn wsX4_mist wsX4_isVerdict := goodIn_r _ [22, 7, 8, 5, 9] (by decide +kernel) (by decide +kernel)
set_option maxRecDepth 20000 in
theorem gX4_mist_X4_isVerdict : GoodIn wsX4_mist (va_wsS RX4 105 yX4_isVerdict wsX4_isVerdict) := goodIn_app (goodIn_of _ (by decide +kernel)) ggX4_mist_X4_isVerdict
set_option maxRecDepth 20000 in
theorem ggX4_mist_X4_isIn : GoodIn wsX4_mist wsX4_isIn := goodIn_r _ [9] (by decide +kernel) (by decide +kernel)
set_option maxRecDepth 20000 in
theorem gX4_mist_X4_isIn : GoodIn wsX4_mist (va_wsS RX4 40 yX4_isIn wsX4_isIn) := goodIn_app (goodIn_of _ (by decide +kernel)) ggX4_mist_X4_isIn
set_option maxRecDepth 20000 in
theorem ggX4_mist_X4_copies : GoodIn wsX4_mist wsX4_copies := goodIn_r _ [25] (by decide +kernel) (by decide +kernel)
set_option maxRecDepth 20000 in
theorem gX4_mist_X4_copies : GoodIn wsX4_mist (va_wsS RX4 118 yX4_copies wsX4_copies) := goodIn_app (goodIn_of _ (by decide +kernel)) ggX4_mist_X4_copies
set_option maxRecDepth 20000 in
theorem ggX4_mist_X4_has : GoodIn wsX4_mist wsX4_has := goodIn_r _ [28] (by decide +kernel) (by decide +kernel)
set_option maxRecDepth 20000 in
theorem gX4_mist_X4_has : GoodIn wsX4_mist (va_wsS RX4 52 yX4_has wsX4_has) := goodIn_app (goodIn_of _ (by decide +kernel)) ggX4_mist_X4_has
set_option maxRecDepth 20000 in
theorem ggX4_mist_X4_hour : GoodIn wsX4_mist wsX4_hour := goodIn_r _ [31, 32, 33, 5, 34, 35, 36, 37] (by decide +kernel) (by decide +kernel)
set_option maxRecDepth 20000 in
theorem gX4_mist_X4_hour : GoodIn wsX4_mist (va_wsS RX4 76 yX4_hour wsX4_hour) := goodIn_app (goodIn_of _ (by decide +kernel)) ggX4_mist_X4_hour
set_option maxRecDepth 20000 in
theorem ggX4_mist_X4_verdictIn : GoodIn wsX4_mist wsX4_verdictIn := goodIn_r _ [40, 41, 42, 5, 43, 44, 45, 46, 26, 27, 28, 32, 33, 34, 47, 48, 49, 50, 51, 52, 53, 54, 55] (by decide +kernel) (by decide +kernel)
set_option maxRecDepth 20000 in
theorem gX4_mist_X4_verdictIn : GoodIn wsX4_mist (va_wsS RX4 70 yX4_verdictIn wsX4_verdictIn) := goodIn_app (goodIn_of _ (by decide +kernel)) ggX4_mist_X4_verdictIn
set_option maxRecDepth 20000 in
theorem ggX4_mist_X4_partOf : GoodIn wsX4_mist wsX4_partOf := goodIn_r _ [58, 59, 60, 5, 61] (by decide +kernel) (by decide +kernel)
set_option maxRecDepth 20000 in
theorem gX4_mist_X4_partOf : GoodIn wsX4_mist (va_wsS RX4 181 yX4_partOf wsX4_partOf) := goodIn_app (goodIn_of _ (by decide +kernel)) ggX4_mist_X4_partOf
theorem dX4_mist_0 : decode cX4_mist 0 = .ok (.iload_n 1, 1) := by decide +kernel
theorem dX4_mist_1 : decode cX4_mist 1 = .ok (.invokestatic 131, 3) := by decide +kernel
theorem dX4_mist_4 : decode cX4_mist 4 = .ok (.ifCond .ne 9, 3) := by decide +kernel
theorem dX4_mist_7 : decode cX4_mist 7 = .ok (.aload_n 0, 1) := by decide +kernel
theorem dX4_mist_8 : decode cX4_mist 8 = .ok (.iconst (-1), 1) := by decide +kernel
theorem dX4_mist_9 : decode cX4_mist 9 = .ok (.invokevirtual 177, 3) := by decide +kernel
theorem dX4_mist_12 : decode cX4_mist 12 = .ok (.lreturn, 1) := by decide +kernel
theorem dX4_mist_13 : decode cX4_mist 13 = .ok (.iload_n 2, 1) := by decide +kernel
theorem dX4_mist_14 : decode cX4_mist 14 = .ok (.ifCond .lt 8, 3) := by decide +kernel
theorem dX4_mist_17 : decode cX4_mist 17 = .ok (.iload_n 3, 1) := by decide +kernel
theorem dX4_mist_18 : decode cX4_mist 18 = .ok (.iconst 2, 1) := by decide +kernel
theorem dX4_mist_19 : decode cX4_mist 19 = .ok (.if_icmp .ge 10, 3) := by decide +kernel
theorem dX4_mist_22 : decode cX4_mist 22 = .ok (.aload_n 0, 1) := by decide +kernel
theorem dX4_mist_23 : decode cX4_mist 23 = .ok (.bipush (-4), 2) := by decide +kernel
theorem dX4_mist_25 : decode cX4_mist 25 = .ok (.invokevirtual 177, 3) := by decide +kernel
theorem dX4_mist_28 : decode cX4_mist 28 = .ok (.lreturn, 1) := by decide +kernel
theorem dX4_mist_29 : decode cX4_mist 29 = .ok (.iload_n 2, 1) := by decide +kernel
theorem dX4_mist_30 : decode cX4_mist 30 = .ok (.bipush 7, 2) := by decide +kernel
theorem dX4_mist_32 : decode cX4_mist 32 = .ok (.if_icmp .gt 9, 3) := by decide +kernel
theorem dX4_mist_35 : decode cX4_mist 35 = .ok (.iload_n 3, 1) := by decide +kernel
theorem dX4_mist_36 : decode cX4_mist 36 = .ok (.bipush 20, 2) := by decide +kernel
theorem dX4_mist_38 : decode cX4_mist 38 = .ok (.if_icmp .le 10, 3) := by decide +kernel
theorem dX4_mist_41 : decode cX4_mist 41 = .ok (.aload_n 0, 1) := by decide +kernel
theorem dX4_mist_42 : decode cX4_mist 42 = .ok (.bipush (-6), 2) := by decide +kernel
theorem dX4_mist_44 : decode cX4_mist 44 = .ok (.invokevirtual 177, 3) := by decide +kernel
theorem dX4_mist_47 : decode cX4_mist 47 = .ok (.lreturn, 1) := by decide +kernel
theorem dX4_mist_48 : decode cX4_mist 48 = .ok (.iload 4, 2) := by decide +kernel
theorem dX4_mist_50 : decode cX4_mist 50 = .ok (.invokestatic 105, 3) := by decide +kernel
theorem dX4_mist_53 : decode cX4_mist 53 = .ok (.ifCond .eq 13, 3) := by decide +kernel
theorem dX4_mist_56 : decode cX4_mist 56 = .ok (.iload 5, 2) := by decide +kernel
theorem dX4_mist_58 : decode cX4_mist 58 = .ok (.iconst 0, 1) := by decide +kernel
theorem dX4_mist_59 : decode cX4_mist 59 = .ok (.iconst 1, 1) := by decide +kernel
theorem dX4_mist_60 : decode cX4_mist 60 = .ok (.invokestatic 40, 3) := by decide +kernel
theorem dX4_mist_63 : decode cX4_mist 63 = .ok (.ifCond .ne 10, 3) := by decide +kernel
theorem dX4_mist_66 : decode cX4_mist 66 = .ok (.aload_n 0, 1) := by decide +kernel
theorem dX4_mist_67 : decode cX4_mist 67 = .ok (.bipush (-2), 2) := by decide +kernel
theorem dX4_mist_69 : decode cX4_mist 69 = .ok (.invokevirtual 177, 3) := by decide +kernel
theorem dX4_mist_72 : decode cX4_mist 72 = .ok (.lreturn, 1) := by decide +kernel
theorem dX4_mist_73 : decode cX4_mist 73 = .ok (.lconst 0, 1) := by decide +kernel
theorem dX4_mist_74 : decode cX4_mist 74 = .ok (.lstore 6, 2) := by decide +kernel
theorem dX4_mist_76 : decode cX4_mist 76 = .ok (.lconst 1, 1) := by decide +kernel
theorem dX4_mist_77 : decode cX4_mist 77 = .ok (.lstore 8, 2) := by decide +kernel
theorem dX4_mist_79 : decode cX4_mist 79 = .ok (.iconst 0, 1) := by decide +kernel
theorem dX4_mist_80 : decode cX4_mist 80 = .ok (.istore 10, 2) := by decide +kernel
theorem dX4_mist_82 : decode cX4_mist 82 = .ok (.iload 10, 2) := by decide +kernel
theorem dX4_mist_84 : decode cX4_mist 84 = .ok (.iload_n 2, 1) := by decide +kernel
theorem dX4_mist_85 : decode cX4_mist 85 = .ok (.if_icmp .ge 16, 3) := by decide +kernel
theorem dX4_mist_88 : decode cX4_mist 88 = .ok (.lload 8, 2) := by decide +kernel
theorem dX4_mist_90 : decode cX4_mist 90 = .ok (.iload_n 3, 1) := by decide +kernel
theorem dX4_mist_91 : decode cX4_mist 91 = .ok (.i2l, 1) := by decide +kernel
theorem dX4_mist_92 : decode cX4_mist 92 = .ok (.lmul, 1) := by decide +kernel
theorem dX4_mist_93 : decode cX4_mist 93 = .ok (.lstore 8, 2) := by decide +kernel
theorem dX4_mist_95 : decode cX4_mist 95 = .ok (.iinc 10 1, 3) := by decide +kernel
theorem dX4_mist_98 : decode cX4_mist 98 = .ok (.goto (-16), 3) := by decide +kernel
theorem dX4_mist_101 : decode cX4_mist 101 = .ok (.iconst 0, 1) := by decide +kernel
theorem dX4_mist_102 : decode cX4_mist 102 = .ok (.istore 10, 2) := by decide +kernel
theorem dX4_mist_104 : decode cX4_mist 104 = .ok (.iload 10, 2) := by decide +kernel
theorem dX4_mist_106 : decode cX4_mist 106 = .ok (.iconst 1, 1) := by decide +kernel
theorem dX4_mist_107 : decode cX4_mist 107 = .ok (.iload_n 2, 1) := by decide +kernel
theorem dX4_mist_108 : decode cX4_mist 108 = .ok (.ishl, 1) := by decide +kernel
theorem dX4_mist_109 : decode cX4_mist 109 = .ok (.if_icmp .ge 130, 3) := by decide +kernel
theorem dX4_mist_112 : decode cX4_mist 112 = .ok (.lconst 1, 1) := by decide +kernel
theorem dX4_mist_113 : decode cX4_mist 113 = .ok (.lstore 11, 2) := by decide +kernel
theorem dX4_mist_115 : decode cX4_mist 115 = .ok (.aload_n 0, 1) := by decide +kernel
theorem dX4_mist_116 : decode cX4_mist 116 = .ok (.getfield 9, 3) := by decide +kernel
theorem dX4_mist_119 : decode cX4_mist 119 = .ok (.aload_n 0, 1) := by decide +kernel
theorem dX4_mist_120 : decode cX4_mist 120 = .ok (.getfield 13, 3) := by decide +kernel
theorem dX4_mist_123 : decode cX4_mist 123 = .ok (.invokestatic 118, 3) := by decide +kernel
theorem dX4_mist_126 : decode cX4_mist 126 = .ok (.iconst 0, 1) := by decide +kernel
theorem dX4_mist_127 : decode cX4_mist 127 = .ok (.istore 13, 2) := by decide +kernel
theorem dX4_mist_129 : decode cX4_mist 129 = .ok (.iload 13, 2) := by decide +kernel
theorem dX4_mist_131 : decode cX4_mist 131 = .ok (.iload_n 2, 1) := by decide +kernel
theorem dX4_mist_132 : decode cX4_mist 132 = .ok (.if_icmp .ge 77, 3) := by decide +kernel
theorem dX4_mist_135 : decode cX4_mist 135 = .ok (.lload 11, 2) := by decide +kernel
theorem dX4_mist_137 : decode cX4_mist 137 = .ok (.iload 10, 2) := by decide +kernel
theorem dX4_mist_139 : decode cX4_mist 139 = .ok (.iload 13, 2) := by decide +kernel
theorem dX4_mist_141 : decode cX4_mist 141 = .ok (.invokestatic 52, 3) := by decide +kernel
theorem dX4_mist_144 : decode cX4_mist 144 = .ok (.ifCond .eq 7, 3) := by decide +kernel
theorem dX4_mist_147 : decode cX4_mist 147 = .ok (.lconst 1, 1) := by decide +kernel
theorem dX4_mist_148 : decode cX4_mist 148 = .ok (.goto 7, 3) := by decide +kernel
theorem dX4_mist_151 : decode cX4_mist 151 = .ok (.iload_n 3, 1) := by decide +kernel
theorem dX4_mist_152 : decode cX4_mist 152 = .ok (.iconst 1, 1) := by decide +kernel
theorem dX4_mist_153 : decode cX4_mist 153 = .ok (.isub, 1) := by decide +kernel
theorem dX4_mist_154 : decode cX4_mist 154 = .ok (.i2l, 1) := by decide +kernel
theorem dX4_mist_155 : decode cX4_mist 155 = .ok (.lmul, 1) := by decide +kernel
theorem dX4_mist_156 : decode cX4_mist 156 = .ok (.lstore 11, 2) := by decide +kernel
theorem dX4_mist_158 : decode cX4_mist 158 = .ok (.iload 10, 2) := by decide +kernel
theorem dX4_mist_160 : decode cX4_mist 160 = .ok (.iload 13, 2) := by decide +kernel
theorem dX4_mist_162 : decode cX4_mist 162 = .ok (.invokestatic 52, 3) := by decide +kernel
theorem dX4_mist_165 : decode cX4_mist 165 = .ok (.ifCond .eq 31, 3) := by decide +kernel
theorem dX4_mist_168 : decode cX4_mist 168 = .ok (.aload_n 0, 1) := by decide +kernel
theorem dX4_mist_169 : decode cX4_mist 169 = .ok (.getfield 13, 3) := by decide +kernel
theorem dX4_mist_172 : decode cX4_mist 172 = .ok (.iconst 2, 1) := by decide +kernel
theorem dX4_mist_173 : decode cX4_mist 173 = .ok (.aload_n 0, 1) := by decide +kernel
theorem dX4_mist_174 : decode cX4_mist 174 = .ok (.getfield 13, 3) := by decide +kernel
theorem dX4_mist_177 : decode cX4_mist 177 = .ok (.iconst 2, 1) := by decide +kernel
theorem dX4_mist_178 : decode cX4_mist 178 = .ok (.iaload, 1) := by decide +kernel
theorem dX4_mist_179 : decode cX4_mist 179 = .ok (.iconst 3, 1) := by decide +kernel
theorem dX4_mist_180 : decode cX4_mist 180 = .ok (.if_icmp .ge 7, 3) := by decide +kernel
theorem dX4_mist_183 : decode cX4_mist 183 = .ok (.iconst 0, 1) := by decide +kernel
theorem dX4_mist_184 : decode cX4_mist 184 = .ok (.goto 11, 3) := by decide +kernel
theorem dX4_mist_187 : decode cX4_mist 187 = .ok (.aload_n 0, 1) := by decide +kernel
theorem dX4_mist_188 : decode cX4_mist 188 = .ok (.getfield 13, 3) := by decide +kernel
theorem dX4_mist_191 : decode cX4_mist 191 = .ok (.iconst 2, 1) := by decide +kernel
theorem dX4_mist_192 : decode cX4_mist 192 = .ok (.iaload, 1) := by decide +kernel
theorem dX4_mist_193 : decode cX4_mist 193 = .ok (.iconst 3, 1) := by decide +kernel
theorem dX4_mist_194 : decode cX4_mist 194 = .ok (.isub, 1) := by decide +kernel
theorem dX4_mist_195 : decode cX4_mist 195 = .ok (.iastore, 1) := by decide +kernel
theorem dX4_mist_196 : decode cX4_mist 196 = .ok (.aload_n 0, 1) := by decide +kernel
theorem dX4_mist_197 : decode cX4_mist 197 = .ok (.getfield 13, 3) := by decide +kernel
theorem dX4_mist_200 : decode cX4_mist 200 = .ok (.invokestatic 76, 3) := by decide +kernel
theorem dX4_mist_203 : decode cX4_mist 203 = .ok (.iinc 13 1, 3) := by decide +kernel
theorem dX4_mist_206 : decode cX4_mist 206 = .ok (.goto (-77), 3) := by decide +kernel
theorem dX4_mist_209 : decode cX4_mist 209 = .ok (.lload 6, 2) := by decide +kernel
theorem dX4_mist_211 : decode cX4_mist 211 = .ok (.aload_n 0, 1) := by decide +kernel
theorem dX4_mist_212 : decode cX4_mist 212 = .ok (.getfield 13, 3) := by decide +kernel
theorem dX4_mist_215 : decode cX4_mist 215 = .ok (.iload_n 1, 1) := by decide +kernel
theorem dX4_mist_216 : decode cX4_mist 216 = .ok (.invokestatic 70, 3) := by decide +kernel
theorem dX4_mist_219 : decode cX4_mist 219 = .ok (.iload 4, 2) := by decide +kernel
theorem dX4_mist_221 : decode cX4_mist 221 = .ok (.if_icmp .ne 8, 3) := by decide +kernel
theorem dX4_mist_224 : decode cX4_mist 224 = .ok (.lload 11, 2) := by decide +kernel
theorem dX4_mist_226 : decode cX4_mist 226 = .ok (.goto 4, 3) := by decide +kernel
theorem dX4_mist_229 : decode cX4_mist 229 = .ok (.lconst 0, 1) := by decide +kernel
theorem dX4_mist_230 : decode cX4_mist 230 = .ok (.ladd, 1) := by decide +kernel
theorem dX4_mist_231 : decode cX4_mist 231 = .ok (.lstore 6, 2) := by decide +kernel
theorem dX4_mist_233 : decode cX4_mist 233 = .ok (.iinc 10 1, 3) := by decide +kernel
theorem dX4_mist_236 : decode cX4_mist 236 = .ok (.goto (-132), 3) := by decide +kernel
theorem dX4_mist_239 : decode cX4_mist 239 = .ok (.lload 6, 2) := by decide +kernel
theorem dX4_mist_241 : decode cX4_mist 241 = .ok (.lload 8, 2) := by decide +kernel
theorem dX4_mist_243 : decode cX4_mist 243 = .ok (.iload 5, 2) := by decide +kernel
theorem dX4_mist_245 : decode cX4_mist 245 = .ok (.invokestatic 181, 3) := by decide +kernel
theorem dX4_mist_248 : decode cX4_mist 248 = .ok (.lreturn, 1) := by decide +kernel
theorem dX4_allHeights_0 : decode cX4_allHeights 0 = .ok (.iconst 0, 1) := by decide +kernel
theorem dX4_allHeights_1 : decode cX4_allHeights 1 = .ok (.istore_n 1, 1) := by decide +kernel
theorem dX4_allHeights_2 : decode cX4_allHeights 2 = .ok (.iconst 0, 1) := by decide +kernel
theorem dX4_allHeights_3 : decode cX4_allHeights 3 = .ok (.istore_n 2, 1) := by decide +kernel
theorem dX4_allHeights_4 : decode cX4_allHeights 4 = .ok (.iload_n 2, 1) := by decide +kernel
theorem dX4_allHeights_5 : decode cX4_allHeights 5 = .ok (.bipush 16, 2) := by decide +kernel
theorem dX4_allHeights_7 : decode cX4_allHeights 7 = .ok (.if_icmp .ge 20, 3) := by decide +kernel
theorem dX4_allHeights_10 : decode cX4_allHeights 10 = .ok (.iload_n 1, 1) := by decide +kernel
theorem dX4_allHeights_11 : decode cX4_allHeights 11 = .ok (.aload_n 0, 1) := by decide +kernel
theorem dX4_allHeights_12 : decode cX4_allHeights 12 = .ok (.getfield 9, 3) := by decide +kernel
theorem dX4_allHeights_15 : decode cX4_allHeights 15 = .ok (.iconst 4, 1) := by decide +kernel
theorem dX4_allHeights_16 : decode cX4_allHeights 16 = .ok (.iload_n 2, 1) := by decide +kernel
theorem dX4_allHeights_17 : decode cX4_allHeights 17 = .ok (.iadd, 1) := by decide +kernel
theorem dX4_allHeights_18 : decode cX4_allHeights 18 = .ok (.iaload, 1) := by decide +kernel
theorem dX4_allHeights_19 : decode cX4_allHeights 19 = .ok (.iadd, 1) := by decide +kernel
theorem dX4_allHeights_20 : decode cX4_allHeights 20 = .ok (.istore_n 1, 1) := by decide +kernel
theorem dX4_allHeights_21 : decode cX4_allHeights 21 = .ok (.iinc 2 1, 3) := by decide +kernel
theorem dX4_allHeights_24 : decode cX4_allHeights 24 = .ok (.goto (-20), 3) := by decide +kernel
theorem dX4_allHeights_27 : decode cX4_allHeights 27 = .ok (.iload_n 1, 1) := by decide +kernel
theorem dX4_allHeights_28 : decode cX4_allHeights 28 = .ok (.ireturn, 1) := by decide +kernel
set_option maxRecDepth 20000 in
theorem ggX4_mean_X4_isIn : GoodIn wsX4_mean wsX4_isIn := goodIn_r _ [5] (by decide +kernel) (by decide +kernel)
set_option maxRecDepth 20000 in
theorem gX4_mean_X4_isIn : GoodIn wsX4_mean (va_wsS RX4 40 yX4_isIn wsX4_isIn) := goodIn_app (goodIn_of _ (by decide +kernel)) ggX4_mean_X4_isIn
set_option maxRecDepth 20000 in
theorem ggX4_mean_X4_allHeights : GoodIn wsX4_mean wsX4_allHeights := goodIn_r _ [9, 10, 27, 28, 29, 30, 31, 32, 33, 34, 35, 36, 37, 38, 39] (by decide +kernel) (by decide +kernel)
set_option maxRecDepth 20000 in
theorem gX4_mean_X4_allHeights : GoodIn wsX4_mean (wsV RX4 185 RX4 yX4_allHeights wsX4_allHeights) := goodIn_app (goodIn_of _ (by decide +kernel)) ggX4_mean_X4_allHeights
set_option maxRecDepth 20000 in
theorem ggX4_mean_X4_partOf : GoodIn wsX4_mean wsX4_partOf := goodIn_r _ [13, 14, 15, 4, 16] (by decide +kernel) (by decide +kernel)
set_option maxRecDepth 20000 in
theorem gX4_mean_X4_partOf : GoodIn wsX4_mean (va_wsS RX4 181 yX4_partOf wsX4_partOf) := goodIn_app (goodIn_of _ (by decide +kernel)) ggX4_mean_X4_partOf
set_option maxRecDepth 20000 in
theorem ggX4_mean_X4_noWide : GoodIn wsX4_mean wsX4_noWide := goodIn_r _ [20, 21, 22, 23, 24, 4, 25, 26, 27, 28, 29, 30, 31, 32, 33, 34, 35, 36, 37, 38, 39] (by decide +kernel) (by decide +kernel)
set_option maxRecDepth 20000 in
theorem gX4_mean_X4_noWide : GoodIn wsX4_mean (wsV RX4 177 RX4 yX4_noWide wsX4_noWide) := goodIn_app (goodIn_of _ (by decide +kernel)) ggX4_mean_X4_noWide
theorem dX4_mean_0 : decode cX4_mean 0 = .ok (.iload_n 1, 1) := by decide +kernel
theorem dX4_mean_1 : decode cX4_mean 1 = .ok (.iconst 0, 1) := by decide +kernel
theorem dX4_mean_2 : decode cX4_mean 2 = .ok (.iconst 1, 1) := by decide +kernel
theorem dX4_mean_3 : decode cX4_mean 3 = .ok (.invokestatic 40, 3) := by decide +kernel
theorem dX4_mean_6 : decode cX4_mean 6 = .ok (.ifCond .eq 18, 3) := by decide +kernel
theorem dX4_mean_9 : decode cX4_mean 9 = .ok (.aload_n 0, 1) := by decide +kernel
theorem dX4_mean_10 : decode cX4_mean 10 = .ok (.invokevirtual 185, 3) := by decide +kernel
theorem dX4_mean_13 : decode cX4_mean 13 = .ok (.i2l, 1) := by decide +kernel
theorem dX4_mean_14 : decode cX4_mean 14 = .ok (.ldc2_w 188, 3) := by decide +kernel
theorem dX4_mean_17 : decode cX4_mean 17 = .ok (.iload_n 1, 1) := by decide +kernel
theorem dX4_mean_18 : decode cX4_mean 18 = .ok (.invokestatic 181, 3) := by decide +kernel
theorem dX4_mean_21 : decode cX4_mean 21 = .ok (.goto 9, 3) := by decide +kernel
theorem dX4_mean_24 : decode cX4_mean 24 = .ok (.aload_n 0, 1) := by decide +kernel
theorem dX4_mean_25 : decode cX4_mean 25 = .ok (.bipush (-2), 2) := by decide +kernel
theorem dX4_mean_27 : decode cX4_mean 27 = .ok (.invokevirtual 177, 3) := by decide +kernel
theorem dX4_mean_30 : decode cX4_mean 30 = .ok (.lreturn, 1) := by decide +kernel
set_option maxRecDepth 20000 in
theorem ggX4_whereWas_X4_isThing : GoodIn wsX4_whereWas wsX4_isThing := goodIn_r _ [9, 1, 10, 11, 8, 12, 54, 55, 56, 57, 58, 59, 60, 61, 62, 63, 64, 65, 66] (by decide +kernel) (by decide +kernel)
set_option maxRecDepth 20000 in
theorem gX4_whereWas_X4_isThing : GoodIn wsX4_whereWas (wsV RX4 108 RX4 yX4_isThing wsX4_isThing) := goodIn_app (goodIn_of _ (by decide +kernel)) ggX4_whereWas_X4_isThing
set_option maxRecDepth 20000 in
theorem ggX4_whereWas_X4_isBranch : GoodIn wsX4_whereWas wsX4_isBranch := goodIn_r _ [15, 10, 11, 8, 12] (by decide +kernel) (by decide +kernel)
set_option maxRecDepth 20000 in
theorem gX4_whereWas_X4_isBranch : GoodIn wsX4_whereWas (va_wsS RX4 131 yX4_isBranch wsX4_isBranch) := goodIn_app (goodIn_of _ (by decide +kernel)) ggX4_whereWas_X4_isBranch
set_option maxRecDepth 20000 in
theorem ggX4_whereWas_X4_isIn : GoodIn wsX4_whereWas wsX4_isIn := goodIn_r _ [12] (by decide +kernel) (by decide +kernel)
set_option maxRecDepth 20000 in
theorem gX4_whereWas_X4_isIn : GoodIn wsX4_whereWas (va_wsS RX4 40 yX4_isIn wsX4_isIn) := goodIn_app (goodIn_of _ (by decide +kernel)) ggX4_whereWas_X4_isIn
set_option maxRecDepth 20000 in
theorem ggX4_whereWas_X4_no : GoodIn wsX4_whereWas wsX4_no := goodIn_r _ [19, 20, 54, 55, 56, 57, 58, 59, 60, 61, 62, 63, 64, 65, 66] (by decide +kernel) (by decide +kernel)
set_option maxRecDepth 20000 in
theorem gX4_whereWas_X4_no : GoodIn wsX4_whereWas (wsV RX4 36 RX4 yX4_no wsX4_no) := goodIn_app (goodIn_of _ (by decide +kernel)) ggX4_whereWas_X4_no
set_option maxRecDepth 20000 in
theorem ggX4_whereWas_X4_copies : GoodIn wsX4_whereWas wsX4_copies := goodIn_r _ [23] (by decide +kernel) (by decide +kernel)
set_option maxRecDepth 20000 in
theorem gX4_whereWas_X4_copies : GoodIn wsX4_whereWas (va_wsS RX4 118 yX4_copies wsX4_copies) := goodIn_app (goodIn_of _ (by decide +kernel)) ggX4_whereWas_X4_copies
set_option maxRecDepth 20000 in
theorem ggX4_whereWas_X4_of : GoodIn wsX4_whereWas wsX4_of := goodIn_r _ [26] (by decide +kernel) (by decide +kernel)
set_option maxRecDepth 20000 in
theorem gX4_whereWas_X4_of : GoodIn wsX4_whereWas (va_wsS RX4 44 yX4_of wsX4_of) := goodIn_app (goodIn_of _ (by decide +kernel)) ggX4_whereWas_X4_of
set_option maxRecDepth 20000 in
theorem ggX4_whereWas_X4_verdictIn : GoodIn wsX4_whereWas wsX4_verdictIn := goodIn_r _ [29, 30, 31, 8, 32, 33, 34, 35, 36, 37, 38, 24, 25, 26, 39, 40, 41, 42, 43, 44, 45, 46, 47] (by decide +kernel) (by decide +kernel)
set_option maxRecDepth 20000 in
theorem gX4_whereWas_X4_verdictIn : GoodIn wsX4_whereWas (va_wsS RX4 70 yX4_verdictIn wsX4_verdictIn) := goodIn_app (goodIn_of _ (by decide +kernel)) ggX4_whereWas_X4_verdictIn
set_option maxRecDepth 20000 in
theorem ggX4_whereWas_X4_hour : GoodIn wsX4_whereWas wsX4_hour := goodIn_r _ [50, 24, 25, 8, 26, 51, 52, 53] (by decide +kernel) (by decide +kernel)
set_option maxRecDepth 20000 in
theorem gX4_whereWas_X4_hour : GoodIn wsX4_whereWas (va_wsS RX4 76 yX4_hour wsX4_hour) := goodIn_app (goodIn_of _ (by decide +kernel)) ggX4_whereWas_X4_hour
theorem dX4_whereWas_0 : decode cX4_whereWas 0 = .ok (.aload_n 0, 1) := by decide +kernel
theorem dX4_whereWas_1 : decode cX4_whereWas 1 = .ok (.iload_n 1, 1) := by decide +kernel
theorem dX4_whereWas_2 : decode cX4_whereWas 2 = .ok (.invokevirtual 108, 3) := by decide +kernel
theorem dX4_whereWas_5 : decode cX4_whereWas 5 = .ok (.ifCond .eq 10, 3) := by decide +kernel
theorem dX4_whereWas_8 : decode cX4_whereWas 8 = .ok (.iload_n 2, 1) := by decide +kernel
theorem dX4_whereWas_9 : decode cX4_whereWas 9 = .ok (.invokestatic 131, 3) := by decide +kernel
theorem dX4_whereWas_12 : decode cX4_whereWas 12 = .ok (.ifCond .ne 7, 3) := by decide +kernel
theorem dX4_whereWas_15 : decode cX4_whereWas 15 = .ok (.iconst (-1), 1) := by decide +kernel
theorem dX4_whereWas_16 : decode cX4_whereWas 16 = .ok (.goto 18, 3) := by decide +kernel
theorem dX4_whereWas_19 : decode cX4_whereWas 19 = .ok (.iload_n 3, 1) := by decide +kernel
theorem dX4_whereWas_20 : decode cX4_whereWas 20 = .ok (.iconst 0, 1) := by decide +kernel
theorem dX4_whereWas_21 : decode cX4_whereWas 21 = .ok (.iconst 1, 1) := by decide +kernel
theorem dX4_whereWas_22 : decode cX4_whereWas 22 = .ok (.invokestatic 40, 3) := by decide +kernel
theorem dX4_whereWas_25 : decode cX4_whereWas 25 = .ok (.ifCond .eq 7, 3) := by decide +kernel
theorem dX4_whereWas_28 : decode cX4_whereWas 28 = .ok (.iconst 0, 1) := by decide +kernel
theorem dX4_whereWas_29 : decode cX4_whereWas 29 = .ok (.goto 5, 3) := by decide +kernel
theorem dX4_whereWas_32 : decode cX4_whereWas 32 = .ok (.bipush (-2), 2) := by decide +kernel
theorem dX4_whereWas_34 : decode cX4_whereWas 34 = .ok (.istore 4, 2) := by decide +kernel
theorem dX4_whereWas_36 : decode cX4_whereWas 36 = .ok (.iload 4, 2) := by decide +kernel
theorem dX4_whereWas_38 : decode cX4_whereWas 38 = .ok (.ifCond .eq 10, 3) := by decide +kernel
theorem dX4_whereWas_41 : decode cX4_whereWas 41 = .ok (.aload_n 0, 1) := by decide +kernel
theorem dX4_whereWas_42 : decode cX4_whereWas 42 = .ok (.iload 4, 2) := by decide +kernel
theorem dX4_whereWas_44 : decode cX4_whereWas 44 = .ok (.invokevirtual 36, 3) := by decide +kernel
theorem dX4_whereWas_47 : decode cX4_whereWas 47 = .ok (.ireturn, 1) := by decide +kernel
theorem dX4_whereWas_48 : decode cX4_whereWas 48 = .ok (.iconst 0, 1) := by decide +kernel
theorem dX4_whereWas_49 : decode cX4_whereWas 49 = .ok (.istore 5, 2) := by decide +kernel
theorem dX4_whereWas_51 : decode cX4_whereWas 51 = .ok (.iconst 0, 1) := by decide +kernel
theorem dX4_whereWas_52 : decode cX4_whereWas 52 = .ok (.istore 6, 2) := by decide +kernel
theorem dX4_whereWas_54 : decode cX4_whereWas 54 = .ok (.iload 6, 2) := by decide +kernel
theorem dX4_whereWas_56 : decode cX4_whereWas 56 = .ok (.iload_n 3, 1) := by decide +kernel
theorem dX4_whereWas_57 : decode cX4_whereWas 57 = .ok (.ifCond .ne 8, 3) := by decide +kernel
theorem dX4_whereWas_60 : decode cX4_whereWas 60 = .ok (.bipush 16, 2) := by decide +kernel
theorem dX4_whereWas_62 : decode cX4_whereWas 62 = .ok (.goto 5, 3) := by decide +kernel
theorem dX4_whereWas_65 : decode cX4_whereWas 65 = .ok (.bipush 6, 2) := by decide +kernel
theorem dX4_whereWas_67 : decode cX4_whereWas 67 = .ok (.if_icmp .ge 114, 3) := by decide +kernel
theorem dX4_whereWas_70 : decode cX4_whereWas 70 = .ok (.iconst 1, 1) := by decide +kernel
theorem dX4_whereWas_71 : decode cX4_whereWas 71 = .ok (.istore 7, 2) := by decide +kernel
theorem dX4_whereWas_73 : decode cX4_whereWas 73 = .ok (.aload_n 0, 1) := by decide +kernel
theorem dX4_whereWas_74 : decode cX4_whereWas 74 = .ok (.getfield 9, 3) := by decide +kernel
theorem dX4_whereWas_77 : decode cX4_whereWas 77 = .ok (.aload_n 0, 1) := by decide +kernel
theorem dX4_whereWas_78 : decode cX4_whereWas 78 = .ok (.getfield 13, 3) := by decide +kernel
theorem dX4_whereWas_81 : decode cX4_whereWas 81 = .ok (.invokestatic 118, 3) := by decide +kernel
theorem dX4_whereWas_84 : decode cX4_whereWas 84 = .ok (.aload_n 0, 1) := by decide +kernel
theorem dX4_whereWas_85 : decode cX4_whereWas 85 = .ok (.getfield 13, 3) := by decide +kernel
theorem dX4_whereWas_88 : decode cX4_whereWas 88 = .ok (.iload_n 1, 1) := by decide +kernel
theorem dX4_whereWas_89 : decode cX4_whereWas 89 = .ok (.iload_n 3, 1) := by decide +kernel
theorem dX4_whereWas_90 : decode cX4_whereWas 90 = .ok (.ifCond .ne 7, 3) := by decide +kernel
theorem dX4_whereWas_93 : decode cX4_whereWas 93 = .ok (.iconst 2, 1) := by decide +kernel
theorem dX4_whereWas_94 : decode cX4_whereWas 94 = .ok (.goto 4, 3) := by decide +kernel
theorem dX4_whereWas_97 : decode cX4_whereWas 97 = .ok (.iconst 0, 1) := by decide +kernel
theorem dX4_whereWas_98 : decode cX4_whereWas 98 = .ok (.invokestatic 44, 3) := by decide +kernel
theorem dX4_whereWas_101 : decode cX4_whereWas 101 = .ok (.iload 6, 2) := by decide +kernel
theorem dX4_whereWas_103 : decode cX4_whereWas 103 = .ok (.iastore, 1) := by decide +kernel
theorem dX4_whereWas_104 : decode cX4_whereWas 104 = .ok (.iconst 0, 1) := by decide +kernel
theorem dX4_whereWas_105 : decode cX4_whereWas 105 = .ok (.istore 8, 2) := by decide +kernel
theorem dX4_whereWas_107 : decode cX4_whereWas 107 = .ok (.iload 8, 2) := by decide +kernel
theorem dX4_whereWas_109 : decode cX4_whereWas 109 = .ok (.aload_n 0, 1) := by decide +kernel
theorem dX4_whereWas_110 : decode cX4_whereWas 110 = .ok (.getfield 190, 3) := by decide +kernel
theorem dX4_whereWas_113 : decode cX4_whereWas 113 = .ok (.if_icmp .ge 44, 3) := by decide +kernel
theorem dX4_whereWas_116 : decode cX4_whereWas 116 = .ok (.iload 7, 2) := by decide +kernel
theorem dX4_whereWas_118 : decode cX4_whereWas 118 = .ok (.aload_n 0, 1) := by decide +kernel
theorem dX4_whereWas_119 : decode cX4_whereWas 119 = .ok (.getfield 13, 3) := by decide +kernel
theorem dX4_whereWas_122 : decode cX4_whereWas 122 = .ok (.iload_n 2, 1) := by decide +kernel
theorem dX4_whereWas_123 : decode cX4_whereWas 123 = .ok (.invokestatic 70, 3) := by decide +kernel
theorem dX4_whereWas_126 : decode cX4_whereWas 126 = .ok (.aload_n 0, 1) := by decide +kernel
theorem dX4_whereWas_127 : decode cX4_whereWas 127 = .ok (.getfield 25, 3) := by decide +kernel
theorem dX4_whereWas_130 : decode cX4_whereWas 130 = .ok (.iload 8, 2) := by decide +kernel
theorem dX4_whereWas_132 : decode cX4_whereWas 132 = .ok (.iaload, 1) := by decide +kernel
theorem dX4_whereWas_133 : decode cX4_whereWas 133 = .ok (.if_icmp .ne 7, 3) := by decide +kernel
theorem dX4_whereWas_136 : decode cX4_whereWas 136 = .ok (.iconst 1, 1) := by decide +kernel
theorem dX4_whereWas_137 : decode cX4_whereWas 137 = .ok (.goto 4, 3) := by decide +kernel
theorem dX4_whereWas_140 : decode cX4_whereWas 140 = .ok (.iconst 0, 1) := by decide +kernel
theorem dX4_whereWas_141 : decode cX4_whereWas 141 = .ok (.iand, 1) := by decide +kernel
theorem dX4_whereWas_142 : decode cX4_whereWas 142 = .ok (.istore 7, 2) := by decide +kernel
theorem dX4_whereWas_144 : decode cX4_whereWas 144 = .ok (.aload_n 0, 1) := by decide +kernel
theorem dX4_whereWas_145 : decode cX4_whereWas 145 = .ok (.getfield 13, 3) := by decide +kernel
theorem dX4_whereWas_148 : decode cX4_whereWas 148 = .ok (.invokestatic 76, 3) := by decide +kernel
theorem dX4_whereWas_151 : decode cX4_whereWas 151 = .ok (.iinc 8 1, 3) := by decide +kernel
theorem dX4_whereWas_154 : decode cX4_whereWas 154 = .ok (.goto (-47), 3) := by decide +kernel
theorem dX4_whereWas_157 : decode cX4_whereWas 157 = .ok (.iload 5, 2) := by decide +kernel
theorem dX4_whereWas_159 : decode cX4_whereWas 159 = .ok (.iload 7, 2) := by decide +kernel
theorem dX4_whereWas_161 : decode cX4_whereWas 161 = .ok (.ifCond .eq 10, 3) := by decide +kernel
theorem dX4_whereWas_164 : decode cX4_whereWas 164 = .ok (.iconst 1, 1) := by decide +kernel
theorem dX4_whereWas_165 : decode cX4_whereWas 165 = .ok (.iload 6, 2) := by decide +kernel
theorem dX4_whereWas_167 : decode cX4_whereWas 167 = .ok (.ishl, 1) := by decide +kernel
theorem dX4_whereWas_168 : decode cX4_whereWas 168 = .ok (.goto 4, 3) := by decide +kernel
theorem dX4_whereWas_171 : decode cX4_whereWas 171 = .ok (.iconst 0, 1) := by decide +kernel
theorem dX4_whereWas_172 : decode cX4_whereWas 172 = .ok (.ior, 1) := by decide +kernel
theorem dX4_whereWas_173 : decode cX4_whereWas 173 = .ok (.istore 5, 2) := by decide +kernel
theorem dX4_whereWas_175 : decode cX4_whereWas 175 = .ok (.iinc 6 1, 3) := by decide +kernel
theorem dX4_whereWas_178 : decode cX4_whereWas 178 = .ok (.goto (-124), 3) := by decide +kernel
theorem dX4_whereWas_181 : decode cX4_whereWas 181 = .ok (.iload 5, 2) := by decide +kernel
theorem dX4_whereWas_183 : decode cX4_whereWas 183 = .ok (.ireturn, 1) := by decide +kernel
set_option maxRecDepth 20000 in
theorem ggX4_row_X4_wrongBy : GoodIn wsX4_row wsX4_wrongBy := goodIn_r _ [6] (by decide +kernel) (by decide +kernel)
set_option maxRecDepth 20000 in
theorem gX4_row_X4_wrongBy : GoodIn wsX4_row (va_wsS RX4 125 yX4_wrongBy wsX4_wrongBy) := goodIn_app (goodIn_of _ (by decide +kernel)) ggX4_row_X4_wrongBy
set_option maxRecDepth 20000 in
theorem ggX4_row_X4_no : GoodIn wsX4_row wsX4_no := goodIn_r _ [10, 11, 12, 13, 14, 15, 16, 17, 18, 19, 20, 21, 22, 23, 24] (by decide +kernel) (by decide +kernel)
set_option maxRecDepth 20000 in
theorem gX4_row_X4_no : GoodIn wsX4_row (wsV RX4 36 RX4 yX4_no wsX4_no) := goodIn_app (goodIn_of _ (by decide +kernel)) ggX4_row_X4_no
theorem dX4_row_0 : decode cX4_row 0 = .ok (.iload_n 1, 1) := by decide +kernel
theorem dX4_row_1 : decode cX4_row 1 = .ok (.iconst 0, 1) := by decide +kernel
theorem dX4_row_2 : decode cX4_row 2 = .ok (.bipush 99, 2) := by decide +kernel
theorem dX4_row_4 : decode cX4_row 4 = .ok (.invokestatic 125, 3) := by decide +kernel
theorem dX4_row_7 : decode cX4_row 7 = .ok (.istore_n 2, 1) := by decide +kernel
theorem dX4_row_8 : decode cX4_row 8 = .ok (.iload_n 2, 1) := by decide +kernel
theorem dX4_row_9 : decode cX4_row 9 = .ok (.ifCond .ne 15, 3) := by decide +kernel
theorem dX4_row_12 : decode cX4_row 12 = .ok (.aload_n 0, 1) := by decide +kernel
theorem dX4_row_13 : decode cX4_row 13 = .ok (.getfield 190, 3) := by decide +kernel
theorem dX4_row_16 : decode cX4_row 16 = .ok (.bipush 16, 2) := by decide +kernel
theorem dX4_row_18 : decode cX4_row 18 = .ok (.if_icmp .ne 6, 3) := by decide +kernel
theorem dX4_row_21 : decode cX4_row 21 = .ok (.bipush (-6), 2) := by decide +kernel
theorem dX4_row_23 : decode cX4_row 23 = .ok (.istore_n 2, 1) := by decide +kernel
theorem dX4_row_24 : decode cX4_row 24 = .ok (.iload_n 2, 1) := by decide +kernel
theorem dX4_row_25 : decode cX4_row 25 = .ok (.ifCond .eq 9, 3) := by decide +kernel
theorem dX4_row_28 : decode cX4_row 28 = .ok (.aload_n 0, 1) := by decide +kernel
theorem dX4_row_29 : decode cX4_row 29 = .ok (.iload_n 2, 1) := by decide +kernel
theorem dX4_row_30 : decode cX4_row 30 = .ok (.invokevirtual 36, 3) := by decide +kernel
theorem dX4_row_33 : decode cX4_row 33 = .ok (.ireturn, 1) := by decide +kernel
theorem dX4_row_34 : decode cX4_row 34 = .ok (.aload_n 0, 1) := by decide +kernel
theorem dX4_row_35 : decode cX4_row 35 = .ok (.getfield 25, 3) := by decide +kernel
theorem dX4_row_38 : decode cX4_row 38 = .ok (.aload_n 0, 1) := by decide +kernel
theorem dX4_row_39 : decode cX4_row 39 = .ok (.getfield 190, 3) := by decide +kernel
theorem dX4_row_42 : decode cX4_row 42 = .ok (.iload_n 1, 1) := by decide +kernel
theorem dX4_row_43 : decode cX4_row 43 = .ok (.iastore, 1) := by decide +kernel
theorem dX4_row_44 : decode cX4_row 44 = .ok (.aload_n 0, 1) := by decide +kernel
theorem dX4_row_45 : decode cX4_row 45 = .ok (.dup, 1) := by decide +kernel
theorem dX4_row_46 : decode cX4_row 46 = .ok (.getfield 190, 3) := by decide +kernel
theorem dX4_row_49 : decode cX4_row 49 = .ok (.iconst 1, 1) := by decide +kernel
theorem dX4_row_50 : decode cX4_row 50 = .ok (.iadd, 1) := by decide +kernel
theorem dX4_row_51 : decode cX4_row 51 = .ok (.putfield 190, 3) := by decide +kernel
theorem dX4_row_54 : decode cX4_row 54 = .ok (.aload_n 0, 1) := by decide +kernel
theorem dX4_row_55 : decode cX4_row 55 = .ok (.getfield 190, 3) := by decide +kernel
theorem dX4_row_58 : decode cX4_row 58 = .ok (.ireturn, 1) := by decide +kernel
theorem dX4_judge_0 : decode cX4_judge 0 = .ok (.aload_n 0, 1) := by decide +kernel
theorem dX4_judge_1 : decode cX4_judge 1 = .ok (.getfield 190, 3) := by decide +kernel
theorem dX4_judge_4 : decode cX4_judge 4 = .ok (.istore_n 1, 1) := by decide +kernel
theorem dX4_judge_5 : decode cX4_judge 5 = .ok (.aload_n 0, 1) := by decide +kernel
theorem dX4_judge_6 : decode cX4_judge 6 = .ok (.iconst 0, 1) := by decide +kernel
theorem dX4_judge_7 : decode cX4_judge 7 = .ok (.putfield 190, 3) := by decide +kernel
theorem dX4_judge_10 : decode cX4_judge 10 = .ok (.iconst 0, 1) := by decide +kernel
theorem dX4_judge_11 : decode cX4_judge 11 = .ok (.istore_n 2, 1) := by decide +kernel
theorem dX4_judge_12 : decode cX4_judge 12 = .ok (.iload_n 2, 1) := by decide +kernel
theorem dX4_judge_13 : decode cX4_judge 13 = .ok (.iload_n 1, 1) := by decide +kernel
theorem dX4_judge_14 : decode cX4_judge 14 = .ok (.if_icmp .ge 28, 3) := by decide +kernel
theorem dX4_judge_17 : decode cX4_judge 17 = .ok (.aload_n 0, 1) := by decide +kernel
theorem dX4_judge_18 : decode cX4_judge 18 = .ok (.getfield 9, 3) := by decide +kernel
theorem dX4_judge_21 : decode cX4_judge 21 = .ok (.iconst 4, 1) := by decide +kernel
theorem dX4_judge_22 : decode cX4_judge 22 = .ok (.iload_n 2, 1) := by decide +kernel
theorem dX4_judge_23 : decode cX4_judge 23 = .ok (.iadd, 1) := by decide +kernel
theorem dX4_judge_24 : decode cX4_judge 24 = .ok (.iaload, 1) := by decide +kernel
theorem dX4_judge_25 : decode cX4_judge 25 = .ok (.aload_n 0, 1) := by decide +kernel
theorem dX4_judge_26 : decode cX4_judge 26 = .ok (.getfield 25, 3) := by decide +kernel
theorem dX4_judge_29 : decode cX4_judge 29 = .ok (.iload_n 2, 1) := by decide +kernel
theorem dX4_judge_30 : decode cX4_judge 30 = .ok (.iaload, 1) := by decide +kernel
theorem dX4_judge_31 : decode cX4_judge 31 = .ok (.if_icmp .eq 5, 3) := by decide +kernel
theorem dX4_judge_34 : decode cX4_judge 34 = .ok (.iload_n 2, 1) := by decide +kernel
theorem dX4_judge_35 : decode cX4_judge 35 = .ok (.ireturn, 1) := by decide +kernel
theorem dX4_judge_36 : decode cX4_judge 36 = .ok (.iinc 2 1, 3) := by decide +kernel
theorem dX4_judge_39 : decode cX4_judge 39 = .ok (.goto (-27), 3) := by decide +kernel
theorem dX4_judge_42 : decode cX4_judge 42 = .ok (.bipush (-9), 2) := by decide +kernel
theorem dX4_judge_44 : decode cX4_judge 44 = .ok (.ireturn, 1) := by decide +kernel
theorem dX4_clear_0 : decode cX4_clear 0 = .ok (.aload_n 0, 1) := by decide +kernel
theorem dX4_clear_1 : decode cX4_clear 1 = .ok (.getfield 190, 3) := by decide +kernel
theorem dX4_clear_4 : decode cX4_clear 4 = .ok (.istore_n 1, 1) := by decide +kernel
theorem dX4_clear_5 : decode cX4_clear 5 = .ok (.aload_n 0, 1) := by decide +kernel
theorem dX4_clear_6 : decode cX4_clear 6 = .ok (.iconst 0, 1) := by decide +kernel
theorem dX4_clear_7 : decode cX4_clear 7 = .ok (.putfield 190, 3) := by decide +kernel
theorem dX4_clear_10 : decode cX4_clear 10 = .ok (.iload_n 1, 1) := by decide +kernel
theorem dX4_clear_11 : decode cX4_clear 11 = .ok (.ireturn, 1) := by decide +kernel
theorem dX4_drawn_0 : decode cX4_drawn 0 = .ok (.aload_n 0, 1) := by decide +kernel
theorem dX4_drawn_1 : decode cX4_drawn 1 = .ok (.aload_n 0, 1) := by decide +kernel
theorem dX4_drawn_2 : decode cX4_drawn 2 = .ok (.getfield 193, 3) := by decide +kernel
theorem dX4_drawn_5 : decode cX4_drawn 5 = .ok (.ldc 196, 2) := by decide +kernel
theorem dX4_drawn_7 : decode cX4_drawn 7 = .ok (.imul, 1) := by decide +kernel
theorem dX4_drawn_8 : decode cX4_drawn 8 = .ok (.ldc 197, 2) := by decide +kernel
theorem dX4_drawn_10 : decode cX4_drawn 10 = .ok (.iadd, 1) := by decide +kernel
theorem dX4_drawn_11 : decode cX4_drawn 11 = .ok (.putfield 193, 3) := by decide +kernel
theorem dX4_drawn_14 : decode cX4_drawn 14 = .ok (.aload_n 0, 1) := by decide +kernel
theorem dX4_drawn_15 : decode cX4_drawn 15 = .ok (.getfield 193, 3) := by decide +kernel
theorem dX4_drawn_18 : decode cX4_drawn 18 = .ok (.ldc 198, 2) := by decide +kernel
theorem dX4_drawn_20 : decode cX4_drawn 20 = .ok (.iand, 1) := by decide +kernel
theorem dX4_drawn_21 : decode cX4_drawn 21 = .ok (.sipush 256, 3) := by decide +kernel
theorem dX4_drawn_24 : decode cX4_drawn 24 = .ok (.idiv, 1) := by decide +kernel
theorem dX4_drawn_25 : decode cX4_drawn 25 = .ok (.iload_n 1, 1) := by decide +kernel
theorem dX4_drawn_26 : decode cX4_drawn 26 = .ok (.irem, 1) := by decide +kernel
theorem dX4_drawn_27 : decode cX4_drawn 27 = .ok (.ireturn, 1) := by decide +kernel
set_option maxRecDepth 20000 in
theorem ggX4_lots_X4_no : GoodIn wsX4_lots wsX4_no := goodIn_r _ [8, 9, 50, 51, 52, 53, 54, 55, 56, 57, 58, 59, 60, 61, 62] (by decide +kernel) (by decide +kernel)
set_option maxRecDepth 20000 in
theorem gX4_lots_X4_no : GoodIn wsX4_lots (wsV RX4 36 RX4 yX4_no wsX4_no) := goodIn_app (goodIn_of _ (by decide +kernel)) ggX4_lots_X4_no
set_option maxRecDepth 20000 in
theorem ggX4_lots_X4_isIn : GoodIn wsX4_lots wsX4_isIn := goodIn_r _ [12] (by decide +kernel) (by decide +kernel)
set_option maxRecDepth 20000 in
theorem gX4_lots_X4_isIn : GoodIn wsX4_lots (va_wsS RX4 40 yX4_isIn wsX4_isIn) := goodIn_app (goodIn_of _ (by decide +kernel)) ggX4_lots_X4_isIn
set_option maxRecDepth 20000 in
theorem ggX4_lots_X4_copies : GoodIn wsX4_lots wsX4_copies := goodIn_r _ [15] (by decide +kernel) (by decide +kernel)
set_option maxRecDepth 20000 in
theorem gX4_lots_X4_copies : GoodIn wsX4_lots (va_wsS RX4 118 yX4_copies wsX4_copies) := goodIn_app (goodIn_of _ (by decide +kernel)) ggX4_lots_X4_copies
set_option maxRecDepth 20000 in
theorem ggX4_lots_X4_of : GoodIn wsX4_lots wsX4_of := goodIn_r _ [18] (by decide +kernel) (by decide +kernel)
set_option maxRecDepth 20000 in
theorem gX4_lots_X4_of : GoodIn wsX4_lots (va_wsS RX4 44 yX4_of wsX4_of) := goodIn_app (goodIn_of _ (by decide +kernel)) ggX4_lots_X4_of
set_option maxRecDepth 20000 in
theorem ggX4_lots_X4_drawn : GoodIn wsX4_lots wsX4_drawn := goodIn_r _ [22, 1, 23, 24, 25, 50, 51, 52, 53, 54, 55, 56, 57, 58, 59, 60, 61, 62] (by decide +kernel) (by decide +kernel)
set_option maxRecDepth 20000 in
theorem gX4_lots_X4_drawn : GoodIn wsX4_lots (wsV RX4 199 RX4 yX4_drawn wsX4_drawn) := goodIn_app (goodIn_of _ (by decide +kernel)) ggX4_lots_X4_drawn
set_option maxRecDepth 20000 in
theorem ggX4_lots_X4_seenIn : GoodIn wsX4_lots wsX4_seenIn := goodIn_r _ [28, 29, 30, 7, 31, 16, 17, 18, 32, 33, 34, 35, 36, 37, 38, 39, 40] (by decide +kernel) (by decide +kernel)
set_option maxRecDepth 20000 in
theorem gX4_lots_X4_seenIn : GoodIn wsX4_lots (va_wsS RX4 64 yX4_seenIn wsX4_seenIn) := goodIn_app (goodIn_of _ (by decide +kernel)) ggX4_lots_X4_seenIn
set_option maxRecDepth 20000 in
theorem ggX4_lots_X4_bits : GoodIn wsX4_lots wsX4_bits := goodIn_r _ [43] (by decide +kernel) (by decide +kernel)
set_option maxRecDepth 20000 in
theorem gX4_lots_X4_bits : GoodIn wsX4_lots (va_wsS RX4 147 yX4_bits wsX4_bits) := goodIn_app (goodIn_of _ (by decide +kernel)) ggX4_lots_X4_bits
set_option maxRecDepth 20000 in
theorem ggX4_lots_X4_verdictIn : GoodIn wsX4_lots wsX4_verdictIn := goodIn_r _ [46, 47, 48, 7, 49, 26, 27, 28, 29, 30, 31, 16, 17, 18, 32, 33, 34, 35, 36, 37, 38, 39, 40] (by decide +kernel) (by decide +kernel)
set_option maxRecDepth 20000 in
theorem gX4_lots_X4_verdictIn : GoodIn wsX4_lots (va_wsS RX4 70 yX4_verdictIn wsX4_verdictIn) := goodIn_app (goodIn_of _ (by decide +kernel)) ggX4_lots_X4_verdictIn
theorem dX4_lots_0 : decode cX4_lots 0 = .ok (.iload_n 1, 1) := by decide +kernel
theorem dX4_lots_1 : decode cX4_lots 1 = .ok (.iconst 1, 1) := by decide +kernel
theorem dX4_lots_2 : decode cX4_lots 2 = .ok (.if_icmp .ge 10, 3) := by decide +kernel
theorem dX4_lots_5 : decode cX4_lots 5 = .ok (.aload_n 0, 1) := by decide +kernel
theorem dX4_lots_6 : decode cX4_lots 6 = .ok (.bipush (-4), 2) := by decide +kernel
theorem dX4_lots_8 : decode cX4_lots 8 = .ok (.invokevirtual 36, 3) := by decide +kernel
theorem dX4_lots_11 : decode cX4_lots 11 = .ok (.ireturn, 1) := by decide +kernel
theorem dX4_lots_12 : decode cX4_lots 12 = .ok (.iload_n 1, 1) := by decide +kernel
theorem dX4_lots_13 : decode cX4_lots 13 = .ok (.bipush 20, 2) := by decide +kernel
theorem dX4_lots_15 : decode cX4_lots 15 = .ok (.if_icmp .le 10, 3) := by decide +kernel
theorem dX4_lots_18 : decode cX4_lots 18 = .ok (.aload_n 0, 1) := by decide +kernel
theorem dX4_lots_19 : decode cX4_lots 19 = .ok (.bipush (-6), 2) := by decide +kernel
theorem dX4_lots_21 : decode cX4_lots 21 = .ok (.invokevirtual 36, 3) := by decide +kernel
theorem dX4_lots_24 : decode cX4_lots 24 = .ok (.ireturn, 1) := by decide +kernel
theorem dX4_lots_25 : decode cX4_lots 25 = .ok (.iload_n 3, 1) := by decide +kernel
theorem dX4_lots_26 : decode cX4_lots 26 = .ok (.iconst 0, 1) := by decide +kernel
theorem dX4_lots_27 : decode cX4_lots 27 = .ok (.iconst 1, 1) := by decide +kernel
theorem dX4_lots_28 : decode cX4_lots 28 = .ok (.invokestatic 40, 3) := by decide +kernel
theorem dX4_lots_31 : decode cX4_lots 31 = .ok (.ifCond .ne 10, 3) := by decide +kernel
theorem dX4_lots_34 : decode cX4_lots 34 = .ok (.aload_n 0, 1) := by decide +kernel
theorem dX4_lots_35 : decode cX4_lots 35 = .ok (.bipush (-2), 2) := by decide +kernel
theorem dX4_lots_37 : decode cX4_lots 37 = .ok (.invokevirtual 36, 3) := by decide +kernel
theorem dX4_lots_40 : decode cX4_lots 40 = .ok (.ireturn, 1) := by decide +kernel
theorem dX4_lots_41 : decode cX4_lots 41 = .ok (.aload_n 0, 1) := by decide +kernel
theorem dX4_lots_42 : decode cX4_lots 42 = .ok (.iload_n 2, 1) := by decide +kernel
theorem dX4_lots_43 : decode cX4_lots 43 = .ok (.putfield 193, 3) := by decide +kernel
theorem dX4_lots_46 : decode cX4_lots 46 = .ok (.iconst 0, 1) := by decide +kernel
theorem dX4_lots_47 : decode cX4_lots 47 = .ok (.istore 4, 2) := by decide +kernel
theorem dX4_lots_49 : decode cX4_lots 49 = .ok (.iconst 0, 1) := by decide +kernel
theorem dX4_lots_50 : decode cX4_lots 50 = .ok (.istore 5, 2) := by decide +kernel
theorem dX4_lots_52 : decode cX4_lots 52 = .ok (.iload 5, 2) := by decide +kernel
theorem dX4_lots_54 : decode cX4_lots 54 = .ok (.iload_n 1, 1) := by decide +kernel
theorem dX4_lots_55 : decode cX4_lots 55 = .ok (.if_icmp .ge 108, 3) := by decide +kernel
theorem dX4_lots_58 : decode cX4_lots 58 = .ok (.aload_n 0, 1) := by decide +kernel
theorem dX4_lots_59 : decode cX4_lots 59 = .ok (.getfield 9, 3) := by decide +kernel
theorem dX4_lots_62 : decode cX4_lots 62 = .ok (.aload_n 0, 1) := by decide +kernel
theorem dX4_lots_63 : decode cX4_lots 63 = .ok (.getfield 13, 3) := by decide +kernel
theorem dX4_lots_66 : decode cX4_lots 66 = .ok (.invokestatic 118, 3) := by decide +kernel
theorem dX4_lots_69 : decode cX4_lots 69 = .ok (.iconst 0, 1) := by decide +kernel
theorem dX4_lots_70 : decode cX4_lots 70 = .ok (.istore 6, 2) := by decide +kernel
theorem dX4_lots_72 : decode cX4_lots 72 = .ok (.iload 6, 2) := by decide +kernel
theorem dX4_lots_74 : decode cX4_lots 74 = .ok (.aload_n 0, 1) := by decide +kernel
theorem dX4_lots_75 : decode cX4_lots 75 = .ok (.getfield 9, 3) := by decide +kernel
theorem dX4_lots_78 : decode cX4_lots 78 = .ok (.iconst 0, 1) := by decide +kernel
theorem dX4_lots_79 : decode cX4_lots 79 = .ok (.iaload, 1) := by decide +kernel
theorem dX4_lots_80 : decode cX4_lots 80 = .ok (.if_icmp .ge 26, 3) := by decide +kernel
theorem dX4_lots_83 : decode cX4_lots 83 = .ok (.aload_n 0, 1) := by decide +kernel
theorem dX4_lots_84 : decode cX4_lots 84 = .ok (.getfield 13, 3) := by decide +kernel
theorem dX4_lots_87 : decode cX4_lots 87 = .ok (.iload 6, 2) := by decide +kernel
theorem dX4_lots_89 : decode cX4_lots 89 = .ok (.iconst 2, 1) := by decide +kernel
theorem dX4_lots_90 : decode cX4_lots 90 = .ok (.invokestatic 44, 3) := by decide +kernel
theorem dX4_lots_93 : decode cX4_lots 93 = .ok (.aload_n 0, 1) := by decide +kernel
theorem dX4_lots_94 : decode cX4_lots 94 = .ok (.bipush 16, 2) := by decide +kernel
