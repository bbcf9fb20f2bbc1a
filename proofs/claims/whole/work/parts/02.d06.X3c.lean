set_option maxRecDepth 20000 in
theorem gX3_gainBehind_J6_bitCount_0f7a4 : GoodIn wsX3_gainBehind (va_wsS RX3 199 yJ6_bitCount_0f7a4 wsJ6_bitCount_0f7a4) := goodIn_app (goodIn_of _ (by decide +kernel)) ggX3_gainBehind_J6_bitCount_0f7a4
theorem dX3_gainBehind_0 : decode cX3_gainBehind 0 = .ok (.aload_n 0, 1) := by decide +kernel
theorem dX3_gainBehind_1 : decode cX3_gainBehind 1 = .ok (.invokevirtual 66, 3) := by decide +kernel
theorem dX3_gainBehind_4 : decode cX3_gainBehind 4 = .ok (.astore 6, 2) := by decide +kernel
theorem dX3_gainBehind_6 : decode cX3_gainBehind 6 = .ok (.aload 6, 2) := by decide +kernel
theorem dX3_gainBehind_8 : decode cX3_gainBehind 8 = .ok (.iload_n 2, 1) := by decide +kernel
theorem dX3_gainBehind_9 : decode cX3_gainBehind 9 = .ok (.iload_n 3, 1) := by decide +kernel
theorem dX3_gainBehind_10 : decode cX3_gainBehind 10 = .ok (.invokevirtual 294, 3) := by decide +kernel
theorem dX3_gainBehind_13 : decode cX3_gainBehind 13 = .ok (.aload 6, 2) := by decide +kernel
theorem dX3_gainBehind_15 : decode cX3_gainBehind 15 = .ok (.iload 4, 2) := by decide +kernel
theorem dX3_gainBehind_17 : decode cX3_gainBehind 17 = .ok (.iload 5, 2) := by decide +kernel
theorem dX3_gainBehind_19 : decode cX3_gainBehind 19 = .ok (.invokevirtual 294, 3) := by decide +kernel
theorem dX3_gainBehind_22 : decode cX3_gainBehind 22 = .ok (.aload 6, 2) := by decide +kernel
theorem dX3_gainBehind_24 : decode cX3_gainBehind 24 = .ok (.iload_n 1, 1) := by decide +kernel
theorem dX3_gainBehind_25 : decode cX3_gainBehind 25 = .ok (.invokevirtual 160, 3) := by decide +kernel
theorem dX3_gainBehind_28 : decode cX3_gainBehind 28 = .ok (.aload 6, 2) := by decide +kernel
theorem dX3_gainBehind_30 : decode cX3_gainBehind 30 = .ok (.iconst 1, 1) := by decide +kernel
theorem dX3_gainBehind_31 : decode cX3_gainBehind 31 = .ok (.invokevirtual 192, 3) := by decide +kernel
theorem dX3_gainBehind_34 : decode cX3_gainBehind 34 = .ok (.invokestatic 199, 3) := by decide +kernel
theorem dX3_gainBehind_37 : decode cX3_gainBehind 37 = .ok (.aload 6, 2) := by decide +kernel
theorem dX3_gainBehind_39 : decode cX3_gainBehind 39 = .ok (.iconst 2, 1) := by decide +kernel
theorem dX3_gainBehind_40 : decode cX3_gainBehind 40 = .ok (.invokevirtual 192, 3) := by decide +kernel
theorem dX3_gainBehind_43 : decode cX3_gainBehind 43 = .ok (.invokestatic 199, 3) := by decide +kernel
theorem dX3_gainBehind_46 : decode cX3_gainBehind 46 = .ok (.isub, 1) := by decide +kernel
theorem dX3_gainBehind_47 : decode cX3_gainBehind 47 = .ok (.ireturn, 1) := by decide +kernel
theorem dX3_firstPairAtRest_0 : decode cX3_firstPairAtRest 0 = .ok (.iconst 0, 1) := by decide +kernel
theorem dX3_firstPairAtRest_1 : decode cX3_firstPairAtRest 1 = .ok (.istore_n 1, 1) := by decide +kernel
theorem dX3_firstPairAtRest_2 : decode cX3_firstPairAtRest 2 = .ok (.iload_n 1, 1) := by decide +kernel
theorem dX3_firstPairAtRest_3 : decode cX3_firstPairAtRest 3 = .ok (.iconst 1, 1) := by decide +kernel
theorem dX3_firstPairAtRest_4 : decode cX3_firstPairAtRest 4 = .ok (.if_icmp .gt 66, 3) := by decide +kernel
theorem dX3_firstPairAtRest_7 : decode cX3_firstPairAtRest 7 = .ok (.iconst 0, 1) := by decide +kernel
theorem dX3_firstPairAtRest_8 : decode cX3_firstPairAtRest 8 = .ok (.istore_n 2, 1) := by decide +kernel
theorem dX3_firstPairAtRest_9 : decode cX3_firstPairAtRest 9 = .ok (.iload_n 2, 1) := by decide +kernel
theorem dX3_firstPairAtRest_10 : decode cX3_firstPairAtRest 10 = .ok (.iconst 1, 1) := by decide +kernel
theorem dX3_firstPairAtRest_11 : decode cX3_firstPairAtRest 11 = .ok (.if_icmp .gt 53, 3) := by decide +kernel
theorem dX3_firstPairAtRest_14 : decode cX3_firstPairAtRest 14 = .ok (.aload_n 0, 1) := by decide +kernel
theorem dX3_firstPairAtRest_15 : decode cX3_firstPairAtRest 15 = .ok (.getfield 52, 3) := by decide +kernel
theorem dX3_firstPairAtRest_18 : decode cX3_firstPairAtRest 18 = .ok (.iload_n 1, 1) := by decide +kernel
theorem dX3_firstPairAtRest_19 : decode cX3_firstPairAtRest 19 = .ok (.aaload, 1) := by decide +kernel
theorem dX3_firstPairAtRest_20 : decode cX3_firstPairAtRest 20 = .ok (.iload_n 2, 1) := by decide +kernel
theorem dX3_firstPairAtRest_21 : decode cX3_firstPairAtRest 21 = .ok (.iaload, 1) := by decide +kernel
theorem dX3_firstPairAtRest_22 : decode cX3_firstPairAtRest 22 = .ok (.istore_n 3, 1) := by decide +kernel
theorem dX3_firstPairAtRest_23 : decode cX3_firstPairAtRest 23 = .ok (.iload_n 3, 1) := by decide +kernel
theorem dX3_firstPairAtRest_24 : decode cX3_firstPairAtRest 24 = .ok (.aload_n 0, 1) := by decide +kernel
theorem dX3_firstPairAtRest_25 : decode cX3_firstPairAtRest 25 = .ok (.getfield 52, 3) := by decide +kernel
theorem dX3_firstPairAtRest_28 : decode cX3_firstPairAtRest 28 = .ok (.iconst 1, 1) := by decide +kernel
theorem dX3_firstPairAtRest_29 : decode cX3_firstPairAtRest 29 = .ok (.iload_n 1, 1) := by decide +kernel
theorem dX3_firstPairAtRest_30 : decode cX3_firstPairAtRest 30 = .ok (.isub, 1) := by decide +kernel
theorem dX3_firstPairAtRest_31 : decode cX3_firstPairAtRest 31 = .ok (.aaload, 1) := by decide +kernel
theorem dX3_firstPairAtRest_32 : decode cX3_firstPairAtRest 32 = .ok (.iload_n 2, 1) := by decide +kernel
theorem dX3_firstPairAtRest_33 : decode cX3_firstPairAtRest 33 = .ok (.iaload, 1) := by decide +kernel
theorem dX3_firstPairAtRest_34 : decode cX3_firstPairAtRest 34 = .ok (.if_icmp .lt 24, 3) := by decide +kernel
theorem dX3_firstPairAtRest_37 : decode cX3_firstPairAtRest 37 = .ok (.iload_n 3, 1) := by decide +kernel
theorem dX3_firstPairAtRest_38 : decode cX3_firstPairAtRest 38 = .ok (.aload_n 0, 1) := by decide +kernel
theorem dX3_firstPairAtRest_39 : decode cX3_firstPairAtRest 39 = .ok (.getfield 52, 3) := by decide +kernel
theorem dX3_firstPairAtRest_42 : decode cX3_firstPairAtRest 42 = .ok (.iload_n 1, 1) := by decide +kernel
theorem dX3_firstPairAtRest_43 : decode cX3_firstPairAtRest 43 = .ok (.aaload, 1) := by decide +kernel
theorem dX3_firstPairAtRest_44 : decode cX3_firstPairAtRest 44 = .ok (.iconst 1, 1) := by decide +kernel
theorem dX3_firstPairAtRest_45 : decode cX3_firstPairAtRest 45 = .ok (.iload_n 2, 1) := by decide +kernel
theorem dX3_firstPairAtRest_46 : decode cX3_firstPairAtRest 46 = .ok (.isub, 1) := by decide +kernel
theorem dX3_firstPairAtRest_47 : decode cX3_firstPairAtRest 47 = .ok (.iaload, 1) := by decide +kernel
theorem dX3_firstPairAtRest_48 : decode cX3_firstPairAtRest 48 = .ok (.if_icmp .gt 10, 3) := by decide +kernel
theorem dX3_firstPairAtRest_51 : decode cX3_firstPairAtRest 51 = .ok (.bipush 10, 2) := by decide +kernel
theorem dX3_firstPairAtRest_53 : decode cX3_firstPairAtRest 53 = .ok (.iload_n 1, 1) := by decide +kernel
theorem dX3_firstPairAtRest_54 : decode cX3_firstPairAtRest 54 = .ok (.imul, 1) := by decide +kernel
theorem dX3_firstPairAtRest_55 : decode cX3_firstPairAtRest 55 = .ok (.iload_n 2, 1) := by decide +kernel
theorem dX3_firstPairAtRest_56 : decode cX3_firstPairAtRest 56 = .ok (.iadd, 1) := by decide +kernel
theorem dX3_firstPairAtRest_57 : decode cX3_firstPairAtRest 57 = .ok (.ireturn, 1) := by decide +kernel
theorem dX3_firstPairAtRest_58 : decode cX3_firstPairAtRest 58 = .ok (.iinc 2 1, 3) := by decide +kernel
theorem dX3_firstPairAtRest_61 : decode cX3_firstPairAtRest 61 = .ok (.goto (-52), 3) := by decide +kernel
theorem dX3_firstPairAtRest_64 : decode cX3_firstPairAtRest 64 = .ok (.iinc 1 1, 3) := by decide +kernel
theorem dX3_firstPairAtRest_67 : decode cX3_firstPairAtRest 67 = .ok (.goto (-65), 3) := by decide +kernel
theorem dX3_firstPairAtRest_70 : decode cX3_firstPairAtRest 70 = .ok (.bipush (-9), 2) := by decide +kernel
theorem dX3_firstPairAtRest_72 : decode cX3_firstPairAtRest 72 = .ok (.ireturn, 1) := by decide +kernel
theorem dX3_weighMists_0 : decode cX3_weighMists 0 = .ok (.iconst 0, 1) := by decide +kernel
theorem dX3_weighMists_1 : decode cX3_weighMists 1 = .ok (.istore_n 3, 1) := by decide +kernel
theorem dX3_weighMists_2 : decode cX3_weighMists 2 = .ok (.iload_n 3, 1) := by decide +kernel
theorem dX3_weighMists_3 : decode cX3_weighMists 3 = .ok (.bipush 7, 2) := by decide +kernel
theorem dX3_weighMists_5 : decode cX3_weighMists 5 = .ok (.if_icmp .gt 24, 3) := by decide +kernel
theorem dX3_weighMists_8 : decode cX3_weighMists 8 = .ok (.aload_n 0, 1) := by decide +kernel
theorem dX3_weighMists_9 : decode cX3_weighMists 9 = .ok (.getfield 46, 3) := by decide +kernel
theorem dX3_weighMists_12 : decode cX3_weighMists 12 = .ok (.iload_n 3, 1) := by decide +kernel
theorem dX3_weighMists_13 : decode cX3_weighMists 13 = .ok (.iload_n 3, 1) := by decide +kernel
theorem dX3_weighMists_14 : decode cX3_weighMists 14 = .ok (.ifCond .ne 7, 3) := by decide +kernel
theorem dX3_weighMists_17 : decode cX3_weighMists 17 = .ok (.lconst 1, 1) := by decide +kernel
theorem dX3_weighMists_18 : decode cX3_weighMists 18 = .ok (.goto 4, 3) := by decide +kernel
theorem dX3_weighMists_21 : decode cX3_weighMists 21 = .ok (.lconst 0, 1) := by decide +kernel
theorem dX3_weighMists_22 : decode cX3_weighMists 22 = .ok (.lastore, 1) := by decide +kernel
theorem dX3_weighMists_23 : decode cX3_weighMists 23 = .ok (.iinc 3 1, 3) := by decide +kernel
theorem dX3_weighMists_26 : decode cX3_weighMists 26 = .ok (.goto (-24), 3) := by decide +kernel
theorem dX3_weighMists_29 : decode cX3_weighMists 29 = .ok (.lconst 1, 1) := by decide +kernel
theorem dX3_weighMists_30 : decode cX3_weighMists 30 = .ok (.lstore_n 3, 1) := by decide +kernel
theorem dX3_weighMists_31 : decode cX3_weighMists 31 = .ok (.iconst 0, 1) := by decide +kernel
theorem dX3_weighMists_32 : decode cX3_weighMists 32 = .ok (.istore 5, 2) := by decide +kernel
theorem dX3_weighMists_34 : decode cX3_weighMists 34 = .ok (.iload 5, 2) := by decide +kernel
theorem dX3_weighMists_36 : decode cX3_weighMists 36 = .ok (.iload_n 1, 1) := by decide +kernel
theorem dX3_weighMists_37 : decode cX3_weighMists 37 = .ok (.if_icmp .ge 71, 3) := by decide +kernel
theorem dX3_weighMists_40 : decode cX3_weighMists 40 = .ok (.bipush 7, 2) := by decide +kernel
theorem dX3_weighMists_42 : decode cX3_weighMists 42 = .ok (.istore 6, 2) := by decide +kernel
theorem dX3_weighMists_44 : decode cX3_weighMists 44 = .ok (.iload 6, 2) := by decide +kernel
theorem dX3_weighMists_46 : decode cX3_weighMists 46 = .ok (.ifCond .le 38, 3) := by decide +kernel
theorem dX3_weighMists_49 : decode cX3_weighMists 49 = .ok (.aload_n 0, 1) := by decide +kernel
theorem dX3_weighMists_50 : decode cX3_weighMists 50 = .ok (.getfield 46, 3) := by decide +kernel
theorem dX3_weighMists_53 : decode cX3_weighMists 53 = .ok (.iload 6, 2) := by decide +kernel
theorem dX3_weighMists_55 : decode cX3_weighMists 55 = .ok (.aload_n 0, 1) := by decide +kernel
theorem dX3_weighMists_56 : decode cX3_weighMists 56 = .ok (.getfield 46, 3) := by decide +kernel
theorem dX3_weighMists_59 : decode cX3_weighMists 59 = .ok (.iload 6, 2) := by decide +kernel
theorem dX3_weighMists_61 : decode cX3_weighMists 61 = .ok (.laload, 1) := by decide +kernel
theorem dX3_weighMists_62 : decode cX3_weighMists 62 = .ok (.iload_n 2, 1) := by decide +kernel
theorem dX3_weighMists_63 : decode cX3_weighMists 63 = .ok (.iconst 1, 1) := by decide +kernel
theorem dX3_weighMists_64 : decode cX3_weighMists 64 = .ok (.isub, 1) := by decide +kernel
theorem dX3_weighMists_65 : decode cX3_weighMists 65 = .ok (.i2l, 1) := by decide +kernel
theorem dX3_weighMists_66 : decode cX3_weighMists 66 = .ok (.lmul, 1) := by decide +kernel
theorem dX3_weighMists_67 : decode cX3_weighMists 67 = .ok (.aload_n 0, 1) := by decide +kernel
theorem dX3_weighMists_68 : decode cX3_weighMists 68 = .ok (.getfield 46, 3) := by decide +kernel
theorem dX3_weighMists_71 : decode cX3_weighMists 71 = .ok (.iload 6, 2) := by decide +kernel
theorem dX3_weighMists_73 : decode cX3_weighMists 73 = .ok (.iconst 1, 1) := by decide +kernel
theorem dX3_weighMists_74 : decode cX3_weighMists 74 = .ok (.isub, 1) := by decide +kernel
theorem dX3_weighMists_75 : decode cX3_weighMists 75 = .ok (.laload, 1) := by decide +kernel
theorem dX3_weighMists_76 : decode cX3_weighMists 76 = .ok (.ladd, 1) := by decide +kernel
theorem dX3_weighMists_77 : decode cX3_weighMists 77 = .ok (.lastore, 1) := by decide +kernel
theorem dX3_weighMists_78 : decode cX3_weighMists 78 = .ok (.iinc 6 (-1), 3) := by decide +kernel
theorem dX3_weighMists_81 : decode cX3_weighMists 81 = .ok (.goto (-37), 3) := by decide +kernel
theorem dX3_weighMists_84 : decode cX3_weighMists 84 = .ok (.aload_n 0, 1) := by decide +kernel
theorem dX3_weighMists_85 : decode cX3_weighMists 85 = .ok (.getfield 46, 3) := by decide +kernel
theorem dX3_weighMists_88 : decode cX3_weighMists 88 = .ok (.iconst 0, 1) := by decide +kernel
theorem dX3_weighMists_89 : decode cX3_weighMists 89 = .ok (.dup2, 1) := by decide +kernel
theorem dX3_weighMists_90 : decode cX3_weighMists 90 = .ok (.laload, 1) := by decide +kernel
theorem dX3_weighMists_91 : decode cX3_weighMists 91 = .ok (.iload_n 2, 1) := by decide +kernel
theorem dX3_weighMists_92 : decode cX3_weighMists 92 = .ok (.iconst 1, 1) := by decide +kernel
theorem dX3_weighMists_93 : decode cX3_weighMists 93 = .ok (.isub, 1) := by decide +kernel
theorem dX3_weighMists_94 : decode cX3_weighMists 94 = .ok (.i2l, 1) := by decide +kernel
theorem dX3_weighMists_95 : decode cX3_weighMists 95 = .ok (.lmul, 1) := by decide +kernel
theorem dX3_weighMists_96 : decode cX3_weighMists 96 = .ok (.lastore, 1) := by decide +kernel
theorem dX3_weighMists_97 : decode cX3_weighMists 97 = .ok (.lload_n 3, 1) := by decide +kernel
theorem dX3_weighMists_98 : decode cX3_weighMists 98 = .ok (.iload_n 2, 1) := by decide +kernel
theorem dX3_weighMists_99 : decode cX3_weighMists 99 = .ok (.i2l, 1) := by decide +kernel
theorem dX3_weighMists_100 : decode cX3_weighMists 100 = .ok (.lmul, 1) := by decide +kernel
theorem dX3_weighMists_101 : decode cX3_weighMists 101 = .ok (.lstore_n 3, 1) := by decide +kernel
theorem dX3_weighMists_102 : decode cX3_weighMists 102 = .ok (.iinc 5 1, 3) := by decide +kernel
theorem dX3_weighMists_105 : decode cX3_weighMists 105 = .ok (.goto (-71), 3) := by decide +kernel
theorem dX3_weighMists_108 : decode cX3_weighMists 108 = .ok (.lload_n 3, 1) := by decide +kernel
theorem dX3_weighMists_109 : decode cX3_weighMists 109 = .ok (.lreturn, 1) := by decide +kernel
set_option maxRecDepth 20000 in
theorem ggX3_goesByRow_X0_verdictFrom : GoodIn wsX3_goesByRow wsX0_verdictFrom := goodIn_r _ [7, 8, 9, 10, 6, 11, 12, 13, 14, 15, 16, 17, 18, 19, 20, 21, 22, 23, 24, 25, 26, 27, 28, 29, 30, 31, 32, 33, 34, 35, 36, 37, 38, 39, 40, 41, 42, 43, 44, 45, 46, 47, 48, 49, 50, 51, 52, 53, 54, 55, 56, 57, 58, 59, 60, 61, 89, 90, 91, 92, 93, 94, 95, 96, 97, 98, 99] (by decide +kernel) (by decide +kernel)
set_option maxRecDepth 20000 in
theorem gX3_goesByRow_X0_verdictFrom : GoodIn wsX3_goesByRow (wsV RX3 169 RX0 yX0_verdictFrom wsX0_verdictFrom) := goodIn_app (goodIn_of _ (by decide +kernel)) ggX3_goesByRow_X0_verdictFrom
set_option maxRecDepth 20000 in
theorem ggX3_goesByRow_X0_passHours : GoodIn wsX3_goesByRow wsX0_passHours := goodIn_r _ [65, 34, 12, 66, 67, 68, 6, 69, 32, 33, 70, 71, 72, 73, 74, 75, 76, 17, 89, 90, 91, 92, 93, 94, 95, 96, 97, 98, 99] (by decide +kernel) (by decide +kernel)
set_option maxRecDepth 20000 in
theorem gX3_goesByRow_X0_passHours : GoodIn wsX3_goesByRow (wsV RX3 160 RX0 yX0_passHours wsX0_passHours) := goodIn_app (goodIn_of _ (by decide +kernel)) ggX3_goesByRow_X0_passHours
theorem dX3_goesByRow_0 : decode cX3_goesByRow 0 = .ok (.iconst 0, 1) := by decide +kernel
theorem dX3_goesByRow_1 : decode cX3_goesByRow 1 = .ok (.istore_n 3, 1) := by decide +kernel
theorem dX3_goesByRow_2 : decode cX3_goesByRow 2 = .ok (.iload_n 3, 1) := by decide +kernel
theorem dX3_goesByRow_3 : decode cX3_goesByRow 3 = .ok (.aload_n 0, 1) := by decide +kernel
theorem dX3_goesByRow_4 : decode cX3_goesByRow 4 = .ok (.getfield 261, 3) := by decide +kernel
theorem dX3_goesByRow_7 : decode cX3_goesByRow 7 = .ok (.if_icmp .ge 30, 3) := by decide +kernel
theorem dX3_goesByRow_10 : decode cX3_goesByRow 10 = .ok (.aload_n 1, 1) := by decide +kernel
theorem dX3_goesByRow_11 : decode cX3_goesByRow 11 = .ok (.iload_n 2, 1) := by decide +kernel
theorem dX3_goesByRow_12 : decode cX3_goesByRow 12 = .ok (.invokevirtual 169, 3) := by decide +kernel
theorem dX3_goesByRow_15 : decode cX3_goesByRow 15 = .ok (.aload_n 0, 1) := by decide +kernel
theorem dX3_goesByRow_16 : decode cX3_goesByRow 16 = .ok (.getfield 36, 3) := by decide +kernel
theorem dX3_goesByRow_19 : decode cX3_goesByRow 19 = .ok (.iload_n 3, 1) := by decide +kernel
theorem dX3_goesByRow_20 : decode cX3_goesByRow 20 = .ok (.iaload, 1) := by decide +kernel
theorem dX3_goesByRow_21 : decode cX3_goesByRow 21 = .ok (.if_icmp .eq 5, 3) := by decide +kernel
theorem dX3_goesByRow_24 : decode cX3_goesByRow 24 = .ok (.iconst 0, 1) := by decide +kernel
theorem dX3_goesByRow_25 : decode cX3_goesByRow 25 = .ok (.ireturn, 1) := by decide +kernel
theorem dX3_goesByRow_26 : decode cX3_goesByRow 26 = .ok (.aload_n 1, 1) := by decide +kernel
theorem dX3_goesByRow_27 : decode cX3_goesByRow 27 = .ok (.iconst 1, 1) := by decide +kernel
theorem dX3_goesByRow_28 : decode cX3_goesByRow 28 = .ok (.invokevirtual 160, 3) := by decide +kernel
theorem dX3_goesByRow_31 : decode cX3_goesByRow 31 = .ok (.iinc 3 1, 3) := by decide +kernel
theorem dX3_goesByRow_34 : decode cX3_goesByRow 34 = .ok (.goto (-32), 3) := by decide +kernel
theorem dX3_goesByRow_37 : decode cX3_goesByRow 37 = .ok (.iconst 1, 1) := by decide +kernel
theorem dX3_goesByRow_38 : decode cX3_goesByRow 38 = .ok (.ireturn, 1) := by decide +kernel
set_option maxRecDepth 20000 in
theorem ggX3_firstHeightNotSo_X3_isCell : GoodIn wsX3_firstHeightNotSo wsX3_isCell := goodIn_r _ [8, 9, 10, 7, 11] (by decide +kernel) (by decide +kernel)
set_option maxRecDepth 20000 in
theorem gX3_firstHeightNotSo_X3_isCell : GoodIn wsX3_firstHeightNotSo (va_wsS RX3 115 yX3_isCell wsX3_isCell) := goodIn_app (goodIn_of _ (by decide +kernel)) ggX3_firstHeightNotSo_X3_isCell
theorem dX3_firstHeightNotSo_0 : decode cX3_firstHeightNotSo 0 = .ok (.iconst 0, 1) := by decide +kernel
theorem dX3_firstHeightNotSo_1 : decode cX3_firstHeightNotSo 1 = .ok (.istore_n 1, 1) := by decide +kernel
theorem dX3_firstHeightNotSo_2 : decode cX3_firstHeightNotSo 2 = .ok (.iload_n 1, 1) := by decide +kernel
theorem dX3_firstHeightNotSo_3 : decode cX3_firstHeightNotSo 3 = .ok (.aload_n 0, 1) := by decide +kernel
theorem dX3_firstHeightNotSo_4 : decode cX3_firstHeightNotSo 4 = .ok (.getfield 261, 3) := by decide +kernel
theorem dX3_firstHeightNotSo_7 : decode cX3_firstHeightNotSo 7 = .ok (.if_icmp .ge 36, 3) := by decide +kernel
theorem dX3_firstHeightNotSo_10 : decode cX3_firstHeightNotSo 10 = .ok (.iload_n 1, 1) := by decide +kernel
theorem dX3_firstHeightNotSo_11 : decode cX3_firstHeightNotSo 11 = .ok (.invokestatic 115, 3) := by decide +kernel
theorem dX3_firstHeightNotSo_14 : decode cX3_firstHeightNotSo 14 = .ok (.ifCond .eq 21, 3) := by decide +kernel
theorem dX3_firstHeightNotSo_17 : decode cX3_firstHeightNotSo 17 = .ok (.aload_n 0, 1) := by decide +kernel
theorem dX3_firstHeightNotSo_18 : decode cX3_firstHeightNotSo 18 = .ok (.getfield 10, 3) := by decide +kernel
theorem dX3_firstHeightNotSo_21 : decode cX3_firstHeightNotSo 21 = .ok (.getfield 118, 3) := by decide +kernel
theorem dX3_firstHeightNotSo_24 : decode cX3_firstHeightNotSo 24 = .ok (.iload_n 1, 1) := by decide +kernel
theorem dX3_firstHeightNotSo_25 : decode cX3_firstHeightNotSo 25 = .ok (.iaload, 1) := by decide +kernel
theorem dX3_firstHeightNotSo_26 : decode cX3_firstHeightNotSo 26 = .ok (.aload_n 0, 1) := by decide +kernel
theorem dX3_firstHeightNotSo_27 : decode cX3_firstHeightNotSo 27 = .ok (.getfield 36, 3) := by decide +kernel
theorem dX3_firstHeightNotSo_30 : decode cX3_firstHeightNotSo 30 = .ok (.iload_n 1, 1) := by decide +kernel
theorem dX3_firstHeightNotSo_31 : decode cX3_firstHeightNotSo 31 = .ok (.iaload, 1) := by decide +kernel
theorem dX3_firstHeightNotSo_32 : decode cX3_firstHeightNotSo 32 = .ok (.if_icmp .eq 5, 3) := by decide +kernel
theorem dX3_firstHeightNotSo_35 : decode cX3_firstHeightNotSo 35 = .ok (.iload_n 1, 1) := by decide +kernel
theorem dX3_firstHeightNotSo_36 : decode cX3_firstHeightNotSo 36 = .ok (.ireturn, 1) := by decide +kernel
theorem dX3_firstHeightNotSo_37 : decode cX3_firstHeightNotSo 37 = .ok (.iinc 1 1, 3) := by decide +kernel
theorem dX3_firstHeightNotSo_40 : decode cX3_firstHeightNotSo 40 = .ok (.goto (-38), 3) := by decide +kernel
theorem dX3_firstHeightNotSo_43 : decode cX3_firstHeightNotSo 43 = .ok (.bipush (-9), 2) := by decide +kernel
theorem dX3_firstHeightNotSo_45 : decode cX3_firstHeightNotSo 45 = .ok (.ireturn, 1) := by decide +kernel
theorem dX3_isWithin_0 : decode cX3_isWithin 0 = .ok (.iload_n 0, 1) := by decide +kernel
theorem dX3_isWithin_1 : decode cX3_isWithin 1 = .ok (.iload_n 1, 1) := by decide +kernel
theorem dX3_isWithin_2 : decode cX3_isWithin 2 = .ok (.if_icmp .lt 12, 3) := by decide +kernel
theorem dX3_isWithin_5 : decode cX3_isWithin 5 = .ok (.iload_n 0, 1) := by decide +kernel
theorem dX3_isWithin_6 : decode cX3_isWithin 6 = .ok (.iload_n 2, 1) := by decide +kernel
theorem dX3_isWithin_7 : decode cX3_isWithin 7 = .ok (.if_icmp .gt 7, 3) := by decide +kernel
theorem dX3_isWithin_10 : decode cX3_isWithin 10 = .ok (.iconst 1, 1) := by decide +kernel
theorem dX3_isWithin_11 : decode cX3_isWithin 11 = .ok (.goto 4, 3) := by decide +kernel
theorem dX3_isWithin_14 : decode cX3_isWithin 14 = .ok (.iconst 0, 1) := by decide +kernel
theorem dX3_isWithin_15 : decode cX3_isWithin 15 = .ok (.ireturn, 1) := by decide +kernel
set_option maxRecDepth 20000 in
theorem ggX3_isCell_X3_isWithin : GoodIn wsX3_isCell wsX3_isWithin := goodIn_r _ [4] (by decide +kernel) (by decide +kernel)
set_option maxRecDepth 20000 in
theorem gX3_isCell_X3_isWithin : GoodIn wsX3_isCell (va_wsS RX3 133 yX3_isWithin wsX3_isWithin) := goodIn_app (goodIn_of _ (by decide +kernel)) ggX3_isCell_X3_isWithin
theorem dX3_isCell_0 : decode cX3_isCell 0 = .ok (.iload_n 0, 1) := by decide +kernel
theorem dX3_isCell_1 : decode cX3_isCell 1 = .ok (.iconst 0, 1) := by decide +kernel
theorem dX3_isCell_2 : decode cX3_isCell 2 = .ok (.bipush 15, 2) := by decide +kernel
theorem dX3_isCell_4 : decode cX3_isCell 4 = .ok (.invokestatic 133, 3) := by decide +kernel
theorem dX3_isCell_7 : decode cX3_isCell 7 = .ok (.ireturn, 1) := by decide +kernel
set_option maxRecDepth 20000 in
theorem ggX3_isBranch_X3_isWithin : GoodIn wsX3_isBranch wsX3_isWithin := goodIn_r _ [4] (by decide +kernel) (by decide +kernel)
set_option maxRecDepth 20000 in
theorem gX3_isBranch_X3_isWithin : GoodIn wsX3_isBranch (va_wsS RX3 133 yX3_isWithin wsX3_isWithin) := goodIn_app (goodIn_of _ (by decide +kernel)) ggX3_isBranch_X3_isWithin
theorem dX3_isBranch_0 : decode cX3_isBranch 0 = .ok (.iload_n 0, 1) := by decide +kernel
theorem dX3_isBranch_1 : decode cX3_isBranch 1 = .ok (.iconst 0, 1) := by decide +kernel
theorem dX3_isBranch_2 : decode cX3_isBranch 2 = .ok (.bipush 9, 2) := by decide +kernel
theorem dX3_isBranch_4 : decode cX3_isBranch 4 = .ok (.invokestatic 133, 3) := by decide +kernel
theorem dX3_isBranch_7 : decode cX3_isBranch 7 = .ok (.ireturn, 1) := by decide +kernel
set_option maxRecDepth 20000 in
theorem ggX3_isKind_X3_isWithin : GoodIn wsX3_isKind wsX3_isWithin := goodIn_r _ [4] (by decide +kernel) (by decide +kernel)
set_option maxRecDepth 20000 in
theorem gX3_isKind_X3_isWithin : GoodIn wsX3_isKind (va_wsS RX3 133 yX3_isWithin wsX3_isWithin) := goodIn_app (goodIn_of _ (by decide +kernel)) ggX3_isKind_X3_isWithin
theorem dX3_isKind_0 : decode cX3_isKind 0 = .ok (.iload_n 0, 1) := by decide +kernel
theorem dX3_isKind_1 : decode cX3_isKind 1 = .ok (.iconst 0, 1) := by decide +kernel
theorem dX3_isKind_2 : decode cX3_isKind 2 = .ok (.iconst 5, 1) := by decide +kernel
theorem dX3_isKind_3 : decode cX3_isKind 3 = .ok (.invokestatic 133, 3) := by decide +kernel
theorem dX3_isKind_6 : decode cX3_isKind 6 = .ok (.ireturn, 1) := by decide +kernel
set_option maxRecDepth 20000 in
theorem ggX3_isVerdict_X3_isWithin : GoodIn wsX3_isVerdict wsX3_isWithin := goodIn_r _ [4] (by decide +kernel) (by decide +kernel)
set_option maxRecDepth 20000 in
theorem gX3_isVerdict_X3_isWithin : GoodIn wsX3_isVerdict (va_wsS RX3 133 yX3_isWithin wsX3_isWithin) := goodIn_app (goodIn_of _ (by decide +kernel)) ggX3_isVerdict_X3_isWithin
theorem dX3_isVerdict_0 : decode cX3_isVerdict 0 = .ok (.iload_n 0, 1) := by decide +kernel
theorem dX3_isVerdict_1 : decode cX3_isVerdict 1 = .ok (.iconst 0, 1) := by decide +kernel
theorem dX3_isVerdict_2 : decode cX3_isVerdict 2 = .ok (.iconst 2, 1) := by decide +kernel
theorem dX3_isVerdict_3 : decode cX3_isVerdict 3 = .ok (.invokestatic 133, 3) := by decide +kernel
theorem dX3_isVerdict_6 : decode cX3_isVerdict 6 = .ok (.ireturn, 1) := by decide +kernel
set_option maxRecDepth 20000 in
theorem ggX3_isEither_X3_isWithin : GoodIn wsX3_isEither wsX3_isWithin := goodIn_r _ [4] (by decide +kernel) (by decide +kernel)
set_option maxRecDepth 20000 in
theorem gX3_isEither_X3_isWithin : GoodIn wsX3_isEither (va_wsS RX3 133 yX3_isWithin wsX3_isWithin) := goodIn_app (goodIn_of _ (by decide +kernel)) ggX3_isEither_X3_isWithin
theorem dX3_isEither_0 : decode cX3_isEither 0 = .ok (.iload_n 0, 1) := by decide +kernel
theorem dX3_isEither_1 : decode cX3_isEither 1 = .ok (.iconst 0, 1) := by decide +kernel
theorem dX3_isEither_2 : decode cX3_isEither 2 = .ok (.iconst 1, 1) := by decide +kernel
theorem dX3_isEither_3 : decode cX3_isEither 3 = .ok (.invokestatic 133, 3) := by decide +kernel
theorem dX3_isEither_6 : decode cX3_isEither 6 = .ok (.ireturn, 1) := by decide +kernel
theorem dX3_sumOf_0 : decode cX3_sumOf 0 = .ok (.iconst 0, 1) := by decide +kernel
theorem dX3_sumOf_1 : decode cX3_sumOf 1 = .ok (.istore_n 1, 1) := by decide +kernel
theorem dX3_sumOf_2 : decode cX3_sumOf 2 = .ok (.aload_n 0, 1) := by decide +kernel
theorem dX3_sumOf_3 : decode cX3_sumOf 3 = .ok (.astore_n 2, 1) := by decide +kernel
theorem dX3_sumOf_4 : decode cX3_sumOf 4 = .ok (.aload_n 2, 1) := by decide +kernel
theorem dX3_sumOf_5 : decode cX3_sumOf 5 = .ok (.arraylength, 1) := by decide +kernel
theorem dX3_sumOf_6 : decode cX3_sumOf 6 = .ok (.istore_n 3, 1) := by decide +kernel
theorem dX3_sumOf_7 : decode cX3_sumOf 7 = .ok (.iconst 0, 1) := by decide +kernel
theorem dX3_sumOf_8 : decode cX3_sumOf 8 = .ok (.istore 4, 2) := by decide +kernel
theorem dX3_sumOf_10 : decode cX3_sumOf 10 = .ok (.iload 4, 2) := by decide +kernel
theorem dX3_sumOf_12 : decode cX3_sumOf 12 = .ok (.iload_n 3, 1) := by decide +kernel
theorem dX3_sumOf_13 : decode cX3_sumOf 13 = .ok (.if_icmp .ge 20, 3) := by decide +kernel
theorem dX3_sumOf_16 : decode cX3_sumOf 16 = .ok (.aload_n 2, 1) := by decide +kernel
theorem dX3_sumOf_17 : decode cX3_sumOf 17 = .ok (.iload 4, 2) := by decide +kernel
theorem dX3_sumOf_19 : decode cX3_sumOf 19 = .ok (.iaload, 1) := by decide +kernel
theorem dX3_sumOf_20 : decode cX3_sumOf 20 = .ok (.istore 5, 2) := by decide +kernel
theorem dX3_sumOf_22 : decode cX3_sumOf 22 = .ok (.iload_n 1, 1) := by decide +kernel
theorem dX3_sumOf_23 : decode cX3_sumOf 23 = .ok (.iload 5, 2) := by decide +kernel
theorem dX3_sumOf_25 : decode cX3_sumOf 25 = .ok (.iadd, 1) := by decide +kernel
theorem dX3_sumOf_26 : decode cX3_sumOf 26 = .ok (.istore_n 1, 1) := by decide +kernel
theorem dX3_sumOf_27 : decode cX3_sumOf 27 = .ok (.iinc 4 1, 3) := by decide +kernel
theorem dX3_sumOf_30 : decode cX3_sumOf 30 = .ok (.goto (-20), 3) := by decide +kernel
theorem dX3_sumOf_33 : decode cX3_sumOf 33 = .ok (.iload_n 1, 1) := by decide +kernel
theorem dX3_sumOf_34 : decode cX3_sumOf 34 = .ok (.ireturn, 1) := by decide +kernel
set_option maxRecDepth 20000 in
theorem ggX3_partOf_X3_commonDivisor : GoodIn wsX3_partOf wsX3_commonDivisor := goodIn_r _ [4] (by decide +kernel) (by decide +kernel)
set_option maxRecDepth 20000 in
theorem gX3_partOf_X3_commonDivisor : GoodIn wsX3_partOf (va_wsS RX3 297 yX3_commonDivisor wsX3_commonDivisor) := goodIn_app (goodIn_of _ (by decide +kernel)) ggX3_partOf_X3_commonDivisor
theorem dX3_partOf_0 : decode cX3_partOf 0 = .ok (.lload_n 0, 1) := by decide +kernel
theorem dX3_partOf_1 : decode cX3_partOf 1 = .ok (.lload_n 2, 1) := by decide +kernel
theorem dX3_partOf_2 : decode cX3_partOf 2 = .ok (.invokestatic 297, 3) := by decide +kernel
theorem dX3_partOf_5 : decode cX3_partOf 5 = .ok (.lstore 5, 2) := by decide +kernel
theorem dX3_partOf_7 : decode cX3_partOf 7 = .ok (.iload 4, 2) := by decide +kernel
theorem dX3_partOf_9 : decode cX3_partOf 9 = .ok (.ifCond .ne 7, 3) := by decide +kernel
theorem dX3_partOf_12 : decode cX3_partOf 12 = .ok (.lload_n 0, 1) := by decide +kernel
theorem dX3_partOf_13 : decode cX3_partOf 13 = .ok (.goto 4, 3) := by decide +kernel
theorem dX3_partOf_16 : decode cX3_partOf 16 = .ok (.lload_n 2, 1) := by decide +kernel
theorem dX3_partOf_17 : decode cX3_partOf 17 = .ok (.lstore 7, 2) := by decide +kernel
theorem dX3_partOf_19 : decode cX3_partOf 19 = .ok (.lload 5, 2) := by decide +kernel
theorem dX3_partOf_21 : decode cX3_partOf 21 = .ok (.lconst 0, 1) := by decide +kernel
theorem dX3_partOf_22 : decode cX3_partOf 22 = .ok (.lcmp, 1) := by decide +kernel
theorem dX3_partOf_23 : decode cX3_partOf 23 = .ok (.ifCond .ne 8, 3) := by decide +kernel
theorem dX3_partOf_26 : decode cX3_partOf 26 = .ok (.lload 7, 2) := by decide +kernel
theorem dX3_partOf_28 : decode cX3_partOf 28 = .ok (.goto 8, 3) := by decide +kernel
theorem dX3_partOf_31 : decode cX3_partOf 31 = .ok (.lload 7, 2) := by decide +kernel
theorem dX3_partOf_33 : decode cX3_partOf 33 = .ok (.lload 5, 2) := by decide +kernel
theorem dX3_partOf_35 : decode cX3_partOf 35 = .ok (.ldiv, 1) := by decide +kernel
theorem dX3_partOf_36 : decode cX3_partOf 36 = .ok (.lreturn, 1) := by decide +kernel
theorem dX3_commonDivisor_0 : decode cX3_commonDivisor 0 = .ok (.lload_n 0, 1) := by decide +kernel
theorem dX3_commonDivisor_1 : decode cX3_commonDivisor 1 = .ok (.lstore 4, 2) := by decide +kernel
theorem dX3_commonDivisor_3 : decode cX3_commonDivisor 3 = .ok (.lload_n 2, 1) := by decide +kernel
theorem dX3_commonDivisor_4 : decode cX3_commonDivisor 4 = .ok (.lstore 6, 2) := by decide +kernel
theorem dX3_commonDivisor_6 : decode cX3_commonDivisor 6 = .ok (.iconst 0, 1) := by decide +kernel
theorem dX3_commonDivisor_7 : decode cX3_commonDivisor 7 = .ok (.istore 8, 2) := by decide +kernel
theorem dX3_commonDivisor_9 : decode cX3_commonDivisor 9 = .ok (.iload 8, 2) := by decide +kernel
theorem dX3_commonDivisor_11 : decode cX3_commonDivisor 11 = .ok (.bipush 100, 2) := by decide +kernel
theorem dX3_commonDivisor_13 : decode cX3_commonDivisor 13 = .ok (.if_icmp .ge 31, 3) := by decide +kernel
theorem dX3_commonDivisor_16 : decode cX3_commonDivisor 16 = .ok (.lload 6, 2) := by decide +kernel
theorem dX3_commonDivisor_18 : decode cX3_commonDivisor 18 = .ok (.lconst 0, 1) := by decide +kernel
theorem dX3_commonDivisor_19 : decode cX3_commonDivisor 19 = .ok (.lcmp, 1) := by decide +kernel
theorem dX3_commonDivisor_20 : decode cX3_commonDivisor 20 = .ok (.ifCond .eq 24, 3) := by decide +kernel
theorem dX3_commonDivisor_23 : decode cX3_commonDivisor 23 = .ok (.lload 4, 2) := by decide +kernel
theorem dX3_commonDivisor_25 : decode cX3_commonDivisor 25 = .ok (.lload 6, 2) := by decide +kernel
theorem dX3_commonDivisor_27 : decode cX3_commonDivisor 27 = .ok (.lrem, 1) := by decide +kernel
theorem dX3_commonDivisor_28 : decode cX3_commonDivisor 28 = .ok (.lstore 9, 2) := by decide +kernel
theorem dX3_commonDivisor_30 : decode cX3_commonDivisor 30 = .ok (.lload 6, 2) := by decide +kernel
theorem dX3_commonDivisor_32 : decode cX3_commonDivisor 32 = .ok (.lstore 4, 2) := by decide +kernel
theorem dX3_commonDivisor_34 : decode cX3_commonDivisor 34 = .ok (.lload 9, 2) := by decide +kernel
theorem dX3_commonDivisor_36 : decode cX3_commonDivisor 36 = .ok (.lstore 6, 2) := by decide +kernel
theorem dX3_commonDivisor_38 : decode cX3_commonDivisor 38 = .ok (.iinc 8 1, 3) := by decide +kernel
theorem dX3_commonDivisor_41 : decode cX3_commonDivisor 41 = .ok (.goto (-32), 3) := by decide +kernel
theorem dX3_commonDivisor_44 : decode cX3_commonDivisor 44 = .ok (.lload 4, 2) := by decide +kernel
theorem dX3_commonDivisor_46 : decode cX3_commonDivisor 46 = .ok (.lreturn, 1) := by decide +kernel
