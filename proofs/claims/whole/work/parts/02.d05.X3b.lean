set_option maxRecDepth 20000 in
theorem gX3_hill_X3_isEither : GoodIn wsX3_hill (va_wsS RX3 124 yX3_isEither wsX3_isEither) := goodIn_app (goodIn_of _ (by decide +kernel)) ggX3_hill_X3_isEither
set_option maxRecDepth 20000 in
theorem ggX3_hill_X3_cellToLevel : GoodIn wsX3_hill wsX3_cellToLevel := goodIn_r _ [19, 20, 21, 22, 23, 24, 25, 26, 27, 28, 29, 30, 31, 32, 33, 34, 35, 36, 37, 38, 39, 40, 41, 42, 43, 44, 45, 46, 47, 48, 49, 50, 51, 52, 53, 54, 55, 56, 57, 58, 59, 60, 61, 62, 63, 64, 65, 66, 67, 68, 3, 69, 70, 71, 72, 73, 74, 75, 76, 77, 78, 79, 80, 81, 82, 83, 84, 85, 86, 87, 88, 93, 94, 95, 96, 97, 98, 99, 100, 101, 102, 103, 104, 105, 106, 107, 108, 109, 110, 111, 112, 113, 114, 115] (by decide +kernel) (by decide +kernel)
set_option maxRecDepth 20000 in
theorem gX3_hill_X3_cellToLevel : GoodIn wsX3_hill (wsV RX3 204 RX3 yX3_cellToLevel wsX3_cellToLevel) := goodIn_app (goodIn_of _ (by decide +kernel)) ggX3_hill_X3_cellToLevel
set_option maxRecDepth 20000 in
theorem ggX3_hill_X3_cellToScreen : GoodIn wsX3_hill wsX3_cellToScreen := goodIn_r _ [92, 20, 21, 22, 23, 24, 25, 26, 27, 28, 29, 30, 31, 32, 33, 34, 35, 36, 37, 38, 39, 40, 41, 42, 43, 44, 45, 46, 47, 48, 49, 50, 51, 52, 53, 54, 55, 56, 57, 58, 59, 60, 61, 62, 63, 64, 65, 66, 67, 68, 3, 69, 70, 71, 72, 73, 74, 75, 76, 77, 78, 79, 80, 81, 82, 83, 84, 85, 86, 87, 88, 93, 94, 95, 96, 97, 98, 99, 100, 101, 102, 103, 104, 105, 106, 107, 108, 109, 110, 111, 112, 113, 114, 115] (by decide +kernel) (by decide +kernel)
set_option maxRecDepth 20000 in
theorem gX3_hill_X3_cellToScreen : GoodIn wsX3_hill (wsV RX3 207 RX3 yX3_cellToScreen wsX3_cellToScreen) := goodIn_app (goodIn_of _ (by decide +kernel)) ggX3_hill_X3_cellToScreen
theorem dX3_hill_0 : decode cX3_hill 0 = .ok (.iload_n 1, 1) := by decide +kernel
theorem dX3_hill_1 : decode cX3_hill 1 = .ok (.invokestatic 163, 3) := by decide +kernel
theorem dX3_hill_4 : decode cX3_hill 4 = .ok (.ifCond .ne 9, 3) := by decide +kernel
theorem dX3_hill_7 : decode cX3_hill 7 = .ok (.aload_n 0, 1) := by decide +kernel
theorem dX3_hill_8 : decode cX3_hill 8 = .ok (.iconst (-1), 1) := by decide +kernel
theorem dX3_hill_9 : decode cX3_hill 9 = .ok (.invokevirtual 55, 3) := by decide +kernel
theorem dX3_hill_12 : decode cX3_hill 12 = .ok (.ireturn, 1) := by decide +kernel
theorem dX3_hill_13 : decode cX3_hill 13 = .ok (.iload_n 2, 1) := by decide +kernel
theorem dX3_hill_14 : decode cX3_hill 14 = .ok (.invokestatic 124, 3) := by decide +kernel
theorem dX3_hill_17 : decode cX3_hill 17 = .ok (.ifCond .ne 10, 3) := by decide +kernel
theorem dX3_hill_20 : decode cX3_hill 20 = .ok (.aload_n 0, 1) := by decide +kernel
theorem dX3_hill_21 : decode cX3_hill 21 = .ok (.bipush (-2), 2) := by decide +kernel
theorem dX3_hill_23 : decode cX3_hill 23 = .ok (.invokevirtual 55, 3) := by decide +kernel
theorem dX3_hill_26 : decode cX3_hill 26 = .ok (.ireturn, 1) := by decide +kernel
theorem dX3_hill_27 : decode cX3_hill 27 = .ok (.iload_n 2, 1) := by decide +kernel
theorem dX3_hill_28 : decode cX3_hill 28 = .ok (.ifCond .ne 11, 3) := by decide +kernel
theorem dX3_hill_31 : decode cX3_hill 31 = .ok (.aload_n 0, 1) := by decide +kernel
theorem dX3_hill_32 : decode cX3_hill 32 = .ok (.iload_n 1, 1) := by decide +kernel
theorem dX3_hill_33 : decode cX3_hill 33 = .ok (.invokevirtual 204, 3) := by decide +kernel
theorem dX3_hill_36 : decode cX3_hill 36 = .ok (.goto 8, 3) := by decide +kernel
theorem dX3_hill_39 : decode cX3_hill 39 = .ok (.aload_n 0, 1) := by decide +kernel
theorem dX3_hill_40 : decode cX3_hill 40 = .ok (.iload_n 1, 1) := by decide +kernel
theorem dX3_hill_41 : decode cX3_hill 41 = .ok (.invokevirtual 207, 3) := by decide +kernel
theorem dX3_hill_44 : decode cX3_hill 44 = .ok (.ireturn, 1) := by decide +kernel
set_option maxRecDepth 20000 in
theorem ggX3_hide_X3_isVerdict : GoodIn wsX3_hide wsX3_isVerdict := goodIn_r _ [7, 8, 9, 6, 10] (by decide +kernel) (by decide +kernel)
set_option maxRecDepth 20000 in
theorem gX3_hide_X3_isVerdict : GoodIn wsX3_hide (va_wsS RX3 145 yX3_isVerdict wsX3_isVerdict) := goodIn_app (goodIn_of _ (by decide +kernel)) ggX3_hide_X3_isVerdict
set_option maxRecDepth 20000 in
theorem ggX3_hide_X3_refuse : GoodIn wsX3_hide wsX3_refuse := goodIn_r _ [14, 15, 79, 80, 81, 82, 83, 84, 85, 86, 87, 88, 89, 90] (by decide +kernel) (by decide +kernel)
set_option maxRecDepth 20000 in
theorem gX3_hide_X3_refuse : GoodIn wsX3_hide (wsV RX3 55 RX3 yX3_refuse wsX3_refuse) := goodIn_app (goodIn_of _ (by decide +kernel)) ggX3_hide_X3_refuse
set_option maxRecDepth 20000 in
theorem ggX3_hide_X0_sightFrom : GoodIn wsX3_hide wsX0_sightFrom := goodIn_r _ [20, 21, 22, 23, 24, 19, 25, 26, 27, 28, 29, 30, 31, 32, 33, 34, 35, 36, 37, 38, 39, 40, 41, 42, 43, 44, 45, 46, 47, 48, 49, 50, 51, 52, 53, 91, 92, 93, 94, 95, 96, 97, 98, 99, 100, 101] (by decide +kernel) (by decide +kernel)
set_option maxRecDepth 20000 in
theorem gX3_hide_X0_sightFrom : GoodIn wsX3_hide (wsV RX3 166 RX0 yX0_sightFrom wsX0_sightFrom) := goodIn_app (goodIn_of _ (by decide +kernel)) ggX3_hide_X0_sightFrom
set_option maxRecDepth 20000 in
theorem ggX3_hide_J6_bitCount_0f7a4 : GoodIn wsX3_hide wsJ6_bitCount_0f7a4 := goodIn_r _ [57, 58, 59, 60] (by decide +kernel) (by decide +kernel)
set_option maxRecDepth 20000 in
theorem gX3_hide_J6_bitCount_0f7a4 : GoodIn wsX3_hide (va_wsS RX3 199 yJ6_bitCount_0f7a4 wsJ6_bitCount_0f7a4) := goodIn_app (goodIn_of _ (by decide +kernel)) ggX3_hide_J6_bitCount_0f7a4
set_option maxRecDepth 20000 in
theorem ggX3_hide_X3_isEverywhereWithout : GoodIn wsX3_hide wsX3_isEverywhereWithout := goodIn_r _ [64, 2, 1, 65, 66, 67, 19, 68, 69, 41, 70, 71, 72, 73, 21, 74, 75, 76, 77, 78, 9, 6, 10, 79, 80, 81, 82, 83, 84, 85, 86, 87, 88, 89, 90, 91, 92, 93, 94, 95, 96, 97, 98, 99, 100, 101] (by decide +kernel) (by decide +kernel)
set_option maxRecDepth 20000 in
theorem gX3_hide_X3_isEverywhereWithout : GoodIn wsX3_hide (wsV RX3 213 RX3 yX3_isEverywhereWithout wsX3_isEverywhereWithout) := goodIn_app (goodIn_of _ (by decide +kernel)) ggX3_hide_X3_isEverywhereWithout
theorem dX3_hide_0 : decode cX3_hide 0 = .ok (.iload_n 1, 1) := by decide +kernel
theorem dX3_hide_1 : decode cX3_hide 1 = .ok (.invokestatic 145, 3) := by decide +kernel
theorem dX3_hide_4 : decode cX3_hide 4 = .ok (.ifCond .ne 10, 3) := by decide +kernel
theorem dX3_hide_7 : decode cX3_hide 7 = .ok (.aload_n 0, 1) := by decide +kernel
theorem dX3_hide_8 : decode cX3_hide 8 = .ok (.bipush (-2), 2) := by decide +kernel
theorem dX3_hide_10 : decode cX3_hide 10 = .ok (.invokevirtual 55, 3) := by decide +kernel
theorem dX3_hide_13 : decode cX3_hide 13 = .ok (.ireturn, 1) := by decide +kernel
theorem dX3_hide_14 : decode cX3_hide 14 = .ok (.iconst 0, 1) := by decide +kernel
theorem dX3_hide_15 : decode cX3_hide 15 = .ok (.istore_n 2, 1) := by decide +kernel
theorem dX3_hide_16 : decode cX3_hide 16 = .ok (.iload_n 2, 1) := by decide +kernel
theorem dX3_hide_17 : decode cX3_hide 17 = .ok (.bipush 10, 2) := by decide +kernel
theorem dX3_hide_19 : decode cX3_hide 19 = .ok (.if_icmp .ge 23, 3) := by decide +kernel
theorem dX3_hide_22 : decode cX3_hide 22 = .ok (.aload_n 0, 1) := by decide +kernel
theorem dX3_hide_23 : decode cX3_hide 23 = .ok (.getfield 43, 3) := by decide +kernel
theorem dX3_hide_26 : decode cX3_hide 26 = .ok (.iload_n 2, 1) := by decide +kernel
theorem dX3_hide_27 : decode cX3_hide 27 = .ok (.aload_n 0, 1) := by decide +kernel
theorem dX3_hide_28 : decode cX3_hide 28 = .ok (.getfield 10, 3) := by decide +kernel
theorem dX3_hide_31 : decode cX3_hide 31 = .ok (.iload_n 2, 1) := by decide +kernel
theorem dX3_hide_32 : decode cX3_hide 32 = .ok (.invokevirtual 166, 3) := by decide +kernel
theorem dX3_hide_35 : decode cX3_hide 35 = .ok (.iastore, 1) := by decide +kernel
theorem dX3_hide_36 : decode cX3_hide 36 = .ok (.iinc 2 1, 3) := by decide +kernel
theorem dX3_hide_39 : decode cX3_hide 39 = .ok (.goto (-23), 3) := by decide +kernel
theorem dX3_hide_42 : decode cX3_hide 42 = .ok (.bipush (-9), 2) := by decide +kernel
theorem dX3_hide_44 : decode cX3_hide 44 = .ok (.istore_n 2, 1) := by decide +kernel
theorem dX3_hide_45 : decode cX3_hide 45 = .ok (.iconst 0, 1) := by decide +kernel
theorem dX3_hide_46 : decode cX3_hide 46 = .ok (.istore_n 3, 1) := by decide +kernel
theorem dX3_hide_47 : decode cX3_hide 47 = .ok (.iload_n 3, 1) := by decide +kernel
theorem dX3_hide_48 : decode cX3_hide 48 = .ok (.iconst 1, 1) := by decide +kernel
theorem dX3_hide_49 : decode cX3_hide 49 = .ok (.aload_n 0, 1) := by decide +kernel
theorem dX3_hide_50 : decode cX3_hide 50 = .ok (.getfield 10, 3) := by decide +kernel
theorem dX3_hide_53 : decode cX3_hide 53 = .ok (.getfield 210, 3) := by decide +kernel
theorem dX3_hide_56 : decode cX3_hide 56 = .ok (.ishl, 1) := by decide +kernel
theorem dX3_hide_57 : decode cX3_hide 57 = .ok (.if_icmp .ge 49, 3) := by decide +kernel
theorem dX3_hide_60 : decode cX3_hide 60 = .ok (.iload_n 2, 1) := by decide +kernel
theorem dX3_hide_61 : decode cX3_hide 61 = .ok (.bipush (-9), 2) := by decide +kernel
theorem dX3_hide_63 : decode cX3_hide 63 = .ok (.if_icmp .eq 14, 3) := by decide +kernel
theorem dX3_hide_66 : decode cX3_hide 66 = .ok (.iload_n 3, 1) := by decide +kernel
theorem dX3_hide_67 : decode cX3_hide 67 = .ok (.invokestatic 199, 3) := by decide +kernel
theorem dX3_hide_70 : decode cX3_hide 70 = .ok (.iload_n 2, 1) := by decide +kernel
theorem dX3_hide_71 : decode cX3_hide 71 = .ok (.invokestatic 199, 3) := by decide +kernel
theorem dX3_hide_74 : decode cX3_hide 74 = .ok (.if_icmp .ge 7, 3) := by decide +kernel
theorem dX3_hide_77 : decode cX3_hide 77 = .ok (.iconst 1, 1) := by decide +kernel
theorem dX3_hide_78 : decode cX3_hide 78 = .ok (.goto 4, 3) := by decide +kernel
theorem dX3_hide_81 : decode cX3_hide 81 = .ok (.iconst 0, 1) := by decide +kernel
theorem dX3_hide_82 : decode cX3_hide 82 = .ok (.istore 4, 2) := by decide +kernel
theorem dX3_hide_84 : decode cX3_hide 84 = .ok (.iload 4, 2) := by decide +kernel
theorem dX3_hide_86 : decode cX3_hide 86 = .ok (.ifCond .eq 14, 3) := by decide +kernel
theorem dX3_hide_89 : decode cX3_hide 89 = .ok (.aload_n 0, 1) := by decide +kernel
theorem dX3_hide_90 : decode cX3_hide 90 = .ok (.iload_n 3, 1) := by decide +kernel
theorem dX3_hide_91 : decode cX3_hide 91 = .ok (.iload_n 1, 1) := by decide +kernel
theorem dX3_hide_92 : decode cX3_hide 92 = .ok (.invokevirtual 213, 3) := by decide +kernel
theorem dX3_hide_95 : decode cX3_hide 95 = .ok (.ifCond .eq 5, 3) := by decide +kernel
theorem dX3_hide_98 : decode cX3_hide 98 = .ok (.iload_n 3, 1) := by decide +kernel
theorem dX3_hide_99 : decode cX3_hide 99 = .ok (.istore_n 2, 1) := by decide +kernel
theorem dX3_hide_100 : decode cX3_hide 100 = .ok (.iinc 3 1, 3) := by decide +kernel
theorem dX3_hide_103 : decode cX3_hide 103 = .ok (.goto (-56), 3) := by decide +kernel
theorem dX3_hide_106 : decode cX3_hide 106 = .ok (.iload_n 2, 1) := by decide +kernel
theorem dX3_hide_107 : decode cX3_hide 107 = .ok (.ireturn, 1) := by decide +kernel
set_option maxRecDepth 20000 in
theorem ggX3_eyesBest_X3_isBranch : GoodIn wsX3_eyesBest wsX3_isBranch := goodIn_r _ [5, 6, 7, 4, 8] (by decide +kernel) (by decide +kernel)
set_option maxRecDepth 20000 in
theorem gX3_eyesBest_X3_isBranch : GoodIn wsX3_eyesBest (va_wsS RX3 163 yX3_isBranch wsX3_isBranch) := goodIn_app (goodIn_of _ (by decide +kernel)) ggX3_eyesBest_X3_isBranch
set_option maxRecDepth 20000 in
theorem ggX3_eyesBest_X3_refuse : GoodIn wsX3_eyesBest wsX3_refuse := goodIn_r _ [12, 13, 101, 102, 103, 104, 105, 106, 107, 108, 109, 110, 111, 112] (by decide +kernel) (by decide +kernel)
set_option maxRecDepth 20000 in
theorem gX3_eyesBest_X3_refuse : GoodIn wsX3_eyesBest (wsV RX3 55 RX3 yX3_refuse wsX3_refuse) := goodIn_app (goodIn_of _ (by decide +kernel)) ggX3_eyesBest_X3_refuse
set_option maxRecDepth 20000 in
theorem ggX3_eyesBest_X3_isVerdict : GoodIn wsX3_eyesBest wsX3_isVerdict := goodIn_r _ [16, 6, 7, 4, 8] (by decide +kernel) (by decide +kernel)
set_option maxRecDepth 20000 in
theorem gX3_eyesBest_X3_isVerdict : GoodIn wsX3_eyesBest (va_wsS RX3 145 yX3_isVerdict wsX3_isVerdict) := goodIn_app (goodIn_of _ (by decide +kernel)) ggX3_eyesBest_X3_isVerdict
set_option maxRecDepth 20000 in
theorem ggX3_eyesBest_X3_isEither : GoodIn wsX3_eyesBest wsX3_isEither := goodIn_r _ [19, 6, 7, 4, 8] (by decide +kernel) (by decide +kernel)
set_option maxRecDepth 20000 in
theorem gX3_eyesBest_X3_isEither : GoodIn wsX3_eyesBest (va_wsS RX3 124 yX3_isEither wsX3_isEither) := goodIn_app (goodIn_of _ (by decide +kernel)) ggX3_eyesBest_X3_isEither
set_option maxRecDepth 20000 in
theorem ggX3_eyesBest_X3_inMind : GoodIn wsX3_eyesBest wsX3_inMind := goodIn_r _ [23, 24, 25, 26, 27, 28, 29, 30, 31, 32, 33, 34, 35, 36, 37, 38, 39, 40, 41, 42, 43, 44, 45, 101, 102, 103, 104, 105, 106, 107, 108, 109, 110, 111, 112, 90, 91, 92, 93, 94, 95, 96, 97, 98, 99, 100] (by decide +kernel) (by decide +kernel)
set_option maxRecDepth 20000 in
theorem gX3_eyesBest_X3_inMind : GoodIn wsX3_eyesBest (wsV RX3 66 RX3 yX3_inMind wsX3_inMind) := goodIn_app (goodIn_of _ (by decide +kernel)) ggX3_eyesBest_X3_inMind
set_option maxRecDepth 20000 in
theorem ggX3_eyesBest_X0_verdictFrom : GoodIn wsX3_eyesBest wsX0_verdictFrom := goodIn_r _ [49, 50, 51, 52, 29, 53, 42, 54, 55, 56, 57, 39, 58, 59, 60, 61, 43, 62, 63, 64, 65, 31, 66, 67, 68, 69, 37, 38, 45, 70, 71, 72, 73, 44, 36, 74, 75, 76, 77, 78, 79, 80, 81, 40, 82, 83, 84, 85, 41, 86, 87, 88, 89, 7, 4, 8, 90, 91, 92, 93, 94, 95, 96, 97, 98, 99, 100] (by decide +kernel) (by decide +kernel)
set_option maxRecDepth 20000 in
theorem gX3_eyesBest_X0_verdictFrom : GoodIn wsX3_eyesBest (wsV RX3 169 RX0 yX0_verdictFrom wsX0_verdictFrom) := goodIn_app (goodIn_of _ (by decide +kernel)) ggX3_eyesBest_X0_verdictFrom
theorem dX3_eyesBest_0 : decode cX3_eyesBest 0 = .ok (.iload_n 1, 1) := by decide +kernel
theorem dX3_eyesBest_1 : decode cX3_eyesBest 1 = .ok (.invokestatic 163, 3) := by decide +kernel
theorem dX3_eyesBest_4 : decode cX3_eyesBest 4 = .ok (.ifCond .ne 9, 3) := by decide +kernel
theorem dX3_eyesBest_7 : decode cX3_eyesBest 7 = .ok (.aload_n 0, 1) := by decide +kernel
theorem dX3_eyesBest_8 : decode cX3_eyesBest 8 = .ok (.iconst (-1), 1) := by decide +kernel
theorem dX3_eyesBest_9 : decode cX3_eyesBest 9 = .ok (.invokevirtual 55, 3) := by decide +kernel
theorem dX3_eyesBest_12 : decode cX3_eyesBest 12 = .ok (.ireturn, 1) := by decide +kernel
theorem dX3_eyesBest_13 : decode cX3_eyesBest 13 = .ok (.iload_n 2, 1) := by decide +kernel
theorem dX3_eyesBest_14 : decode cX3_eyesBest 14 = .ok (.invokestatic 145, 3) := by decide +kernel
theorem dX3_eyesBest_17 : decode cX3_eyesBest 17 = .ok (.ifCond .eq 10, 3) := by decide +kernel
theorem dX3_eyesBest_20 : decode cX3_eyesBest 20 = .ok (.iload_n 3, 1) := by decide +kernel
theorem dX3_eyesBest_21 : decode cX3_eyesBest 21 = .ok (.invokestatic 124, 3) := by decide +kernel
theorem dX3_eyesBest_24 : decode cX3_eyesBest 24 = .ok (.ifCond .ne 10, 3) := by decide +kernel
theorem dX3_eyesBest_27 : decode cX3_eyesBest 27 = .ok (.aload_n 0, 1) := by decide +kernel
theorem dX3_eyesBest_28 : decode cX3_eyesBest 28 = .ok (.bipush (-2), 2) := by decide +kernel
theorem dX3_eyesBest_30 : decode cX3_eyesBest 30 = .ok (.invokevirtual 55, 3) := by decide +kernel
theorem dX3_eyesBest_33 : decode cX3_eyesBest 33 = .ok (.ireturn, 1) := by decide +kernel
theorem dX3_eyesBest_34 : decode cX3_eyesBest 34 = .ok (.bipush (-9), 2) := by decide +kernel
theorem dX3_eyesBest_36 : decode cX3_eyesBest 36 = .ok (.istore 4, 2) := by decide +kernel
theorem dX3_eyesBest_38 : decode cX3_eyesBest 38 = .ok (.bipush (-9), 2) := by decide +kernel
theorem dX3_eyesBest_40 : decode cX3_eyesBest 40 = .ok (.istore 5, 2) := by decide +kernel
theorem dX3_eyesBest_42 : decode cX3_eyesBest 42 = .ok (.aload_n 0, 1) := by decide +kernel
theorem dX3_eyesBest_43 : decode cX3_eyesBest 43 = .ok (.invokevirtual 66, 3) := by decide +kernel
theorem dX3_eyesBest_46 : decode cX3_eyesBest 46 = .ok (.astore 6, 2) := by decide +kernel
theorem dX3_eyesBest_48 : decode cX3_eyesBest 48 = .ok (.iconst 0, 1) := by decide +kernel
theorem dX3_eyesBest_49 : decode cX3_eyesBest 49 = .ok (.istore 7, 2) := by decide +kernel
theorem dX3_eyesBest_51 : decode cX3_eyesBest 51 = .ok (.iload 7, 2) := by decide +kernel
theorem dX3_eyesBest_53 : decode cX3_eyesBest 53 = .ok (.bipush 16, 2) := by decide +kernel
theorem dX3_eyesBest_55 : decode cX3_eyesBest 55 = .ok (.if_icmp .gt 46, 3) := by decide +kernel
theorem dX3_eyesBest_58 : decode cX3_eyesBest 58 = .ok (.aload 6, 2) := by decide +kernel
theorem dX3_eyesBest_60 : decode cX3_eyesBest 60 = .ok (.iload 7, 2) := by decide +kernel
theorem dX3_eyesBest_62 : decode cX3_eyesBest 62 = .ok (.putfield 152, 3) := by decide +kernel
theorem dX3_eyesBest_65 : decode cX3_eyesBest 65 = .ok (.aload 6, 2) := by decide +kernel
theorem dX3_eyesBest_67 : decode cX3_eyesBest 67 = .ok (.iload_n 1, 1) := by decide +kernel
theorem dX3_eyesBest_68 : decode cX3_eyesBest 68 = .ok (.invokevirtual 169, 3) := by decide +kernel
theorem dX3_eyesBest_71 : decode cX3_eyesBest 71 = .ok (.iload_n 2, 1) := by decide +kernel
theorem dX3_eyesBest_72 : decode cX3_eyesBest 72 = .ok (.if_icmp .ne 23, 3) := by decide +kernel
theorem dX3_eyesBest_75 : decode cX3_eyesBest 75 = .ok (.iload 4, 2) := by decide +kernel
theorem dX3_eyesBest_77 : decode cX3_eyesBest 77 = .ok (.bipush (-9), 2) := by decide +kernel
theorem dX3_eyesBest_79 : decode cX3_eyesBest 79 = .ok (.if_icmp .ne 8, 3) := by decide +kernel
theorem dX3_eyesBest_82 : decode cX3_eyesBest 82 = .ok (.iload 7, 2) := by decide +kernel
theorem dX3_eyesBest_84 : decode cX3_eyesBest 84 = .ok (.goto 5, 3) := by decide +kernel
theorem dX3_eyesBest_87 : decode cX3_eyesBest 87 = .ok (.iload 4, 2) := by decide +kernel
theorem dX3_eyesBest_89 : decode cX3_eyesBest 89 = .ok (.istore 4, 2) := by decide +kernel
theorem dX3_eyesBest_91 : decode cX3_eyesBest 91 = .ok (.iload 7, 2) := by decide +kernel
theorem dX3_eyesBest_93 : decode cX3_eyesBest 93 = .ok (.istore 5, 2) := by decide +kernel
theorem dX3_eyesBest_95 : decode cX3_eyesBest 95 = .ok (.iinc 7 1, 3) := by decide +kernel
theorem dX3_eyesBest_98 : decode cX3_eyesBest 98 = .ok (.goto (-47), 3) := by decide +kernel
theorem dX3_eyesBest_101 : decode cX3_eyesBest 101 = .ok (.iload_n 3, 1) := by decide +kernel
theorem dX3_eyesBest_102 : decode cX3_eyesBest 102 = .ok (.ifCond .ne 8, 3) := by decide +kernel
theorem dX3_eyesBest_105 : decode cX3_eyesBest 105 = .ok (.iload 4, 2) := by decide +kernel
theorem dX3_eyesBest_107 : decode cX3_eyesBest 107 = .ok (.goto 5, 3) := by decide +kernel
theorem dX3_eyesBest_110 : decode cX3_eyesBest 110 = .ok (.iload 5, 2) := by decide +kernel
theorem dX3_eyesBest_112 : decode cX3_eyesBest 112 = .ok (.ireturn, 1) := by decide +kernel
set_option maxRecDepth 20000 in
theorem ggX3_ranked_X3_isVerdict : GoodIn wsX3_ranked wsX3_isVerdict := goodIn_r _ [5, 6, 7, 4, 8] (by decide +kernel) (by decide +kernel)
set_option maxRecDepth 20000 in
theorem gX3_ranked_X3_isVerdict : GoodIn wsX3_ranked (va_wsS RX3 145 yX3_isVerdict wsX3_isVerdict) := goodIn_app (goodIn_of _ (by decide +kernel)) ggX3_ranked_X3_isVerdict
set_option maxRecDepth 20000 in
theorem ggX3_ranked_X3_isEither : GoodIn wsX3_ranked wsX3_isEither := goodIn_r _ [11, 6, 7, 4, 8] (by decide +kernel) (by decide +kernel)
set_option maxRecDepth 20000 in
theorem gX3_ranked_X3_isEither : GoodIn wsX3_ranked (va_wsS RX3 124 yX3_isEither wsX3_isEither) := goodIn_app (goodIn_of _ (by decide +kernel)) ggX3_ranked_X3_isEither
set_option maxRecDepth 20000 in
theorem ggX3_ranked_X3_refuse : GoodIn wsX3_ranked wsX3_refuse := goodIn_r _ [15, 16, 105, 106, 107, 108, 109, 110, 111, 112, 113, 114, 115, 116] (by decide +kernel) (by decide +kernel)
set_option maxRecDepth 20000 in
theorem gX3_ranked_X3_refuse : GoodIn wsX3_ranked (wsV RX3 55 RX3 yX3_refuse wsX3_refuse) := goodIn_app (goodIn_of _ (by decide +kernel)) ggX3_ranked_X3_refuse
set_option maxRecDepth 20000 in
theorem ggX3_ranked_X3_inMind : GoodIn wsX3_ranked wsX3_inMind := goodIn_r _ [20, 21, 22, 23, 24, 25, 26, 27, 28, 29, 30, 31, 32, 33, 34, 35, 36, 37, 38, 39, 40, 41, 42, 105, 106, 107, 108, 109, 110, 111, 112, 113, 114, 115, 116, 94, 95, 96, 97, 98, 99, 100, 101, 102, 103, 104] (by decide +kernel) (by decide +kernel)
set_option maxRecDepth 20000 in
theorem gX3_ranked_X3_inMind : GoodIn wsX3_ranked (wsV RX3 66 RX3 yX3_inMind wsX3_inMind) := goodIn_app (goodIn_of _ (by decide +kernel)) ggX3_ranked_X3_inMind
set_option maxRecDepth 20000 in
theorem ggX3_ranked_X0_branchesWith : GoodIn wsX3_ranked wsX0_branchesWith := goodIn_r _ [46, 47, 48, 49, 26, 50, 39, 51, 52, 53, 54, 36, 55, 56, 57, 58, 40, 59, 60, 61, 62, 28, 63, 64, 65, 66, 34, 35, 42, 67, 68, 69, 70, 41, 33, 71, 72, 73, 74, 75, 76, 77, 78, 37, 79, 80, 81, 82, 38, 83, 84, 85, 86, 7, 4, 8, 94, 95, 96, 97, 98, 99, 100, 101, 102, 103, 104] (by decide +kernel) (by decide +kernel)
set_option maxRecDepth 20000 in
theorem gX3_ranked_X0_branchesWith : GoodIn wsX3_ranked (wsV RX3 192 RX0 yX0_branchesWith wsX0_branchesWith) := goodIn_app (goodIn_of _ (by decide +kernel)) ggX3_ranked_X0_branchesWith
set_option maxRecDepth 20000 in
theorem ggX3_ranked_J6_bitCount_0f7a4 : GoodIn wsX3_ranked wsJ6_bitCount_0f7a4 := goodIn_r _ [90, 91, 92, 93] (by decide +kernel) (by decide +kernel)
set_option maxRecDepth 20000 in
theorem gX3_ranked_J6_bitCount_0f7a4 : GoodIn wsX3_ranked (va_wsS RX3 199 yJ6_bitCount_0f7a4 wsJ6_bitCount_0f7a4) := goodIn_app (goodIn_of _ (by decide +kernel)) ggX3_ranked_J6_bitCount_0f7a4
theorem dX3_ranked_0 : decode cX3_ranked 0 = .ok (.iload_n 1, 1) := by decide +kernel
theorem dX3_ranked_1 : decode cX3_ranked 1 = .ok (.invokestatic 145, 3) := by decide +kernel
theorem dX3_ranked_4 : decode cX3_ranked 4 = .ok (.ifCond .eq 10, 3) := by decide +kernel
theorem dX3_ranked_7 : decode cX3_ranked 7 = .ok (.iload_n 2, 1) := by decide +kernel
theorem dX3_ranked_8 : decode cX3_ranked 8 = .ok (.invokestatic 124, 3) := by decide +kernel
theorem dX3_ranked_11 : decode cX3_ranked 11 = .ok (.ifCond .ne 10, 3) := by decide +kernel
theorem dX3_ranked_14 : decode cX3_ranked 14 = .ok (.aload_n 0, 1) := by decide +kernel
theorem dX3_ranked_15 : decode cX3_ranked 15 = .ok (.bipush (-2), 2) := by decide +kernel
theorem dX3_ranked_17 : decode cX3_ranked 17 = .ok (.invokevirtual 55, 3) := by decide +kernel
theorem dX3_ranked_20 : decode cX3_ranked 20 = .ok (.ireturn, 1) := by decide +kernel
theorem dX3_ranked_21 : decode cX3_ranked 21 = .ok (.iconst 0, 1) := by decide +kernel
theorem dX3_ranked_22 : decode cX3_ranked 22 = .ok (.istore_n 3, 1) := by decide +kernel
theorem dX3_ranked_23 : decode cX3_ranked 23 = .ok (.iconst (-1), 1) := by decide +kernel
theorem dX3_ranked_24 : decode cX3_ranked 24 = .ok (.istore 4, 2) := by decide +kernel
theorem dX3_ranked_26 : decode cX3_ranked 26 = .ok (.iconst 0, 1) := by decide +kernel
theorem dX3_ranked_27 : decode cX3_ranked 27 = .ok (.istore 5, 2) := by decide +kernel
theorem dX3_ranked_29 : decode cX3_ranked 29 = .ok (.iload 5, 2) := by decide +kernel
theorem dX3_ranked_31 : decode cX3_ranked 31 = .ok (.bipush 6, 2) := by decide +kernel
theorem dX3_ranked_33 : decode cX3_ranked 33 = .ok (.if_icmp .ge 50, 3) := by decide +kernel
theorem dX3_ranked_36 : decode cX3_ranked 36 = .ok (.aload_n 0, 1) := by decide +kernel
theorem dX3_ranked_37 : decode cX3_ranked 37 = .ok (.invokevirtual 66, 3) := by decide +kernel
theorem dX3_ranked_40 : decode cX3_ranked 40 = .ok (.astore 6, 2) := by decide +kernel
theorem dX3_ranked_42 : decode cX3_ranked 42 = .ok (.aload 6, 2) := by decide +kernel
theorem dX3_ranked_44 : decode cX3_ranked 44 = .ok (.getfield 130, 3) := by decide +kernel
theorem dX3_ranked_47 : decode cX3_ranked 47 = .ok (.iload 5, 2) := by decide +kernel
theorem dX3_ranked_49 : decode cX3_ranked 49 = .ok (.bipush 10, 2) := by decide +kernel
theorem dX3_ranked_51 : decode cX3_ranked 51 = .ok (.iastore, 1) := by decide +kernel
theorem dX3_ranked_52 : decode cX3_ranked 52 = .ok (.aload 6, 2) := by decide +kernel
theorem dX3_ranked_54 : decode cX3_ranked 54 = .ok (.iload_n 1, 1) := by decide +kernel
theorem dX3_ranked_55 : decode cX3_ranked 55 = .ok (.invokevirtual 192, 3) := by decide +kernel
theorem dX3_ranked_58 : decode cX3_ranked 58 = .ok (.invokestatic 199, 3) := by decide +kernel
theorem dX3_ranked_61 : decode cX3_ranked 61 = .ok (.istore 7, 2) := by decide +kernel
theorem dX3_ranked_63 : decode cX3_ranked 63 = .ok (.iload 7, 2) := by decide +kernel
theorem dX3_ranked_65 : decode cX3_ranked 65 = .ok (.iload 4, 2) := by decide +kernel
theorem dX3_ranked_67 : decode cX3_ranked 67 = .ok (.if_icmp .le 10, 3) := by decide +kernel
theorem dX3_ranked_70 : decode cX3_ranked 70 = .ok (.iload 7, 2) := by decide +kernel
theorem dX3_ranked_72 : decode cX3_ranked 72 = .ok (.istore 4, 2) := by decide +kernel
theorem dX3_ranked_74 : decode cX3_ranked 74 = .ok (.iload 5, 2) := by decide +kernel
theorem dX3_ranked_76 : decode cX3_ranked 76 = .ok (.istore_n 3, 1) := by decide +kernel
theorem dX3_ranked_77 : decode cX3_ranked 77 = .ok (.iinc 5 1, 3) := by decide +kernel
theorem dX3_ranked_80 : decode cX3_ranked 80 = .ok (.goto (-51), 3) := by decide +kernel
theorem dX3_ranked_83 : decode cX3_ranked 83 = .ok (.iload_n 2, 1) := by decide +kernel
theorem dX3_ranked_84 : decode cX3_ranked 84 = .ok (.ifCond .ne 7, 3) := by decide +kernel
theorem dX3_ranked_87 : decode cX3_ranked 87 = .ok (.iload_n 3, 1) := by decide +kernel
theorem dX3_ranked_88 : decode cX3_ranked 88 = .ok (.goto 5, 3) := by decide +kernel
theorem dX3_ranked_91 : decode cX3_ranked 91 = .ok (.iload 4, 2) := by decide +kernel
theorem dX3_ranked_93 : decode cX3_ranked 93 = .ok (.ireturn, 1) := by decide +kernel
set_option maxRecDepth 20000 in
theorem ggX3_window_X3_longestRun : GoodIn wsX3_window wsX3_longestRun := goodIn_r _ [6, 1, 7, 8, 9, 10, 11, 12, 13, 14, 15, 16, 17, 18, 19, 20, 21, 22, 23, 24, 25, 26, 27, 28, 29, 30, 31, 32, 33, 34, 35, 36, 37, 38, 39, 40, 41, 42, 43, 44, 45, 46, 47, 48, 49, 50, 51, 52, 53, 54, 55, 56, 57, 58, 59, 60, 61, 62, 63, 5, 64, 82, 83, 84, 85, 86, 87, 88, 89, 90, 91, 92, 93, 94, 95, 96, 97, 98, 99, 100, 101, 102, 103, 104] (by decide +kernel) (by decide +kernel)
set_option maxRecDepth 20000 in
theorem gX3_window_X3_longestRun : GoodIn wsX3_window (wsV RX3 216 RX3 yX3_longestRun wsX3_longestRun) := goodIn_app (goodIn_of _ (by decide +kernel)) ggX3_window_X3_longestRun
set_option maxRecDepth 20000 in
theorem ggX3_window_X0_highest : GoodIn wsX3_window wsX0_highest := goodIn_r _ [68, 16, 27, 28, 29, 10, 30, 31, 21, 32, 33, 34, 35, 36, 37, 38, 94, 95, 96, 97, 98, 99, 100, 101, 102, 103, 104] (by decide +kernel) (by decide +kernel)
set_option maxRecDepth 20000 in
theorem gX3_window_X0_highest : GoodIn wsX3_window (wsV RX3 220 RX0 yX0_highest wsX0_highest) := goodIn_app (goodIn_of _ (by decide +kernel)) ggX3_window_X0_highest
set_option maxRecDepth 20000 in
theorem ggX3_window_X0_twosInOneCell : GoodIn wsX3_window wsX0_twosInOneCell := goodIn_r _ [72, 16, 21, 94, 95, 96, 97, 98, 99, 100, 101, 102, 103, 104] (by decide +kernel) (by decide +kernel)
set_option maxRecDepth 20000 in
theorem gX3_window_X0_twosInOneCell : GoodIn wsX3_window (wsV RX3 223 RX0 yX0_twosInOneCell wsX0_twosInOneCell) := goodIn_app (goodIn_of _ (by decide +kernel)) ggX3_window_X0_twosInOneCell
set_option maxRecDepth 20000 in
theorem ggX3_window_X0_lost : GoodIn wsX3_window wsX0_lost := goodIn_r _ [76, 16, 12, 13, 14, 10, 15, 17, 18, 19, 20, 21, 22, 23, 24, 25, 26, 27, 28, 29, 30, 31, 32, 33, 34, 35, 36, 37, 38, 39, 40, 41, 42, 43, 44, 45, 46, 47, 48, 94, 95, 96, 97, 98, 99, 100, 101, 102, 103, 104] (by decide +kernel) (by decide +kernel)
set_option maxRecDepth 20000 in
theorem gX3_window_X0_lost : GoodIn wsX3_window (wsV RX3 226 RX0 yX0_lost wsX0_lost) := goodIn_app (goodIn_of _ (by decide +kernel)) ggX3_window_X0_lost
set_option maxRecDepth 20000 in
theorem ggX3_window_X3_refuse : GoodIn wsX3_window wsX3_refuse := goodIn_r _ [80, 81, 82, 83, 84, 85, 86, 87, 88, 89, 90, 91, 92, 93] (by decide +kernel) (by decide +kernel)
set_option maxRecDepth 20000 in
theorem gX3_window_X3_refuse : GoodIn wsX3_window (wsV RX3 55 RX3 yX3_refuse wsX3_refuse) := goodIn_app (goodIn_of _ (by decide +kernel)) ggX3_window_X3_refuse
theorem dX3_window_0 : decode cX3_window 0 = .ok (.iload_n 1, 1) := by decide +kernel
theorem dX3_window_1 : decode cX3_window 1 = .ok (.tableswitch 74 0 4 #[35, 35, 50, 58, 66], 35) := by decide +kernel
theorem dX3_window_36 : decode cX3_window 36 = .ok (.aload_n 0, 1) := by decide +kernel
theorem dX3_window_37 : decode cX3_window 37 = .ok (.iload_n 1, 1) := by decide +kernel
theorem dX3_window_38 : decode cX3_window 38 = .ok (.iconst 1, 1) := by decide +kernel
theorem dX3_window_39 : decode cX3_window 39 = .ok (.if_icmp .ne 7, 3) := by decide +kernel
theorem dX3_window_42 : decode cX3_window 42 = .ok (.iconst 1, 1) := by decide +kernel
theorem dX3_window_43 : decode cX3_window 43 = .ok (.goto 4, 3) := by decide +kernel
theorem dX3_window_46 : decode cX3_window 46 = .ok (.iconst 0, 1) := by decide +kernel
theorem dX3_window_47 : decode cX3_window 47 = .ok (.invokevirtual 216, 3) := by decide +kernel
theorem dX3_window_50 : decode cX3_window 50 = .ok (.ireturn, 1) := by decide +kernel
theorem dX3_window_51 : decode cX3_window 51 = .ok (.aload_n 0, 1) := by decide +kernel
theorem dX3_window_52 : decode cX3_window 52 = .ok (.getfield 10, 3) := by decide +kernel
theorem dX3_window_55 : decode cX3_window 55 = .ok (.invokevirtual 220, 3) := by decide +kernel
theorem dX3_window_58 : decode cX3_window 58 = .ok (.ireturn, 1) := by decide +kernel
theorem dX3_window_59 : decode cX3_window 59 = .ok (.aload_n 0, 1) := by decide +kernel
theorem dX3_window_60 : decode cX3_window 60 = .ok (.getfield 10, 3) := by decide +kernel
theorem dX3_window_63 : decode cX3_window 63 = .ok (.invokevirtual 223, 3) := by decide +kernel
theorem dX3_window_66 : decode cX3_window 66 = .ok (.ireturn, 1) := by decide +kernel
theorem dX3_window_67 : decode cX3_window 67 = .ok (.aload_n 0, 1) := by decide +kernel
theorem dX3_window_68 : decode cX3_window 68 = .ok (.getfield 10, 3) := by decide +kernel
theorem dX3_window_71 : decode cX3_window 71 = .ok (.invokevirtual 226, 3) := by decide +kernel
theorem dX3_window_74 : decode cX3_window 74 = .ok (.ireturn, 1) := by decide +kernel
theorem dX3_window_75 : decode cX3_window 75 = .ok (.aload_n 0, 1) := by decide +kernel
theorem dX3_window_76 : decode cX3_window 76 = .ok (.bipush (-2), 2) := by decide +kernel
theorem dX3_window_78 : decode cX3_window 78 = .ok (.invokevirtual 55, 3) := by decide +kernel
theorem dX3_window_81 : decode cX3_window 81 = .ok (.ireturn, 1) := by decide +kernel
set_option maxRecDepth 20000 in
theorem ggX3_two_X0_hasThing : GoodIn wsX3_two wsX0_hasThing := goodIn_r _ [7, 8, 9, 10, 11, 125, 126, 127, 128, 129, 130, 131, 132, 133, 134, 135] (by decide +kernel) (by decide +kernel)
set_option maxRecDepth 20000 in
theorem gX3_two_X0_hasThing : GoodIn wsX3_two (wsV RX3 88 RX0 yX0_hasThing wsX0_hasThing) := goodIn_app (goodIn_of _ (by decide +kernel)) ggX3_two_X0_hasThing
set_option maxRecDepth 20000 in
theorem ggX3_two_X3_refuse : GoodIn wsX3_two wsX3_refuse := goodIn_r _ [15, 16, 113, 114, 115, 116, 117, 118, 119, 120, 121, 122, 123, 124] (by decide +kernel) (by decide +kernel)
set_option maxRecDepth 20000 in
theorem gX3_two_X3_refuse : GoodIn wsX3_two (wsV RX3 55 RX3 yX3_refuse wsX3_refuse) := goodIn_app (goodIn_of _ (by decide +kernel)) ggX3_two_X3_refuse
set_option maxRecDepth 20000 in
theorem ggX3_two_X3_isWithin : GoodIn wsX3_two wsX3_isWithin := goodIn_r _ [11] (by decide +kernel) (by decide +kernel)
set_option maxRecDepth 20000 in
theorem gX3_two_X3_isWithin : GoodIn wsX3_two (va_wsS RX3 133 yX3_isWithin wsX3_isWithin) := goodIn_app (goodIn_of _ (by decide +kernel)) ggX3_two_X3_isWithin
set_option maxRecDepth 20000 in
theorem ggX3_two_X3_gainBehind : GoodIn wsX3_two wsX3_gainBehind := goodIn_r _ [21, 22, 23, 24, 10, 25, 26, 1, 27, 28, 29, 6, 30, 31, 32, 33, 34, 35, 36, 37, 38, 39, 40, 41, 8, 42, 43, 44, 45, 46, 47, 48, 49, 50, 51, 52, 53, 54, 55, 56, 57, 58, 59, 60, 61, 62, 63, 64, 65, 66, 67, 68, 69, 70, 71, 72, 73, 74, 75, 76, 77, 78, 79, 80, 81, 82, 83, 84, 85, 86, 87, 88, 89, 90, 91, 92, 93, 94, 95, 96, 97, 98, 99, 100, 101, 4, 5, 7, 9, 11, 102, 103, 104, 105, 106, 107, 108, 113, 114, 115, 116, 117, 118, 119, 120, 121, 122, 123, 124, 125, 126, 127, 128, 129, 130, 131, 132, 133, 134, 135] (by decide +kernel) (by decide +kernel)
set_option maxRecDepth 20000 in
theorem gX3_two_X3_gainBehind : GoodIn wsX3_two (wsV RX3 229 RX3 yX3_gainBehind wsX3_gainBehind) := goodIn_app (goodIn_of _ (by decide +kernel)) ggX3_two_X3_gainBehind
set_option maxRecDepth 20000 in
theorem ggX3_two_X3_firstPairAtRest : GoodIn wsX3_two wsX3_firstPairAtRest := goodIn_r _ [112, 2, 113, 114, 115, 116, 117, 118, 119, 120, 121, 122, 123, 124] (by decide +kernel) (by decide +kernel)
set_option maxRecDepth 20000 in
theorem gX3_two_X3_firstPairAtRest : GoodIn wsX3_two (wsV RX3 233 RX3 yX3_firstPairAtRest wsX3_firstPairAtRest) := goodIn_app (goodIn_of _ (by decide +kernel)) ggX3_two_X3_firstPairAtRest
theorem dX3_two_0 : decode cX3_two 0 = .ok (.aload_n 0, 1) := by decide +kernel
theorem dX3_two_1 : decode cX3_two 1 = .ok (.getfield 10, 3) := by decide +kernel
theorem dX3_two_4 : decode cX3_two 4 = .ok (.iload_n 1, 1) := by decide +kernel
theorem dX3_two_5 : decode cX3_two 5 = .ok (.invokevirtual 88, 3) := by decide +kernel
theorem dX3_two_8 : decode cX3_two 8 = .ok (.ifCond .eq 19, 3) := by decide +kernel
theorem dX3_two_11 : decode cX3_two 11 = .ok (.aload_n 0, 1) := by decide +kernel
theorem dX3_two_12 : decode cX3_two 12 = .ok (.getfield 10, 3) := by decide +kernel
theorem dX3_two_15 : decode cX3_two 15 = .ok (.iload_n 2, 1) := by decide +kernel
theorem dX3_two_16 : decode cX3_two 16 = .ok (.invokevirtual 88, 3) := by decide +kernel
theorem dX3_two_19 : decode cX3_two 19 = .ok (.ifCond .eq 8, 3) := by decide +kernel
theorem dX3_two_22 : decode cX3_two 22 = .ok (.iload_n 1, 1) := by decide +kernel
theorem dX3_two_23 : decode cX3_two 23 = .ok (.iload_n 2, 1) := by decide +kernel
theorem dX3_two_24 : decode cX3_two 24 = .ok (.if_icmp .ne 9, 3) := by decide +kernel
theorem dX3_two_27 : decode cX3_two 27 = .ok (.aload_n 0, 1) := by decide +kernel
theorem dX3_two_28 : decode cX3_two 28 = .ok (.iconst (-1), 1) := by decide +kernel
theorem dX3_two_29 : decode cX3_two 29 = .ok (.invokevirtual 55, 3) := by decide +kernel
theorem dX3_two_32 : decode cX3_two 32 = .ok (.ireturn, 1) := by decide +kernel
theorem dX3_two_33 : decode cX3_two 33 = .ok (.iload_n 3, 1) := by decide +kernel
theorem dX3_two_34 : decode cX3_two 34 = .ok (.iconst 0, 1) := by decide +kernel
theorem dX3_two_35 : decode cX3_two 35 = .ok (.bipush 30, 2) := by decide +kernel
theorem dX3_two_37 : decode cX3_two 37 = .ok (.invokestatic 133, 3) := by decide +kernel
theorem dX3_two_40 : decode cX3_two 40 = .ok (.ifCond .ne 19, 3) := by decide +kernel
theorem dX3_two_43 : decode cX3_two 43 = .ok (.aload_n 0, 1) := by decide +kernel
theorem dX3_two_44 : decode cX3_two 44 = .ok (.iload_n 3, 1) := by decide +kernel
theorem dX3_two_45 : decode cX3_two 45 = .ok (.ifCond .ge 8, 3) := by decide +kernel
theorem dX3_two_48 : decode cX3_two 48 = .ok (.bipush (-4), 2) := by decide +kernel
theorem dX3_two_50 : decode cX3_two 50 = .ok (.goto 5, 3) := by decide +kernel
theorem dX3_two_53 : decode cX3_two 53 = .ok (.bipush (-6), 2) := by decide +kernel
theorem dX3_two_55 : decode cX3_two 55 = .ok (.invokevirtual 55, 3) := by decide +kernel
theorem dX3_two_58 : decode cX3_two 58 = .ok (.ireturn, 1) := by decide +kernel
theorem dX3_two_59 : decode cX3_two 59 = .ok (.iconst 0, 1) := by decide +kernel
theorem dX3_two_60 : decode cX3_two 60 = .ok (.istore 4, 2) := by decide +kernel
theorem dX3_two_62 : decode cX3_two 62 = .ok (.iload 4, 2) := by decide +kernel
theorem dX3_two_64 : decode cX3_two 64 = .ok (.iconst 1, 1) := by decide +kernel
theorem dX3_two_65 : decode cX3_two 65 = .ok (.if_icmp .gt 45, 3) := by decide +kernel
theorem dX3_two_68 : decode cX3_two 68 = .ok (.iconst 0, 1) := by decide +kernel
theorem dX3_two_69 : decode cX3_two 69 = .ok (.istore 5, 2) := by decide +kernel
theorem dX3_two_71 : decode cX3_two 71 = .ok (.iload 5, 2) := by decide +kernel
theorem dX3_two_73 : decode cX3_two 73 = .ok (.iconst 1, 1) := by decide +kernel
theorem dX3_two_74 : decode cX3_two 74 = .ok (.if_icmp .gt 30, 3) := by decide +kernel
theorem dX3_two_77 : decode cX3_two 77 = .ok (.aload_n 0, 1) := by decide +kernel
theorem dX3_two_78 : decode cX3_two 78 = .ok (.getfield 52, 3) := by decide +kernel
theorem dX3_two_81 : decode cX3_two 81 = .ok (.iload 4, 2) := by decide +kernel
theorem dX3_two_83 : decode cX3_two 83 = .ok (.aaload, 1) := by decide +kernel
theorem dX3_two_84 : decode cX3_two 84 = .ok (.iload 5, 2) := by decide +kernel
theorem dX3_two_86 : decode cX3_two 86 = .ok (.aload_n 0, 1) := by decide +kernel
theorem dX3_two_87 : decode cX3_two 87 = .ok (.iload_n 3, 1) := by decide +kernel
theorem dX3_two_88 : decode cX3_two 88 = .ok (.iload_n 1, 1) := by decide +kernel
theorem dX3_two_89 : decode cX3_two 89 = .ok (.iload 4, 2) := by decide +kernel
theorem dX3_two_91 : decode cX3_two 91 = .ok (.iload_n 2, 1) := by decide +kernel
theorem dX3_two_92 : decode cX3_two 92 = .ok (.iload 5, 2) := by decide +kernel
theorem dX3_two_94 : decode cX3_two 94 = .ok (.invokevirtual 229, 3) := by decide +kernel
theorem dX3_two_97 : decode cX3_two 97 = .ok (.iastore, 1) := by decide +kernel
theorem dX3_two_98 : decode cX3_two 98 = .ok (.iinc 5 1, 3) := by decide +kernel
theorem dX3_two_101 : decode cX3_two 101 = .ok (.goto (-30), 3) := by decide +kernel
theorem dX3_two_104 : decode cX3_two 104 = .ok (.iinc 4 1, 3) := by decide +kernel
theorem dX3_two_107 : decode cX3_two 107 = .ok (.goto (-45), 3) := by decide +kernel
theorem dX3_two_110 : decode cX3_two 110 = .ok (.aload_n 0, 1) := by decide +kernel
theorem dX3_two_111 : decode cX3_two 111 = .ok (.invokevirtual 233, 3) := by decide +kernel
theorem dX3_two_114 : decode cX3_two 114 = .ok (.ireturn, 1) := by decide +kernel
set_option maxRecDepth 20000 in
theorem ggX3_mist_X3_isBranch : GoodIn wsX3_mist wsX3_isBranch := goodIn_r _ [11, 12, 13, 10, 14] (by decide +kernel) (by decide +kernel)
set_option maxRecDepth 20000 in
theorem gX3_mist_X3_isBranch : GoodIn wsX3_mist (va_wsS RX3 163 yX3_isBranch wsX3_isBranch) := goodIn_app (goodIn_of _ (by decide +kernel)) ggX3_mist_X3_isBranch
set_option maxRecDepth 20000 in
theorem ggX3_mist_X3_refuseLong : GoodIn wsX3_mist wsX3_refuseLong := goodIn_r _ [18, 19, 20, 21, 22, 10, 23, 24, 126, 127, 128, 129, 130, 131, 132, 133, 134, 135, 136, 137] (by decide +kernel) (by decide +kernel)
set_option maxRecDepth 20000 in
theorem gX3_mist_X3_refuseLong : GoodIn wsX3_mist (wsV RX3 236 RX3 yX3_refuseLong wsX3_refuseLong) := goodIn_app (goodIn_of _ (by decide +kernel)) ggX3_mist_X3_refuseLong
set_option maxRecDepth 20000 in
theorem ggX3_mist_X3_isVerdict : GoodIn wsX3_mist wsX3_isVerdict := goodIn_r _ [27, 12, 13, 10, 14] (by decide +kernel) (by decide +kernel)
set_option maxRecDepth 20000 in
theorem gX3_mist_X3_isVerdict : GoodIn wsX3_mist (va_wsS RX3 145 yX3_isVerdict wsX3_isVerdict) := goodIn_app (goodIn_of _ (by decide +kernel)) ggX3_mist_X3_isVerdict
set_option maxRecDepth 20000 in
theorem ggX3_mist_X3_isEither : GoodIn wsX3_mist wsX3_isEither := goodIn_r _ [30, 12, 13, 10, 14] (by decide +kernel) (by decide +kernel)
set_option maxRecDepth 20000 in
theorem gX3_mist_X3_isEither : GoodIn wsX3_mist (va_wsS RX3 124 yX3_isEither wsX3_isEither) := goodIn_app (goodIn_of _ (by decide +kernel)) ggX3_mist_X3_isEither
set_option maxRecDepth 20000 in
theorem ggX3_mist_X3_weighMists : GoodIn wsX3_mist wsX3_weighMists := goodIn_r _ [34, 7, 126, 127, 128, 129, 130, 131, 132, 133, 134, 135, 136, 137] (by decide +kernel) (by decide +kernel)
set_option maxRecDepth 20000 in
theorem gX3_mist_X3_weighMists : GoodIn wsX3_mist (wsV RX3 240 RX3 yX3_weighMists wsX3_weighMists) := goodIn_app (goodIn_of _ (by decide +kernel)) ggX3_mist_X3_weighMists
set_option maxRecDepth 20000 in
theorem ggX3_mist_X3_inMindBehind : GoodIn wsX3_mist wsX3_inMindBehind := goodIn_r _ [38, 39, 40, 41, 10, 42, 43, 1, 44, 45, 46, 47, 48, 49, 50, 51, 52, 53, 54, 55, 56, 57, 58, 59, 60, 61, 62, 63, 64, 65, 66, 67, 68, 69, 70, 71, 72, 73, 74, 75, 76, 77, 78, 126, 127, 128, 129, 130, 131, 132, 133, 134, 135, 136, 137, 138, 139, 140, 141, 142, 143, 144, 145, 146, 147, 148] (by decide +kernel) (by decide +kernel)
set_option maxRecDepth 20000 in
theorem gX3_mist_X3_inMindBehind : GoodIn wsX3_mist (wsV RX3 181 RX3 yX3_inMindBehind wsX3_inMindBehind) := goodIn_app (goodIn_of _ (by decide +kernel)) ggX3_mist_X3_inMindBehind
set_option maxRecDepth 20000 in
theorem ggX3_mist_X0_verdictFrom : GoodIn wsX3_mist wsX0_verdictFrom := goodIn_r _ [82, 83, 84, 85, 47, 86, 60, 87, 88, 89, 90, 57, 91, 92, 93, 94, 61, 95, 96, 97, 98, 49, 99, 100, 101, 102, 55, 56, 63, 103, 104, 105, 106, 62, 54, 107, 4, 5, 6, 108, 109, 110, 111, 58, 112, 113, 114, 115, 59, 116, 117, 118, 119, 13, 10, 14, 138, 139, 140, 141, 142, 143, 144, 145, 146, 147, 148] (by decide +kernel) (by decide +kernel)
set_option maxRecDepth 20000 in
theorem gX3_mist_X0_verdictFrom : GoodIn wsX3_mist (wsV RX3 169 RX0 yX0_verdictFrom wsX0_verdictFrom) := goodIn_app (goodIn_of _ (by decide +kernel)) ggX3_mist_X0_verdictFrom
set_option maxRecDepth 20000 in
theorem ggX3_mist_X3_partOf : GoodIn wsX3_mist wsX3_partOf := goodIn_r _ [122, 123, 124, 10, 125] (by decide +kernel) (by decide +kernel)
set_option maxRecDepth 20000 in
theorem gX3_mist_X3_partOf : GoodIn wsX3_mist (va_wsS RX3 247 yX3_partOf wsX3_partOf) := goodIn_app (goodIn_of _ (by decide +kernel)) ggX3_mist_X3_partOf
theorem dX3_mist_0 : decode cX3_mist 0 = .ok (.iload_n 1, 1) := by decide +kernel
theorem dX3_mist_1 : decode cX3_mist 1 = .ok (.invokestatic 163, 3) := by decide +kernel
theorem dX3_mist_4 : decode cX3_mist 4 = .ok (.ifCond .ne 9, 3) := by decide +kernel
theorem dX3_mist_7 : decode cX3_mist 7 = .ok (.aload_n 0, 1) := by decide +kernel
theorem dX3_mist_8 : decode cX3_mist 8 = .ok (.iconst (-1), 1) := by decide +kernel
theorem dX3_mist_9 : decode cX3_mist 9 = .ok (.invokevirtual 236, 3) := by decide +kernel
theorem dX3_mist_12 : decode cX3_mist 12 = .ok (.lreturn, 1) := by decide +kernel
theorem dX3_mist_13 : decode cX3_mist 13 = .ok (.iload_n 2, 1) := by decide +kernel
theorem dX3_mist_14 : decode cX3_mist 14 = .ok (.ifCond .lt 8, 3) := by decide +kernel
theorem dX3_mist_17 : decode cX3_mist 17 = .ok (.iload_n 3, 1) := by decide +kernel
theorem dX3_mist_18 : decode cX3_mist 18 = .ok (.iconst 2, 1) := by decide +kernel
theorem dX3_mist_19 : decode cX3_mist 19 = .ok (.if_icmp .ge 10, 3) := by decide +kernel
theorem dX3_mist_22 : decode cX3_mist 22 = .ok (.aload_n 0, 1) := by decide +kernel
theorem dX3_mist_23 : decode cX3_mist 23 = .ok (.bipush (-4), 2) := by decide +kernel
theorem dX3_mist_25 : decode cX3_mist 25 = .ok (.invokevirtual 236, 3) := by decide +kernel
theorem dX3_mist_28 : decode cX3_mist 28 = .ok (.lreturn, 1) := by decide +kernel
theorem dX3_mist_29 : decode cX3_mist 29 = .ok (.iload_n 2, 1) := by decide +kernel
theorem dX3_mist_30 : decode cX3_mist 30 = .ok (.bipush 7, 2) := by decide +kernel
theorem dX3_mist_32 : decode cX3_mist 32 = .ok (.if_icmp .gt 9, 3) := by decide +kernel
theorem dX3_mist_35 : decode cX3_mist 35 = .ok (.iload_n 3, 1) := by decide +kernel
theorem dX3_mist_36 : decode cX3_mist 36 = .ok (.bipush 20, 2) := by decide +kernel
theorem dX3_mist_38 : decode cX3_mist 38 = .ok (.if_icmp .le 10, 3) := by decide +kernel
theorem dX3_mist_41 : decode cX3_mist 41 = .ok (.aload_n 0, 1) := by decide +kernel
theorem dX3_mist_42 : decode cX3_mist 42 = .ok (.bipush (-6), 2) := by decide +kernel
theorem dX3_mist_44 : decode cX3_mist 44 = .ok (.invokevirtual 236, 3) := by decide +kernel
theorem dX3_mist_47 : decode cX3_mist 47 = .ok (.lreturn, 1) := by decide +kernel
theorem dX3_mist_48 : decode cX3_mist 48 = .ok (.iload 4, 2) := by decide +kernel
theorem dX3_mist_50 : decode cX3_mist 50 = .ok (.invokestatic 145, 3) := by decide +kernel
theorem dX3_mist_53 : decode cX3_mist 53 = .ok (.ifCond .eq 11, 3) := by decide +kernel
theorem dX3_mist_56 : decode cX3_mist 56 = .ok (.iload 5, 2) := by decide +kernel
theorem dX3_mist_58 : decode cX3_mist 58 = .ok (.invokestatic 124, 3) := by decide +kernel
theorem dX3_mist_61 : decode cX3_mist 61 = .ok (.ifCond .ne 10, 3) := by decide +kernel
theorem dX3_mist_64 : decode cX3_mist 64 = .ok (.aload_n 0, 1) := by decide +kernel
theorem dX3_mist_65 : decode cX3_mist 65 = .ok (.bipush (-2), 2) := by decide +kernel
theorem dX3_mist_67 : decode cX3_mist 67 = .ok (.invokevirtual 236, 3) := by decide +kernel
theorem dX3_mist_70 : decode cX3_mist 70 = .ok (.lreturn, 1) := by decide +kernel
theorem dX3_mist_71 : decode cX3_mist 71 = .ok (.aload_n 0, 1) := by decide +kernel
theorem dX3_mist_72 : decode cX3_mist 72 = .ok (.iload_n 2, 1) := by decide +kernel
theorem dX3_mist_73 : decode cX3_mist 73 = .ok (.iload_n 3, 1) := by decide +kernel
theorem dX3_mist_74 : decode cX3_mist 74 = .ok (.invokevirtual 240, 3) := by decide +kernel
theorem dX3_mist_77 : decode cX3_mist 77 = .ok (.lstore 6, 2) := by decide +kernel
theorem dX3_mist_79 : decode cX3_mist 79 = .ok (.lconst 0, 1) := by decide +kernel
theorem dX3_mist_80 : decode cX3_mist 80 = .ok (.lstore 8, 2) := by decide +kernel
theorem dX3_mist_82 : decode cX3_mist 82 = .ok (.aload_n 0, 1) := by decide +kernel
theorem dX3_mist_83 : decode cX3_mist 83 = .ok (.iload_n 2, 1) := by decide +kernel
theorem dX3_mist_84 : decode cX3_mist 84 = .ok (.invokevirtual 181, 3) := by decide +kernel
theorem dX3_mist_87 : decode cX3_mist 87 = .ok (.astore 10, 2) := by decide +kernel
theorem dX3_mist_89 : decode cX3_mist 89 = .ok (.iconst 0, 1) := by decide +kernel
theorem dX3_mist_90 : decode cX3_mist 90 = .ok (.istore 11, 2) := by decide +kernel
theorem dX3_mist_92 : decode cX3_mist 92 = .ok (.iload 11, 2) := by decide +kernel
theorem dX3_mist_94 : decode cX3_mist 94 = .ok (.iload_n 2, 1) := by decide +kernel
theorem dX3_mist_95 : decode cX3_mist 95 = .ok (.if_icmp .gt 53, 3) := by decide +kernel
theorem dX3_mist_98 : decode cX3_mist 98 = .ok (.aload 10, 2) := by decide +kernel
theorem dX3_mist_100 : decode cX3_mist 100 = .ok (.iconst 0, 1) := by decide +kernel
theorem dX3_mist_101 : decode cX3_mist 101 = .ok (.aload_n 0, 1) := by decide +kernel
theorem dX3_mist_102 : decode cX3_mist 102 = .ok (.getfield 10, 3) := by decide +kernel
theorem dX3_mist_105 : decode cX3_mist 105 = .ok (.getfield 152, 3) := by decide +kernel
theorem dX3_mist_108 : decode cX3_mist 108 = .ok (.iconst 3, 1) := by decide +kernel
theorem dX3_mist_109 : decode cX3_mist 109 = .ok (.iload 11, 2) := by decide +kernel
theorem dX3_mist_111 : decode cX3_mist 111 = .ok (.imul, 1) := by decide +kernel
theorem dX3_mist_112 : decode cX3_mist 112 = .ok (.isub, 1) := by decide +kernel
theorem dX3_mist_113 : decode cX3_mist 113 = .ok (.invokestatic 244, 3) := by decide +kernel
theorem dX3_mist_116 : decode cX3_mist 116 = .ok (.putfield 152, 3) := by decide +kernel
theorem dX3_mist_119 : decode cX3_mist 119 = .ok (.aload 10, 2) := by decide +kernel
theorem dX3_mist_121 : decode cX3_mist 121 = .ok (.iload_n 1, 1) := by decide +kernel
theorem dX3_mist_122 : decode cX3_mist 122 = .ok (.invokevirtual 169, 3) := by decide +kernel
theorem dX3_mist_125 : decode cX3_mist 125 = .ok (.iload 4, 2) := by decide +kernel
theorem dX3_mist_127 : decode cX3_mist 127 = .ok (.if_icmp .ne 15, 3) := by decide +kernel
theorem dX3_mist_130 : decode cX3_mist 130 = .ok (.lload 8, 2) := by decide +kernel
theorem dX3_mist_132 : decode cX3_mist 132 = .ok (.aload_n 0, 1) := by decide +kernel
theorem dX3_mist_133 : decode cX3_mist 133 = .ok (.getfield 46, 3) := by decide +kernel
theorem dX3_mist_136 : decode cX3_mist 136 = .ok (.iload 11, 2) := by decide +kernel
theorem dX3_mist_138 : decode cX3_mist 138 = .ok (.laload, 1) := by decide +kernel
theorem dX3_mist_139 : decode cX3_mist 139 = .ok (.ladd, 1) := by decide +kernel
theorem dX3_mist_140 : decode cX3_mist 140 = .ok (.lstore 8, 2) := by decide +kernel
theorem dX3_mist_142 : decode cX3_mist 142 = .ok (.iinc 11 1, 3) := by decide +kernel
theorem dX3_mist_145 : decode cX3_mist 145 = .ok (.goto (-53), 3) := by decide +kernel
theorem dX3_mist_148 : decode cX3_mist 148 = .ok (.lload 8, 2) := by decide +kernel
theorem dX3_mist_150 : decode cX3_mist 150 = .ok (.lload 6, 2) := by decide +kernel
theorem dX3_mist_152 : decode cX3_mist 152 = .ok (.iload 5, 2) := by decide +kernel
theorem dX3_mist_154 : decode cX3_mist 154 = .ok (.invokestatic 247, 3) := by decide +kernel
theorem dX3_mist_157 : decode cX3_mist 157 = .ok (.lreturn, 1) := by decide +kernel
set_option maxRecDepth 20000 in
theorem ggX3_mean_X3_isEither : GoodIn wsX3_mean wsX3_isEither := goodIn_r _ [7, 8, 9, 6, 10] (by decide +kernel) (by decide +kernel)
set_option maxRecDepth 20000 in
theorem gX3_mean_X3_isEither : GoodIn wsX3_mean (va_wsS RX3 124 yX3_isEither wsX3_isEither) := goodIn_app (goodIn_of _ (by decide +kernel)) ggX3_mean_X3_isEither
set_option maxRecDepth 20000 in
theorem ggX3_mean_X3_refuseLong : GoodIn wsX3_mean wsX3_refuseLong := goodIn_r _ [14, 15, 16, 17, 18, 6, 19, 20, 30, 31, 32, 33, 34, 35, 36, 37, 38, 39, 40, 41] (by decide +kernel) (by decide +kernel)
set_option maxRecDepth 20000 in
theorem gX3_mean_X3_refuseLong : GoodIn wsX3_mean (wsV RX3 236 RX3 yX3_refuseLong wsX3_refuseLong) := goodIn_app (goodIn_of _ (by decide +kernel)) ggX3_mean_X3_refuseLong
set_option maxRecDepth 20000 in
theorem ggX3_mean_X3_sumOf : GoodIn wsX3_mean wsX3_sumOf := goodIn_r _ [23] (by decide +kernel) (by decide +kernel)
set_option maxRecDepth 20000 in
theorem gX3_mean_X3_sumOf : GoodIn wsX3_mean (va_wsS RX3 251 yX3_sumOf wsX3_sumOf) := goodIn_app (goodIn_of _ (by decide +kernel)) ggX3_mean_X3_sumOf
set_option maxRecDepth 20000 in
theorem ggX3_mean_X3_partOf : GoodIn wsX3_mean wsX3_partOf := goodIn_r _ [26, 27, 28, 6, 29] (by decide +kernel) (by decide +kernel)
set_option maxRecDepth 20000 in
theorem gX3_mean_X3_partOf : GoodIn wsX3_mean (va_wsS RX3 247 yX3_partOf wsX3_partOf) := goodIn_app (goodIn_of _ (by decide +kernel)) ggX3_mean_X3_partOf
theorem dX3_mean_0 : decode cX3_mean 0 = .ok (.iload_n 1, 1) := by decide +kernel
theorem dX3_mean_1 : decode cX3_mean 1 = .ok (.invokestatic 124, 3) := by decide +kernel
theorem dX3_mean_4 : decode cX3_mean 4 = .ok (.ifCond .ne 10, 3) := by decide +kernel
theorem dX3_mean_7 : decode cX3_mean 7 = .ok (.aload_n 0, 1) := by decide +kernel
theorem dX3_mean_8 : decode cX3_mean 8 = .ok (.bipush (-2), 2) := by decide +kernel
theorem dX3_mean_10 : decode cX3_mean 10 = .ok (.invokevirtual 236, 3) := by decide +kernel
theorem dX3_mean_13 : decode cX3_mean 13 = .ok (.lreturn, 1) := by decide +kernel
theorem dX3_mean_14 : decode cX3_mean 14 = .ok (.aload_n 0, 1) := by decide +kernel
theorem dX3_mean_15 : decode cX3_mean 15 = .ok (.getfield 10, 3) := by decide +kernel
theorem dX3_mean_18 : decode cX3_mean 18 = .ok (.getfield 118, 3) := by decide +kernel
theorem dX3_mean_21 : decode cX3_mean 21 = .ok (.invokestatic 251, 3) := by decide +kernel
theorem dX3_mean_24 : decode cX3_mean 24 = .ok (.i2l, 1) := by decide +kernel
theorem dX3_mean_25 : decode cX3_mean 25 = .ok (.ldc2_w 255, 3) := by decide +kernel
theorem dX3_mean_28 : decode cX3_mean 28 = .ok (.iload_n 1, 1) := by decide +kernel
theorem dX3_mean_29 : decode cX3_mean 29 = .ok (.invokestatic 247, 3) := by decide +kernel
theorem dX3_mean_32 : decode cX3_mean 32 = .ok (.lreturn, 1) := by decide +kernel
set_option maxRecDepth 20000 in
theorem ggX3_whereWas_X0_hasThing : GoodIn wsX3_whereWas wsX0_hasThing := goodIn_r _ [8, 9, 10, 11, 12, 122, 123, 124, 125, 126, 127, 128, 129, 130, 131, 132] (by decide +kernel) (by decide +kernel)
set_option maxRecDepth 20000 in
theorem gX3_whereWas_X0_hasThing : GoodIn wsX3_whereWas (wsV RX3 88 RX0 yX0_hasThing wsX0_hasThing) := goodIn_app (goodIn_of _ (by decide +kernel)) ggX3_whereWas_X0_hasThing
set_option maxRecDepth 20000 in
theorem ggX3_whereWas_X3_isBranch : GoodIn wsX3_whereWas wsX3_isBranch := goodIn_r _ [15, 16, 10, 11, 12] (by decide +kernel) (by decide +kernel)
set_option maxRecDepth 20000 in
theorem gX3_whereWas_X3_isBranch : GoodIn wsX3_whereWas (va_wsS RX3 163 yX3_isBranch wsX3_isBranch) := goodIn_app (goodIn_of _ (by decide +kernel)) ggX3_whereWas_X3_isBranch
set_option maxRecDepth 20000 in
theorem ggX3_whereWas_X3_refuse : GoodIn wsX3_whereWas wsX3_refuse := goodIn_r _ [20, 21, 110, 111, 112, 113, 114, 115, 116, 117, 118, 119, 120, 121] (by decide +kernel) (by decide +kernel)
set_option maxRecDepth 20000 in
theorem gX3_whereWas_X3_refuse : GoodIn wsX3_whereWas (wsV RX3 55 RX3 yX3_refuse wsX3_refuse) := goodIn_app (goodIn_of _ (by decide +kernel)) ggX3_whereWas_X3_refuse
set_option maxRecDepth 20000 in
theorem ggX3_whereWas_X3_isEither : GoodIn wsX3_whereWas wsX3_isEither := goodIn_r _ [24, 16, 10, 11, 12] (by decide +kernel) (by decide +kernel)
set_option maxRecDepth 20000 in
theorem gX3_whereWas_X3_isEither : GoodIn wsX3_whereWas (va_wsS RX3 124 yX3_isEither wsX3_isEither) := goodIn_app (goodIn_of _ (by decide +kernel)) ggX3_whereWas_X3_isEither
set_option maxRecDepth 20000 in
theorem ggX3_whereWas_X3_inMind : GoodIn wsX3_whereWas wsX3_inMind := goodIn_r _ [28, 29, 1, 30, 31, 32, 7, 33, 34, 35, 36, 37, 38, 39, 40, 41, 42, 43, 44, 9, 45, 46, 47, 110, 111, 112, 113, 114, 115, 116, 117, 118, 119, 120, 121, 122, 123, 124, 125, 126, 127, 128, 129, 130, 131, 132] (by decide +kernel) (by decide +kernel)
set_option maxRecDepth 20000 in
theorem gX3_whereWas_X3_inMind : GoodIn wsX3_whereWas (wsV RX3 66 RX3 yX3_inMind wsX3_inMind) := goodIn_app (goodIn_of _ (by decide +kernel)) ggX3_whereWas_X3_inMind
set_option maxRecDepth 20000 in
theorem ggX3_whereWas_X3_goesByRow : GoodIn wsX3_whereWas wsX3_goesByRow := goodIn_r _ [51, 52, 53, 54, 55, 56, 7, 57, 58, 59, 60, 61, 9, 62, 63, 64, 65, 42, 66, 67, 68, 69, 45, 70, 71, 72, 73, 34, 74, 75, 76, 77, 40, 41, 47, 78, 79, 80, 81, 46, 39, 82, 83, 84, 85, 86, 87, 88, 89, 43, 90, 91, 92, 93, 44, 94, 5, 6, 8, 10, 11, 12, 95, 96, 97, 98, 99, 100, 101, 102, 103, 104, 105, 106, 107, 108, 109, 110, 111, 112, 113, 114, 115, 116, 117, 118, 119, 120, 121, 122, 123, 124, 125, 126, 127, 128, 129, 130, 131, 132] (by decide +kernel) (by decide +kernel)
set_option maxRecDepth 20000 in
theorem gX3_whereWas_X3_goesByRow : GoodIn wsX3_whereWas (wsV RX3 257 RX3 yX3_goesByRow wsX3_goesByRow) := goodIn_app (goodIn_of _ (by decide +kernel)) ggX3_whereWas_X3_goesByRow
theorem dX3_whereWas_0 : decode cX3_whereWas 0 = .ok (.aload_n 0, 1) := by decide +kernel
theorem dX3_whereWas_1 : decode cX3_whereWas 1 = .ok (.getfield 10, 3) := by decide +kernel
theorem dX3_whereWas_4 : decode cX3_whereWas 4 = .ok (.iload_n 1, 1) := by decide +kernel
theorem dX3_whereWas_5 : decode cX3_whereWas 5 = .ok (.invokevirtual 88, 3) := by decide +kernel
theorem dX3_whereWas_8 : decode cX3_whereWas 8 = .ok (.ifCond .eq 10, 3) := by decide +kernel
theorem dX3_whereWas_11 : decode cX3_whereWas 11 = .ok (.iload_n 2, 1) := by decide +kernel
theorem dX3_whereWas_12 : decode cX3_whereWas 12 = .ok (.invokestatic 163, 3) := by decide +kernel
theorem dX3_whereWas_15 : decode cX3_whereWas 15 = .ok (.ifCond .ne 9, 3) := by decide +kernel
theorem dX3_whereWas_18 : decode cX3_whereWas 18 = .ok (.aload_n 0, 1) := by decide +kernel
theorem dX3_whereWas_19 : decode cX3_whereWas 19 = .ok (.iconst (-1), 1) := by decide +kernel
theorem dX3_whereWas_20 : decode cX3_whereWas 20 = .ok (.invokevirtual 55, 3) := by decide +kernel
theorem dX3_whereWas_23 : decode cX3_whereWas 23 = .ok (.ireturn, 1) := by decide +kernel
theorem dX3_whereWas_24 : decode cX3_whereWas 24 = .ok (.iload_n 3, 1) := by decide +kernel
theorem dX3_whereWas_25 : decode cX3_whereWas 25 = .ok (.invokestatic 124, 3) := by decide +kernel
theorem dX3_whereWas_28 : decode cX3_whereWas 28 = .ok (.ifCond .ne 10, 3) := by decide +kernel
theorem dX3_whereWas_31 : decode cX3_whereWas 31 = .ok (.aload_n 0, 1) := by decide +kernel
theorem dX3_whereWas_32 : decode cX3_whereWas 32 = .ok (.bipush (-2), 2) := by decide +kernel
theorem dX3_whereWas_34 : decode cX3_whereWas 34 = .ok (.invokevirtual 55, 3) := by decide +kernel
theorem dX3_whereWas_37 : decode cX3_whereWas 37 = .ok (.ireturn, 1) := by decide +kernel
theorem dX3_whereWas_38 : decode cX3_whereWas 38 = .ok (.iconst 0, 1) := by decide +kernel
theorem dX3_whereWas_39 : decode cX3_whereWas 39 = .ok (.istore 4, 2) := by decide +kernel
theorem dX3_whereWas_41 : decode cX3_whereWas 41 = .ok (.iload_n 3, 1) := by decide +kernel
theorem dX3_whereWas_42 : decode cX3_whereWas 42 = .ok (.ifCond .ne 8, 3) := by decide +kernel
theorem dX3_whereWas_45 : decode cX3_whereWas 45 = .ok (.bipush 16, 2) := by decide +kernel
theorem dX3_whereWas_47 : decode cX3_whereWas 47 = .ok (.goto 5, 3) := by decide +kernel
theorem dX3_whereWas_50 : decode cX3_whereWas 50 = .ok (.bipush 6, 2) := by decide +kernel
theorem dX3_whereWas_52 : decode cX3_whereWas 52 = .ok (.istore 5, 2) := by decide +kernel
theorem dX3_whereWas_54 : decode cX3_whereWas 54 = .ok (.iconst 0, 1) := by decide +kernel
theorem dX3_whereWas_55 : decode cX3_whereWas 55 = .ok (.istore 6, 2) := by decide +kernel
theorem dX3_whereWas_57 : decode cX3_whereWas 57 = .ok (.iload 6, 2) := by decide +kernel
theorem dX3_whereWas_59 : decode cX3_whereWas 59 = .ok (.iload 5, 2) := by decide +kernel
theorem dX3_whereWas_61 : decode cX3_whereWas 61 = .ok (.if_icmp .ge 59, 3) := by decide +kernel
theorem dX3_whereWas_64 : decode cX3_whereWas 64 = .ok (.aload_n 0, 1) := by decide +kernel
theorem dX3_whereWas_65 : decode cX3_whereWas 65 = .ok (.invokevirtual 66, 3) := by decide +kernel
theorem dX3_whereWas_68 : decode cX3_whereWas 68 = .ok (.astore 7, 2) := by decide +kernel
theorem dX3_whereWas_70 : decode cX3_whereWas 70 = .ok (.iload_n 3, 1) := by decide +kernel
theorem dX3_whereWas_71 : decode cX3_whereWas 71 = .ok (.ifCond .ne 15, 3) := by decide +kernel
theorem dX3_whereWas_74 : decode cX3_whereWas 74 = .ok (.aload 7, 2) := by decide +kernel
theorem dX3_whereWas_76 : decode cX3_whereWas 76 = .ok (.getfield 98, 3) := by decide +kernel
theorem dX3_whereWas_79 : decode cX3_whereWas 79 = .ok (.iload_n 1, 1) := by decide +kernel
theorem dX3_whereWas_80 : decode cX3_whereWas 80 = .ok (.iload 6, 2) := by decide +kernel
theorem dX3_whereWas_82 : decode cX3_whereWas 82 = .ok (.iastore, 1) := by decide +kernel
theorem dX3_whereWas_83 : decode cX3_whereWas 83 = .ok (.goto 12, 3) := by decide +kernel
theorem dX3_whereWas_86 : decode cX3_whereWas 86 = .ok (.aload 7, 2) := by decide +kernel
theorem dX3_whereWas_88 : decode cX3_whereWas 88 = .ok (.getfield 92, 3) := by decide +kernel
theorem dX3_whereWas_91 : decode cX3_whereWas 91 = .ok (.iload_n 1, 1) := by decide +kernel
theorem dX3_whereWas_92 : decode cX3_whereWas 92 = .ok (.iload 6, 2) := by decide +kernel
theorem dX3_whereWas_94 : decode cX3_whereWas 94 = .ok (.iastore, 1) := by decide +kernel
theorem dX3_whereWas_95 : decode cX3_whereWas 95 = .ok (.aload_n 0, 1) := by decide +kernel
theorem dX3_whereWas_96 : decode cX3_whereWas 96 = .ok (.aload 7, 2) := by decide +kernel
theorem dX3_whereWas_98 : decode cX3_whereWas 98 = .ok (.iload_n 2, 1) := by decide +kernel
theorem dX3_whereWas_99 : decode cX3_whereWas 99 = .ok (.invokevirtual 257, 3) := by decide +kernel
theorem dX3_whereWas_102 : decode cX3_whereWas 102 = .ok (.ifCond .eq 12, 3) := by decide +kernel
theorem dX3_whereWas_105 : decode cX3_whereWas 105 = .ok (.iload 4, 2) := by decide +kernel
theorem dX3_whereWas_107 : decode cX3_whereWas 107 = .ok (.iconst 1, 1) := by decide +kernel
theorem dX3_whereWas_108 : decode cX3_whereWas 108 = .ok (.iload 6, 2) := by decide +kernel
theorem dX3_whereWas_110 : decode cX3_whereWas 110 = .ok (.ishl, 1) := by decide +kernel
theorem dX3_whereWas_111 : decode cX3_whereWas 111 = .ok (.ior, 1) := by decide +kernel
theorem dX3_whereWas_112 : decode cX3_whereWas 112 = .ok (.istore 4, 2) := by decide +kernel
theorem dX3_whereWas_114 : decode cX3_whereWas 114 = .ok (.iinc 6 1, 3) := by decide +kernel
theorem dX3_whereWas_117 : decode cX3_whereWas 117 = .ok (.goto (-60), 3) := by decide +kernel
theorem dX3_whereWas_120 : decode cX3_whereWas 120 = .ok (.iload 4, 2) := by decide +kernel
theorem dX3_whereWas_122 : decode cX3_whereWas 122 = .ok (.ireturn, 1) := by decide +kernel
set_option maxRecDepth 20000 in
theorem ggX3_row_X3_refuse : GoodIn wsX3_row wsX3_refuse := goodIn_r _ [7, 8, 9, 10, 11, 12, 13, 14, 15, 16, 17, 18, 19, 20] (by decide +kernel) (by decide +kernel)
set_option maxRecDepth 20000 in
theorem gX3_row_X3_refuse : GoodIn wsX3_row (wsV RX3 55 RX3 yX3_refuse wsX3_refuse) := goodIn_app (goodIn_of _ (by decide +kernel)) ggX3_row_X3_refuse
theorem dX3_row_0 : decode cX3_row 0 = .ok (.iload_n 1, 1) := by decide +kernel
theorem dX3_row_1 : decode cX3_row 1 = .ok (.ifCond .ge 10, 3) := by decide +kernel
theorem dX3_row_4 : decode cX3_row 4 = .ok (.aload_n 0, 1) := by decide +kernel
theorem dX3_row_5 : decode cX3_row 5 = .ok (.bipush (-4), 2) := by decide +kernel
theorem dX3_row_7 : decode cX3_row 7 = .ok (.invokevirtual 55, 3) := by decide +kernel
theorem dX3_row_10 : decode cX3_row 10 = .ok (.ireturn, 1) := by decide +kernel
theorem dX3_row_11 : decode cX3_row 11 = .ok (.iload_n 1, 1) := by decide +kernel
theorem dX3_row_12 : decode cX3_row 12 = .ok (.bipush 99, 2) := by decide +kernel
theorem dX3_row_14 : decode cX3_row 14 = .ok (.if_icmp .gt 12, 3) := by decide +kernel
theorem dX3_row_17 : decode cX3_row 17 = .ok (.aload_n 0, 1) := by decide +kernel
theorem dX3_row_18 : decode cX3_row 18 = .ok (.getfield 261, 3) := by decide +kernel
theorem dX3_row_21 : decode cX3_row 21 = .ok (.bipush 16, 2) := by decide +kernel
theorem dX3_row_23 : decode cX3_row 23 = .ok (.if_icmp .lt 10, 3) := by decide +kernel
theorem dX3_row_26 : decode cX3_row 26 = .ok (.aload_n 0, 1) := by decide +kernel
theorem dX3_row_27 : decode cX3_row 27 = .ok (.bipush (-6), 2) := by decide +kernel
theorem dX3_row_29 : decode cX3_row 29 = .ok (.invokevirtual 55, 3) := by decide +kernel
theorem dX3_row_32 : decode cX3_row 32 = .ok (.ireturn, 1) := by decide +kernel
theorem dX3_row_33 : decode cX3_row 33 = .ok (.aload_n 0, 1) := by decide +kernel
theorem dX3_row_34 : decode cX3_row 34 = .ok (.getfield 36, 3) := by decide +kernel
theorem dX3_row_37 : decode cX3_row 37 = .ok (.aload_n 0, 1) := by decide +kernel
theorem dX3_row_38 : decode cX3_row 38 = .ok (.getfield 261, 3) := by decide +kernel
theorem dX3_row_41 : decode cX3_row 41 = .ok (.iload_n 1, 1) := by decide +kernel
theorem dX3_row_42 : decode cX3_row 42 = .ok (.iastore, 1) := by decide +kernel
theorem dX3_row_43 : decode cX3_row 43 = .ok (.aload_n 0, 1) := by decide +kernel
theorem dX3_row_44 : decode cX3_row 44 = .ok (.dup, 1) := by decide +kernel
theorem dX3_row_45 : decode cX3_row 45 = .ok (.getfield 261, 3) := by decide +kernel
theorem dX3_row_48 : decode cX3_row 48 = .ok (.iconst 1, 1) := by decide +kernel
theorem dX3_row_49 : decode cX3_row 49 = .ok (.iadd, 1) := by decide +kernel
theorem dX3_row_50 : decode cX3_row 50 = .ok (.putfield 261, 3) := by decide +kernel
theorem dX3_row_53 : decode cX3_row 53 = .ok (.aload_n 0, 1) := by decide +kernel
theorem dX3_row_54 : decode cX3_row 54 = .ok (.getfield 261, 3) := by decide +kernel
theorem dX3_row_57 : decode cX3_row 57 = .ok (.ireturn, 1) := by decide +kernel
set_option maxRecDepth 20000 in
theorem ggX3_judge_X3_firstHeightNotSo : GoodIn wsX3_judge wsX3_firstHeightNotSo := goodIn_r _ [6, 1, 7, 8, 9, 10, 11, 5, 12, 13, 14, 15, 16, 17, 18, 19, 20, 21, 22, 23, 24, 25, 26, 27, 28, 29, 30, 31, 32, 33, 34, 35, 36, 37, 38] (by decide +kernel) (by decide +kernel)
set_option maxRecDepth 20000 in
theorem gX3_judge_X3_firstHeightNotSo : GoodIn wsX3_judge (wsV RX3 264 RX3 yX3_firstHeightNotSo wsX3_firstHeightNotSo) := goodIn_app (goodIn_of _ (by decide +kernel)) ggX3_judge_X3_firstHeightNotSo
theorem dX3_judge_0 : decode cX3_judge 0 = .ok (.aload_n 0, 1) := by decide +kernel
theorem dX3_judge_1 : decode cX3_judge 1 = .ok (.invokevirtual 264, 3) := by decide +kernel
theorem dX3_judge_4 : decode cX3_judge 4 = .ok (.istore_n 1, 1) := by decide +kernel
theorem dX3_judge_5 : decode cX3_judge 5 = .ok (.aload_n 0, 1) := by decide +kernel
theorem dX3_judge_6 : decode cX3_judge 6 = .ok (.iconst 0, 1) := by decide +kernel
theorem dX3_judge_7 : decode cX3_judge 7 = .ok (.putfield 261, 3) := by decide +kernel
theorem dX3_judge_10 : decode cX3_judge 10 = .ok (.iload_n 1, 1) := by decide +kernel
theorem dX3_judge_11 : decode cX3_judge 11 = .ok (.ireturn, 1) := by decide +kernel
theorem dX3_clear_0 : decode cX3_clear 0 = .ok (.aload_n 0, 1) := by decide +kernel
theorem dX3_clear_1 : decode cX3_clear 1 = .ok (.getfield 261, 3) := by decide +kernel
theorem dX3_clear_4 : decode cX3_clear 4 = .ok (.istore_n 1, 1) := by decide +kernel
theorem dX3_clear_5 : decode cX3_clear 5 = .ok (.aload_n 0, 1) := by decide +kernel
theorem dX3_clear_6 : decode cX3_clear 6 = .ok (.iconst 0, 1) := by decide +kernel
theorem dX3_clear_7 : decode cX3_clear 7 = .ok (.putfield 261, 3) := by decide +kernel
theorem dX3_clear_10 : decode cX3_clear 10 = .ok (.iload_n 1, 1) := by decide +kernel
theorem dX3_clear_11 : decode cX3_clear 11 = .ok (.ireturn, 1) := by decide +kernel
set_option maxRecDepth 20000 in
theorem ggX3_lots_X3_isWithin : GoodIn wsX3_lots wsX3_isWithin := goodIn_r _ [8] (by decide +kernel) (by decide +kernel)
set_option maxRecDepth 20000 in
theorem gX3_lots_X3_isWithin : GoodIn wsX3_lots (va_wsS RX3 133 yX3_isWithin wsX3_isWithin) := goodIn_app (goodIn_of _ (by decide +kernel)) ggX3_lots_X3_isWithin
set_option maxRecDepth 20000 in
theorem ggX3_lots_X3_refuse : GoodIn wsX3_lots wsX3_refuse := goodIn_r _ [12, 13, 99, 100, 101, 102, 103, 104, 105, 106, 107, 108, 109, 110] (by decide +kernel) (by decide +kernel)
set_option maxRecDepth 20000 in
theorem gX3_lots_X3_refuse : GoodIn wsX3_lots (wsV RX3 55 RX3 yX3_refuse wsX3_refuse) := goodIn_app (goodIn_of _ (by decide +kernel)) ggX3_lots_X3_refuse
set_option maxRecDepth 20000 in
theorem ggX3_lots_X3_isEither : GoodIn wsX3_lots wsX3_isEither := goodIn_r _ [16, 5, 6, 7, 8] (by decide +kernel) (by decide +kernel)
set_option maxRecDepth 20000 in
theorem gX3_lots_X3_isEither : GoodIn wsX3_lots (va_wsS RX3 124 yX3_isEither wsX3_isEither) := goodIn_app (goodIn_of _ (by decide +kernel)) ggX3_lots_X3_isEither
set_option maxRecDepth 20000 in
theorem ggX3_lots_X3_inMind : GoodIn wsX3_lots wsX3_inMind := goodIn_r _ [20, 21, 22, 23, 24, 25, 26, 27, 28, 29, 30, 31, 32, 33, 34, 35, 36, 37, 38, 39, 40, 41, 42, 99, 100, 101, 102, 103, 104, 105, 106, 107, 108, 109, 110, 112, 113, 114, 115, 116, 117, 118, 119, 120, 121, 122] (by decide +kernel) (by decide +kernel)
set_option maxRecDepth 20000 in
theorem gX3_lots_X3_inMind : GoodIn wsX3_lots (wsV RX3 66 RX3 yX3_inMind wsX3_inMind) := goodIn_app (goodIn_of _ (by decide +kernel)) ggX3_lots_X3_inMind
set_option maxRecDepth 20000 in
theorem ggX3_lots_X2_draw : GoodIn wsX3_lots wsX2_draw := goodIn_r _ [47, 48, 49, 50, 51, 111] (by decide +kernel) (by decide +kernel)
set_option maxRecDepth 20000 in
theorem gX3_lots_X2_draw : GoodIn wsX3_lots (wsV RX3 270 RX2 yX2_draw wsX2_draw) := goodIn_app (goodIn_of _ (by decide +kernel)) ggX3_lots_X2_draw
set_option maxRecDepth 20000 in
theorem ggX3_lots_X0_sightFrom : GoodIn wsX3_lots wsX0_sightFrom := goodIn_r _ [55, 39, 56, 57, 58, 26, 59, 36, 60, 61, 62, 63, 40, 64, 65, 66, 67, 28, 68, 69, 70, 71, 34, 35, 42, 72, 73, 74, 75, 41, 33, 76, 77, 78, 79, 112, 113, 114, 115, 116, 117, 118, 119, 120, 121, 122] (by decide +kernel) (by decide +kernel)
set_option maxRecDepth 20000 in
theorem gX3_lots_X0_sightFrom : GoodIn wsX3_lots (wsV RX3 166 RX0 yX0_sightFrom wsX0_sightFrom) := goodIn_app (goodIn_of _ (by decide +kernel)) ggX3_lots_X0_sightFrom
set_option maxRecDepth 20000 in
theorem ggX3_lots_X0_verdictIn : GoodIn wsX3_lots wsX0_verdictIn := goodIn_r _ [83, 37, 34, 84, 85, 86, 26, 87, 39, 38, 88, 89, 90, 91, 6, 7, 8, 112, 113, 114, 115, 116, 117, 118, 119, 120, 121, 122] (by decide +kernel) (by decide +kernel)
set_option maxRecDepth 20000 in
theorem gX3_lots_X0_verdictIn : GoodIn wsX3_lots (wsV RX3 273 RX0 yX0_verdictIn wsX0_verdictIn) := goodIn_app (goodIn_of _ (by decide +kernel)) ggX3_lots_X0_verdictIn
set_option maxRecDepth 20000 in
theorem ggX3_lots_J6_bitCount_0f7a4 : GoodIn wsX3_lots wsJ6_bitCount_0f7a4 := goodIn_r _ [95, 96, 97, 98] (by decide +kernel) (by decide +kernel)
set_option maxRecDepth 20000 in
theorem gX3_lots_J6_bitCount_0f7a4 : GoodIn wsX3_lots (va_wsS RX3 199 yJ6_bitCount_0f7a4 wsJ6_bitCount_0f7a4) := goodIn_app (goodIn_of _ (by decide +kernel)) ggX3_lots_J6_bitCount_0f7a4
theorem dX3_lots_0 : decode cX3_lots 0 = .ok (.iload_n 1, 1) := by decide +kernel
theorem dX3_lots_1 : decode cX3_lots 1 = .ok (.iconst 1, 1) := by decide +kernel
theorem dX3_lots_2 : decode cX3_lots 2 = .ok (.bipush 20, 2) := by decide +kernel
theorem dX3_lots_4 : decode cX3_lots 4 = .ok (.invokestatic 133, 3) := by decide +kernel
theorem dX3_lots_7 : decode cX3_lots 7 = .ok (.ifCond .ne 20, 3) := by decide +kernel
theorem dX3_lots_10 : decode cX3_lots 10 = .ok (.aload_n 0, 1) := by decide +kernel
theorem dX3_lots_11 : decode cX3_lots 11 = .ok (.iload_n 1, 1) := by decide +kernel
theorem dX3_lots_12 : decode cX3_lots 12 = .ok (.iconst 1, 1) := by decide +kernel
theorem dX3_lots_13 : decode cX3_lots 13 = .ok (.if_icmp .ge 8, 3) := by decide +kernel
theorem dX3_lots_16 : decode cX3_lots 16 = .ok (.bipush (-4), 2) := by decide +kernel
theorem dX3_lots_18 : decode cX3_lots 18 = .ok (.goto 5, 3) := by decide +kernel
theorem dX3_lots_21 : decode cX3_lots 21 = .ok (.bipush (-6), 2) := by decide +kernel
theorem dX3_lots_23 : decode cX3_lots 23 = .ok (.invokevirtual 55, 3) := by decide +kernel
theorem dX3_lots_26 : decode cX3_lots 26 = .ok (.ireturn, 1) := by decide +kernel
theorem dX3_lots_27 : decode cX3_lots 27 = .ok (.iload_n 3, 1) := by decide +kernel
theorem dX3_lots_28 : decode cX3_lots 28 = .ok (.invokestatic 124, 3) := by decide +kernel
theorem dX3_lots_31 : decode cX3_lots 31 = .ok (.ifCond .ne 10, 3) := by decide +kernel
theorem dX3_lots_34 : decode cX3_lots 34 = .ok (.aload_n 0, 1) := by decide +kernel
theorem dX3_lots_35 : decode cX3_lots 35 = .ok (.bipush (-2), 2) := by decide +kernel
theorem dX3_lots_37 : decode cX3_lots 37 = .ok (.invokevirtual 55, 3) := by decide +kernel
theorem dX3_lots_40 : decode cX3_lots 40 = .ok (.ireturn, 1) := by decide +kernel
theorem dX3_lots_41 : decode cX3_lots 41 = .ok (.iconst 0, 1) := by decide +kernel
theorem dX3_lots_42 : decode cX3_lots 42 = .ok (.istore 4, 2) := by decide +kernel
theorem dX3_lots_44 : decode cX3_lots 44 = .ok (.iconst 0, 1) := by decide +kernel
theorem dX3_lots_45 : decode cX3_lots 45 = .ok (.istore 5, 2) := by decide +kernel
theorem dX3_lots_47 : decode cX3_lots 47 = .ok (.aload_n 0, 1) := by decide +kernel
theorem dX3_lots_48 : decode cX3_lots 48 = .ok (.getfield 32, 3) := by decide +kernel
theorem dX3_lots_51 : decode cX3_lots 51 = .ok (.iload_n 2, 1) := by decide +kernel
theorem dX3_lots_52 : decode cX3_lots 52 = .ok (.putfield 267, 3) := by decide +kernel
theorem dX3_lots_55 : decode cX3_lots 55 = .ok (.aload_n 0, 1) := by decide +kernel
theorem dX3_lots_56 : decode cX3_lots 56 = .ok (.invokevirtual 66, 3) := by decide +kernel
theorem dX3_lots_59 : decode cX3_lots 59 = .ok (.astore 6, 2) := by decide +kernel
theorem dX3_lots_61 : decode cX3_lots 61 = .ok (.iconst 0, 1) := by decide +kernel
theorem dX3_lots_62 : decode cX3_lots 62 = .ok (.istore 7, 2) := by decide +kernel
theorem dX3_lots_64 : decode cX3_lots 64 = .ok (.iload 7, 2) := by decide +kernel
theorem dX3_lots_66 : decode cX3_lots 66 = .ok (.iload_n 1, 1) := by decide +kernel
theorem dX3_lots_67 : decode cX3_lots 67 = .ok (.if_icmp .ge 92, 3) := by decide +kernel
theorem dX3_lots_70 : decode cX3_lots 70 = .ok (.iconst 0, 1) := by decide +kernel
theorem dX3_lots_71 : decode cX3_lots 71 = .ok (.istore 8, 2) := by decide +kernel
theorem dX3_lots_73 : decode cX3_lots 73 = .ok (.iload 8, 2) := by decide +kernel
theorem dX3_lots_75 : decode cX3_lots 75 = .ok (.aload 6, 2) := by decide +kernel
theorem dX3_lots_77 : decode cX3_lots 77 = .ok (.getfield 210, 3) := by decide +kernel
theorem dX3_lots_80 : decode cX3_lots 80 = .ok (.if_icmp .ge 26, 3) := by decide +kernel
theorem dX3_lots_83 : decode cX3_lots 83 = .ok (.aload 6, 2) := by decide +kernel
theorem dX3_lots_85 : decode cX3_lots 85 = .ok (.getfield 98, 3) := by decide +kernel
theorem dX3_lots_88 : decode cX3_lots 88 = .ok (.iload 8, 2) := by decide +kernel
theorem dX3_lots_90 : decode cX3_lots 90 = .ok (.aload_n 0, 1) := by decide +kernel
theorem dX3_lots_91 : decode cX3_lots 91 = .ok (.getfield 32, 3) := by decide +kernel
theorem dX3_lots_94 : decode cX3_lots 94 = .ok (.bipush 16, 2) := by decide +kernel
theorem dX3_lots_96 : decode cX3_lots 96 = .ok (.invokevirtual 270, 3) := by decide +kernel
theorem dX3_lots_99 : decode cX3_lots 99 = .ok (.iastore, 1) := by decide +kernel
theorem dX3_lots_100 : decode cX3_lots 100 = .ok (.iinc 8 1, 3) := by decide +kernel
theorem dX3_lots_103 : decode cX3_lots 103 = .ok (.goto (-30), 3) := by decide +kernel
theorem dX3_lots_106 : decode cX3_lots 106 = .ok (.aload 6, 2) := by decide +kernel
theorem dX3_lots_108 : decode cX3_lots 108 = .ok (.aload_n 0, 1) := by decide +kernel
theorem dX3_lots_109 : decode cX3_lots 109 = .ok (.getfield 32, 3) := by decide +kernel
theorem dX3_lots_112 : decode cX3_lots 112 = .ok (.bipush 10, 2) := by decide +kernel
theorem dX3_lots_114 : decode cX3_lots 114 = .ok (.invokevirtual 270, 3) := by decide +kernel
theorem dX3_lots_117 : decode cX3_lots 117 = .ok (.invokevirtual 166, 3) := by decide +kernel
theorem dX3_lots_120 : decode cX3_lots 120 = .ok (.istore 8, 2) := by decide +kernel
theorem dX3_lots_122 : decode cX3_lots 122 = .ok (.iload 4, 2) := by decide +kernel
theorem dX3_lots_124 : decode cX3_lots 124 = .ok (.aload 6, 2) := by decide +kernel
theorem dX3_lots_126 : decode cX3_lots 126 = .ok (.iload 8, 2) := by decide +kernel
theorem dX3_lots_128 : decode cX3_lots 128 = .ok (.invokevirtual 273, 3) := by decide +kernel
theorem dX3_lots_131 : decode cX3_lots 131 = .ok (.iconst 1, 1) := by decide +kernel
theorem dX3_lots_132 : decode cX3_lots 132 = .ok (.if_icmp .ne 7, 3) := by decide +kernel
theorem dX3_lots_135 : decode cX3_lots 135 = .ok (.iconst 1, 1) := by decide +kernel
theorem dX3_lots_136 : decode cX3_lots 136 = .ok (.goto 4, 3) := by decide +kernel
theorem dX3_lots_139 : decode cX3_lots 139 = .ok (.iconst 0, 1) := by decide +kernel
theorem dX3_lots_140 : decode cX3_lots 140 = .ok (.iadd, 1) := by decide +kernel
theorem dX3_lots_141 : decode cX3_lots 141 = .ok (.istore 4, 2) := by decide +kernel
theorem dX3_lots_143 : decode cX3_lots 143 = .ok (.iload 5, 2) := by decide +kernel
theorem dX3_lots_145 : decode cX3_lots 145 = .ok (.iload 8, 2) := by decide +kernel
theorem dX3_lots_147 : decode cX3_lots 147 = .ok (.invokestatic 199, 3) := by decide +kernel
theorem dX3_lots_150 : decode cX3_lots 150 = .ok (.iadd, 1) := by decide +kernel
theorem dX3_lots_151 : decode cX3_lots 151 = .ok (.istore 5, 2) := by decide +kernel
theorem dX3_lots_153 : decode cX3_lots 153 = .ok (.iinc 7 1, 3) := by decide +kernel
theorem dX3_lots_156 : decode cX3_lots 156 = .ok (.goto (-92), 3) := by decide +kernel
theorem dX3_lots_159 : decode cX3_lots 159 = .ok (.iload_n 3, 1) := by decide +kernel
theorem dX3_lots_160 : decode cX3_lots 160 = .ok (.ifCond .ne 8, 3) := by decide +kernel
theorem dX3_lots_163 : decode cX3_lots 163 = .ok (.iload 4, 2) := by decide +kernel
theorem dX3_lots_165 : decode cX3_lots 165 = .ok (.goto 5, 3) := by decide +kernel
theorem dX3_lots_168 : decode cX3_lots 168 = .ok (.iload 5, 2) := by decide +kernel
theorem dX3_lots_170 : decode cX3_lots 170 = .ok (.ireturn, 1) := by decide +kernel
set_option maxRecDepth 20000 in
theorem ggX3_image_X0_copyFrom : GoodIn wsX3_image wsX0_copyFrom := goodIn_r _ [9, 10, 11, 12, 13, 14, 15, 16, 17, 18, 19, 20, 21, 22, 23, 24, 37, 38, 39, 40, 41, 42, 43, 44, 45, 46, 47] (by decide +kernel) (by decide +kernel)
set_option maxRecDepth 20000 in
theorem gX3_image_X0_copyFrom : GoodIn wsX3_image (wsV RX3 84 RX0 yX0_copyFrom wsX0_copyFrom) := goodIn_app (goodIn_of _ (by decide +kernel)) ggX3_image_X0_copyFrom
theorem dX3_image_0 : decode cX3_image 0 = .ok (.aload_n 0, 1) := by decide +kernel
theorem dX3_image_1 : decode cX3_image 1 = .ok (.getfield 19, 3) := by decide +kernel
theorem dX3_image_4 : decode cX3_image 4 = .ok (.aload_n 0, 1) := by decide +kernel
theorem dX3_image_5 : decode cX3_image 5 = .ok (.getfield 10, 3) := by decide +kernel
theorem dX3_image_8 : decode cX3_image 8 = .ok (.invokevirtual 84, 3) := by decide +kernel
theorem dX3_image_11 : decode cX3_image 11 = .ok (.aload_n 0, 1) := by decide +kernel
theorem dX3_image_12 : decode cX3_image 12 = .ok (.iconst 1, 1) := by decide +kernel
theorem dX3_image_13 : decode cX3_image 13 = .ok (.putfield 276, 3) := by decide +kernel
theorem dX3_image_16 : decode cX3_image 16 = .ok (.aload_n 0, 1) := by decide +kernel
theorem dX3_image_17 : decode cX3_image 17 = .ok (.getfield 10, 3) := by decide +kernel
theorem dX3_image_20 : decode cX3_image 20 = .ok (.getfield 107, 3) := by decide +kernel
theorem dX3_image_23 : decode cX3_image 23 = .ok (.ireturn, 1) := by decide +kernel
set_option maxRecDepth 20000 in
theorem ggX3_on_X3_refuse : GoodIn wsX3_on wsX3_refuse := goodIn_r _ [9, 10, 31, 32, 33, 34, 35, 36, 37, 38, 39, 40, 41, 42] (by decide +kernel) (by decide +kernel)
set_option maxRecDepth 20000 in
theorem gX3_on_X3_refuse : GoodIn wsX3_on (wsV RX3 55 RX3 yX3_refuse wsX3_refuse) := goodIn_app (goodIn_of _ (by decide +kernel)) ggX3_on_X3_refuse
set_option maxRecDepth 20000 in
theorem ggX3_on_X0_copyFrom : GoodIn wsX3_on wsX0_copyFrom := goodIn_r _ [15, 16, 17, 18, 19, 20, 21, 22, 23, 24, 25, 26, 27, 28, 29, 30, 43, 44, 45, 46, 47, 48, 49, 50, 51, 52, 53] (by decide +kernel) (by decide +kernel)
set_option maxRecDepth 20000 in
theorem gX3_on_X0_copyFrom : GoodIn wsX3_on (wsV RX3 84 RX0 yX0_copyFrom wsX0_copyFrom) := goodIn_app (goodIn_of _ (by decide +kernel)) ggX3_on_X0_copyFrom
theorem dX3_on_0 : decode cX3_on 0 = .ok (.aload_n 0, 1) := by decide +kernel
theorem dX3_on_1 : decode cX3_on 1 = .ok (.getfield 276, 3) := by decide +kernel
theorem dX3_on_4 : decode cX3_on 4 = .ok (.ifCond .ne 10, 3) := by decide +kernel
theorem dX3_on_7 : decode cX3_on 7 = .ok (.aload_n 0, 1) := by decide +kernel
theorem dX3_on_8 : decode cX3_on 8 = .ok (.bipush (-3), 2) := by decide +kernel
theorem dX3_on_10 : decode cX3_on 10 = .ok (.invokevirtual 55, 3) := by decide +kernel
theorem dX3_on_13 : decode cX3_on 13 = .ok (.ireturn, 1) := by decide +kernel
theorem dX3_on_14 : decode cX3_on 14 = .ok (.aload_n 0, 1) := by decide +kernel
theorem dX3_on_15 : decode cX3_on 15 = .ok (.getfield 10, 3) := by decide +kernel
theorem dX3_on_18 : decode cX3_on 18 = .ok (.aload_n 0, 1) := by decide +kernel
theorem dX3_on_19 : decode cX3_on 19 = .ok (.getfield 19, 3) := by decide +kernel
theorem dX3_on_22 : decode cX3_on 22 = .ok (.invokevirtual 84, 3) := by decide +kernel
theorem dX3_on_25 : decode cX3_on 25 = .ok (.aload_n 0, 1) := by decide +kernel
theorem dX3_on_26 : decode cX3_on 26 = .ok (.getfield 10, 3) := by decide +kernel
theorem dX3_on_29 : decode cX3_on 29 = .ok (.getfield 107, 3) := by decide +kernel
theorem dX3_on_32 : decode cX3_on 32 = .ok (.ireturn, 1) := by decide +kernel
set_option maxRecDepth 20000 in
theorem ggX3_count_X3_sumOf : GoodIn wsX3_count wsX3_sumOf := goodIn_r _ [14] (by decide +kernel) (by decide +kernel)
set_option maxRecDepth 20000 in
theorem gX3_count_X3_sumOf : GoodIn wsX3_count (va_wsS RX3 251 yX3_sumOf wsX3_sumOf) := goodIn_app (goodIn_of _ (by decide +kernel)) ggX3_count_X3_sumOf
set_option maxRecDepth 20000 in
theorem ggX3_count_X3_refusalsOf : GoodIn wsX3_count wsX3_refusalsOf := goodIn_r _ [18, 19, 20, 21, 13, 22, 23, 24, 25, 26, 27, 28, 29, 30, 31, 32, 33, 34] (by decide +kernel) (by decide +kernel)
set_option maxRecDepth 20000 in
theorem gX3_count_X3_refusalsOf : GoodIn wsX3_count (wsV RX3 286 RX3 yX3_refusalsOf wsX3_refusalsOf) := goodIn_app (goodIn_of _ (by decide +kernel)) ggX3_count_X3_refusalsOf
theorem dX3_count_0 : decode cX3_count 0 = .ok (.iload_n 1, 1) := by decide +kernel
theorem dX3_count_1 : decode cX3_count 1 = .ok (.tableswitch 114 0 7 #[47, 55, 63, 71, 79, 90, 101, 106], 47) := by decide +kernel
theorem dX3_count_48 : decode cX3_count 48 = .ok (.aload_n 0, 1) := by decide +kernel
theorem dX3_count_49 : decode cX3_count 49 = .ok (.getfield 10, 3) := by decide +kernel
theorem dX3_count_52 : decode cX3_count 52 = .ok (.getfield 210, 3) := by decide +kernel
theorem dX3_count_55 : decode cX3_count 55 = .ok (.ireturn, 1) := by decide +kernel
theorem dX3_count_56 : decode cX3_count 56 = .ok (.aload_n 0, 1) := by decide +kernel
theorem dX3_count_57 : decode cX3_count 57 = .ok (.getfield 10, 3) := by decide +kernel
theorem dX3_count_60 : decode cX3_count 60 = .ok (.getfield 107, 3) := by decide +kernel
theorem dX3_count_63 : decode cX3_count 63 = .ok (.ireturn, 1) := by decide +kernel
theorem dX3_count_64 : decode cX3_count 64 = .ok (.aload_n 0, 1) := by decide +kernel
theorem dX3_count_65 : decode cX3_count 65 = .ok (.getfield 10, 3) := by decide +kernel
theorem dX3_count_68 : decode cX3_count 68 = .ok (.getfield 152, 3) := by decide +kernel
theorem dX3_count_71 : decode cX3_count 71 = .ok (.ireturn, 1) := by decide +kernel
theorem dX3_count_72 : decode cX3_count 72 = .ok (.aload_n 0, 1) := by decide +kernel
theorem dX3_count_73 : decode cX3_count 73 = .ok (.getfield 10, 3) := by decide +kernel
theorem dX3_count_76 : decode cX3_count 76 = .ok (.getfield 280, 3) := by decide +kernel
theorem dX3_count_79 : decode cX3_count 79 = .ok (.ireturn, 1) := by decide +kernel
theorem dX3_count_80 : decode cX3_count 80 = .ok (.aload_n 0, 1) := by decide +kernel
theorem dX3_count_81 : decode cX3_count 81 = .ok (.getfield 10, 3) := by decide +kernel
theorem dX3_count_84 : decode cX3_count 84 = .ok (.getfield 118, 3) := by decide +kernel
theorem dX3_count_87 : decode cX3_count 87 = .ok (.invokestatic 251, 3) := by decide +kernel
theorem dX3_count_90 : decode cX3_count 90 = .ok (.ireturn, 1) := by decide +kernel
theorem dX3_count_91 : decode cX3_count 91 = .ok (.aload_n 0, 1) := by decide +kernel
theorem dX3_count_92 : decode cX3_count 92 = .ok (.getfield 10, 3) := by decide +kernel
theorem dX3_count_95 : decode cX3_count 95 = .ok (.getfield 130, 3) := by decide +kernel
theorem dX3_count_98 : decode cX3_count 98 = .ok (.invokestatic 251, 3) := by decide +kernel
theorem dX3_count_101 : decode cX3_count 101 = .ok (.ireturn, 1) := by decide +kernel
theorem dX3_count_102 : decode cX3_count 102 = .ok (.aload_n 0, 1) := by decide +kernel
theorem dX3_count_103 : decode cX3_count 103 = .ok (.getfield 261, 3) := by decide +kernel
theorem dX3_count_106 : decode cX3_count 106 = .ok (.ireturn, 1) := by decide +kernel
theorem dX3_count_107 : decode cX3_count 107 = .ok (.aload_n 0, 1) := by decide +kernel
theorem dX3_count_108 : decode cX3_count 108 = .ok (.getfield 25, 3) := by decide +kernel
theorem dX3_count_111 : decode cX3_count 111 = .ok (.getfield 283, 3) := by decide +kernel
theorem dX3_count_114 : decode cX3_count 114 = .ok (.ireturn, 1) := by decide +kernel
theorem dX3_count_115 : decode cX3_count 115 = .ok (.aload_n 0, 1) := by decide +kernel
theorem dX3_count_116 : decode cX3_count 116 = .ok (.iload_n 1, 1) := by decide +kernel
theorem dX3_count_117 : decode cX3_count 117 = .ok (.invokevirtual 286, 3) := by decide +kernel
theorem dX3_count_120 : decode cX3_count 120 = .ok (.ireturn, 1) := by decide +kernel
theorem dX3_refuse_0 : decode cX3_refuse 0 = .ok (.aload_n 0, 1) := by decide +kernel
theorem dX3_refuse_1 : decode cX3_refuse 1 = .ok (.getfield 40, 3) := by decide +kernel
theorem dX3_refuse_4 : decode cX3_refuse 4 = .ok (.iload_n 1, 1) := by decide +kernel
theorem dX3_refuse_5 : decode cX3_refuse 5 = .ok (.ineg, 1) := by decide +kernel
theorem dX3_refuse_6 : decode cX3_refuse 6 = .ok (.dup2, 1) := by decide +kernel
theorem dX3_refuse_7 : decode cX3_refuse 7 = .ok (.iaload, 1) := by decide +kernel
theorem dX3_refuse_8 : decode cX3_refuse 8 = .ok (.iconst 1, 1) := by decide +kernel
theorem dX3_refuse_9 : decode cX3_refuse 9 = .ok (.iadd, 1) := by decide +kernel
theorem dX3_refuse_10 : decode cX3_refuse 10 = .ok (.iastore, 1) := by decide +kernel
theorem dX3_refuse_11 : decode cX3_refuse 11 = .ok (.iload_n 1, 1) := by decide +kernel
theorem dX3_refuse_12 : decode cX3_refuse 12 = .ok (.ireturn, 1) := by decide +kernel
set_option maxRecDepth 20000 in
theorem ggX3_refuseLong_X3_refuse : GoodIn wsX3_refuseLong wsX3_refuse := goodIn_r _ [6, 7, 8, 9, 10, 11, 12, 13, 14, 15, 16, 17, 18, 19] (by decide +kernel) (by decide +kernel)
set_option maxRecDepth 20000 in
theorem gX3_refuseLong_X3_refuse : GoodIn wsX3_refuseLong (wsV RX3 55 RX3 yX3_refuse wsX3_refuse) := goodIn_app (goodIn_of _ (by decide +kernel)) ggX3_refuseLong_X3_refuse
theorem dX3_refuseLong_0 : decode cX3_refuseLong 0 = .ok (.ldc2_w 289, 3) := by decide +kernel
theorem dX3_refuseLong_3 : decode cX3_refuseLong 3 = .ok (.aload_n 0, 1) := by decide +kernel
theorem dX3_refuseLong_4 : decode cX3_refuseLong 4 = .ok (.iload_n 1, 1) := by decide +kernel
theorem dX3_refuseLong_5 : decode cX3_refuseLong 5 = .ok (.invokevirtual 55, 3) := by decide +kernel
theorem dX3_refuseLong_8 : decode cX3_refuseLong 8 = .ok (.i2l, 1) := by decide +kernel
theorem dX3_refuseLong_9 : decode cX3_refuseLong 9 = .ok (.lsub, 1) := by decide +kernel
theorem dX3_refuseLong_10 : decode cX3_refuseLong 10 = .ok (.lreturn, 1) := by decide +kernel
set_option maxRecDepth 20000 in
theorem ggX3_refusalsOf_X3_isWithin : GoodIn wsX3_refusalsOf wsX3_isWithin := goodIn_r _ [5] (by decide +kernel) (by decide +kernel)
set_option maxRecDepth 20000 in
theorem gX3_refusalsOf_X3_isWithin : GoodIn wsX3_refusalsOf (va_wsS RX3 133 yX3_isWithin wsX3_isWithin) := goodIn_app (goodIn_of _ (by decide +kernel)) ggX3_refusalsOf_X3_isWithin
theorem dX3_refusalsOf_0 : decode cX3_refusalsOf 0 = .ok (.iload_n 1, 1) := by decide +kernel
theorem dX3_refusalsOf_1 : decode cX3_refusalsOf 1 = .ok (.bipush 11, 2) := by decide +kernel
theorem dX3_refusalsOf_3 : decode cX3_refusalsOf 3 = .ok (.bipush 16, 2) := by decide +kernel
theorem dX3_refusalsOf_5 : decode cX3_refusalsOf 5 = .ok (.invokestatic 133, 3) := by decide +kernel
theorem dX3_refusalsOf_8 : decode cX3_refusalsOf 8 = .ok (.istore_n 2, 1) := by decide +kernel
theorem dX3_refusalsOf_9 : decode cX3_refusalsOf 9 = .ok (.iload_n 2, 1) := by decide +kernel
theorem dX3_refusalsOf_10 : decode cX3_refusalsOf 10 = .ok (.ifCond .eq 15, 3) := by decide +kernel
theorem dX3_refusalsOf_13 : decode cX3_refusalsOf 13 = .ok (.aload_n 0, 1) := by decide +kernel
theorem dX3_refusalsOf_14 : decode cX3_refusalsOf 14 = .ok (.getfield 40, 3) := by decide +kernel
theorem dX3_refusalsOf_17 : decode cX3_refusalsOf 17 = .ok (.iload_n 1, 1) := by decide +kernel
theorem dX3_refusalsOf_18 : decode cX3_refusalsOf 18 = .ok (.bipush 10, 2) := by decide +kernel
theorem dX3_refusalsOf_20 : decode cX3_refusalsOf 20 = .ok (.isub, 1) := by decide +kernel
theorem dX3_refusalsOf_21 : decode cX3_refusalsOf 21 = .ok (.iaload, 1) := by decide +kernel
theorem dX3_refusalsOf_22 : decode cX3_refusalsOf 22 = .ok (.goto 5, 3) := by decide +kernel
theorem dX3_refusalsOf_25 : decode cX3_refusalsOf 25 = .ok (.bipush (-9), 2) := by decide +kernel
theorem dX3_refusalsOf_27 : decode cX3_refusalsOf 27 = .ok (.ireturn, 1) := by decide +kernel
set_option maxRecDepth 20000 in
theorem ggX3_inMind_X0_copyFrom : GoodIn wsX3_inMind wsX0_copyFrom := goodIn_r _ [7, 8, 9, 10, 11, 12, 13, 14, 15, 16, 17, 18, 19, 20, 21, 22, 35, 36, 37, 38, 39, 40, 41, 42, 43, 44, 45] (by decide +kernel) (by decide +kernel)
set_option maxRecDepth 20000 in
theorem gX3_inMind_X0_copyFrom : GoodIn wsX3_inMind (wsV RX3 84 RX0 yX0_copyFrom wsX0_copyFrom) := goodIn_app (goodIn_of _ (by decide +kernel)) ggX3_inMind_X0_copyFrom
theorem dX3_inMind_0 : decode cX3_inMind 0 = .ok (.aload_n 0, 1) := by decide +kernel
theorem dX3_inMind_1 : decode cX3_inMind 1 = .ok (.getfield 16, 3) := by decide +kernel
theorem dX3_inMind_4 : decode cX3_inMind 4 = .ok (.aload_n 0, 1) := by decide +kernel
theorem dX3_inMind_5 : decode cX3_inMind 5 = .ok (.getfield 10, 3) := by decide +kernel
theorem dX3_inMind_8 : decode cX3_inMind 8 = .ok (.invokevirtual 84, 3) := by decide +kernel
theorem dX3_inMind_11 : decode cX3_inMind 11 = .ok (.aload_n 0, 1) := by decide +kernel
theorem dX3_inMind_12 : decode cX3_inMind 12 = .ok (.getfield 16, 3) := by decide +kernel
theorem dX3_inMind_15 : decode cX3_inMind 15 = .ok (.areturn, 1) := by decide +kernel
set_option maxRecDepth 20000 in
theorem ggX3_inMindBehind_X3_inMind : GoodIn wsX3_inMindBehind wsX3_inMind := goodIn_r _ [5, 6, 7, 8, 9, 10, 11, 12, 13, 14, 15, 16, 17, 18, 19, 20, 21, 22, 23, 24, 25, 26, 27, 43, 44, 45, 46, 47, 48, 49, 50, 51, 52, 53, 54, 55, 56, 57, 58, 59, 60, 61, 62, 63, 64, 65] (by decide +kernel) (by decide +kernel)
set_option maxRecDepth 20000 in
theorem gX3_inMindBehind_X3_inMind : GoodIn wsX3_inMindBehind (wsV RX3 66 RX3 yX3_inMind wsX3_inMind) := goodIn_app (goodIn_of _ (by decide +kernel)) ggX3_inMindBehind_X3_inMind
set_option maxRecDepth 20000 in
theorem ggX3_inMindBehind_X0_passHours : GoodIn wsX3_inMindBehind wsX0_passHours := goodIn_r _ [31, 27, 24, 32, 33, 34, 11, 35, 19, 20, 36, 37, 38, 39, 40, 41, 42, 21, 55, 56, 57, 58, 59, 60, 61, 62, 63, 64, 65] (by decide +kernel) (by decide +kernel)
set_option maxRecDepth 20000 in
theorem gX3_inMindBehind_X0_passHours : GoodIn wsX3_inMindBehind (wsV RX3 160 RX0 yX0_passHours wsX0_passHours) := goodIn_app (goodIn_of _ (by decide +kernel)) ggX3_inMindBehind_X0_passHours
theorem dX3_inMindBehind_0 : decode cX3_inMindBehind 0 = .ok (.aload_n 0, 1) := by decide +kernel
theorem dX3_inMindBehind_1 : decode cX3_inMindBehind 1 = .ok (.invokevirtual 66, 3) := by decide +kernel
theorem dX3_inMindBehind_4 : decode cX3_inMindBehind 4 = .ok (.astore_n 2, 1) := by decide +kernel
theorem dX3_inMindBehind_5 : decode cX3_inMindBehind 5 = .ok (.aload_n 2, 1) := by decide +kernel
theorem dX3_inMindBehind_6 : decode cX3_inMindBehind 6 = .ok (.iload_n 1, 1) := by decide +kernel
theorem dX3_inMindBehind_7 : decode cX3_inMindBehind 7 = .ok (.invokevirtual 160, 3) := by decide +kernel
theorem dX3_inMindBehind_10 : decode cX3_inMindBehind 10 = .ok (.aload_n 2, 1) := by decide +kernel
theorem dX3_inMindBehind_11 : decode cX3_inMindBehind 11 = .ok (.areturn, 1) := by decide +kernel
set_option maxRecDepth 20000 in
theorem ggX3_hoursWith_X3_inMind : GoodIn wsX3_hoursWith wsX3_inMind := goodIn_r _ [5, 6, 7, 8, 9, 10, 11, 12, 13, 14, 15, 16, 17, 18, 19, 20, 21, 22, 23, 24, 25, 26, 27, 89, 90, 91, 92, 93, 94, 95, 96, 97, 98, 99, 100, 101, 102, 103, 104, 105, 106, 107, 108, 109, 110, 111] (by decide +kernel) (by decide +kernel)
set_option maxRecDepth 20000 in
theorem gX3_hoursWith_X3_inMind : GoodIn wsX3_hoursWith (wsV RX3 66 RX3 yX3_inMind wsX3_inMind) := goodIn_app (goodIn_of _ (by decide +kernel)) ggX3_hoursWith_X3_inMind
set_option maxRecDepth 20000 in
theorem ggX3_hoursWith_X0_verdictFrom : GoodIn wsX3_hoursWith wsX0_verdictFrom := goodIn_r _ [31, 32, 33, 34, 11, 35, 24, 36, 37, 38, 39, 21, 40, 41, 42, 43, 25, 44, 45, 46, 47, 13, 48, 49, 50, 51, 19, 20, 27, 52, 53, 54, 55, 26, 18, 56, 57, 58, 59, 60, 61, 62, 63, 22, 64, 65, 66, 67, 23, 68, 69, 70, 71, 72, 4, 73, 101, 102, 103, 104, 105, 106, 107, 108, 109, 110, 111] (by decide +kernel) (by decide +kernel)
set_option maxRecDepth 20000 in
theorem gX3_hoursWith_X0_verdictFrom : GoodIn wsX3_hoursWith (wsV RX3 169 RX0 yX0_verdictFrom wsX0_verdictFrom) := goodIn_app (goodIn_of _ (by decide +kernel)) ggX3_hoursWith_X0_verdictFrom
set_option maxRecDepth 20000 in
theorem ggX3_hoursWith_X0_passHours : GoodIn wsX3_hoursWith wsX0_passHours := goodIn_r _ [77, 27, 24, 78, 79, 80, 11, 81, 19, 20, 82, 83, 84, 85, 86, 87, 88, 21, 101, 102, 103, 104, 105, 106, 107, 108, 109, 110, 111] (by decide +kernel) (by decide +kernel)
set_option maxRecDepth 20000 in
theorem gX3_hoursWith_X0_passHours : GoodIn wsX3_hoursWith (wsV RX3 160 RX0 yX0_passHours wsX0_passHours) := goodIn_app (goodIn_of _ (by decide +kernel)) ggX3_hoursWith_X0_passHours
theorem dX3_hoursWith_0 : decode cX3_hoursWith 0 = .ok (.iconst 0, 1) := by decide +kernel
theorem dX3_hoursWith_1 : decode cX3_hoursWith 1 = .ok (.istore 4, 2) := by decide +kernel
theorem dX3_hoursWith_3 : decode cX3_hoursWith 3 = .ok (.aload_n 0, 1) := by decide +kernel
theorem dX3_hoursWith_4 : decode cX3_hoursWith 4 = .ok (.invokevirtual 66, 3) := by decide +kernel
theorem dX3_hoursWith_7 : decode cX3_hoursWith 7 = .ok (.astore 5, 2) := by decide +kernel
theorem dX3_hoursWith_9 : decode cX3_hoursWith 9 = .ok (.iconst 0, 1) := by decide +kernel
theorem dX3_hoursWith_10 : decode cX3_hoursWith 10 = .ok (.istore 6, 2) := by decide +kernel
theorem dX3_hoursWith_12 : decode cX3_hoursWith 12 = .ok (.iload 6, 2) := by decide +kernel
theorem dX3_hoursWith_14 : decode cX3_hoursWith 14 = .ok (.iload_n 3, 1) := by decide +kernel
theorem dX3_hoursWith_15 : decode cX3_hoursWith 15 = .ok (.if_icmp .gt 35, 3) := by decide +kernel
theorem dX3_hoursWith_18 : decode cX3_hoursWith 18 = .ok (.iload 4, 2) := by decide +kernel
theorem dX3_hoursWith_20 : decode cX3_hoursWith 20 = .ok (.aload 5, 2) := by decide +kernel
theorem dX3_hoursWith_22 : decode cX3_hoursWith 22 = .ok (.iload_n 2, 1) := by decide +kernel
theorem dX3_hoursWith_23 : decode cX3_hoursWith 23 = .ok (.invokevirtual 169, 3) := by decide +kernel
theorem dX3_hoursWith_26 : decode cX3_hoursWith 26 = .ok (.iload_n 1, 1) := by decide +kernel
theorem dX3_hoursWith_27 : decode cX3_hoursWith 27 = .ok (.if_icmp .ne 7, 3) := by decide +kernel
theorem dX3_hoursWith_30 : decode cX3_hoursWith 30 = .ok (.iconst 1, 1) := by decide +kernel
theorem dX3_hoursWith_31 : decode cX3_hoursWith 31 = .ok (.goto 4, 3) := by decide +kernel
theorem dX3_hoursWith_34 : decode cX3_hoursWith 34 = .ok (.iconst 0, 1) := by decide +kernel
theorem dX3_hoursWith_35 : decode cX3_hoursWith 35 = .ok (.iadd, 1) := by decide +kernel
theorem dX3_hoursWith_36 : decode cX3_hoursWith 36 = .ok (.istore 4, 2) := by decide +kernel
theorem dX3_hoursWith_38 : decode cX3_hoursWith 38 = .ok (.aload 5, 2) := by decide +kernel
theorem dX3_hoursWith_40 : decode cX3_hoursWith 40 = .ok (.iconst 1, 1) := by decide +kernel
theorem dX3_hoursWith_41 : decode cX3_hoursWith 41 = .ok (.invokevirtual 160, 3) := by decide +kernel
theorem dX3_hoursWith_44 : decode cX3_hoursWith 44 = .ok (.iinc 6 1, 3) := by decide +kernel
theorem dX3_hoursWith_47 : decode cX3_hoursWith 47 = .ok (.goto (-35), 3) := by decide +kernel
theorem dX3_hoursWith_50 : decode cX3_hoursWith 50 = .ok (.iload 4, 2) := by decide +kernel
theorem dX3_hoursWith_52 : decode cX3_hoursWith 52 = .ok (.ireturn, 1) := by decide +kernel
set_option maxRecDepth 20000 in
theorem ggX3_cellToLevel_X0_sightFrom : GoodIn wsX3_cellToLevel wsX0_sightFrom := goodIn_r _ [6, 7, 8, 9, 10, 5, 11, 12, 13, 14, 15, 16, 17, 18, 19, 20, 21, 22, 23, 24, 25, 26, 27, 28, 29, 30, 31, 32, 33, 34, 35, 36, 37, 38, 39, 83, 84, 85, 86, 87, 88, 89, 90, 91, 92, 93] (by decide +kernel) (by decide +kernel)
set_option maxRecDepth 20000 in
theorem gX3_cellToLevel_X0_sightFrom : GoodIn wsX3_cellToLevel (wsV RX3 166 RX0 yX0_sightFrom wsX0_sightFrom) := goodIn_app (goodIn_of _ (by decide +kernel)) ggX3_cellToLevel_X0_sightFrom
set_option maxRecDepth 20000 in
theorem ggX3_cellToLevel_J6_bitCount_0f7a4 : GoodIn wsX3_cellToLevel wsJ6_bitCount_0f7a4 := goodIn_r _ [43, 44, 45, 46] (by decide +kernel) (by decide +kernel)
set_option maxRecDepth 20000 in
theorem gX3_cellToLevel_J6_bitCount_0f7a4 : GoodIn wsX3_cellToLevel (va_wsS RX3 199 yJ6_bitCount_0f7a4 wsJ6_bitCount_0f7a4) := goodIn_app (goodIn_of _ (by decide +kernel)) ggX3_cellToLevel_J6_bitCount_0f7a4
set_option maxRecDepth 20000 in
theorem ggX3_cellToLevel_X3_manySeenWith : GoodIn wsX3_cellToLevel wsX3_manySeenWith := goodIn_r _ [51, 52, 53, 54, 50, 55, 56, 1, 57, 58, 59, 5, 60, 22, 61, 62, 63, 64, 35, 27, 28, 12, 65, 66, 7, 17, 34, 29, 67, 68, 69, 70, 36, 37, 38, 39, 2, 3, 4, 6, 8, 9, 10, 11, 13, 14, 15, 16, 18, 19, 20, 21, 23, 24, 25, 26, 30, 31, 32, 33, 40, 41, 42, 43, 44, 45, 46, 71, 72, 73, 74, 75, 76, 77, 78, 79, 80, 81, 82, 83, 84, 85, 86, 87, 88, 89, 90, 91, 92, 93] (by decide +kernel) (by decide +kernel)
set_option maxRecDepth 20000 in
theorem gX3_cellToLevel_X3_manySeenWith : GoodIn wsX3_cellToLevel (wsV RX3 291 RX3 yX3_manySeenWith wsX3_manySeenWith) := goodIn_app (goodIn_of _ (by decide +kernel)) ggX3_cellToLevel_X3_manySeenWith
theorem dX3_cellToLevel_0 : decode cX3_cellToLevel 0 = .ok (.bipush (-9), 2) := by decide +kernel
theorem dX3_cellToLevel_2 : decode cX3_cellToLevel 2 = .ok (.istore_n 2, 1) := by decide +kernel
theorem dX3_cellToLevel_3 : decode cX3_cellToLevel 3 = .ok (.aload_n 0, 1) := by decide +kernel
theorem dX3_cellToLevel_4 : decode cX3_cellToLevel 4 = .ok (.getfield 10, 3) := by decide +kernel
theorem dX3_cellToLevel_7 : decode cX3_cellToLevel 7 = .ok (.iload_n 1, 1) := by decide +kernel
theorem dX3_cellToLevel_8 : decode cX3_cellToLevel 8 = .ok (.invokevirtual 166, 3) := by decide +kernel
theorem dX3_cellToLevel_11 : decode cX3_cellToLevel 11 = .ok (.invokestatic 199, 3) := by decide +kernel
theorem dX3_cellToLevel_14 : decode cX3_cellToLevel 14 = .ok (.istore_n 3, 1) := by decide +kernel
theorem dX3_cellToLevel_15 : decode cX3_cellToLevel 15 = .ok (.iconst 0, 1) := by decide +kernel
theorem dX3_cellToLevel_16 : decode cX3_cellToLevel 16 = .ok (.istore 4, 2) := by decide +kernel
theorem dX3_cellToLevel_18 : decode cX3_cellToLevel 18 = .ok (.iload 4, 2) := by decide +kernel
theorem dX3_cellToLevel_20 : decode cX3_cellToLevel 20 = .ok (.bipush 16, 2) := by decide +kernel
theorem dX3_cellToLevel_22 : decode cX3_cellToLevel 22 = .ok (.if_icmp .ge 31, 3) := by decide +kernel
theorem dX3_cellToLevel_25 : decode cX3_cellToLevel 25 = .ok (.aload_n 0, 1) := by decide +kernel
theorem dX3_cellToLevel_26 : decode cX3_cellToLevel 26 = .ok (.iload 4, 2) := by decide +kernel
theorem dX3_cellToLevel_28 : decode cX3_cellToLevel 28 = .ok (.iconst 0, 1) := by decide +kernel
theorem dX3_cellToLevel_29 : decode cX3_cellToLevel 29 = .ok (.iload_n 1, 1) := by decide +kernel
theorem dX3_cellToLevel_30 : decode cX3_cellToLevel 30 = .ok (.invokevirtual 291, 3) := by decide +kernel
theorem dX3_cellToLevel_33 : decode cX3_cellToLevel 33 = .ok (.istore 5, 2) := by decide +kernel
theorem dX3_cellToLevel_35 : decode cX3_cellToLevel 35 = .ok (.iload 5, 2) := by decide +kernel
theorem dX3_cellToLevel_37 : decode cX3_cellToLevel 37 = .ok (.iload_n 3, 1) := by decide +kernel
theorem dX3_cellToLevel_38 : decode cX3_cellToLevel 38 = .ok (.if_icmp .le 9, 3) := by decide +kernel
theorem dX3_cellToLevel_41 : decode cX3_cellToLevel 41 = .ok (.iload 5, 2) := by decide +kernel
theorem dX3_cellToLevel_43 : decode cX3_cellToLevel 43 = .ok (.istore_n 3, 1) := by decide +kernel
theorem dX3_cellToLevel_44 : decode cX3_cellToLevel 44 = .ok (.iload 4, 2) := by decide +kernel
theorem dX3_cellToLevel_46 : decode cX3_cellToLevel 46 = .ok (.istore_n 2, 1) := by decide +kernel
theorem dX3_cellToLevel_47 : decode cX3_cellToLevel 47 = .ok (.iinc 4 1, 3) := by decide +kernel
theorem dX3_cellToLevel_50 : decode cX3_cellToLevel 50 = .ok (.goto (-32), 3) := by decide +kernel
theorem dX3_cellToLevel_53 : decode cX3_cellToLevel 53 = .ok (.iload_n 2, 1) := by decide +kernel
theorem dX3_cellToLevel_54 : decode cX3_cellToLevel 54 = .ok (.ireturn, 1) := by decide +kernel
set_option maxRecDepth 20000 in
theorem ggX3_cellToScreen_X0_sightFrom : GoodIn wsX3_cellToScreen wsX0_sightFrom := goodIn_r _ [6, 7, 8, 9, 10, 5, 11, 12, 13, 14, 15, 16, 17, 18, 19, 20, 21, 22, 23, 24, 25, 26, 27, 28, 29, 30, 31, 32, 33, 34, 35, 36, 37, 38, 39, 83, 84, 85, 86, 87, 88, 89, 90, 91, 92, 93] (by decide +kernel) (by decide +kernel)
set_option maxRecDepth 20000 in
theorem gX3_cellToScreen_X0_sightFrom : GoodIn wsX3_cellToScreen (wsV RX3 166 RX0 yX0_sightFrom wsX0_sightFrom) := goodIn_app (goodIn_of _ (by decide +kernel)) ggX3_cellToScreen_X0_sightFrom
set_option maxRecDepth 20000 in
theorem ggX3_cellToScreen_J6_bitCount_0f7a4 : GoodIn wsX3_cellToScreen wsJ6_bitCount_0f7a4 := goodIn_r _ [43, 44, 45, 46] (by decide +kernel) (by decide +kernel)
set_option maxRecDepth 20000 in
theorem gX3_cellToScreen_J6_bitCount_0f7a4 : GoodIn wsX3_cellToScreen (va_wsS RX3 199 yJ6_bitCount_0f7a4 wsJ6_bitCount_0f7a4) := goodIn_app (goodIn_of _ (by decide +kernel)) ggX3_cellToScreen_J6_bitCount_0f7a4
set_option maxRecDepth 20000 in
theorem ggX3_cellToScreen_X3_manySeenWith : GoodIn wsX3_cellToScreen wsX3_manySeenWith := goodIn_r _ [51, 52, 53, 54, 50, 55, 56, 1, 57, 58, 59, 5, 60, 22, 61, 62, 63, 64, 35, 27, 28, 12, 65, 66, 7, 17, 34, 29, 67, 68, 69, 70, 36, 37, 38, 39, 2, 3, 4, 6, 8, 9, 10, 11, 13, 14, 15, 16, 18, 19, 20, 21, 23, 24, 25, 26, 30, 31, 32, 33, 40, 41, 42, 43, 44, 45, 46, 71, 72, 73, 74, 75, 76, 77, 78, 79, 80, 81, 82, 83, 84, 85, 86, 87, 88, 89, 90, 91, 92, 93] (by decide +kernel) (by decide +kernel)
set_option maxRecDepth 20000 in
theorem gX3_cellToScreen_X3_manySeenWith : GoodIn wsX3_cellToScreen (wsV RX3 291 RX3 yX3_manySeenWith wsX3_manySeenWith) := goodIn_app (goodIn_of _ (by decide +kernel)) ggX3_cellToScreen_X3_manySeenWith
theorem dX3_cellToScreen_0 : decode cX3_cellToScreen 0 = .ok (.bipush (-9), 2) := by decide +kernel
theorem dX3_cellToScreen_2 : decode cX3_cellToScreen 2 = .ok (.istore_n 2, 1) := by decide +kernel
theorem dX3_cellToScreen_3 : decode cX3_cellToScreen 3 = .ok (.aload_n 0, 1) := by decide +kernel
theorem dX3_cellToScreen_4 : decode cX3_cellToScreen 4 = .ok (.getfield 10, 3) := by decide +kernel
theorem dX3_cellToScreen_7 : decode cX3_cellToScreen 7 = .ok (.iload_n 1, 1) := by decide +kernel
theorem dX3_cellToScreen_8 : decode cX3_cellToScreen 8 = .ok (.invokevirtual 166, 3) := by decide +kernel
theorem dX3_cellToScreen_11 : decode cX3_cellToScreen 11 = .ok (.invokestatic 199, 3) := by decide +kernel
theorem dX3_cellToScreen_14 : decode cX3_cellToScreen 14 = .ok (.istore_n 3, 1) := by decide +kernel
theorem dX3_cellToScreen_15 : decode cX3_cellToScreen 15 = .ok (.iconst 0, 1) := by decide +kernel
theorem dX3_cellToScreen_16 : decode cX3_cellToScreen 16 = .ok (.istore 4, 2) := by decide +kernel
theorem dX3_cellToScreen_18 : decode cX3_cellToScreen 18 = .ok (.iload 4, 2) := by decide +kernel
theorem dX3_cellToScreen_20 : decode cX3_cellToScreen 20 = .ok (.bipush 16, 2) := by decide +kernel
theorem dX3_cellToScreen_22 : decode cX3_cellToScreen 22 = .ok (.if_icmp .ge 32, 3) := by decide +kernel
theorem dX3_cellToScreen_25 : decode cX3_cellToScreen 25 = .ok (.aload_n 0, 1) := by decide +kernel
theorem dX3_cellToScreen_26 : decode cX3_cellToScreen 26 = .ok (.iload 4, 2) := by decide +kernel
theorem dX3_cellToScreen_28 : decode cX3_cellToScreen 28 = .ok (.bipush 9, 2) := by decide +kernel
theorem dX3_cellToScreen_30 : decode cX3_cellToScreen 30 = .ok (.iload_n 1, 1) := by decide +kernel
theorem dX3_cellToScreen_31 : decode cX3_cellToScreen 31 = .ok (.invokevirtual 291, 3) := by decide +kernel
theorem dX3_cellToScreen_34 : decode cX3_cellToScreen 34 = .ok (.istore 5, 2) := by decide +kernel
theorem dX3_cellToScreen_36 : decode cX3_cellToScreen 36 = .ok (.iload 5, 2) := by decide +kernel
theorem dX3_cellToScreen_38 : decode cX3_cellToScreen 38 = .ok (.iload_n 3, 1) := by decide +kernel
theorem dX3_cellToScreen_39 : decode cX3_cellToScreen 39 = .ok (.if_icmp .ge 9, 3) := by decide +kernel
theorem dX3_cellToScreen_42 : decode cX3_cellToScreen 42 = .ok (.iload 5, 2) := by decide +kernel
theorem dX3_cellToScreen_44 : decode cX3_cellToScreen 44 = .ok (.istore_n 3, 1) := by decide +kernel
theorem dX3_cellToScreen_45 : decode cX3_cellToScreen 45 = .ok (.iload 4, 2) := by decide +kernel
theorem dX3_cellToScreen_47 : decode cX3_cellToScreen 47 = .ok (.istore_n 2, 1) := by decide +kernel
theorem dX3_cellToScreen_48 : decode cX3_cellToScreen 48 = .ok (.iinc 4 1, 3) := by decide +kernel
theorem dX3_cellToScreen_51 : decode cX3_cellToScreen 51 = .ok (.goto (-33), 3) := by decide +kernel
theorem dX3_cellToScreen_54 : decode cX3_cellToScreen 54 = .ok (.iload_n 2, 1) := by decide +kernel
theorem dX3_cellToScreen_55 : decode cX3_cellToScreen 55 = .ok (.ireturn, 1) := by decide +kernel
set_option maxRecDepth 20000 in
theorem ggX3_manySeenWith_X3_inMind : GoodIn wsX3_manySeenWith wsX3_inMind := goodIn_r _ [5, 6, 7, 8, 9, 10, 11, 12, 13, 14, 15, 16, 17, 18, 19, 20, 21, 22, 23, 24, 25, 26, 27, 67, 68, 69, 70, 71, 72, 73, 74, 75, 76, 77, 78, 79, 80, 81, 82, 83, 84, 85, 86, 87, 88, 89] (by decide +kernel) (by decide +kernel)
set_option maxRecDepth 20000 in
theorem gX3_manySeenWith_X3_inMind : GoodIn wsX3_manySeenWith (wsV RX3 66 RX3 yX3_inMind wsX3_inMind) := goodIn_app (goodIn_of _ (by decide +kernel)) ggX3_manySeenWith_X3_inMind
set_option maxRecDepth 20000 in
theorem ggX3_manySeenWith_X0_setHeight : GoodIn wsX3_manySeenWith wsX0_setHeight := goodIn_r _ [31, 13, 18, 32, 33, 34, 35, 79, 80, 81, 82, 83, 84, 85, 86, 87, 88, 89] (by decide +kernel) (by decide +kernel)
set_option maxRecDepth 20000 in
theorem gX3_manySeenWith_X0_setHeight : GoodIn wsX3_manySeenWith (wsV RX3 137 RX0 yX0_setHeight wsX0_setHeight) := goodIn_app (goodIn_of _ (by decide +kernel)) ggX3_manySeenWith_X0_setHeight
set_option maxRecDepth 20000 in
theorem ggX3_manySeenWith_X0_sightFrom : GoodIn wsX3_manySeenWith wsX0_sightFrom := goodIn_r _ [39, 24, 40, 41, 42, 11, 43, 21, 44, 45, 46, 47, 25, 48, 49, 50, 51, 13, 52, 53, 54, 55, 19, 20, 27, 56, 57, 58, 59, 26, 18, 32, 33, 34, 35, 79, 80, 81, 82, 83, 84, 85, 86, 87, 88, 89] (by decide +kernel) (by decide +kernel)
set_option maxRecDepth 20000 in
theorem gX3_manySeenWith_X0_sightFrom : GoodIn wsX3_manySeenWith (wsV RX3 166 RX0 yX0_sightFrom wsX0_sightFrom) := goodIn_app (goodIn_of _ (by decide +kernel)) ggX3_manySeenWith_X0_sightFrom
set_option maxRecDepth 20000 in
theorem ggX3_manySeenWith_J6_bitCount_0f7a4 : GoodIn wsX3_manySeenWith wsJ6_bitCount_0f7a4 := goodIn_r _ [63, 64, 65, 66] (by decide +kernel) (by decide +kernel)
set_option maxRecDepth 20000 in
theorem gX3_manySeenWith_J6_bitCount_0f7a4 : GoodIn wsX3_manySeenWith (va_wsS RX3 199 yJ6_bitCount_0f7a4 wsJ6_bitCount_0f7a4) := goodIn_app (goodIn_of _ (by decide +kernel)) ggX3_manySeenWith_J6_bitCount_0f7a4
theorem dX3_manySeenWith_0 : decode cX3_manySeenWith 0 = .ok (.aload_n 0, 1) := by decide +kernel
theorem dX3_manySeenWith_1 : decode cX3_manySeenWith 1 = .ok (.invokevirtual 66, 3) := by decide +kernel
theorem dX3_manySeenWith_4 : decode cX3_manySeenWith 4 = .ok (.astore 4, 2) := by decide +kernel
theorem dX3_manySeenWith_6 : decode cX3_manySeenWith 6 = .ok (.aload 4, 2) := by decide +kernel
theorem dX3_manySeenWith_8 : decode cX3_manySeenWith 8 = .ok (.iload_n 1, 1) := by decide +kernel
theorem dX3_manySeenWith_9 : decode cX3_manySeenWith 9 = .ok (.iload_n 2, 1) := by decide +kernel
theorem dX3_manySeenWith_10 : decode cX3_manySeenWith 10 = .ok (.invokevirtual 137, 3) := by decide +kernel
theorem dX3_manySeenWith_13 : decode cX3_manySeenWith 13 = .ok (.aload 4, 2) := by decide +kernel
theorem dX3_manySeenWith_15 : decode cX3_manySeenWith 15 = .ok (.iload_n 3, 1) := by decide +kernel
theorem dX3_manySeenWith_16 : decode cX3_manySeenWith 16 = .ok (.invokevirtual 166, 3) := by decide +kernel
theorem dX3_manySeenWith_19 : decode cX3_manySeenWith 19 = .ok (.invokestatic 199, 3) := by decide +kernel
theorem dX3_manySeenWith_22 : decode cX3_manySeenWith 22 = .ok (.ireturn, 1) := by decide +kernel
set_option maxRecDepth 20000 in
theorem ggX3_isEverywhereWithout_X0_verdictIn : GoodIn wsX3_isEverywhereWithout wsX0_verdictIn := goodIn_r _ [7, 8, 9, 10, 11, 12, 6, 13, 14, 15, 16, 17, 18, 19, 20, 21, 22, 35, 36, 37, 38, 39, 40, 41, 42, 43, 44, 45] (by decide +kernel) (by decide +kernel)
set_option maxRecDepth 20000 in
theorem gX3_isEverywhereWithout_X0_verdictIn : GoodIn wsX3_isEverywhereWithout (wsV RX3 273 RX0 yX0_verdictIn wsX0_verdictIn) := goodIn_app (goodIn_of _ (by decide +kernel)) ggX3_isEverywhereWithout_X0_verdictIn
theorem dX3_isEverywhereWithout_0 : decode cX3_isEverywhereWithout 0 = .ok (.iconst 0, 1) := by decide +kernel
theorem dX3_isEverywhereWithout_1 : decode cX3_isEverywhereWithout 1 = .ok (.istore_n 3, 1) := by decide +kernel
theorem dX3_isEverywhereWithout_2 : decode cX3_isEverywhereWithout 2 = .ok (.iload_n 3, 1) := by decide +kernel
theorem dX3_isEverywhereWithout_3 : decode cX3_isEverywhereWithout 3 = .ok (.bipush 10, 2) := by decide +kernel
theorem dX3_isEverywhereWithout_5 : decode cX3_isEverywhereWithout 5 = .ok (.if_icmp .ge 32, 3) := by decide +kernel
theorem dX3_isEverywhereWithout_8 : decode cX3_isEverywhereWithout 8 = .ok (.aload_n 0, 1) := by decide +kernel
theorem dX3_isEverywhereWithout_9 : decode cX3_isEverywhereWithout 9 = .ok (.getfield 10, 3) := by decide +kernel
theorem dX3_isEverywhereWithout_12 : decode cX3_isEverywhereWithout 12 = .ok (.aload_n 0, 1) := by decide +kernel
theorem dX3_isEverywhereWithout_13 : decode cX3_isEverywhereWithout 13 = .ok (.getfield 43, 3) := by decide +kernel
theorem dX3_isEverywhereWithout_16 : decode cX3_isEverywhereWithout 16 = .ok (.iload_n 3, 1) := by decide +kernel
theorem dX3_isEverywhereWithout_17 : decode cX3_isEverywhereWithout 17 = .ok (.iaload, 1) := by decide +kernel
theorem dX3_isEverywhereWithout_18 : decode cX3_isEverywhereWithout 18 = .ok (.iload_n 1, 1) := by decide +kernel
theorem dX3_isEverywhereWithout_19 : decode cX3_isEverywhereWithout 19 = .ok (.iconst (-1), 1) := by decide +kernel
theorem dX3_isEverywhereWithout_20 : decode cX3_isEverywhereWithout 20 = .ok (.ixor, 1) := by decide +kernel
theorem dX3_isEverywhereWithout_21 : decode cX3_isEverywhereWithout 21 = .ok (.iand, 1) := by decide +kernel
theorem dX3_isEverywhereWithout_22 : decode cX3_isEverywhereWithout 22 = .ok (.invokevirtual 273, 3) := by decide +kernel
theorem dX3_isEverywhereWithout_25 : decode cX3_isEverywhereWithout 25 = .ok (.iload_n 2, 1) := by decide +kernel
theorem dX3_isEverywhereWithout_26 : decode cX3_isEverywhereWithout 26 = .ok (.if_icmp .eq 5, 3) := by decide +kernel
theorem dX3_isEverywhereWithout_29 : decode cX3_isEverywhereWithout 29 = .ok (.iconst 0, 1) := by decide +kernel
theorem dX3_isEverywhereWithout_30 : decode cX3_isEverywhereWithout 30 = .ok (.ireturn, 1) := by decide +kernel
theorem dX3_isEverywhereWithout_31 : decode cX3_isEverywhereWithout 31 = .ok (.iinc 3 1, 3) := by decide +kernel
theorem dX3_isEverywhereWithout_34 : decode cX3_isEverywhereWithout 34 = .ok (.goto (-32), 3) := by decide +kernel
theorem dX3_isEverywhereWithout_37 : decode cX3_isEverywhereWithout 37 = .ok (.iconst 1, 1) := by decide +kernel
theorem dX3_isEverywhereWithout_38 : decode cX3_isEverywhereWithout 38 = .ok (.ireturn, 1) := by decide +kernel
set_option maxRecDepth 20000 in
theorem ggX3_longestRun_X0_verdictFrom : GoodIn wsX3_longestRun wsX0_verdictFrom := goodIn_r _ [6, 7, 8, 9, 5, 10, 11, 12, 13, 14, 15, 16, 17, 18, 19, 20, 21, 22, 23, 24, 25, 26, 27, 28, 29, 30, 31, 32, 33, 34, 35, 36, 37, 38, 39, 40, 41, 42, 43, 44, 45, 46, 47, 48, 49, 50, 51, 52, 53, 54, 55, 56, 57, 58, 59, 60, 73, 74, 75, 76, 77, 78, 79, 80, 81, 82, 83] (by decide +kernel) (by decide +kernel)
set_option maxRecDepth 20000 in
theorem gX3_longestRun_X0_verdictFrom : GoodIn wsX3_longestRun (wsV RX3 169 RX0 yX0_verdictFrom wsX0_verdictFrom) := goodIn_app (goodIn_of _ (by decide +kernel)) ggX3_longestRun_X0_verdictFrom
theorem dX3_longestRun_0 : decode cX3_longestRun 0 = .ok (.iconst 0, 1) := by decide +kernel
theorem dX3_longestRun_1 : decode cX3_longestRun 1 = .ok (.istore_n 2, 1) := by decide +kernel
theorem dX3_longestRun_2 : decode cX3_longestRun 2 = .ok (.iconst 0, 1) := by decide +kernel
theorem dX3_longestRun_3 : decode cX3_longestRun 3 = .ok (.istore_n 3, 1) := by decide +kernel
theorem dX3_longestRun_4 : decode cX3_longestRun 4 = .ok (.iconst 0, 1) := by decide +kernel
theorem dX3_longestRun_5 : decode cX3_longestRun 5 = .ok (.istore 4, 2) := by decide +kernel
theorem dX3_longestRun_7 : decode cX3_longestRun 7 = .ok (.bipush (-9), 2) := by decide +kernel
theorem dX3_longestRun_9 : decode cX3_longestRun 9 = .ok (.istore 5, 2) := by decide +kernel
theorem dX3_longestRun_11 : decode cX3_longestRun 11 = .ok (.iconst 0, 1) := by decide +kernel
theorem dX3_longestRun_12 : decode cX3_longestRun 12 = .ok (.istore 6, 2) := by decide +kernel
theorem dX3_longestRun_14 : decode cX3_longestRun 14 = .ok (.iload 6, 2) := by decide +kernel
theorem dX3_longestRun_16 : decode cX3_longestRun 16 = .ok (.bipush 10, 2) := by decide +kernel
theorem dX3_longestRun_18 : decode cX3_longestRun 18 = .ok (.if_icmp .ge 58, 3) := by decide +kernel
theorem dX3_longestRun_21 : decode cX3_longestRun 21 = .ok (.aload_n 0, 1) := by decide +kernel
theorem dX3_longestRun_22 : decode cX3_longestRun 22 = .ok (.getfield 10, 3) := by decide +kernel
theorem dX3_longestRun_25 : decode cX3_longestRun 25 = .ok (.iload 6, 2) := by decide +kernel
theorem dX3_longestRun_27 : decode cX3_longestRun 27 = .ok (.invokevirtual 169, 3) := by decide +kernel
theorem dX3_longestRun_30 : decode cX3_longestRun 30 = .ok (.istore 7, 2) := by decide +kernel
theorem dX3_longestRun_32 : decode cX3_longestRun 32 = .ok (.iload 7, 2) := by decide +kernel
theorem dX3_longestRun_34 : decode cX3_longestRun 34 = .ok (.iload 5, 2) := by decide +kernel
theorem dX3_longestRun_36 : decode cX3_longestRun 36 = .ok (.if_icmp .ne 10, 3) := by decide +kernel
theorem dX3_longestRun_39 : decode cX3_longestRun 39 = .ok (.iload 4, 2) := by decide +kernel
theorem dX3_longestRun_41 : decode cX3_longestRun 41 = .ok (.iconst 1, 1) := by decide +kernel
theorem dX3_longestRun_42 : decode cX3_longestRun 42 = .ok (.iadd, 1) := by decide +kernel
theorem dX3_longestRun_43 : decode cX3_longestRun 43 = .ok (.goto 4, 3) := by decide +kernel
theorem dX3_longestRun_46 : decode cX3_longestRun 46 = .ok (.iconst 1, 1) := by decide +kernel
theorem dX3_longestRun_47 : decode cX3_longestRun 47 = .ok (.istore 4, 2) := by decide +kernel
theorem dX3_longestRun_49 : decode cX3_longestRun 49 = .ok (.iload 7, 2) := by decide +kernel
theorem dX3_longestRun_51 : decode cX3_longestRun 51 = .ok (.istore 5, 2) := by decide +kernel
theorem dX3_longestRun_53 : decode cX3_longestRun 53 = .ok (.iload 4, 2) := by decide +kernel
theorem dX3_longestRun_55 : decode cX3_longestRun 55 = .ok (.iload_n 2, 1) := by decide +kernel
theorem dX3_longestRun_56 : decode cX3_longestRun 56 = .ok (.if_icmp .le 14, 3) := by decide +kernel
theorem dX3_longestRun_59 : decode cX3_longestRun 59 = .ok (.iload 4, 2) := by decide +kernel
theorem dX3_longestRun_61 : decode cX3_longestRun 61 = .ok (.istore_n 2, 1) := by decide +kernel
theorem dX3_longestRun_62 : decode cX3_longestRun 62 = .ok (.iload 6, 2) := by decide +kernel
theorem dX3_longestRun_64 : decode cX3_longestRun 64 = .ok (.iload 4, 2) := by decide +kernel
theorem dX3_longestRun_66 : decode cX3_longestRun 66 = .ok (.isub, 1) := by decide +kernel
theorem dX3_longestRun_67 : decode cX3_longestRun 67 = .ok (.iconst 1, 1) := by decide +kernel
theorem dX3_longestRun_68 : decode cX3_longestRun 68 = .ok (.iadd, 1) := by decide +kernel
theorem dX3_longestRun_69 : decode cX3_longestRun 69 = .ok (.istore_n 3, 1) := by decide +kernel
theorem dX3_longestRun_70 : decode cX3_longestRun 70 = .ok (.iinc 6 1, 3) := by decide +kernel
theorem dX3_longestRun_73 : decode cX3_longestRun 73 = .ok (.goto (-59), 3) := by decide +kernel
theorem dX3_longestRun_76 : decode cX3_longestRun 76 = .ok (.iload_n 1, 1) := by decide +kernel
theorem dX3_longestRun_77 : decode cX3_longestRun 77 = .ok (.ifCond .eq 7, 3) := by decide +kernel
theorem dX3_longestRun_80 : decode cX3_longestRun 80 = .ok (.iload_n 3, 1) := by decide +kernel
theorem dX3_longestRun_81 : decode cX3_longestRun 81 = .ok (.goto 4, 3) := by decide +kernel
theorem dX3_longestRun_84 : decode cX3_longestRun 84 = .ok (.iload_n 2, 1) := by decide +kernel
theorem dX3_longestRun_85 : decode cX3_longestRun 85 = .ok (.ireturn, 1) := by decide +kernel
set_option maxRecDepth 20000 in
theorem ggX3_gainBehind_X3_inMind : GoodIn wsX3_gainBehind wsX3_inMind := goodIn_r _ [5, 6, 7, 8, 9, 10, 11, 12, 13, 14, 15, 16, 17, 18, 19, 20, 21, 22, 23, 24, 25, 26, 27, 97, 98, 99, 100, 101, 102, 103, 104, 105, 106, 107, 108, 109, 110, 111, 112, 113, 114, 115, 116, 117, 118, 119] (by decide +kernel) (by decide +kernel)
set_option maxRecDepth 20000 in
theorem gX3_gainBehind_X3_inMind : GoodIn wsX3_gainBehind (wsV RX3 66 RX3 yX3_inMind wsX3_inMind) := goodIn_app (goodIn_of _ (by decide +kernel)) ggX3_gainBehind_X3_inMind
set_option maxRecDepth 20000 in
theorem ggX3_gainBehind_X0_goOn : GoodIn wsX3_gainBehind wsX0_goOn := goodIn_r _ [31, 21, 109, 110, 111, 112, 113, 114, 115, 116, 117, 118, 119] (by decide +kernel) (by decide +kernel)
set_option maxRecDepth 20000 in
theorem gX3_gainBehind_X0_goOn : GoodIn wsX3_gainBehind (wsV RX3 294 RX0 yX0_goOn wsX0_goOn) := goodIn_app (goodIn_of _ (by decide +kernel)) ggX3_gainBehind_X0_goOn
set_option maxRecDepth 20000 in
theorem ggX3_gainBehind_X0_passHours : GoodIn wsX3_gainBehind wsX0_passHours := goodIn_r _ [35, 27, 24, 36, 37, 38, 11, 39, 19, 20, 40, 41, 42, 43, 29, 30, 31, 21, 109, 110, 111, 112, 113, 114, 115, 116, 117, 118, 119] (by decide +kernel) (by decide +kernel)
set_option maxRecDepth 20000 in
theorem gX3_gainBehind_X0_passHours : GoodIn wsX3_gainBehind (wsV RX3 160 RX0 yX0_passHours wsX0_passHours) := goodIn_app (goodIn_of _ (by decide +kernel)) ggX3_gainBehind_X0_passHours
set_option maxRecDepth 20000 in
theorem ggX3_gainBehind_X0_branchesWith : GoodIn wsX3_gainBehind wsX0_branchesWith := goodIn_r _ [47, 48, 49, 50, 11, 51, 24, 52, 53, 54, 55, 21, 56, 57, 58, 59, 25, 60, 61, 62, 63, 13, 64, 65, 66, 67, 19, 20, 27, 68, 69, 70, 71, 26, 18, 72, 73, 74, 75, 76, 77, 78, 79, 22, 80, 81, 82, 83, 23, 84, 85, 86, 87, 88, 4, 89, 109, 110, 111, 112, 113, 114, 115, 116, 117, 118, 119] (by decide +kernel) (by decide +kernel)
set_option maxRecDepth 20000 in
theorem gX3_gainBehind_X0_branchesWith : GoodIn wsX3_gainBehind (wsV RX3 192 RX0 yX0_branchesWith wsX0_branchesWith) := goodIn_app (goodIn_of _ (by decide +kernel)) ggX3_gainBehind_X0_branchesWith
set_option maxRecDepth 20000 in
theorem ggX3_gainBehind_J6_bitCount_0f7a4 : GoodIn wsX3_gainBehind wsJ6_bitCount_0f7a4 := goodIn_r _ [93, 94, 95, 96] (by decide +kernel) (by decide +kernel)
