theorem dX4_wrongBy_1 : decode cX4_wrongBy 1 = .ok (.iload_n 1, 1) := by decide +kernel
theorem dX4_wrongBy_2 : decode cX4_wrongBy 2 = .ok (.if_icmp .ge 8, 3) := by decide +kernel
theorem dX4_wrongBy_5 : decode cX4_wrongBy 5 = .ok (.bipush (-4), 2) := by decide +kernel
theorem dX4_wrongBy_7 : decode cX4_wrongBy 7 = .ok (.goto 14, 3) := by decide +kernel
theorem dX4_wrongBy_10 : decode cX4_wrongBy 10 = .ok (.iload_n 0, 1) := by decide +kernel
theorem dX4_wrongBy_11 : decode cX4_wrongBy 11 = .ok (.iload_n 2, 1) := by decide +kernel
theorem dX4_wrongBy_12 : decode cX4_wrongBy 12 = .ok (.if_icmp .le 8, 3) := by decide +kernel
theorem dX4_wrongBy_15 : decode cX4_wrongBy 15 = .ok (.bipush (-6), 2) := by decide +kernel
theorem dX4_wrongBy_17 : decode cX4_wrongBy 17 = .ok (.goto 4, 3) := by decide +kernel
theorem dX4_wrongBy_20 : decode cX4_wrongBy 20 = .ok (.iconst 0, 1) := by decide +kernel
theorem dX4_wrongBy_21 : decode cX4_wrongBy 21 = .ok (.ireturn, 1) := by decide +kernel
theorem dX4_sets_0 : decode cX4_sets 0 = .ok (.aload_n 0, 1) := by decide +kernel
theorem dX4_sets_1 : decode cX4_sets 1 = .ok (.getfield 9, 3) := by decide +kernel
theorem dX4_sets_4 : decode cX4_sets 4 = .ok (.iload_n 1, 1) := by decide +kernel
theorem dX4_sets_5 : decode cX4_sets 5 = .ok (.iaload, 1) := by decide +kernel
theorem dX4_sets_6 : decode cX4_sets 6 = .ok (.istore_n 3, 1) := by decide +kernel
theorem dX4_sets_7 : decode cX4_sets 7 = .ok (.aload_n 0, 1) := by decide +kernel
theorem dX4_sets_8 : decode cX4_sets 8 = .ok (.getfield 9, 3) := by decide +kernel
theorem dX4_sets_11 : decode cX4_sets 11 = .ok (.iload_n 1, 1) := by decide +kernel
theorem dX4_sets_12 : decode cX4_sets 12 = .ok (.iload_n 2, 1) := by decide +kernel
theorem dX4_sets_13 : decode cX4_sets 13 = .ok (.iastore, 1) := by decide +kernel
theorem dX4_sets_14 : decode cX4_sets 14 = .ok (.iload_n 3, 1) := by decide +kernel
theorem dX4_sets_15 : decode cX4_sets 15 = .ok (.ireturn, 1) := by decide +kernel
set_option maxRecDepth 20000 in
theorem ggX4_heaps_X4_isCell : GoodIn wsX4_heaps wsX4_isCell := goodIn_r _ [4, 5, 6, 3, 7] (by decide +kernel) (by decide +kernel)
set_option maxRecDepth 20000 in
theorem gX4_heaps_X4_isCell : GoodIn wsX4_heaps (va_wsS RX4 101 yX4_isCell wsX4_isCell) := goodIn_app (goodIn_of _ (by decide +kernel)) ggX4_heaps_X4_isCell
set_option maxRecDepth 20000 in
theorem ggX4_heaps_X4_wrongBy : GoodIn wsX4_heaps wsX4_wrongBy := goodIn_r _ [10] (by decide +kernel) (by decide +kernel)
set_option maxRecDepth 20000 in
theorem gX4_heaps_X4_wrongBy : GoodIn wsX4_heaps (va_wsS RX4 125 yX4_wrongBy wsX4_wrongBy) := goodIn_app (goodIn_of _ (by decide +kernel)) ggX4_heaps_X4_wrongBy
set_option maxRecDepth 20000 in
theorem ggX4_heaps_X4_no : GoodIn wsX4_heaps wsX4_no := goodIn_r _ [14, 15, 21, 22, 23, 24, 25, 26, 27, 28, 29, 30, 31, 32, 33] (by decide +kernel) (by decide +kernel)
set_option maxRecDepth 20000 in
theorem gX4_heaps_X4_no : GoodIn wsX4_heaps (wsV RX4 36 RX4 yX4_no wsX4_no) := goodIn_app (goodIn_of _ (by decide +kernel)) ggX4_heaps_X4_no
set_option maxRecDepth 20000 in
theorem ggX4_heaps_X4_sets : GoodIn wsX4_heaps wsX4_sets := goodIn_r _ [19, 20, 21, 22, 23, 24, 25, 26, 27, 28, 29, 30, 31, 32, 33] (by decide +kernel) (by decide +kernel)
set_option maxRecDepth 20000 in
theorem gX4_heaps_X4_sets : GoodIn wsX4_heaps (wsV RX4 128 RX4 yX4_sets wsX4_sets) := goodIn_app (goodIn_of _ (by decide +kernel)) ggX4_heaps_X4_sets
theorem dX4_heaps_0 : decode cX4_heaps 0 = .ok (.iload_n 1, 1) := by decide +kernel
theorem dX4_heaps_1 : decode cX4_heaps 1 = .ok (.invokestatic 101, 3) := by decide +kernel
theorem dX4_heaps_4 : decode cX4_heaps 4 = .ok (.ifCond .eq 13, 3) := by decide +kernel
theorem dX4_heaps_7 : decode cX4_heaps 7 = .ok (.iload_n 2, 1) := by decide +kernel
theorem dX4_heaps_8 : decode cX4_heaps 8 = .ok (.iconst 0, 1) := by decide +kernel
theorem dX4_heaps_9 : decode cX4_heaps 9 = .ok (.bipush 9, 2) := by decide +kernel
theorem dX4_heaps_11 : decode cX4_heaps 11 = .ok (.invokestatic 125, 3) := by decide +kernel
theorem dX4_heaps_14 : decode cX4_heaps 14 = .ok (.goto 4, 3) := by decide +kernel
theorem dX4_heaps_17 : decode cX4_heaps 17 = .ok (.iconst (-1), 1) := by decide +kernel
theorem dX4_heaps_18 : decode cX4_heaps 18 = .ok (.istore_n 3, 1) := by decide +kernel
theorem dX4_heaps_19 : decode cX4_heaps 19 = .ok (.iload_n 3, 1) := by decide +kernel
theorem dX4_heaps_20 : decode cX4_heaps 20 = .ok (.ifCond .eq 11, 3) := by decide +kernel
theorem dX4_heaps_23 : decode cX4_heaps 23 = .ok (.aload_n 0, 1) := by decide +kernel
theorem dX4_heaps_24 : decode cX4_heaps 24 = .ok (.iload_n 3, 1) := by decide +kernel
theorem dX4_heaps_25 : decode cX4_heaps 25 = .ok (.invokevirtual 36, 3) := by decide +kernel
theorem dX4_heaps_28 : decode cX4_heaps 28 = .ok (.goto 11, 3) := by decide +kernel
theorem dX4_heaps_31 : decode cX4_heaps 31 = .ok (.aload_n 0, 1) := by decide +kernel
theorem dX4_heaps_32 : decode cX4_heaps 32 = .ok (.iconst 4, 1) := by decide +kernel
theorem dX4_heaps_33 : decode cX4_heaps 33 = .ok (.iload_n 1, 1) := by decide +kernel
theorem dX4_heaps_34 : decode cX4_heaps 34 = .ok (.iadd, 1) := by decide +kernel
theorem dX4_heaps_35 : decode cX4_heaps 35 = .ok (.iload_n 2, 1) := by decide +kernel
theorem dX4_heaps_36 : decode cX4_heaps 36 = .ok (.invokevirtual 128, 3) := by decide +kernel
theorem dX4_heaps_39 : decode cX4_heaps 39 = .ok (.ireturn, 1) := by decide +kernel
set_option maxRecDepth 20000 in
theorem ggX4_drives_X4_isThing : GoodIn wsX4_drives wsX4_isThing := goodIn_r _ [5, 6, 7, 8, 4, 9, 25, 26, 27, 28, 29, 30, 31, 32, 33, 34, 35, 36, 37] (by decide +kernel) (by decide +kernel)
set_option maxRecDepth 20000 in
theorem gX4_drives_X4_isThing : GoodIn wsX4_drives (wsV RX4 108 RX4 yX4_isThing wsX4_isThing) := goodIn_app (goodIn_of _ (by decide +kernel)) ggX4_drives_X4_isThing
set_option maxRecDepth 20000 in
theorem ggX4_drives_X4_isCell : GoodIn wsX4_drives wsX4_isCell := goodIn_r _ [12, 7, 8, 4, 9] (by decide +kernel) (by decide +kernel)
set_option maxRecDepth 20000 in
theorem gX4_drives_X4_isCell : GoodIn wsX4_drives (va_wsS RX4 101 yX4_isCell wsX4_isCell) := goodIn_app (goodIn_of _ (by decide +kernel)) ggX4_drives_X4_isCell
set_option maxRecDepth 20000 in
theorem ggX4_drives_X4_of : GoodIn wsX4_drives wsX4_of := goodIn_r _ [15] (by decide +kernel) (by decide +kernel)
set_option maxRecDepth 20000 in
theorem gX4_drives_X4_of : GoodIn wsX4_drives (va_wsS RX4 44 yX4_of wsX4_of) := goodIn_app (goodIn_of _ (by decide +kernel)) ggX4_drives_X4_of
set_option maxRecDepth 20000 in
theorem ggX4_drives_X4_sets : GoodIn wsX4_drives wsX4_sets := goodIn_r _ [19, 6, 25, 26, 27, 28, 29, 30, 31, 32, 33, 34, 35, 36, 37] (by decide +kernel) (by decide +kernel)
set_option maxRecDepth 20000 in
theorem gX4_drives_X4_sets : GoodIn wsX4_drives (wsV RX4 128 RX4 yX4_sets wsX4_sets) := goodIn_app (goodIn_of _ (by decide +kernel)) ggX4_drives_X4_sets
set_option maxRecDepth 20000 in
theorem ggX4_drives_X4_no : GoodIn wsX4_drives wsX4_no := goodIn_r _ [23, 24, 25, 26, 27, 28, 29, 30, 31, 32, 33, 34, 35, 36, 37] (by decide +kernel) (by decide +kernel)
set_option maxRecDepth 20000 in
theorem gX4_drives_X4_no : GoodIn wsX4_drives (wsV RX4 36 RX4 yX4_no wsX4_no) := goodIn_app (goodIn_of _ (by decide +kernel)) ggX4_drives_X4_no
theorem dX4_drives_0 : decode cX4_drives 0 = .ok (.aload_n 0, 1) := by decide +kernel
theorem dX4_drives_1 : decode cX4_drives 1 = .ok (.iload_n 1, 1) := by decide +kernel
theorem dX4_drives_2 : decode cX4_drives 2 = .ok (.invokevirtual 108, 3) := by decide +kernel
theorem dX4_drives_5 : decode cX4_drives 5 = .ok (.ifCond .eq 23, 3) := by decide +kernel
theorem dX4_drives_8 : decode cX4_drives 8 = .ok (.iload_n 2, 1) := by decide +kernel
theorem dX4_drives_9 : decode cX4_drives 9 = .ok (.invokestatic 101, 3) := by decide +kernel
theorem dX4_drives_12 : decode cX4_drives 12 = .ok (.ifCond .eq 16, 3) := by decide +kernel
theorem dX4_drives_15 : decode cX4_drives 15 = .ok (.aload_n 0, 1) := by decide +kernel
theorem dX4_drives_16 : decode cX4_drives 16 = .ok (.iload_n 1, 1) := by decide +kernel
theorem dX4_drives_17 : decode cX4_drives 17 = .ok (.iconst 2, 1) := by decide +kernel
theorem dX4_drives_18 : decode cX4_drives 18 = .ok (.invokestatic 44, 3) := by decide +kernel
theorem dX4_drives_21 : decode cX4_drives 21 = .ok (.iload_n 2, 1) := by decide +kernel
theorem dX4_drives_22 : decode cX4_drives 22 = .ok (.invokevirtual 128, 3) := by decide +kernel
theorem dX4_drives_25 : decode cX4_drives 25 = .ok (.goto 8, 3) := by decide +kernel
theorem dX4_drives_28 : decode cX4_drives 28 = .ok (.aload_n 0, 1) := by decide +kernel
theorem dX4_drives_29 : decode cX4_drives 29 = .ok (.iconst (-1), 1) := by decide +kernel
theorem dX4_drives_30 : decode cX4_drives 30 = .ok (.invokevirtual 36, 3) := by decide +kernel
theorem dX4_drives_33 : decode cX4_drives 33 = .ok (.ireturn, 1) := by decide +kernel
set_option maxRecDepth 20000 in
theorem ggX4_hides_X4_isThing : GoodIn wsX4_hides wsX4_isThing := goodIn_r _ [6, 1, 7, 8, 5, 9, 15, 16, 17, 18, 19, 20, 21, 22, 23, 24, 25, 26, 27] (by decide +kernel) (by decide +kernel)
set_option maxRecDepth 20000 in
theorem gX4_hides_X4_isThing : GoodIn wsX4_hides (wsV RX4 108 RX4 yX4_isThing wsX4_isThing) := goodIn_app (goodIn_of _ (by decide +kernel)) ggX4_hides_X4_isThing
set_option maxRecDepth 20000 in
theorem ggX4_hides_X4_no : GoodIn wsX4_hides wsX4_no := goodIn_r _ [13, 14, 15, 16, 17, 18, 19, 20, 21, 22, 23, 24, 25, 26, 27] (by decide +kernel) (by decide +kernel)
set_option maxRecDepth 20000 in
theorem gX4_hides_X4_no : GoodIn wsX4_hides (wsV RX4 36 RX4 yX4_no wsX4_no) := goodIn_app (goodIn_of _ (by decide +kernel)) ggX4_hides_X4_no
theorem dX4_hides_0 : decode cX4_hides 0 = .ok (.aload_n 0, 1) := by decide +kernel
theorem dX4_hides_1 : decode cX4_hides 1 = .ok (.iload_n 1, 1) := by decide +kernel
theorem dX4_hides_2 : decode cX4_hides 2 = .ok (.invokevirtual 108, 3) := by decide +kernel
theorem dX4_hides_5 : decode cX4_hides 5 = .ok (.ifCond .ne 9, 3) := by decide +kernel
theorem dX4_hides_8 : decode cX4_hides 8 = .ok (.aload_n 0, 1) := by decide +kernel
theorem dX4_hides_9 : decode cX4_hides 9 = .ok (.iconst (-1), 1) := by decide +kernel
theorem dX4_hides_10 : decode cX4_hides 10 = .ok (.invokevirtual 36, 3) := by decide +kernel
theorem dX4_hides_13 : decode cX4_hides 13 = .ok (.ireturn, 1) := by decide +kernel
theorem dX4_hides_14 : decode cX4_hides 14 = .ok (.aload_n 0, 1) := by decide +kernel
theorem dX4_hides_15 : decode cX4_hides 15 = .ok (.getfield 9, 3) := by decide +kernel
theorem dX4_hides_18 : decode cX4_hides 18 = .ok (.iconst 3, 1) := by decide +kernel
theorem dX4_hides_19 : decode cX4_hides 19 = .ok (.dup2, 1) := by decide +kernel
theorem dX4_hides_20 : decode cX4_hides 20 = .ok (.iaload, 1) := by decide +kernel
theorem dX4_hides_21 : decode cX4_hides 21 = .ok (.iconst 1, 1) := by decide +kernel
theorem dX4_hides_22 : decode cX4_hides 22 = .ok (.iload_n 1, 1) := by decide +kernel
theorem dX4_hides_23 : decode cX4_hides 23 = .ok (.ishl, 1) := by decide +kernel
theorem dX4_hides_24 : decode cX4_hides 24 = .ok (.ixor, 1) := by decide +kernel
theorem dX4_hides_25 : decode cX4_hides 25 = .ok (.iastore, 1) := by decide +kernel
theorem dX4_hides_26 : decode cX4_hides 26 = .ok (.aload_n 0, 1) := by decide +kernel
theorem dX4_hides_27 : decode cX4_hides 27 = .ok (.getfield 9, 3) := by decide +kernel
theorem dX4_hides_30 : decode cX4_hides 30 = .ok (.iconst 3, 1) := by decide +kernel
theorem dX4_hides_31 : decode cX4_hides 31 = .ok (.iaload, 1) := by decide +kernel
theorem dX4_hides_32 : decode cX4_hides 32 = .ok (.iload_n 1, 1) := by decide +kernel
theorem dX4_hides_33 : decode cX4_hides 33 = .ok (.ishr, 1) := by decide +kernel
theorem dX4_hides_34 : decode cX4_hides 34 = .ok (.iconst 1, 1) := by decide +kernel
theorem dX4_hides_35 : decode cX4_hides 35 = .ok (.iand, 1) := by decide +kernel
theorem dX4_hides_36 : decode cX4_hides 36 = .ok (.ireturn, 1) := by decide +kernel
set_option maxRecDepth 20000 in
theorem ggX4_decrees_X4_isIn : GoodIn wsX4_decrees wsX4_isIn := goodIn_r _ [5] (by decide +kernel) (by decide +kernel)
set_option maxRecDepth 20000 in
theorem gX4_decrees_X4_isIn : GoodIn wsX4_decrees (va_wsS RX4 40 yX4_isIn wsX4_isIn) := goodIn_app (goodIn_of _ (by decide +kernel)) ggX4_decrees_X4_isIn
set_option maxRecDepth 20000 in
theorem ggX4_decrees_X4_isVerdict : GoodIn wsX4_decrees wsX4_isVerdict := goodIn_r _ [8, 2, 3, 4, 5] (by decide +kernel) (by decide +kernel)
set_option maxRecDepth 20000 in
theorem gX4_decrees_X4_isVerdict : GoodIn wsX4_decrees (va_wsS RX4 105 yX4_isVerdict wsX4_isVerdict) := goodIn_app (goodIn_of _ (by decide +kernel)) ggX4_decrees_X4_isVerdict
set_option maxRecDepth 20000 in
theorem ggX4_decrees_X4_wrongBy : GoodIn wsX4_decrees wsX4_wrongBy := goodIn_r _ [11] (by decide +kernel) (by decide +kernel)
set_option maxRecDepth 20000 in
theorem gX4_decrees_X4_wrongBy : GoodIn wsX4_decrees (va_wsS RX4 125 yX4_wrongBy wsX4_wrongBy) := goodIn_app (goodIn_of _ (by decide +kernel)) ggX4_decrees_X4_wrongBy
set_option maxRecDepth 20000 in
theorem ggX4_decrees_X4_no : GoodIn wsX4_decrees wsX4_no := goodIn_r _ [15, 16, 17, 18, 19, 20, 21, 22, 23, 24, 25, 26, 27, 28, 29] (by decide +kernel) (by decide +kernel)
set_option maxRecDepth 20000 in
theorem gX4_decrees_X4_no : GoodIn wsX4_decrees (wsV RX4 36 RX4 yX4_no wsX4_no) := goodIn_app (goodIn_of _ (by decide +kernel)) ggX4_decrees_X4_no
theorem dX4_decrees_0 : decode cX4_decrees 0 = .ok (.iload_n 1, 1) := by decide +kernel
theorem dX4_decrees_1 : decode cX4_decrees 1 = .ok (.iconst 0, 1) := by decide +kernel
theorem dX4_decrees_2 : decode cX4_decrees 2 = .ok (.iconst 5, 1) := by decide +kernel
theorem dX4_decrees_3 : decode cX4_decrees 3 = .ok (.invokestatic 40, 3) := by decide +kernel
theorem dX4_decrees_6 : decode cX4_decrees 6 = .ok (.ifCond .eq 20, 3) := by decide +kernel
theorem dX4_decrees_9 : decode cX4_decrees 9 = .ok (.iload_n 2, 1) := by decide +kernel
theorem dX4_decrees_10 : decode cX4_decrees 10 = .ok (.invokestatic 105, 3) := by decide +kernel
theorem dX4_decrees_13 : decode cX4_decrees 13 = .ok (.ifCond .eq 13, 3) := by decide +kernel
theorem dX4_decrees_16 : decode cX4_decrees 16 = .ok (.iload_n 3, 1) := by decide +kernel
theorem dX4_decrees_17 : decode cX4_decrees 17 = .ok (.iconst 0, 1) := by decide +kernel
theorem dX4_decrees_18 : decode cX4_decrees 18 = .ok (.bipush 9, 2) := by decide +kernel
theorem dX4_decrees_20 : decode cX4_decrees 20 = .ok (.invokestatic 125, 3) := by decide +kernel
theorem dX4_decrees_23 : decode cX4_decrees 23 = .ok (.goto 5, 3) := by decide +kernel
theorem dX4_decrees_26 : decode cX4_decrees 26 = .ok (.bipush (-2), 2) := by decide +kernel
theorem dX4_decrees_28 : decode cX4_decrees 28 = .ok (.istore 4, 2) := by decide +kernel
theorem dX4_decrees_30 : decode cX4_decrees 30 = .ok (.iload 4, 2) := by decide +kernel
theorem dX4_decrees_32 : decode cX4_decrees 32 = .ok (.ifCond .eq 10, 3) := by decide +kernel
theorem dX4_decrees_35 : decode cX4_decrees 35 = .ok (.aload_n 0, 1) := by decide +kernel
theorem dX4_decrees_36 : decode cX4_decrees 36 = .ok (.iload 4, 2) := by decide +kernel
theorem dX4_decrees_38 : decode cX4_decrees 38 = .ok (.invokevirtual 36, 3) := by decide +kernel
theorem dX4_decrees_41 : decode cX4_decrees 41 = .ok (.ireturn, 1) := by decide +kernel
theorem dX4_decrees_42 : decode cX4_decrees 42 = .ok (.bipush 10, 2) := by decide +kernel
theorem dX4_decrees_44 : decode cX4_decrees 44 = .ok (.aload_n 0, 1) := by decide +kernel
theorem dX4_decrees_45 : decode cX4_decrees 45 = .ok (.getfield 9, 3) := by decide +kernel
theorem dX4_decrees_48 : decode cX4_decrees 48 = .ok (.bipush 20, 2) := by decide +kernel
theorem dX4_decrees_50 : decode cX4_decrees 50 = .ok (.iload_n 1, 1) := by decide +kernel
theorem dX4_decrees_51 : decode cX4_decrees 51 = .ok (.iadd, 1) := by decide +kernel
theorem dX4_decrees_52 : decode cX4_decrees 52 = .ok (.iaload, 1) := by decide +kernel
theorem dX4_decrees_53 : decode cX4_decrees 53 = .ok (.imul, 1) := by decide +kernel
theorem dX4_decrees_54 : decode cX4_decrees 54 = .ok (.aload_n 0, 1) := by decide +kernel
theorem dX4_decrees_55 : decode cX4_decrees 55 = .ok (.getfield 9, 3) := by decide +kernel
theorem dX4_decrees_58 : decode cX4_decrees 58 = .ok (.bipush 26, 2) := by decide +kernel
theorem dX4_decrees_60 : decode cX4_decrees 60 = .ok (.iload_n 1, 1) := by decide +kernel
theorem dX4_decrees_61 : decode cX4_decrees 61 = .ok (.iadd, 1) := by decide +kernel
theorem dX4_decrees_62 : decode cX4_decrees 62 = .ok (.iaload, 1) := by decide +kernel
theorem dX4_decrees_63 : decode cX4_decrees 63 = .ok (.iadd, 1) := by decide +kernel
theorem dX4_decrees_64 : decode cX4_decrees 64 = .ok (.istore 5, 2) := by decide +kernel
theorem dX4_decrees_66 : decode cX4_decrees 66 = .ok (.aload_n 0, 1) := by decide +kernel
theorem dX4_decrees_67 : decode cX4_decrees 67 = .ok (.getfield 9, 3) := by decide +kernel
theorem dX4_decrees_70 : decode cX4_decrees 70 = .ok (.bipush 20, 2) := by decide +kernel
theorem dX4_decrees_72 : decode cX4_decrees 72 = .ok (.iload_n 1, 1) := by decide +kernel
theorem dX4_decrees_73 : decode cX4_decrees 73 = .ok (.iadd, 1) := by decide +kernel
theorem dX4_decrees_74 : decode cX4_decrees 74 = .ok (.iload_n 2, 1) := by decide +kernel
theorem dX4_decrees_75 : decode cX4_decrees 75 = .ok (.iastore, 1) := by decide +kernel
theorem dX4_decrees_76 : decode cX4_decrees 76 = .ok (.aload_n 0, 1) := by decide +kernel
theorem dX4_decrees_77 : decode cX4_decrees 77 = .ok (.getfield 9, 3) := by decide +kernel
theorem dX4_decrees_80 : decode cX4_decrees 80 = .ok (.bipush 26, 2) := by decide +kernel
theorem dX4_decrees_82 : decode cX4_decrees 82 = .ok (.iload_n 1, 1) := by decide +kernel
theorem dX4_decrees_83 : decode cX4_decrees 83 = .ok (.iadd, 1) := by decide +kernel
theorem dX4_decrees_84 : decode cX4_decrees 84 = .ok (.iload_n 3, 1) := by decide +kernel
theorem dX4_decrees_85 : decode cX4_decrees 85 = .ok (.iastore, 1) := by decide +kernel
theorem dX4_decrees_86 : decode cX4_decrees 86 = .ok (.iload 5, 2) := by decide +kernel
theorem dX4_decrees_88 : decode cX4_decrees 88 = .ok (.ireturn, 1) := by decide +kernel
set_option maxRecDepth 20000 in
theorem ggX4_eyes_X4_wrongBy : GoodIn wsX4_eyes wsX4_wrongBy := goodIn_r _ [4] (by decide +kernel) (by decide +kernel)
set_option maxRecDepth 20000 in
theorem gX4_eyes_X4_wrongBy : GoodIn wsX4_eyes (va_wsS RX4 125 yX4_wrongBy wsX4_wrongBy) := goodIn_app (goodIn_of _ (by decide +kernel)) ggX4_eyes_X4_wrongBy
set_option maxRecDepth 20000 in
theorem ggX4_eyes_X4_no : GoodIn wsX4_eyes wsX4_no := goodIn_r _ [8, 9, 15, 16, 17, 18, 19, 20, 21, 22, 23, 24, 25, 26, 27] (by decide +kernel) (by decide +kernel)
set_option maxRecDepth 20000 in
theorem gX4_eyes_X4_no : GoodIn wsX4_eyes (wsV RX4 36 RX4 yX4_no wsX4_no) := goodIn_app (goodIn_of _ (by decide +kernel)) ggX4_eyes_X4_no
set_option maxRecDepth 20000 in
theorem ggX4_eyes_X4_sets : GoodIn wsX4_eyes wsX4_sets := goodIn_r _ [13, 14, 15, 16, 17, 18, 19, 20, 21, 22, 23, 24, 25, 26, 27] (by decide +kernel) (by decide +kernel)
set_option maxRecDepth 20000 in
theorem gX4_eyes_X4_sets : GoodIn wsX4_eyes (wsV RX4 128 RX4 yX4_sets wsX4_sets) := goodIn_app (goodIn_of _ (by decide +kernel)) ggX4_eyes_X4_sets
theorem dX4_eyes_0 : decode cX4_eyes 0 = .ok (.iload_n 1, 1) := by decide +kernel
theorem dX4_eyes_1 : decode cX4_eyes 1 = .ok (.iconst 0, 1) := by decide +kernel
theorem dX4_eyes_2 : decode cX4_eyes 2 = .ok (.bipush 16, 2) := by decide +kernel
theorem dX4_eyes_4 : decode cX4_eyes 4 = .ok (.invokestatic 125, 3) := by decide +kernel
theorem dX4_eyes_7 : decode cX4_eyes 7 = .ok (.istore_n 2, 1) := by decide +kernel
theorem dX4_eyes_8 : decode cX4_eyes 8 = .ok (.iload_n 2, 1) := by decide +kernel
theorem dX4_eyes_9 : decode cX4_eyes 9 = .ok (.ifCond .eq 11, 3) := by decide +kernel
theorem dX4_eyes_12 : decode cX4_eyes 12 = .ok (.aload_n 0, 1) := by decide +kernel
theorem dX4_eyes_13 : decode cX4_eyes 13 = .ok (.iload_n 2, 1) := by decide +kernel
theorem dX4_eyes_14 : decode cX4_eyes 14 = .ok (.invokevirtual 36, 3) := by decide +kernel
theorem dX4_eyes_17 : decode cX4_eyes 17 = .ok (.goto 9, 3) := by decide +kernel
theorem dX4_eyes_20 : decode cX4_eyes 20 = .ok (.aload_n 0, 1) := by decide +kernel
theorem dX4_eyes_21 : decode cX4_eyes 21 = .ok (.iconst 2, 1) := by decide +kernel
theorem dX4_eyes_22 : decode cX4_eyes 22 = .ok (.iload_n 1, 1) := by decide +kernel
theorem dX4_eyes_23 : decode cX4_eyes 23 = .ok (.invokevirtual 128, 3) := by decide +kernel
theorem dX4_eyes_26 : decode cX4_eyes 26 = .ok (.ireturn, 1) := by decide +kernel
set_option maxRecDepth 20000 in
theorem ggX4_turn_X4_isThing : GoodIn wsX4_turn wsX4_isThing := goodIn_r _ [6, 1, 7, 8, 5, 9, 21, 22, 23, 24, 25, 26, 27, 28, 29, 30, 31, 32, 33] (by decide +kernel) (by decide +kernel)
set_option maxRecDepth 20000 in
theorem gX4_turn_X4_isThing : GoodIn wsX4_turn (wsV RX4 108 RX4 yX4_isThing wsX4_isThing) := goodIn_app (goodIn_of _ (by decide +kernel)) ggX4_turn_X4_isThing
set_option maxRecDepth 20000 in
theorem ggX4_turn_X4_isIn : GoodIn wsX4_turn wsX4_isIn := goodIn_r _ [9] (by decide +kernel) (by decide +kernel)
set_option maxRecDepth 20000 in
theorem gX4_turn_X4_isIn : GoodIn wsX4_turn (va_wsS RX4 40 yX4_isIn wsX4_isIn) := goodIn_app (goodIn_of _ (by decide +kernel)) ggX4_turn_X4_isIn
set_option maxRecDepth 20000 in
theorem ggX4_turn_X4_wrongBy : GoodIn wsX4_turn wsX4_wrongBy := goodIn_r _ [12] (by decide +kernel) (by decide +kernel)
set_option maxRecDepth 20000 in
theorem gX4_turn_X4_wrongBy : GoodIn wsX4_turn (va_wsS RX4 125 yX4_wrongBy wsX4_wrongBy) := goodIn_app (goodIn_of _ (by decide +kernel)) ggX4_turn_X4_wrongBy
set_option maxRecDepth 20000 in
theorem ggX4_turn_X4_no : GoodIn wsX4_turn wsX4_no := goodIn_r _ [16, 17, 21, 22, 23, 24, 25, 26, 27, 28, 29, 30, 31, 32, 33] (by decide +kernel) (by decide +kernel)
set_option maxRecDepth 20000 in
theorem gX4_turn_X4_no : GoodIn wsX4_turn (wsV RX4 36 RX4 yX4_no wsX4_no) := goodIn_app (goodIn_of _ (by decide +kernel)) ggX4_turn_X4_no
set_option maxRecDepth 20000 in
theorem ggX4_turn_X4_of : GoodIn wsX4_turn wsX4_of := goodIn_r _ [20] (by decide +kernel) (by decide +kernel)
set_option maxRecDepth 20000 in
theorem gX4_turn_X4_of : GoodIn wsX4_turn (va_wsS RX4 44 yX4_of wsX4_of) := goodIn_app (goodIn_of _ (by decide +kernel)) ggX4_turn_X4_of
theorem dX4_turn_0 : decode cX4_turn 0 = .ok (.aload_n 0, 1) := by decide +kernel
theorem dX4_turn_1 : decode cX4_turn 1 = .ok (.iload_n 1, 1) := by decide +kernel
theorem dX4_turn_2 : decode cX4_turn 2 = .ok (.invokevirtual 108, 3) := by decide +kernel
theorem dX4_turn_5 : decode cX4_turn 5 = .ok (.ifCond .ne 7, 3) := by decide +kernel
theorem dX4_turn_8 : decode cX4_turn 8 = .ok (.iconst (-1), 1) := by decide +kernel
theorem dX4_turn_9 : decode cX4_turn 9 = .ok (.goto 24, 3) := by decide +kernel
theorem dX4_turn_12 : decode cX4_turn 12 = .ok (.iload_n 2, 1) := by decide +kernel
theorem dX4_turn_13 : decode cX4_turn 13 = .ok (.iconst 0, 1) := by decide +kernel
theorem dX4_turn_14 : decode cX4_turn 14 = .ok (.iconst 5, 1) := by decide +kernel
theorem dX4_turn_15 : decode cX4_turn 15 = .ok (.invokestatic 40, 3) := by decide +kernel
theorem dX4_turn_18 : decode cX4_turn 18 = .ok (.ifCond .ne 8, 3) := by decide +kernel
theorem dX4_turn_21 : decode cX4_turn 21 = .ok (.bipush (-2), 2) := by decide +kernel
theorem dX4_turn_23 : decode cX4_turn 23 = .ok (.goto 10, 3) := by decide +kernel
theorem dX4_turn_26 : decode cX4_turn 26 = .ok (.iload_n 3, 1) := by decide +kernel
theorem dX4_turn_27 : decode cX4_turn 27 = .ok (.iconst 0, 1) := by decide +kernel
theorem dX4_turn_28 : decode cX4_turn 28 = .ok (.bipush 9, 2) := by decide +kernel
theorem dX4_turn_30 : decode cX4_turn 30 = .ok (.invokestatic 125, 3) := by decide +kernel
theorem dX4_turn_33 : decode cX4_turn 33 = .ok (.istore 4, 2) := by decide +kernel
theorem dX4_turn_35 : decode cX4_turn 35 = .ok (.iload 4, 2) := by decide +kernel
theorem dX4_turn_37 : decode cX4_turn 37 = .ok (.ifCond .eq 10, 3) := by decide +kernel
theorem dX4_turn_40 : decode cX4_turn 40 = .ok (.aload_n 0, 1) := by decide +kernel
theorem dX4_turn_41 : decode cX4_turn 41 = .ok (.iload 4, 2) := by decide +kernel
theorem dX4_turn_43 : decode cX4_turn 43 = .ok (.invokevirtual 36, 3) := by decide +kernel
theorem dX4_turn_46 : decode cX4_turn 46 = .ok (.ireturn, 1) := by decide +kernel
theorem dX4_turn_47 : decode cX4_turn 47 = .ok (.bipush 10, 2) := by decide +kernel
theorem dX4_turn_49 : decode cX4_turn 49 = .ok (.aload_n 0, 1) := by decide +kernel
theorem dX4_turn_50 : decode cX4_turn 50 = .ok (.getfield 9, 3) := by decide +kernel
theorem dX4_turn_53 : decode cX4_turn 53 = .ok (.iload_n 1, 1) := by decide +kernel
theorem dX4_turn_54 : decode cX4_turn 54 = .ok (.iconst 0, 1) := by decide +kernel
theorem dX4_turn_55 : decode cX4_turn 55 = .ok (.invokestatic 44, 3) := by decide +kernel
theorem dX4_turn_58 : decode cX4_turn 58 = .ok (.iaload, 1) := by decide +kernel
theorem dX4_turn_59 : decode cX4_turn 59 = .ok (.imul, 1) := by decide +kernel
theorem dX4_turn_60 : decode cX4_turn 60 = .ok (.aload_n 0, 1) := by decide +kernel
theorem dX4_turn_61 : decode cX4_turn 61 = .ok (.getfield 9, 3) := by decide +kernel
theorem dX4_turn_64 : decode cX4_turn 64 = .ok (.iload_n 1, 1) := by decide +kernel
theorem dX4_turn_65 : decode cX4_turn 65 = .ok (.iconst 1, 1) := by decide +kernel
theorem dX4_turn_66 : decode cX4_turn 66 = .ok (.invokestatic 44, 3) := by decide +kernel
theorem dX4_turn_69 : decode cX4_turn 69 = .ok (.iaload, 1) := by decide +kernel
theorem dX4_turn_70 : decode cX4_turn 70 = .ok (.iadd, 1) := by decide +kernel
theorem dX4_turn_71 : decode cX4_turn 71 = .ok (.istore 5, 2) := by decide +kernel
theorem dX4_turn_73 : decode cX4_turn 73 = .ok (.aload_n 0, 1) := by decide +kernel
theorem dX4_turn_74 : decode cX4_turn 74 = .ok (.getfield 9, 3) := by decide +kernel
theorem dX4_turn_77 : decode cX4_turn 77 = .ok (.iload_n 1, 1) := by decide +kernel
theorem dX4_turn_78 : decode cX4_turn 78 = .ok (.iconst 0, 1) := by decide +kernel
theorem dX4_turn_79 : decode cX4_turn 79 = .ok (.invokestatic 44, 3) := by decide +kernel
theorem dX4_turn_82 : decode cX4_turn 82 = .ok (.iload_n 2, 1) := by decide +kernel
theorem dX4_turn_83 : decode cX4_turn 83 = .ok (.iastore, 1) := by decide +kernel
theorem dX4_turn_84 : decode cX4_turn 84 = .ok (.aload_n 0, 1) := by decide +kernel
theorem dX4_turn_85 : decode cX4_turn 85 = .ok (.getfield 9, 3) := by decide +kernel
theorem dX4_turn_88 : decode cX4_turn 88 = .ok (.iload_n 1, 1) := by decide +kernel
theorem dX4_turn_89 : decode cX4_turn 89 = .ok (.iconst 1, 1) := by decide +kernel
theorem dX4_turn_90 : decode cX4_turn 90 = .ok (.invokestatic 44, 3) := by decide +kernel
theorem dX4_turn_93 : decode cX4_turn 93 = .ok (.iload_n 3, 1) := by decide +kernel
theorem dX4_turn_94 : decode cX4_turn 94 = .ok (.iastore, 1) := by decide +kernel
theorem dX4_turn_95 : decode cX4_turn 95 = .ok (.iload 5, 2) := by decide +kernel
theorem dX4_turn_97 : decode cX4_turn 97 = .ok (.ireturn, 1) := by decide +kernel
set_option maxRecDepth 20000 in
theorem ggX4_hours_X4_no : GoodIn wsX4_hours wsX4_no := goodIn_r _ [6, 7, 20, 21, 22, 23, 24, 25, 26, 27, 28, 29, 30, 31, 32] (by decide +kernel) (by decide +kernel)
set_option maxRecDepth 20000 in
theorem gX4_hours_X4_no : GoodIn wsX4_hours (wsV RX4 36 RX4 yX4_no wsX4_no) := goodIn_app (goodIn_of _ (by decide +kernel)) ggX4_hours_X4_no
set_option maxRecDepth 20000 in
theorem ggX4_hours_X4_hoursOn : GoodIn wsX4_hours wsX4_hoursOn := goodIn_r _ [10, 11, 12, 5, 13, 14, 15, 16, 17, 18, 19] (by decide +kernel) (by decide +kernel)
set_option maxRecDepth 20000 in
theorem gX4_hours_X4_hoursOn : GoodIn wsX4_hours (va_wsS RX4 111 yX4_hoursOn wsX4_hoursOn) := goodIn_app (goodIn_of _ (by decide +kernel)) ggX4_hours_X4_hoursOn
theorem dX4_hours_0 : decode cX4_hours 0 = .ok (.iload_n 1, 1) := by decide +kernel
theorem dX4_hours_1 : decode cX4_hours 1 = .ok (.iconst 1, 1) := by decide +kernel
theorem dX4_hours_2 : decode cX4_hours 2 = .ok (.if_icmp .ge 10, 3) := by decide +kernel
theorem dX4_hours_5 : decode cX4_hours 5 = .ok (.aload_n 0, 1) := by decide +kernel
theorem dX4_hours_6 : decode cX4_hours 6 = .ok (.bipush (-4), 2) := by decide +kernel
theorem dX4_hours_8 : decode cX4_hours 8 = .ok (.invokevirtual 36, 3) := by decide +kernel
theorem dX4_hours_11 : decode cX4_hours 11 = .ok (.ireturn, 1) := by decide +kernel
theorem dX4_hours_12 : decode cX4_hours 12 = .ok (.iload_n 1, 1) := by decide +kernel
theorem dX4_hours_13 : decode cX4_hours 13 = .ok (.bipush 60, 2) := by decide +kernel
theorem dX4_hours_15 : decode cX4_hours 15 = .ok (.if_icmp .gt 17, 3) := by decide +kernel
theorem dX4_hours_18 : decode cX4_hours 18 = .ok (.aload_n 0, 1) := by decide +kernel
theorem dX4_hours_19 : decode cX4_hours 19 = .ok (.getfield 9, 3) := by decide +kernel
theorem dX4_hours_22 : decode cX4_hours 22 = .ok (.iconst 1, 1) := by decide +kernel
theorem dX4_hours_23 : decode cX4_hours 23 = .ok (.iaload, 1) := by decide +kernel
theorem dX4_hours_24 : decode cX4_hours 24 = .ok (.iload_n 1, 1) := by decide +kernel
theorem dX4_hours_25 : decode cX4_hours 25 = .ok (.iadd, 1) := by decide +kernel
theorem dX4_hours_26 : decode cX4_hours 26 = .ok (.sipush 999, 3) := by decide +kernel
theorem dX4_hours_29 : decode cX4_hours 29 = .ok (.if_icmp .le 10, 3) := by decide +kernel
theorem dX4_hours_32 : decode cX4_hours 32 = .ok (.aload_n 0, 1) := by decide +kernel
theorem dX4_hours_33 : decode cX4_hours 33 = .ok (.bipush (-6), 2) := by decide +kernel
theorem dX4_hours_35 : decode cX4_hours 35 = .ok (.invokevirtual 36, 3) := by decide +kernel
theorem dX4_hours_38 : decode cX4_hours 38 = .ok (.ireturn, 1) := by decide +kernel
theorem dX4_hours_39 : decode cX4_hours 39 = .ok (.aload_n 0, 1) := by decide +kernel
theorem dX4_hours_40 : decode cX4_hours 40 = .ok (.getfield 9, 3) := by decide +kernel
theorem dX4_hours_43 : decode cX4_hours 43 = .ok (.iload_n 1, 1) := by decide +kernel
theorem dX4_hours_44 : decode cX4_hours 44 = .ok (.invokestatic 111, 3) := by decide +kernel
theorem dX4_hours_47 : decode cX4_hours 47 = .ok (.aload_n 0, 1) := by decide +kernel
theorem dX4_hours_48 : decode cX4_hours 48 = .ok (.getfield 9, 3) := by decide +kernel
theorem dX4_hours_51 : decode cX4_hours 51 = .ok (.iconst 1, 1) := by decide +kernel
theorem dX4_hours_52 : decode cX4_hours 52 = .ok (.iaload, 1) := by decide +kernel
theorem dX4_hours_53 : decode cX4_hours 53 = .ok (.ireturn, 1) := by decide +kernel
set_option maxRecDepth 20000 in
theorem ggX4_farthestSeen_X4_seenIn : GoodIn wsX4_farthestSeen wsX4_seenIn := goodIn_r _ [5, 6, 7, 4, 8, 9, 10, 11, 12, 13, 14, 15, 16, 17, 18, 19, 20] (by decide +kernel) (by decide +kernel)
set_option maxRecDepth 20000 in
theorem gX4_farthestSeen_X4_seenIn : GoodIn wsX4_farthestSeen (va_wsS RX4 64 yX4_seenIn wsX4_seenIn) := goodIn_app (goodIn_of _ (by decide +kernel)) ggX4_farthestSeen_X4_seenIn
set_option maxRecDepth 20000 in
theorem ggX4_farthestSeen_X4_has : GoodIn wsX4_farthestSeen wsX4_has := goodIn_r _ [8] (by decide +kernel) (by decide +kernel)
set_option maxRecDepth 20000 in
theorem gX4_farthestSeen_X4_has : GoodIn wsX4_farthestSeen (va_wsS RX4 52 yX4_has wsX4_has) := goodIn_app (goodIn_of _ (by decide +kernel)) ggX4_farthestSeen_X4_has
set_option maxRecDepth 20000 in
theorem ggX4_farthestSeen_X4_of : GoodIn wsX4_farthestSeen wsX4_of := goodIn_r _ [11] (by decide +kernel) (by decide +kernel)
set_option maxRecDepth 20000 in
theorem gX4_farthestSeen_X4_of : GoodIn wsX4_farthestSeen (va_wsS RX4 44 yX4_of wsX4_of) := goodIn_app (goodIn_of _ (by decide +kernel)) ggX4_farthestSeen_X4_of
theorem dX4_farthestSeen_0 : decode cX4_farthestSeen 0 = .ok (.aload_n 0, 1) := by decide +kernel
theorem dX4_farthestSeen_1 : decode cX4_farthestSeen 1 = .ok (.getfield 9, 3) := by decide +kernel
theorem dX4_farthestSeen_4 : decode cX4_farthestSeen 4 = .ok (.iload_n 1, 1) := by decide +kernel
theorem dX4_farthestSeen_5 : decode cX4_farthestSeen 5 = .ok (.invokestatic 64, 3) := by decide +kernel
theorem dX4_farthestSeen_8 : decode cX4_farthestSeen 8 = .ok (.istore_n 2, 1) := by decide +kernel
theorem dX4_farthestSeen_9 : decode cX4_farthestSeen 9 = .ok (.bipush (-9), 2) := by decide +kernel
theorem dX4_farthestSeen_11 : decode cX4_farthestSeen 11 = .ok (.istore_n 3, 1) := by decide +kernel
theorem dX4_farthestSeen_12 : decode cX4_farthestSeen 12 = .ok (.iconst 0, 1) := by decide +kernel
theorem dX4_farthestSeen_13 : decode cX4_farthestSeen 13 = .ok (.istore 4, 2) := by decide +kernel
theorem dX4_farthestSeen_15 : decode cX4_farthestSeen 15 = .ok (.iload 4, 2) := by decide +kernel
theorem dX4_farthestSeen_17 : decode cX4_farthestSeen 17 = .ok (.aload_n 0, 1) := by decide +kernel
theorem dX4_farthestSeen_18 : decode cX4_farthestSeen 18 = .ok (.getfield 9, 3) := by decide +kernel
theorem dX4_farthestSeen_21 : decode cX4_farthestSeen 21 = .ok (.iconst 0, 1) := by decide +kernel
theorem dX4_farthestSeen_22 : decode cX4_farthestSeen 22 = .ok (.iaload, 1) := by decide +kernel
theorem dX4_farthestSeen_23 : decode cX4_farthestSeen 23 = .ok (.if_icmp .ge 49, 3) := by decide +kernel
theorem dX4_farthestSeen_26 : decode cX4_farthestSeen 26 = .ok (.iload_n 2, 1) := by decide +kernel
theorem dX4_farthestSeen_27 : decode cX4_farthestSeen 27 = .ok (.iload 4, 2) := by decide +kernel
theorem dX4_farthestSeen_29 : decode cX4_farthestSeen 29 = .ok (.invokestatic 52, 3) := by decide +kernel
theorem dX4_farthestSeen_32 : decode cX4_farthestSeen 32 = .ok (.ifCond .eq 34, 3) := by decide +kernel
theorem dX4_farthestSeen_35 : decode cX4_farthestSeen 35 = .ok (.iload_n 3, 1) := by decide +kernel
theorem dX4_farthestSeen_36 : decode cX4_farthestSeen 36 = .ok (.ifCond .lt 27, 3) := by decide +kernel
theorem dX4_farthestSeen_39 : decode cX4_farthestSeen 39 = .ok (.aload_n 0, 1) := by decide +kernel
theorem dX4_farthestSeen_40 : decode cX4_farthestSeen 40 = .ok (.getfield 9, 3) := by decide +kernel
theorem dX4_farthestSeen_43 : decode cX4_farthestSeen 43 = .ok (.iload 4, 2) := by decide +kernel
theorem dX4_farthestSeen_45 : decode cX4_farthestSeen 45 = .ok (.iconst 2, 1) := by decide +kernel
theorem dX4_farthestSeen_46 : decode cX4_farthestSeen 46 = .ok (.invokestatic 44, 3) := by decide +kernel
theorem dX4_farthestSeen_49 : decode cX4_farthestSeen 49 = .ok (.iaload, 1) := by decide +kernel
theorem dX4_farthestSeen_50 : decode cX4_farthestSeen 50 = .ok (.aload_n 0, 1) := by decide +kernel
theorem dX4_farthestSeen_51 : decode cX4_farthestSeen 51 = .ok (.getfield 9, 3) := by decide +kernel
theorem dX4_farthestSeen_54 : decode cX4_farthestSeen 54 = .ok (.iload_n 3, 1) := by decide +kernel
theorem dX4_farthestSeen_55 : decode cX4_farthestSeen 55 = .ok (.iconst 2, 1) := by decide +kernel
theorem dX4_farthestSeen_56 : decode cX4_farthestSeen 56 = .ok (.invokestatic 44, 3) := by decide +kernel
theorem dX4_farthestSeen_59 : decode cX4_farthestSeen 59 = .ok (.iaload, 1) := by decide +kernel
theorem dX4_farthestSeen_60 : decode cX4_farthestSeen 60 = .ok (.if_icmp .le 6, 3) := by decide +kernel
theorem dX4_farthestSeen_63 : decode cX4_farthestSeen 63 = .ok (.iload 4, 2) := by decide +kernel
theorem dX4_farthestSeen_65 : decode cX4_farthestSeen 65 = .ok (.istore_n 3, 1) := by decide +kernel
theorem dX4_farthestSeen_66 : decode cX4_farthestSeen 66 = .ok (.iinc 4 1, 3) := by decide +kernel
theorem dX4_farthestSeen_69 : decode cX4_farthestSeen 69 = .ok (.goto (-54), 3) := by decide +kernel
theorem dX4_farthestSeen_72 : decode cX4_farthestSeen 72 = .ok (.iload_n 3, 1) := by decide +kernel
theorem dX4_farthestSeen_73 : decode cX4_farthestSeen 73 = .ok (.ireturn, 1) := by decide +kernel
set_option maxRecDepth 20000 in
theorem ggX4_blind_X4_isClear : GoodIn wsX4_blind wsX4_isClear := goodIn_r _ [5] (by decide +kernel) (by decide +kernel)
set_option maxRecDepth 20000 in
theorem gX4_blind_X4_isClear : GoodIn wsX4_blind (va_wsS RX4 60 yX4_isClear wsX4_isClear) := goodIn_app (goodIn_of _ (by decide +kernel)) ggX4_blind_X4_isClear
theorem dX4_blind_0 : decode cX4_blind 0 = .ok (.iconst 0, 1) := by decide +kernel
theorem dX4_blind_1 : decode cX4_blind 1 = .ok (.istore_n 2, 1) := by decide +kernel
theorem dX4_blind_2 : decode cX4_blind 2 = .ok (.iconst 0, 1) := by decide +kernel
theorem dX4_blind_3 : decode cX4_blind 3 = .ok (.istore_n 3, 1) := by decide +kernel
theorem dX4_blind_4 : decode cX4_blind 4 = .ok (.iload_n 3, 1) := by decide +kernel
theorem dX4_blind_5 : decode cX4_blind 5 = .ok (.bipush 16, 2) := by decide +kernel
theorem dX4_blind_7 : decode cX4_blind 7 = .ok (.if_icmp .ge 41, 3) := by decide +kernel
theorem dX4_blind_10 : decode cX4_blind 10 = .ok (.iload_n 2, 1) := by decide +kernel
theorem dX4_blind_11 : decode cX4_blind 11 = .ok (.aload_n 0, 1) := by decide +kernel
theorem dX4_blind_12 : decode cX4_blind 12 = .ok (.getfield 9, 3) := by decide +kernel
theorem dX4_blind_15 : decode cX4_blind 15 = .ok (.iload_n 1, 1) := by decide +kernel
theorem dX4_blind_16 : decode cX4_blind 16 = .ok (.iload_n 3, 1) := by decide +kernel
theorem dX4_blind_17 : decode cX4_blind 17 = .ok (.aload_n 0, 1) := by decide +kernel
theorem dX4_blind_18 : decode cX4_blind 18 = .ok (.getfield 9, 3) := by decide +kernel
theorem dX4_blind_21 : decode cX4_blind 21 = .ok (.iconst 4, 1) := by decide +kernel
theorem dX4_blind_22 : decode cX4_blind 22 = .ok (.iload_n 3, 1) := by decide +kernel
theorem dX4_blind_23 : decode cX4_blind 23 = .ok (.iadd, 1) := by decide +kernel
theorem dX4_blind_24 : decode cX4_blind 24 = .ok (.iaload, 1) := by decide +kernel
theorem dX4_blind_25 : decode cX4_blind 25 = .ok (.iconst 1, 1) := by decide +kernel
theorem dX4_blind_26 : decode cX4_blind 26 = .ok (.iadd, 1) := by decide +kernel
theorem dX4_blind_27 : decode cX4_blind 27 = .ok (.invokestatic 60, 3) := by decide +kernel
theorem dX4_blind_30 : decode cX4_blind 30 = .ok (.ifCond .eq 7, 3) := by decide +kernel
theorem dX4_blind_33 : decode cX4_blind 33 = .ok (.iconst 0, 1) := by decide +kernel
theorem dX4_blind_34 : decode cX4_blind 34 = .ok (.goto 6, 3) := by decide +kernel
theorem dX4_blind_37 : decode cX4_blind 37 = .ok (.iconst 1, 1) := by decide +kernel
theorem dX4_blind_38 : decode cX4_blind 38 = .ok (.iload_n 3, 1) := by decide +kernel
theorem dX4_blind_39 : decode cX4_blind 39 = .ok (.ishl, 1) := by decide +kernel
theorem dX4_blind_40 : decode cX4_blind 40 = .ok (.ior, 1) := by decide +kernel
theorem dX4_blind_41 : decode cX4_blind 41 = .ok (.istore_n 2, 1) := by decide +kernel
theorem dX4_blind_42 : decode cX4_blind 42 = .ok (.iinc 3 1, 3) := by decide +kernel
theorem dX4_blind_45 : decode cX4_blind 45 = .ok (.goto (-41), 3) := by decide +kernel
theorem dX4_blind_48 : decode cX4_blind 48 = .ok (.iload_n 2, 1) := by decide +kernel
theorem dX4_blind_49 : decode cX4_blind 49 = .ok (.ireturn, 1) := by decide +kernel
set_option maxRecDepth 20000 in
theorem ggX4_seen_X4_isBranch : GoodIn wsX4_seen wsX4_isBranch := goodIn_r _ [5, 6, 7, 4, 8] (by decide +kernel) (by decide +kernel)
set_option maxRecDepth 20000 in
theorem gX4_seen_X4_isBranch : GoodIn wsX4_seen (va_wsS RX4 131 yX4_isBranch wsX4_isBranch) := goodIn_app (goodIn_of _ (by decide +kernel)) ggX4_seen_X4_isBranch
set_option maxRecDepth 20000 in
theorem ggX4_seen_X4_no : GoodIn wsX4_seen wsX4_no := goodIn_r _ [12, 13, 46, 47, 48, 49, 50, 51, 52, 53, 54, 55, 56, 57, 58] (by decide +kernel) (by decide +kernel)
set_option maxRecDepth 20000 in
theorem gX4_seen_X4_no : GoodIn wsX4_seen (wsV RX4 36 RX4 yX4_no wsX4_no) := goodIn_app (goodIn_of _ (by decide +kernel)) ggX4_seen_X4_no
set_option maxRecDepth 20000 in
theorem ggX4_seen_X4_seenIn : GoodIn wsX4_seen wsX4_seenIn := goodIn_r _ [16, 17, 18, 4, 19, 20, 21, 22, 23, 24, 25, 26, 27, 28, 29, 30, 31] (by decide +kernel) (by decide +kernel)
set_option maxRecDepth 20000 in
theorem gX4_seen_X4_seenIn : GoodIn wsX4_seen (va_wsS RX4 64 yX4_seenIn wsX4_seenIn) := goodIn_app (goodIn_of _ (by decide +kernel)) ggX4_seen_X4_seenIn
set_option maxRecDepth 20000 in
theorem ggX4_seen_X4_verdictIn : GoodIn wsX4_seen wsX4_verdictIn := goodIn_r _ [34, 35, 36, 4, 37, 14, 15, 16, 17, 18, 19, 20, 21, 22, 23, 24, 25, 26, 27, 28, 29, 30, 31] (by decide +kernel) (by decide +kernel)
set_option maxRecDepth 20000 in
theorem gX4_seen_X4_verdictIn : GoodIn wsX4_seen (va_wsS RX4 70 yX4_verdictIn wsX4_verdictIn) := goodIn_app (goodIn_of _ (by decide +kernel)) ggX4_seen_X4_verdictIn
set_option maxRecDepth 20000 in
theorem ggX4_seen_X4_decides : GoodIn wsX4_seen wsX4_decides := goodIn_r _ [37, 14, 15, 4, 16, 17, 18, 19, 20, 21, 22, 23, 24, 25, 26, 27, 28, 29, 30, 31] (by decide +kernel) (by decide +kernel)
set_option maxRecDepth 20000 in
theorem gX4_seen_X4_decides : GoodIn wsX4_seen (va_wsS RX4 67 yX4_decides wsX4_decides) := goodIn_app (goodIn_of _ (by decide +kernel)) ggX4_seen_X4_decides
set_option maxRecDepth 20000 in
theorem ggX4_seen_X4_farthestSeen : GoodIn wsX4_seen wsX4_farthestSeen := goodIn_r _ [41, 1, 14, 15, 4, 16, 17, 18, 19, 20, 21, 22, 23, 24, 25, 26, 27, 28, 29, 30, 31, 46, 47, 48, 49, 50, 51, 52, 53, 54, 55, 56, 57, 58] (by decide +kernel) (by decide +kernel)
set_option maxRecDepth 20000 in
theorem gX4_seen_X4_farthestSeen : GoodIn wsX4_seen (wsV RX4 134 RX4 yX4_farthestSeen wsX4_farthestSeen) := goodIn_app (goodIn_of _ (by decide +kernel)) ggX4_seen_X4_farthestSeen
set_option maxRecDepth 20000 in
theorem ggX4_seen_X4_blind : GoodIn wsX4_seen wsX4_blind := goodIn_r _ [45, 1, 29, 30, 4, 31, 46, 47, 48, 49, 50, 51, 52, 53, 54, 55, 56, 57, 58] (by decide +kernel) (by decide +kernel)
set_option maxRecDepth 20000 in
theorem gX4_seen_X4_blind : GoodIn wsX4_seen (wsV RX4 137 RX4 yX4_blind wsX4_blind) := goodIn_app (goodIn_of _ (by decide +kernel)) ggX4_seen_X4_blind
theorem dX4_seen_0 : decode cX4_seen 0 = .ok (.iload_n 1, 1) := by decide +kernel
theorem dX4_seen_1 : decode cX4_seen 1 = .ok (.invokestatic 131, 3) := by decide +kernel
theorem dX4_seen_4 : decode cX4_seen 4 = .ok (.ifCond .ne 9, 3) := by decide +kernel
theorem dX4_seen_7 : decode cX4_seen 7 = .ok (.aload_n 0, 1) := by decide +kernel
theorem dX4_seen_8 : decode cX4_seen 8 = .ok (.iconst (-1), 1) := by decide +kernel
theorem dX4_seen_9 : decode cX4_seen 9 = .ok (.invokevirtual 36, 3) := by decide +kernel
theorem dX4_seen_12 : decode cX4_seen 12 = .ok (.ireturn, 1) := by decide +kernel
theorem dX4_seen_13 : decode cX4_seen 13 = .ok (.iload_n 2, 1) := by decide +kernel
theorem dX4_seen_14 : decode cX4_seen 14 = .ok (.tableswitch 73 0 4 #[34, 43, 52, 61, 67], 34) := by decide +kernel
theorem dX4_seen_48 : decode cX4_seen 48 = .ok (.aload_n 0, 1) := by decide +kernel
theorem dX4_seen_49 : decode cX4_seen 49 = .ok (.getfield 9, 3) := by decide +kernel
theorem dX4_seen_52 : decode cX4_seen 52 = .ok (.iload_n 1, 1) := by decide +kernel
theorem dX4_seen_53 : decode cX4_seen 53 = .ok (.invokestatic 64, 3) := by decide +kernel
theorem dX4_seen_56 : decode cX4_seen 56 = .ok (.ireturn, 1) := by decide +kernel
theorem dX4_seen_57 : decode cX4_seen 57 = .ok (.aload_n 0, 1) := by decide +kernel
theorem dX4_seen_58 : decode cX4_seen 58 = .ok (.getfield 9, 3) := by decide +kernel
theorem dX4_seen_61 : decode cX4_seen 61 = .ok (.iload_n 1, 1) := by decide +kernel
theorem dX4_seen_62 : decode cX4_seen 62 = .ok (.invokestatic 70, 3) := by decide +kernel
theorem dX4_seen_65 : decode cX4_seen 65 = .ok (.ireturn, 1) := by decide +kernel
theorem dX4_seen_66 : decode cX4_seen 66 = .ok (.aload_n 0, 1) := by decide +kernel
theorem dX4_seen_67 : decode cX4_seen 67 = .ok (.getfield 9, 3) := by decide +kernel
theorem dX4_seen_70 : decode cX4_seen 70 = .ok (.iload_n 1, 1) := by decide +kernel
theorem dX4_seen_71 : decode cX4_seen 71 = .ok (.invokestatic 67, 3) := by decide +kernel
theorem dX4_seen_74 : decode cX4_seen 74 = .ok (.ireturn, 1) := by decide +kernel
theorem dX4_seen_75 : decode cX4_seen 75 = .ok (.aload_n 0, 1) := by decide +kernel
theorem dX4_seen_76 : decode cX4_seen 76 = .ok (.iload_n 1, 1) := by decide +kernel
theorem dX4_seen_77 : decode cX4_seen 77 = .ok (.invokevirtual 134, 3) := by decide +kernel
theorem dX4_seen_80 : decode cX4_seen 80 = .ok (.ireturn, 1) := by decide +kernel
theorem dX4_seen_81 : decode cX4_seen 81 = .ok (.aload_n 0, 1) := by decide +kernel
theorem dX4_seen_82 : decode cX4_seen 82 = .ok (.iload_n 1, 1) := by decide +kernel
theorem dX4_seen_83 : decode cX4_seen 83 = .ok (.invokevirtual 137, 3) := by decide +kernel
theorem dX4_seen_86 : decode cX4_seen 86 = .ok (.ireturn, 1) := by decide +kernel
theorem dX4_seen_87 : decode cX4_seen 87 = .ok (.aload_n 0, 1) := by decide +kernel
theorem dX4_seen_88 : decode cX4_seen 88 = .ok (.bipush (-2), 2) := by decide +kernel
theorem dX4_seen_90 : decode cX4_seen 90 = .ok (.invokevirtual 36, 3) := by decide +kernel
theorem dX4_seen_93 : decode cX4_seen 93 = .ok (.ireturn, 1) := by decide +kernel
set_option maxRecDepth 20000 in
theorem ggX4_takes_X4_copies : GoodIn wsX4_takes wsX4_copies := goodIn_r _ [6] (by decide +kernel) (by decide +kernel)
set_option maxRecDepth 20000 in
theorem gX4_takes_X4_copies : GoodIn wsX4_takes (va_wsS RX4 118 yX4_copies wsX4_copies) := goodIn_app (goodIn_of _ (by decide +kernel)) ggX4_takes_X4_copies
set_option maxRecDepth 20000 in
theorem ggX4_takes_X4_hoursOn : GoodIn wsX4_takes wsX4_hoursOn := goodIn_r _ [9, 10, 11, 5, 12, 13, 14, 15, 16, 17, 18] (by decide +kernel) (by decide +kernel)
set_option maxRecDepth 20000 in
theorem gX4_takes_X4_hoursOn : GoodIn wsX4_takes (va_wsS RX4 111 yX4_hoursOn wsX4_hoursOn) := goodIn_app (goodIn_of _ (by decide +kernel)) ggX4_takes_X4_hoursOn
theorem dX4_takes_0 : decode cX4_takes 0 = .ok (.aload_n 0, 1) := by decide +kernel
theorem dX4_takes_1 : decode cX4_takes 1 = .ok (.getfield 9, 3) := by decide +kernel
theorem dX4_takes_4 : decode cX4_takes 4 = .ok (.aload_n 0, 1) := by decide +kernel
theorem dX4_takes_5 : decode cX4_takes 5 = .ok (.getfield 13, 3) := by decide +kernel
theorem dX4_takes_8 : decode cX4_takes 8 = .ok (.invokestatic 118, 3) := by decide +kernel
theorem dX4_takes_11 : decode cX4_takes 11 = .ok (.aload_n 0, 1) := by decide +kernel
theorem dX4_takes_12 : decode cX4_takes 12 = .ok (.getfield 13, 3) := by decide +kernel
theorem dX4_takes_15 : decode cX4_takes 15 = .ok (.iload_n 1, 1) := by decide +kernel
theorem dX4_takes_16 : decode cX4_takes 16 = .ok (.invokestatic 111, 3) := by decide +kernel
theorem dX4_takes_19 : decode cX4_takes 19 = .ok (.return_, 1) := by decide +kernel
set_option maxRecDepth 20000 in
theorem ggX4_thingThen_X4_isThing : GoodIn wsX4_thingThen wsX4_isThing := goodIn_r _ [6, 7, 8, 9, 5, 10, 38, 39, 40, 41, 42, 43, 44, 45, 46, 47, 48, 49, 50] (by decide +kernel) (by decide +kernel)
set_option maxRecDepth 20000 in
theorem gX4_thingThen_X4_isThing : GoodIn wsX4_thingThen (wsV RX4 108 RX4 yX4_isThing wsX4_isThing) := goodIn_app (goodIn_of _ (by decide +kernel)) ggX4_thingThen_X4_isThing
set_option maxRecDepth 20000 in
theorem ggX4_thingThen_X4_wrongBy : GoodIn wsX4_thingThen wsX4_wrongBy := goodIn_r _ [13] (by decide +kernel) (by decide +kernel)
set_option maxRecDepth 20000 in
theorem gX4_thingThen_X4_wrongBy : GoodIn wsX4_thingThen (va_wsS RX4 125 yX4_wrongBy wsX4_wrongBy) := goodIn_app (goodIn_of _ (by decide +kernel)) ggX4_thingThen_X4_wrongBy
set_option maxRecDepth 20000 in
theorem ggX4_thingThen_X4_no : GoodIn wsX4_thingThen wsX4_no := goodIn_r _ [17, 18, 38, 39, 40, 41, 42, 43, 44, 45, 46, 47, 48, 49, 50] (by decide +kernel) (by decide +kernel)
set_option maxRecDepth 20000 in
theorem gX4_thingThen_X4_no : GoodIn wsX4_thingThen (wsV RX4 36 RX4 yX4_no wsX4_no) := goodIn_app (goodIn_of _ (by decide +kernel)) ggX4_thingThen_X4_no
set_option maxRecDepth 20000 in
theorem ggX4_thingThen_X4_takes : GoodIn wsX4_thingThen wsX4_takes := goodIn_r _ [22, 7, 1, 23, 24, 5, 25, 26, 27, 28, 29, 30, 31, 32, 33, 34, 35, 36, 37, 38, 39, 40, 41, 42, 43, 44, 45, 46, 47, 48, 49, 50] (by decide +kernel) (by decide +kernel)
set_option maxRecDepth 20000 in
theorem gX4_thingThen_X4_takes : GoodIn wsX4_thingThen (wsV RX4 140 RX4 yX4_takes wsX4_takes) := goodIn_app (goodIn_of _ (by decide +kernel)) ggX4_thingThen_X4_takes
set_option maxRecDepth 20000 in
theorem ggX4_thingThen_X4_of : GoodIn wsX4_thingThen wsX4_of := goodIn_r _ [34] (by decide +kernel) (by decide +kernel)
set_option maxRecDepth 20000 in
theorem gX4_thingThen_X4_of : GoodIn wsX4_thingThen (va_wsS RX4 44 yX4_of wsX4_of) := goodIn_app (goodIn_of _ (by decide +kernel)) ggX4_thingThen_X4_of
theorem dX4_thingThen_0 : decode cX4_thingThen 0 = .ok (.aload_n 0, 1) := by decide +kernel
theorem dX4_thingThen_1 : decode cX4_thingThen 1 = .ok (.iload_n 1, 1) := by decide +kernel
theorem dX4_thingThen_2 : decode cX4_thingThen 2 = .ok (.invokevirtual 108, 3) := by decide +kernel
theorem dX4_thingThen_5 : decode cX4_thingThen 5 = .ok (.ifCond .eq 13, 3) := by decide +kernel
theorem dX4_thingThen_8 : decode cX4_thingThen 8 = .ok (.iload_n 2, 1) := by decide +kernel
theorem dX4_thingThen_9 : decode cX4_thingThen 9 = .ok (.iconst 0, 1) := by decide +kernel
theorem dX4_thingThen_10 : decode cX4_thingThen 10 = .ok (.bipush 60, 2) := by decide +kernel
theorem dX4_thingThen_12 : decode cX4_thingThen 12 = .ok (.invokestatic 125, 3) := by decide +kernel
theorem dX4_thingThen_15 : decode cX4_thingThen 15 = .ok (.goto 4, 3) := by decide +kernel
theorem dX4_thingThen_18 : decode cX4_thingThen 18 = .ok (.iconst (-1), 1) := by decide +kernel
theorem dX4_thingThen_19 : decode cX4_thingThen 19 = .ok (.istore_n 3, 1) := by decide +kernel
theorem dX4_thingThen_20 : decode cX4_thingThen 20 = .ok (.iload_n 3, 1) := by decide +kernel
theorem dX4_thingThen_21 : decode cX4_thingThen 21 = .ok (.ifCond .eq 9, 3) := by decide +kernel
theorem dX4_thingThen_24 : decode cX4_thingThen 24 = .ok (.aload_n 0, 1) := by decide +kernel
theorem dX4_thingThen_25 : decode cX4_thingThen 25 = .ok (.iload_n 3, 1) := by decide +kernel
theorem dX4_thingThen_26 : decode cX4_thingThen 26 = .ok (.invokevirtual 36, 3) := by decide +kernel
theorem dX4_thingThen_29 : decode cX4_thingThen 29 = .ok (.ireturn, 1) := by decide +kernel
theorem dX4_thingThen_30 : decode cX4_thingThen 30 = .ok (.aload_n 0, 1) := by decide +kernel
theorem dX4_thingThen_31 : decode cX4_thingThen 31 = .ok (.iload_n 2, 1) := by decide +kernel
theorem dX4_thingThen_32 : decode cX4_thingThen 32 = .ok (.invokevirtual 140, 3) := by decide +kernel
theorem dX4_thingThen_35 : decode cX4_thingThen 35 = .ok (.aload_n 0, 1) := by decide +kernel
theorem dX4_thingThen_36 : decode cX4_thingThen 36 = .ok (.getfield 13, 3) := by decide +kernel
theorem dX4_thingThen_39 : decode cX4_thingThen 39 = .ok (.iload_n 1, 1) := by decide +kernel
theorem dX4_thingThen_40 : decode cX4_thingThen 40 = .ok (.iconst 2, 1) := by decide +kernel
theorem dX4_thingThen_41 : decode cX4_thingThen 41 = .ok (.invokestatic 44, 3) := by decide +kernel
theorem dX4_thingThen_44 : decode cX4_thingThen 44 = .ok (.iaload, 1) := by decide +kernel
theorem dX4_thingThen_45 : decode cX4_thingThen 45 = .ok (.ireturn, 1) := by decide +kernel
set_option maxRecDepth 20000 in
theorem ggX4_seenThen_X4_isBranch : GoodIn wsX4_seenThen wsX4_isBranch := goodIn_r _ [5, 6, 7, 4, 8] (by decide +kernel) (by decide +kernel)
set_option maxRecDepth 20000 in
theorem gX4_seenThen_X4_isBranch : GoodIn wsX4_seenThen (va_wsS RX4 131 yX4_isBranch wsX4_isBranch) := goodIn_app (goodIn_of _ (by decide +kernel)) ggX4_seenThen_X4_isBranch
set_option maxRecDepth 20000 in
theorem ggX4_seenThen_X4_wrongBy : GoodIn wsX4_seenThen wsX4_wrongBy := goodIn_r _ [11] (by decide +kernel) (by decide +kernel)
set_option maxRecDepth 20000 in
theorem gX4_seenThen_X4_wrongBy : GoodIn wsX4_seenThen (va_wsS RX4 125 yX4_wrongBy wsX4_wrongBy) := goodIn_app (goodIn_of _ (by decide +kernel)) ggX4_seenThen_X4_wrongBy
set_option maxRecDepth 20000 in
theorem ggX4_seenThen_X4_isIn : GoodIn wsX4_seenThen wsX4_isIn := goodIn_r _ [8] (by decide +kernel) (by decide +kernel)
set_option maxRecDepth 20000 in
theorem gX4_seenThen_X4_isIn : GoodIn wsX4_seenThen (va_wsS RX4 40 yX4_isIn wsX4_isIn) := goodIn_app (goodIn_of _ (by decide +kernel)) ggX4_seenThen_X4_isIn
set_option maxRecDepth 20000 in
theorem ggX4_seenThen_X4_no : GoodIn wsX4_seenThen wsX4_no := goodIn_r _ [15, 16, 58, 59, 60, 61, 62, 63, 64, 65, 66, 67, 68, 69, 70] (by decide +kernel) (by decide +kernel)
set_option maxRecDepth 20000 in
theorem gX4_seenThen_X4_no : GoodIn wsX4_seenThen (wsV RX4 36 RX4 yX4_no wsX4_no) := goodIn_app (goodIn_of _ (by decide +kernel)) ggX4_seenThen_X4_no
set_option maxRecDepth 20000 in
theorem ggX4_seenThen_X4_takes : GoodIn wsX4_seenThen wsX4_takes := goodIn_r _ [20, 21, 1, 22, 23, 4, 24, 25, 26, 27, 28, 29, 30, 31, 32, 33, 34, 35, 36, 58, 59, 60, 61, 62, 63, 64, 65, 66, 67, 68, 69, 70] (by decide +kernel) (by decide +kernel)
set_option maxRecDepth 20000 in
theorem gX4_seenThen_X4_takes : GoodIn wsX4_seenThen (wsV RX4 140 RX4 yX4_takes wsX4_takes) := goodIn_app (goodIn_of _ (by decide +kernel)) ggX4_seenThen_X4_takes
set_option maxRecDepth 20000 in
theorem ggX4_seenThen_X4_seenIn : GoodIn wsX4_seenThen wsX4_seenIn := goodIn_r _ [39, 40, 41, 4, 42, 31, 32, 33, 43, 44, 45, 46, 47, 48, 49, 50, 51] (by decide +kernel) (by decide +kernel)
set_option maxRecDepth 20000 in
theorem gX4_seenThen_X4_seenIn : GoodIn wsX4_seenThen (va_wsS RX4 64 yX4_seenIn wsX4_seenIn) := goodIn_app (goodIn_of _ (by decide +kernel)) ggX4_seenThen_X4_seenIn
set_option maxRecDepth 20000 in
theorem ggX4_seenThen_X4_verdictIn : GoodIn wsX4_seenThen wsX4_verdictIn := goodIn_r _ [54, 55, 56, 4, 57, 37, 38, 39, 40, 41, 42, 31, 32, 33, 43, 44, 45, 46, 47, 48, 49, 50, 51] (by decide +kernel) (by decide +kernel)
set_option maxRecDepth 20000 in
theorem gX4_seenThen_X4_verdictIn : GoodIn wsX4_seenThen (va_wsS RX4 70 yX4_verdictIn wsX4_verdictIn) := goodIn_app (goodIn_of _ (by decide +kernel)) ggX4_seenThen_X4_verdictIn
theorem dX4_seenThen_0 : decode cX4_seenThen 0 = .ok (.iload_n 1, 1) := by decide +kernel
theorem dX4_seenThen_1 : decode cX4_seenThen 1 = .ok (.invokestatic 131, 3) := by decide +kernel
theorem dX4_seenThen_4 : decode cX4_seenThen 4 = .ok (.ifCond .eq 13, 3) := by decide +kernel
theorem dX4_seenThen_7 : decode cX4_seenThen 7 = .ok (.iload_n 2, 1) := by decide +kernel
theorem dX4_seenThen_8 : decode cX4_seenThen 8 = .ok (.iconst 0, 1) := by decide +kernel
theorem dX4_seenThen_9 : decode cX4_seenThen 9 = .ok (.bipush 60, 2) := by decide +kernel
theorem dX4_seenThen_11 : decode cX4_seenThen 11 = .ok (.invokestatic 125, 3) := by decide +kernel
theorem dX4_seenThen_14 : decode cX4_seenThen 14 = .ok (.goto 4, 3) := by decide +kernel
theorem dX4_seenThen_17 : decode cX4_seenThen 17 = .ok (.iconst (-1), 1) := by decide +kernel
theorem dX4_seenThen_18 : decode cX4_seenThen 18 = .ok (.istore 4, 2) := by decide +kernel
theorem dX4_seenThen_20 : decode cX4_seenThen 20 = .ok (.iload 4, 2) := by decide +kernel
theorem dX4_seenThen_22 : decode cX4_seenThen 22 = .ok (.ifCond .ne 16, 3) := by decide +kernel
theorem dX4_seenThen_25 : decode cX4_seenThen 25 = .ok (.iload_n 3, 1) := by decide +kernel
theorem dX4_seenThen_26 : decode cX4_seenThen 26 = .ok (.iconst 0, 1) := by decide +kernel
theorem dX4_seenThen_27 : decode cX4_seenThen 27 = .ok (.iconst 1, 1) := by decide +kernel
theorem dX4_seenThen_28 : decode cX4_seenThen 28 = .ok (.invokestatic 40, 3) := by decide +kernel
theorem dX4_seenThen_31 : decode cX4_seenThen 31 = .ok (.ifCond .ne 7, 3) := by decide +kernel
theorem dX4_seenThen_34 : decode cX4_seenThen 34 = .ok (.bipush (-2), 2) := by decide +kernel
theorem dX4_seenThen_36 : decode cX4_seenThen 36 = .ok (.istore 4, 2) := by decide +kernel
theorem dX4_seenThen_38 : decode cX4_seenThen 38 = .ok (.iload 4, 2) := by decide +kernel
theorem dX4_seenThen_40 : decode cX4_seenThen 40 = .ok (.ifCond .eq 10, 3) := by decide +kernel
theorem dX4_seenThen_43 : decode cX4_seenThen 43 = .ok (.aload_n 0, 1) := by decide +kernel
theorem dX4_seenThen_44 : decode cX4_seenThen 44 = .ok (.iload 4, 2) := by decide +kernel
theorem dX4_seenThen_46 : decode cX4_seenThen 46 = .ok (.invokevirtual 36, 3) := by decide +kernel
theorem dX4_seenThen_49 : decode cX4_seenThen 49 = .ok (.ireturn, 1) := by decide +kernel
theorem dX4_seenThen_50 : decode cX4_seenThen 50 = .ok (.aload_n 0, 1) := by decide +kernel
theorem dX4_seenThen_51 : decode cX4_seenThen 51 = .ok (.iload_n 2, 1) := by decide +kernel
theorem dX4_seenThen_52 : decode cX4_seenThen 52 = .ok (.invokevirtual 140, 3) := by decide +kernel
theorem dX4_seenThen_55 : decode cX4_seenThen 55 = .ok (.iload_n 3, 1) := by decide +kernel
theorem dX4_seenThen_56 : decode cX4_seenThen 56 = .ok (.ifCond .ne 14, 3) := by decide +kernel
theorem dX4_seenThen_59 : decode cX4_seenThen 59 = .ok (.aload_n 0, 1) := by decide +kernel
theorem dX4_seenThen_60 : decode cX4_seenThen 60 = .ok (.getfield 13, 3) := by decide +kernel
theorem dX4_seenThen_63 : decode cX4_seenThen 63 = .ok (.iload_n 1, 1) := by decide +kernel
theorem dX4_seenThen_64 : decode cX4_seenThen 64 = .ok (.invokestatic 64, 3) := by decide +kernel
theorem dX4_seenThen_67 : decode cX4_seenThen 67 = .ok (.goto 11, 3) := by decide +kernel
theorem dX4_seenThen_70 : decode cX4_seenThen 70 = .ok (.aload_n 0, 1) := by decide +kernel
theorem dX4_seenThen_71 : decode cX4_seenThen 71 = .ok (.getfield 13, 3) := by decide +kernel
theorem dX4_seenThen_74 : decode cX4_seenThen 74 = .ok (.iload_n 1, 1) := by decide +kernel
theorem dX4_seenThen_75 : decode cX4_seenThen 75 = .ok (.invokestatic 70, 3) := by decide +kernel
theorem dX4_seenThen_78 : decode cX4_seenThen 78 = .ok (.ireturn, 1) := by decide +kernel
set_option maxRecDepth 20000 in
theorem ggX4_falls_X4_isBranch : GoodIn wsX4_falls wsX4_isBranch := goodIn_r _ [6, 7, 8, 5, 9] (by decide +kernel) (by decide +kernel)
set_option maxRecDepth 20000 in
theorem gX4_falls_X4_isBranch : GoodIn wsX4_falls (va_wsS RX4 131 yX4_isBranch wsX4_isBranch) := goodIn_app (goodIn_of _ (by decide +kernel)) ggX4_falls_X4_isBranch
set_option maxRecDepth 20000 in
theorem ggX4_falls_X4_isVerdict : GoodIn wsX4_falls wsX4_isVerdict := goodIn_r _ [12, 7, 8, 5, 9] (by decide +kernel) (by decide +kernel)
set_option maxRecDepth 20000 in
theorem gX4_falls_X4_isVerdict : GoodIn wsX4_falls (va_wsS RX4 105 yX4_isVerdict wsX4_isVerdict) := goodIn_app (goodIn_of _ (by decide +kernel)) ggX4_falls_X4_isVerdict
set_option maxRecDepth 20000 in
theorem ggX4_falls_X4_no : GoodIn wsX4_falls wsX4_no := goodIn_r _ [16, 17, 51, 52, 53, 54, 55, 56, 57, 58, 59, 60, 61, 62, 63] (by decide +kernel) (by decide +kernel)
set_option maxRecDepth 20000 in
theorem gX4_falls_X4_no : GoodIn wsX4_falls (wsV RX4 36 RX4 yX4_no wsX4_no) := goodIn_app (goodIn_of _ (by decide +kernel)) ggX4_falls_X4_no
set_option maxRecDepth 20000 in
theorem ggX4_falls_X4_copies : GoodIn wsX4_falls wsX4_copies := goodIn_r _ [20] (by decide +kernel) (by decide +kernel)
set_option maxRecDepth 20000 in
theorem gX4_falls_X4_copies : GoodIn wsX4_falls (va_wsS RX4 118 yX4_copies wsX4_copies) := goodIn_app (goodIn_of _ (by decide +kernel)) ggX4_falls_X4_copies
set_option maxRecDepth 20000 in
theorem ggX4_falls_X4_verdictIn : GoodIn wsX4_falls wsX4_verdictIn := goodIn_r _ [23, 24, 25, 5, 26, 27, 28, 29, 30, 31, 32, 33, 34, 35, 36, 37, 38, 39, 40, 41, 42, 43, 44] (by decide +kernel) (by decide +kernel)
set_option maxRecDepth 20000 in
theorem gX4_falls_X4_verdictIn : GoodIn wsX4_falls (va_wsS RX4 70 yX4_verdictIn wsX4_verdictIn) := goodIn_app (goodIn_of _ (by decide +kernel)) ggX4_falls_X4_verdictIn
set_option maxRecDepth 20000 in
theorem ggX4_falls_X4_hour : GoodIn wsX4_falls wsX4_hour := goodIn_r _ [47, 33, 34, 5, 35, 48, 49, 50] (by decide +kernel) (by decide +kernel)
set_option maxRecDepth 20000 in
theorem gX4_falls_X4_hour : GoodIn wsX4_falls (va_wsS RX4 76 yX4_hour wsX4_hour) := goodIn_app (goodIn_of _ (by decide +kernel)) ggX4_falls_X4_hour
theorem dX4_falls_0 : decode cX4_falls 0 = .ok (.iload_n 1, 1) := by decide +kernel
theorem dX4_falls_1 : decode cX4_falls 1 = .ok (.invokestatic 131, 3) := by decide +kernel
theorem dX4_falls_4 : decode cX4_falls 4 = .ok (.ifCond .ne 7, 3) := by decide +kernel
theorem dX4_falls_7 : decode cX4_falls 7 = .ok (.iconst (-1), 1) := by decide +kernel
theorem dX4_falls_8 : decode cX4_falls 8 = .ok (.goto 16, 3) := by decide +kernel
theorem dX4_falls_11 : decode cX4_falls 11 = .ok (.iload_n 2, 1) := by decide +kernel
theorem dX4_falls_12 : decode cX4_falls 12 = .ok (.invokestatic 105, 3) := by decide +kernel
theorem dX4_falls_15 : decode cX4_falls 15 = .ok (.ifCond .eq 7, 3) := by decide +kernel
theorem dX4_falls_18 : decode cX4_falls 18 = .ok (.iconst 0, 1) := by decide +kernel
theorem dX4_falls_19 : decode cX4_falls 19 = .ok (.goto 5, 3) := by decide +kernel
theorem dX4_falls_22 : decode cX4_falls 22 = .ok (.bipush (-2), 2) := by decide +kernel
theorem dX4_falls_24 : decode cX4_falls 24 = .ok (.istore_n 3, 1) := by decide +kernel
theorem dX4_falls_25 : decode cX4_falls 25 = .ok (.iload_n 3, 1) := by decide +kernel
theorem dX4_falls_26 : decode cX4_falls 26 = .ok (.ifCond .eq 9, 3) := by decide +kernel
theorem dX4_falls_29 : decode cX4_falls 29 = .ok (.aload_n 0, 1) := by decide +kernel
theorem dX4_falls_30 : decode cX4_falls 30 = .ok (.iload_n 3, 1) := by decide +kernel
theorem dX4_falls_31 : decode cX4_falls 31 = .ok (.invokevirtual 36, 3) := by decide +kernel
theorem dX4_falls_34 : decode cX4_falls 34 = .ok (.ireturn, 1) := by decide +kernel
theorem dX4_falls_35 : decode cX4_falls 35 = .ok (.aload_n 0, 1) := by decide +kernel
theorem dX4_falls_36 : decode cX4_falls 36 = .ok (.getfield 9, 3) := by decide +kernel
theorem dX4_falls_39 : decode cX4_falls 39 = .ok (.aload_n 0, 1) := by decide +kernel
theorem dX4_falls_40 : decode cX4_falls 40 = .ok (.getfield 13, 3) := by decide +kernel
theorem dX4_falls_43 : decode cX4_falls 43 = .ok (.invokestatic 118, 3) := by decide +kernel
theorem dX4_falls_46 : decode cX4_falls 46 = .ok (.iconst 0, 1) := by decide +kernel
theorem dX4_falls_47 : decode cX4_falls 47 = .ok (.istore 4, 2) := by decide +kernel
theorem dX4_falls_49 : decode cX4_falls 49 = .ok (.iload 4, 2) := by decide +kernel
theorem dX4_falls_51 : decode cX4_falls 51 = .ok (.bipush 60, 2) := by decide +kernel
theorem dX4_falls_53 : decode cX4_falls 53 = .ok (.if_icmp .gt 31, 3) := by decide +kernel
theorem dX4_falls_56 : decode cX4_falls 56 = .ok (.aload_n 0, 1) := by decide +kernel
theorem dX4_falls_57 : decode cX4_falls 57 = .ok (.getfield 13, 3) := by decide +kernel
theorem dX4_falls_60 : decode cX4_falls 60 = .ok (.iload_n 1, 1) := by decide +kernel
theorem dX4_falls_61 : decode cX4_falls 61 = .ok (.invokestatic 70, 3) := by decide +kernel
theorem dX4_falls_64 : decode cX4_falls 64 = .ok (.iload_n 2, 1) := by decide +kernel
theorem dX4_falls_65 : decode cX4_falls 65 = .ok (.if_icmp .ne 6, 3) := by decide +kernel
theorem dX4_falls_68 : decode cX4_falls 68 = .ok (.iload 4, 2) := by decide +kernel
theorem dX4_falls_70 : decode cX4_falls 70 = .ok (.ireturn, 1) := by decide +kernel
theorem dX4_falls_71 : decode cX4_falls 71 = .ok (.aload_n 0, 1) := by decide +kernel
theorem dX4_falls_72 : decode cX4_falls 72 = .ok (.getfield 13, 3) := by decide +kernel
theorem dX4_falls_75 : decode cX4_falls 75 = .ok (.invokestatic 76, 3) := by decide +kernel
theorem dX4_falls_78 : decode cX4_falls 78 = .ok (.iinc 4 1, 3) := by decide +kernel
theorem dX4_falls_81 : decode cX4_falls 81 = .ok (.goto (-32), 3) := by decide +kernel
theorem dX4_falls_84 : decode cX4_falls 84 = .ok (.bipush (-9), 2) := by decide +kernel
theorem dX4_falls_86 : decode cX4_falls 86 = .ok (.ireturn, 1) := by decide +kernel
set_option maxRecDepth 20000 in
theorem ggX4_sight_X4_isBranch : GoodIn wsX4_sight wsX4_isBranch := goodIn_r _ [6, 7, 8, 5, 9] (by decide +kernel) (by decide +kernel)
set_option maxRecDepth 20000 in
theorem gX4_sight_X4_isBranch : GoodIn wsX4_sight (va_wsS RX4 131 yX4_isBranch wsX4_isBranch) := goodIn_app (goodIn_of _ (by decide +kernel)) ggX4_sight_X4_isBranch
set_option maxRecDepth 20000 in
theorem ggX4_sight_X4_isThing : GoodIn wsX4_sight wsX4_isThing := goodIn_r _ [13, 1, 7, 8, 5, 9, 46, 47, 48, 49, 50, 51, 52, 53, 54, 55, 56, 57, 58] (by decide +kernel) (by decide +kernel)
set_option maxRecDepth 20000 in
theorem gX4_sight_X4_isThing : GoodIn wsX4_sight (wsV RX4 108 RX4 yX4_isThing wsX4_isThing) := goodIn_app (goodIn_of _ (by decide +kernel)) ggX4_sight_X4_isThing
set_option maxRecDepth 20000 in
theorem ggX4_sight_X4_isIn : GoodIn wsX4_sight wsX4_isIn := goodIn_r _ [9] (by decide +kernel) (by decide +kernel)
set_option maxRecDepth 20000 in
theorem gX4_sight_X4_isIn : GoodIn wsX4_sight (va_wsS RX4 40 yX4_isIn wsX4_isIn) := goodIn_app (goodIn_of _ (by decide +kernel)) ggX4_sight_X4_isIn
set_option maxRecDepth 20000 in
theorem ggX4_sight_X4_no : GoodIn wsX4_sight wsX4_no := goodIn_r _ [17, 18, 46, 47, 48, 49, 50, 51, 52, 53, 54, 55, 56, 57, 58] (by decide +kernel) (by decide +kernel)
set_option maxRecDepth 20000 in
theorem gX4_sight_X4_no : GoodIn wsX4_sight (wsV RX4 36 RX4 yX4_no wsX4_no) := goodIn_app (goodIn_of _ (by decide +kernel)) ggX4_sight_X4_no
set_option maxRecDepth 20000 in
theorem ggX4_sight_X4_copies : GoodIn wsX4_sight wsX4_copies := goodIn_r _ [21] (by decide +kernel) (by decide +kernel)
set_option maxRecDepth 20000 in
theorem gX4_sight_X4_copies : GoodIn wsX4_sight (va_wsS RX4 118 yX4_copies wsX4_copies) := goodIn_app (goodIn_of _ (by decide +kernel)) ggX4_sight_X4_copies
set_option maxRecDepth 20000 in
theorem ggX4_sight_X4_seenIn : GoodIn wsX4_sight wsX4_seenIn := goodIn_r _ [24, 25, 26, 5, 27, 28, 29, 30, 31, 32, 33, 34, 35, 36, 37, 38, 39] (by decide +kernel) (by decide +kernel)
set_option maxRecDepth 20000 in
theorem gX4_sight_X4_seenIn : GoodIn wsX4_sight (va_wsS RX4 64 yX4_seenIn wsX4_seenIn) := goodIn_app (goodIn_of _ (by decide +kernel)) ggX4_sight_X4_seenIn
set_option maxRecDepth 20000 in
theorem ggX4_sight_X4_has : GoodIn wsX4_sight wsX4_has := goodIn_r _ [27] (by decide +kernel) (by decide +kernel)
set_option maxRecDepth 20000 in
theorem gX4_sight_X4_has : GoodIn wsX4_sight (va_wsS RX4 52 yX4_has wsX4_has) := goodIn_app (goodIn_of _ (by decide +kernel)) ggX4_sight_X4_has
set_option maxRecDepth 20000 in
theorem ggX4_sight_X4_hour : GoodIn wsX4_sight wsX4_hour := goodIn_r _ [42, 28, 29, 5, 30, 43, 44, 45] (by decide +kernel) (by decide +kernel)
set_option maxRecDepth 20000 in
theorem gX4_sight_X4_hour : GoodIn wsX4_sight (va_wsS RX4 76 yX4_hour wsX4_hour) := goodIn_app (goodIn_of _ (by decide +kernel)) ggX4_sight_X4_hour
theorem dX4_sight_0 : decode cX4_sight 0 = .ok (.iload_n 1, 1) := by decide +kernel
theorem dX4_sight_1 : decode cX4_sight 1 = .ok (.invokestatic 131, 3) := by decide +kernel
theorem dX4_sight_4 : decode cX4_sight 4 = .ok (.ifCond .eq 11, 3) := by decide +kernel
theorem dX4_sight_7 : decode cX4_sight 7 = .ok (.aload_n 0, 1) := by decide +kernel
theorem dX4_sight_8 : decode cX4_sight 8 = .ok (.iload_n 2, 1) := by decide +kernel
theorem dX4_sight_9 : decode cX4_sight 9 = .ok (.invokevirtual 108, 3) := by decide +kernel
theorem dX4_sight_12 : decode cX4_sight 12 = .ok (.ifCond .ne 7, 3) := by decide +kernel
theorem dX4_sight_15 : decode cX4_sight 15 = .ok (.iconst (-1), 1) := by decide +kernel
theorem dX4_sight_16 : decode cX4_sight 16 = .ok (.goto 18, 3) := by decide +kernel
theorem dX4_sight_19 : decode cX4_sight 19 = .ok (.iload_n 3, 1) := by decide +kernel
theorem dX4_sight_20 : decode cX4_sight 20 = .ok (.iconst 0, 1) := by decide +kernel
theorem dX4_sight_21 : decode cX4_sight 21 = .ok (.iconst 1, 1) := by decide +kernel
theorem dX4_sight_22 : decode cX4_sight 22 = .ok (.invokestatic 40, 3) := by decide +kernel
theorem dX4_sight_25 : decode cX4_sight 25 = .ok (.ifCond .eq 7, 3) := by decide +kernel
theorem dX4_sight_28 : decode cX4_sight 28 = .ok (.iconst 0, 1) := by decide +kernel
theorem dX4_sight_29 : decode cX4_sight 29 = .ok (.goto 5, 3) := by decide +kernel
theorem dX4_sight_32 : decode cX4_sight 32 = .ok (.bipush (-2), 2) := by decide +kernel
theorem dX4_sight_34 : decode cX4_sight 34 = .ok (.istore 4, 2) := by decide +kernel
theorem dX4_sight_36 : decode cX4_sight 36 = .ok (.iload 4, 2) := by decide +kernel
theorem dX4_sight_38 : decode cX4_sight 38 = .ok (.ifCond .eq 10, 3) := by decide +kernel
theorem dX4_sight_41 : decode cX4_sight 41 = .ok (.aload_n 0, 1) := by decide +kernel
theorem dX4_sight_42 : decode cX4_sight 42 = .ok (.iload 4, 2) := by decide +kernel
theorem dX4_sight_44 : decode cX4_sight 44 = .ok (.invokevirtual 36, 3) := by decide +kernel
theorem dX4_sight_47 : decode cX4_sight 47 = .ok (.ireturn, 1) := by decide +kernel
theorem dX4_sight_48 : decode cX4_sight 48 = .ok (.aload_n 0, 1) := by decide +kernel
theorem dX4_sight_49 : decode cX4_sight 49 = .ok (.getfield 9, 3) := by decide +kernel
theorem dX4_sight_52 : decode cX4_sight 52 = .ok (.aload_n 0, 1) := by decide +kernel
theorem dX4_sight_53 : decode cX4_sight 53 = .ok (.getfield 13, 3) := by decide +kernel
theorem dX4_sight_56 : decode cX4_sight 56 = .ok (.invokestatic 118, 3) := by decide +kernel
theorem dX4_sight_59 : decode cX4_sight 59 = .ok (.bipush (-9), 2) := by decide +kernel
theorem dX4_sight_61 : decode cX4_sight 61 = .ok (.istore 5, 2) := by decide +kernel
theorem dX4_sight_63 : decode cX4_sight 63 = .ok (.iconst 0, 1) := by decide +kernel
theorem dX4_sight_64 : decode cX4_sight 64 = .ok (.istore 6, 2) := by decide +kernel
theorem dX4_sight_66 : decode cX4_sight 66 = .ok (.iconst 0, 1) := by decide +kernel
theorem dX4_sight_67 : decode cX4_sight 67 = .ok (.istore 7, 2) := by decide +kernel
theorem dX4_sight_69 : decode cX4_sight 69 = .ok (.iload 7, 2) := by decide +kernel
theorem dX4_sight_71 : decode cX4_sight 71 = .ok (.bipush 60, 2) := by decide +kernel
theorem dX4_sight_73 : decode cX4_sight 73 = .ok (.if_icmp .gt 48, 3) := by decide +kernel
theorem dX4_sight_76 : decode cX4_sight 76 = .ok (.aload_n 0, 1) := by decide +kernel
theorem dX4_sight_77 : decode cX4_sight 77 = .ok (.getfield 13, 3) := by decide +kernel
theorem dX4_sight_80 : decode cX4_sight 80 = .ok (.iload_n 1, 1) := by decide +kernel
theorem dX4_sight_81 : decode cX4_sight 81 = .ok (.invokestatic 64, 3) := by decide +kernel
theorem dX4_sight_84 : decode cX4_sight 84 = .ok (.iload_n 2, 1) := by decide +kernel
theorem dX4_sight_85 : decode cX4_sight 85 = .ok (.invokestatic 52, 3) := by decide +kernel
theorem dX4_sight_88 : decode cX4_sight 88 = .ok (.ifCond .eq 20, 3) := by decide +kernel
theorem dX4_sight_91 : decode cX4_sight 91 = .ok (.iload 6, 2) := by decide +kernel
theorem dX4_sight_93 : decode cX4_sight 93 = .ok (.ifCond .ne 8, 3) := by decide +kernel
theorem dX4_sight_96 : decode cX4_sight 96 = .ok (.iload 7, 2) := by decide +kernel
theorem dX4_sight_98 : decode cX4_sight 98 = .ok (.goto 5, 3) := by decide +kernel
theorem dX4_sight_101 : decode cX4_sight 101 = .ok (.iload 5, 2) := by decide +kernel
theorem dX4_sight_103 : decode cX4_sight 103 = .ok (.istore 5, 2) := by decide +kernel
theorem dX4_sight_105 : decode cX4_sight 105 = .ok (.iinc 6 1, 3) := by decide +kernel
theorem dX4_sight_108 : decode cX4_sight 108 = .ok (.aload_n 0, 1) := by decide +kernel
theorem dX4_sight_109 : decode cX4_sight 109 = .ok (.getfield 13, 3) := by decide +kernel
theorem dX4_sight_112 : decode cX4_sight 112 = .ok (.invokestatic 76, 3) := by decide +kernel
theorem dX4_sight_115 : decode cX4_sight 115 = .ok (.iinc 7 1, 3) := by decide +kernel
theorem dX4_sight_118 : decode cX4_sight 118 = .ok (.goto (-49), 3) := by decide +kernel
theorem dX4_sight_121 : decode cX4_sight 121 = .ok (.iload_n 3, 1) := by decide +kernel
theorem dX4_sight_122 : decode cX4_sight 122 = .ok (.ifCond .ne 8, 3) := by decide +kernel
theorem dX4_sight_125 : decode cX4_sight 125 = .ok (.iload 5, 2) := by decide +kernel
theorem dX4_sight_127 : decode cX4_sight 127 = .ok (.goto 5, 3) := by decide +kernel
theorem dX4_sight_130 : decode cX4_sight 130 = .ok (.iload 6, 2) := by decide +kernel
theorem dX4_sight_132 : decode cX4_sight 132 = .ok (.ireturn, 1) := by decide +kernel
set_option maxRecDepth 20000 in
theorem ggX4_doAgree_X4_verdictIn : GoodIn wsX4_doAgree wsX4_verdictIn := goodIn_r _ [4, 5, 6, 3, 7, 8, 9, 10, 11, 12, 13, 14, 15, 16, 17, 18, 19, 20, 21, 22, 23, 24, 25] (by decide +kernel) (by decide +kernel)
set_option maxRecDepth 20000 in
theorem gX4_doAgree_X4_verdictIn : GoodIn wsX4_doAgree (va_wsS RX4 70 yX4_verdictIn wsX4_verdictIn) := goodIn_app (goodIn_of _ (by decide +kernel)) ggX4_doAgree_X4_verdictIn
set_option maxRecDepth 20000 in
theorem ggX4_doAgree_X4_branchesIn : GoodIn wsX4_doAgree wsX4_branchesIn := goodIn_r _ [28, 1, 2, 3, 4, 5, 6, 7, 8, 9, 10, 11, 12, 13, 14, 15, 16, 17, 18, 19, 20, 21, 22, 23, 24, 25] (by decide +kernel) (by decide +kernel)
set_option maxRecDepth 20000 in
theorem gX4_doAgree_X4_branchesIn : GoodIn wsX4_doAgree (va_wsS RX4 144 yX4_branchesIn wsX4_branchesIn) := goodIn_app (goodIn_of _ (by decide +kernel)) ggX4_doAgree_X4_branchesIn
set_option maxRecDepth 20000 in
theorem ggX4_doAgree_X4_bits : GoodIn wsX4_doAgree wsX4_bits := goodIn_r _ [31] (by decide +kernel) (by decide +kernel)
set_option maxRecDepth 20000 in
theorem gX4_doAgree_X4_bits : GoodIn wsX4_doAgree (va_wsS RX4 147 yX4_bits wsX4_bits) := goodIn_app (goodIn_of _ (by decide +kernel)) ggX4_doAgree_X4_bits
theorem dX4_doAgree_0 : decode cX4_doAgree 0 = .ok (.aload_n 0, 1) := by decide +kernel
theorem dX4_doAgree_1 : decode cX4_doAgree 1 = .ok (.aload_n 0, 1) := by decide +kernel
theorem dX4_doAgree_2 : decode cX4_doAgree 2 = .ok (.iconst 0, 1) := by decide +kernel
theorem dX4_doAgree_3 : decode cX4_doAgree 3 = .ok (.invokestatic 70, 3) := by decide +kernel
theorem dX4_doAgree_6 : decode cX4_doAgree 6 = .ok (.invokestatic 144, 3) := by decide +kernel
theorem dX4_doAgree_9 : decode cX4_doAgree 9 = .ok (.invokestatic 147, 3) := by decide +kernel
theorem dX4_doAgree_12 : decode cX4_doAgree 12 = .ok (.bipush 10, 2) := by decide +kernel
theorem dX4_doAgree_14 : decode cX4_doAgree 14 = .ok (.if_icmp .ne 7, 3) := by decide +kernel
theorem dX4_doAgree_17 : decode cX4_doAgree 17 = .ok (.iconst 1, 1) := by decide +kernel
theorem dX4_doAgree_18 : decode cX4_doAgree 18 = .ok (.goto 4, 3) := by decide +kernel
theorem dX4_doAgree_21 : decode cX4_doAgree 21 = .ok (.iconst 0, 1) := by decide +kernel
theorem dX4_doAgree_22 : decode cX4_doAgree 22 = .ok (.ireturn, 1) := by decide +kernel
set_option maxRecDepth 20000 in
theorem ggX4_agree_X4_copies : GoodIn wsX4_agree wsX4_copies := goodIn_r _ [6] (by decide +kernel) (by decide +kernel)
set_option maxRecDepth 20000 in
theorem gX4_agree_X4_copies : GoodIn wsX4_agree (va_wsS RX4 118 yX4_copies wsX4_copies) := goodIn_app (goodIn_of _ (by decide +kernel)) ggX4_agree_X4_copies
set_option maxRecDepth 20000 in
theorem ggX4_agree_X4_doAgree : GoodIn wsX4_agree wsX4_doAgree := goodIn_r _ [9, 10, 11, 5, 12, 13, 14, 15, 16, 17, 18, 19, 20, 21, 22, 23, 24, 25, 26, 27, 28, 29, 30, 31, 32, 33, 34, 35, 36, 37, 38, 39] (by decide +kernel) (by decide +kernel)
set_option maxRecDepth 20000 in
theorem gX4_agree_X4_doAgree : GoodIn wsX4_agree (va_wsS RX4 150 yX4_doAgree wsX4_doAgree) := goodIn_app (goodIn_of _ (by decide +kernel)) ggX4_agree_X4_doAgree
set_option maxRecDepth 20000 in
theorem ggX4_agree_X4_hour : GoodIn wsX4_agree wsX4_hour := goodIn_r _ [42, 22, 23, 5, 24, 43, 44, 45] (by decide +kernel) (by decide +kernel)
set_option maxRecDepth 20000 in
theorem gX4_agree_X4_hour : GoodIn wsX4_agree (va_wsS RX4 76 yX4_hour wsX4_hour) := goodIn_app (goodIn_of _ (by decide +kernel)) ggX4_agree_X4_hour
theorem dX4_agree_0 : decode cX4_agree 0 = .ok (.aload_n 0, 1) := by decide +kernel
theorem dX4_agree_1 : decode cX4_agree 1 = .ok (.getfield 9, 3) := by decide +kernel
theorem dX4_agree_4 : decode cX4_agree 4 = .ok (.aload_n 0, 1) := by decide +kernel
theorem dX4_agree_5 : decode cX4_agree 5 = .ok (.getfield 13, 3) := by decide +kernel
theorem dX4_agree_8 : decode cX4_agree 8 = .ok (.invokestatic 118, 3) := by decide +kernel
theorem dX4_agree_11 : decode cX4_agree 11 = .ok (.iconst 0, 1) := by decide +kernel
theorem dX4_agree_12 : decode cX4_agree 12 = .ok (.istore_n 1, 1) := by decide +kernel
theorem dX4_agree_13 : decode cX4_agree 13 = .ok (.iload_n 1, 1) := by decide +kernel
theorem dX4_agree_14 : decode cX4_agree 14 = .ok (.bipush 60, 2) := by decide +kernel
theorem dX4_agree_16 : decode cX4_agree 16 = .ok (.if_icmp .gt 28, 3) := by decide +kernel
theorem dX4_agree_19 : decode cX4_agree 19 = .ok (.aload_n 0, 1) := by decide +kernel
theorem dX4_agree_20 : decode cX4_agree 20 = .ok (.getfield 13, 3) := by decide +kernel
theorem dX4_agree_23 : decode cX4_agree 23 = .ok (.invokestatic 150, 3) := by decide +kernel
theorem dX4_agree_26 : decode cX4_agree 26 = .ok (.ifCond .eq 5, 3) := by decide +kernel
theorem dX4_agree_29 : decode cX4_agree 29 = .ok (.iload_n 1, 1) := by decide +kernel
theorem dX4_agree_30 : decode cX4_agree 30 = .ok (.ireturn, 1) := by decide +kernel
theorem dX4_agree_31 : decode cX4_agree 31 = .ok (.aload_n 0, 1) := by decide +kernel
theorem dX4_agree_32 : decode cX4_agree 32 = .ok (.getfield 13, 3) := by decide +kernel
theorem dX4_agree_35 : decode cX4_agree 35 = .ok (.invokestatic 76, 3) := by decide +kernel
theorem dX4_agree_38 : decode cX4_agree 38 = .ok (.iinc 1 1, 3) := by decide +kernel
theorem dX4_agree_41 : decode cX4_agree 41 = .ok (.goto (-28), 3) := by decide +kernel
theorem dX4_agree_44 : decode cX4_agree 44 = .ok (.bipush (-9), 2) := by decide +kernel
theorem dX4_agree_46 : decode cX4_agree 46 = .ok (.ireturn, 1) := by decide +kernel
set_option maxRecDepth 20000 in
theorem ggX4_appeal_X4_isBranch : GoodIn wsX4_appeal wsX4_isBranch := goodIn_r _ [5, 6, 7, 4, 8] (by decide +kernel) (by decide +kernel)
set_option maxRecDepth 20000 in
theorem gX4_appeal_X4_isBranch : GoodIn wsX4_appeal (va_wsS RX4 131 yX4_isBranch wsX4_isBranch) := goodIn_app (goodIn_of _ (by decide +kernel)) ggX4_appeal_X4_isBranch
set_option maxRecDepth 20000 in
theorem ggX4_appeal_X4_no : GoodIn wsX4_appeal wsX4_no := goodIn_r _ [12, 13, 38, 39, 40, 41, 42, 43, 44, 45, 46, 47, 48, 49, 50] (by decide +kernel) (by decide +kernel)
set_option maxRecDepth 20000 in
theorem gX4_appeal_X4_no : GoodIn wsX4_appeal (wsV RX4 36 RX4 yX4_no wsX4_no) := goodIn_app (goodIn_of _ (by decide +kernel)) ggX4_appeal_X4_no
set_option maxRecDepth 20000 in
theorem ggX4_appeal_X4_verdictIn : GoodIn wsX4_appeal wsX4_verdictIn := goodIn_r _ [16, 17, 18, 4, 19, 20, 21, 22, 23, 24, 25, 26, 27, 28, 29, 30, 31, 32, 33, 34, 35, 36, 37] (by decide +kernel) (by decide +kernel)
set_option maxRecDepth 20000 in
theorem gX4_appeal_X4_verdictIn : GoodIn wsX4_appeal (va_wsS RX4 70 yX4_verdictIn wsX4_verdictIn) := goodIn_app (goodIn_of _ (by decide +kernel)) ggX4_appeal_X4_verdictIn
theorem dX4_appeal_0 : decode cX4_appeal 0 = .ok (.iload_n 1, 1) := by decide +kernel
theorem dX4_appeal_1 : decode cX4_appeal 1 = .ok (.invokestatic 131, 3) := by decide +kernel
theorem dX4_appeal_4 : decode cX4_appeal 4 = .ok (.ifCond .ne 9, 3) := by decide +kernel
theorem dX4_appeal_7 : decode cX4_appeal 7 = .ok (.aload_n 0, 1) := by decide +kernel
theorem dX4_appeal_8 : decode cX4_appeal 8 = .ok (.iconst (-1), 1) := by decide +kernel
theorem dX4_appeal_9 : decode cX4_appeal 9 = .ok (.invokevirtual 36, 3) := by decide +kernel
theorem dX4_appeal_12 : decode cX4_appeal 12 = .ok (.ireturn, 1) := by decide +kernel
theorem dX4_appeal_13 : decode cX4_appeal 13 = .ok (.aload_n 0, 1) := by decide +kernel
theorem dX4_appeal_14 : decode cX4_appeal 14 = .ok (.getfield 9, 3) := by decide +kernel
theorem dX4_appeal_17 : decode cX4_appeal 17 = .ok (.iload_n 1, 1) := by decide +kernel
theorem dX4_appeal_18 : decode cX4_appeal 18 = .ok (.invokestatic 70, 3) := by decide +kernel
theorem dX4_appeal_21 : decode cX4_appeal 21 = .ok (.istore_n 2, 1) := by decide +kernel
theorem dX4_appeal_22 : decode cX4_appeal 22 = .ok (.iload_n 1, 1) := by decide +kernel
theorem dX4_appeal_23 : decode cX4_appeal 23 = .ok (.iconst 1, 1) := by decide +kernel
theorem dX4_appeal_24 : decode cX4_appeal 24 = .ok (.iadd, 1) := by decide +kernel
theorem dX4_appeal_25 : decode cX4_appeal 25 = .ok (.istore_n 3, 1) := by decide +kernel
theorem dX4_appeal_26 : decode cX4_appeal 26 = .ok (.iload_n 3, 1) := by decide +kernel
theorem dX4_appeal_27 : decode cX4_appeal 27 = .ok (.bipush 10, 2) := by decide +kernel
theorem dX4_appeal_29 : decode cX4_appeal 29 = .ok (.if_icmp .ge 23, 3) := by decide +kernel
theorem dX4_appeal_32 : decode cX4_appeal 32 = .ok (.aload_n 0, 1) := by decide +kernel
theorem dX4_appeal_33 : decode cX4_appeal 33 = .ok (.getfield 9, 3) := by decide +kernel
theorem dX4_appeal_36 : decode cX4_appeal 36 = .ok (.iload_n 3, 1) := by decide +kernel
theorem dX4_appeal_37 : decode cX4_appeal 37 = .ok (.invokestatic 70, 3) := by decide +kernel
theorem dX4_appeal_40 : decode cX4_appeal 40 = .ok (.iload_n 2, 1) := by decide +kernel
theorem dX4_appeal_41 : decode cX4_appeal 41 = .ok (.if_icmp .eq 5, 3) := by decide +kernel
theorem dX4_appeal_44 : decode cX4_appeal 44 = .ok (.iload_n 3, 1) := by decide +kernel
theorem dX4_appeal_45 : decode cX4_appeal 45 = .ok (.ireturn, 1) := by decide +kernel
theorem dX4_appeal_46 : decode cX4_appeal 46 = .ok (.iinc 3 1, 3) := by decide +kernel
theorem dX4_appeal_49 : decode cX4_appeal 49 = .ok (.goto (-23), 3) := by decide +kernel
theorem dX4_appeal_52 : decode cX4_appeal 52 = .ok (.bipush (-9), 2) := by decide +kernel
theorem dX4_appeal_54 : decode cX4_appeal 54 = .ok (.ireturn, 1) := by decide +kernel
set_option maxRecDepth 20000 in
theorem ggX4_branches_X4_isVerdict : GoodIn wsX4_branches wsX4_isVerdict := goodIn_r _ [5, 6, 7, 4, 8] (by decide +kernel) (by decide +kernel)
set_option maxRecDepth 20000 in
theorem gX4_branches_X4_isVerdict : GoodIn wsX4_branches (va_wsS RX4 105 yX4_isVerdict wsX4_isVerdict) := goodIn_app (goodIn_of _ (by decide +kernel)) ggX4_branches_X4_isVerdict
set_option maxRecDepth 20000 in
theorem ggX4_branches_X4_branchesIn : GoodIn wsX4_branches wsX4_branchesIn := goodIn_r _ [11, 12, 13, 4, 14, 15, 16, 17, 18, 19, 20, 21, 22, 23, 24, 25, 26, 27, 28, 29, 30, 31, 32, 33, 34, 35] (by decide +kernel) (by decide +kernel)
set_option maxRecDepth 20000 in
theorem gX4_branches_X4_branchesIn : GoodIn wsX4_branches (va_wsS RX4 144 yX4_branchesIn wsX4_branchesIn) := goodIn_app (goodIn_of _ (by decide +kernel)) ggX4_branches_X4_branchesIn
set_option maxRecDepth 20000 in
theorem ggX4_branches_X4_no : GoodIn wsX4_branches wsX4_no := goodIn_r _ [39, 40, 41, 42, 43, 44, 45, 46, 47, 48, 49, 50, 51, 52, 53] (by decide +kernel) (by decide +kernel)
set_option maxRecDepth 20000 in
theorem gX4_branches_X4_no : GoodIn wsX4_branches (wsV RX4 36 RX4 yX4_no wsX4_no) := goodIn_app (goodIn_of _ (by decide +kernel)) ggX4_branches_X4_no
theorem dX4_branches_0 : decode cX4_branches 0 = .ok (.iload_n 1, 1) := by decide +kernel
theorem dX4_branches_1 : decode cX4_branches 1 = .ok (.invokestatic 105, 3) := by decide +kernel
theorem dX4_branches_4 : decode cX4_branches 4 = .ok (.ifCond .eq 14, 3) := by decide +kernel
theorem dX4_branches_7 : decode cX4_branches 7 = .ok (.aload_n 0, 1) := by decide +kernel
theorem dX4_branches_8 : decode cX4_branches 8 = .ok (.getfield 9, 3) := by decide +kernel
theorem dX4_branches_11 : decode cX4_branches 11 = .ok (.iload_n 1, 1) := by decide +kernel
theorem dX4_branches_12 : decode cX4_branches 12 = .ok (.invokestatic 144, 3) := by decide +kernel
theorem dX4_branches_15 : decode cX4_branches 15 = .ok (.goto 9, 3) := by decide +kernel
theorem dX4_branches_18 : decode cX4_branches 18 = .ok (.aload_n 0, 1) := by decide +kernel
theorem dX4_branches_19 : decode cX4_branches 19 = .ok (.bipush (-2), 2) := by decide +kernel
theorem dX4_branches_21 : decode cX4_branches 21 = .ok (.invokevirtual 36, 3) := by decide +kernel
theorem dX4_branches_24 : decode cX4_branches 24 = .ok (.ireturn, 1) := by decide +kernel
set_option maxRecDepth 20000 in
theorem ggX4_timesOf_X4_copies : GoodIn wsX4_timesOf wsX4_copies := goodIn_r _ [6] (by decide +kernel) (by decide +kernel)
set_option maxRecDepth 20000 in
theorem gX4_timesOf_X4_copies : GoodIn wsX4_timesOf (va_wsS RX4 118 yX4_copies wsX4_copies) := goodIn_app (goodIn_of _ (by decide +kernel)) ggX4_timesOf_X4_copies
set_option maxRecDepth 20000 in
theorem ggX4_timesOf_X4_verdictIn : GoodIn wsX4_timesOf wsX4_verdictIn := goodIn_r _ [9, 10, 11, 5, 12, 13, 14, 15, 16, 17, 18, 19, 20, 21, 22, 23, 24, 25, 26, 27, 28, 29, 30] (by decide +kernel) (by decide +kernel)
set_option maxRecDepth 20000 in
theorem gX4_timesOf_X4_verdictIn : GoodIn wsX4_timesOf (va_wsS RX4 70 yX4_verdictIn wsX4_verdictIn) := goodIn_app (goodIn_of _ (by decide +kernel)) ggX4_timesOf_X4_verdictIn
set_option maxRecDepth 20000 in
theorem ggX4_timesOf_X4_hour : GoodIn wsX4_timesOf wsX4_hour := goodIn_r _ [33, 19, 20, 5, 21, 34, 35, 36] (by decide +kernel) (by decide +kernel)
set_option maxRecDepth 20000 in
theorem gX4_timesOf_X4_hour : GoodIn wsX4_timesOf (va_wsS RX4 76 yX4_hour wsX4_hour) := goodIn_app (goodIn_of _ (by decide +kernel)) ggX4_timesOf_X4_hour
theorem dX4_timesOf_0 : decode cX4_timesOf 0 = .ok (.aload_n 0, 1) := by decide +kernel
theorem dX4_timesOf_1 : decode cX4_timesOf 1 = .ok (.getfield 9, 3) := by decide +kernel
theorem dX4_timesOf_4 : decode cX4_timesOf 4 = .ok (.aload_n 0, 1) := by decide +kernel
theorem dX4_timesOf_5 : decode cX4_timesOf 5 = .ok (.getfield 13, 3) := by decide +kernel
theorem dX4_timesOf_8 : decode cX4_timesOf 8 = .ok (.invokestatic 118, 3) := by decide +kernel
theorem dX4_timesOf_11 : decode cX4_timesOf 11 = .ok (.iconst 0, 1) := by decide +kernel
theorem dX4_timesOf_12 : decode cX4_timesOf 12 = .ok (.istore 4, 2) := by decide +kernel
theorem dX4_timesOf_14 : decode cX4_timesOf 14 = .ok (.iconst 0, 1) := by decide +kernel
theorem dX4_timesOf_15 : decode cX4_timesOf 15 = .ok (.istore 5, 2) := by decide +kernel
theorem dX4_timesOf_17 : decode cX4_timesOf 17 = .ok (.iload 5, 2) := by decide +kernel
theorem dX4_timesOf_19 : decode cX4_timesOf 19 = .ok (.iload_n 3, 1) := by decide +kernel
theorem dX4_timesOf_20 : decode cX4_timesOf 20 = .ok (.if_icmp .gt 38, 3) := by decide +kernel
theorem dX4_timesOf_23 : decode cX4_timesOf 23 = .ok (.iload 4, 2) := by decide +kernel
theorem dX4_timesOf_25 : decode cX4_timesOf 25 = .ok (.aload_n 0, 1) := by decide +kernel
theorem dX4_timesOf_26 : decode cX4_timesOf 26 = .ok (.getfield 13, 3) := by decide +kernel
theorem dX4_timesOf_29 : decode cX4_timesOf 29 = .ok (.iload_n 1, 1) := by decide +kernel
theorem dX4_timesOf_30 : decode cX4_timesOf 30 = .ok (.invokestatic 70, 3) := by decide +kernel
theorem dX4_timesOf_33 : decode cX4_timesOf 33 = .ok (.iload_n 2, 1) := by decide +kernel
theorem dX4_timesOf_34 : decode cX4_timesOf 34 = .ok (.if_icmp .ne 7, 3) := by decide +kernel
theorem dX4_timesOf_37 : decode cX4_timesOf 37 = .ok (.iconst 1, 1) := by decide +kernel
theorem dX4_timesOf_38 : decode cX4_timesOf 38 = .ok (.goto 4, 3) := by decide +kernel
theorem dX4_timesOf_41 : decode cX4_timesOf 41 = .ok (.iconst 0, 1) := by decide +kernel
theorem dX4_timesOf_42 : decode cX4_timesOf 42 = .ok (.iadd, 1) := by decide +kernel
theorem dX4_timesOf_43 : decode cX4_timesOf 43 = .ok (.istore 4, 2) := by decide +kernel
theorem dX4_timesOf_45 : decode cX4_timesOf 45 = .ok (.aload_n 0, 1) := by decide +kernel
theorem dX4_timesOf_46 : decode cX4_timesOf 46 = .ok (.getfield 13, 3) := by decide +kernel
theorem dX4_timesOf_49 : decode cX4_timesOf 49 = .ok (.invokestatic 76, 3) := by decide +kernel
theorem dX4_timesOf_52 : decode cX4_timesOf 52 = .ok (.iinc 5 1, 3) := by decide +kernel
theorem dX4_timesOf_55 : decode cX4_timesOf 55 = .ok (.goto (-38), 3) := by decide +kernel
theorem dX4_timesOf_58 : decode cX4_timesOf 58 = .ok (.iload 4, 2) := by decide +kernel
theorem dX4_timesOf_60 : decode cX4_timesOf 60 = .ok (.ireturn, 1) := by decide +kernel
set_option maxRecDepth 20000 in
theorem ggX4_best_X4_isVerdict : GoodIn wsX4_best wsX4_isVerdict := goodIn_r _ [4, 5, 6, 3, 7] (by decide +kernel) (by decide +kernel)
set_option maxRecDepth 20000 in
theorem gX4_best_X4_isVerdict : GoodIn wsX4_best (va_wsS RX4 105 yX4_isVerdict wsX4_isVerdict) := goodIn_app (goodIn_of _ (by decide +kernel)) ggX4_best_X4_isVerdict
set_option maxRecDepth 20000 in
theorem ggX4_best_X4_isIn : GoodIn wsX4_best wsX4_isIn := goodIn_r _ [7] (by decide +kernel) (by decide +kernel)
set_option maxRecDepth 20000 in
theorem gX4_best_X4_isIn : GoodIn wsX4_best (va_wsS RX4 40 yX4_isIn wsX4_isIn) := goodIn_app (goodIn_of _ (by decide +kernel)) ggX4_best_X4_isIn
set_option maxRecDepth 20000 in
theorem ggX4_best_X4_wrongBy : GoodIn wsX4_best wsX4_wrongBy := goodIn_r _ [10] (by decide +kernel) (by decide +kernel)
set_option maxRecDepth 20000 in
theorem gX4_best_X4_wrongBy : GoodIn wsX4_best (va_wsS RX4 125 yX4_wrongBy wsX4_wrongBy) := goodIn_app (goodIn_of _ (by decide +kernel)) ggX4_best_X4_wrongBy
set_option maxRecDepth 20000 in
theorem ggX4_best_X4_no : GoodIn wsX4_best wsX4_no := goodIn_r _ [14, 15, 55, 56, 57, 58, 59, 60, 61, 62, 63, 64, 65, 66, 67] (by decide +kernel) (by decide +kernel)
set_option maxRecDepth 20000 in
theorem gX4_best_X4_no : GoodIn wsX4_best (wsV RX4 36 RX4 yX4_no wsX4_no) := goodIn_app (goodIn_of _ (by decide +kernel)) ggX4_best_X4_no
set_option maxRecDepth 20000 in
theorem ggX4_best_X4_timesOf : GoodIn wsX4_best wsX4_timesOf := goodIn_r _ [19, 20, 21, 22, 23, 3, 24, 25, 26, 27, 28, 29, 30, 31, 32, 33, 34, 35, 36, 37, 38, 39, 40, 41, 42, 43, 44, 45, 46, 47, 48, 49, 50, 51, 52, 53, 54, 55, 56, 57, 58, 59, 60, 61, 62, 63, 64, 65, 66, 67] (by decide +kernel) (by decide +kernel)
set_option maxRecDepth 20000 in
theorem gX4_best_X4_timesOf : GoodIn wsX4_best (wsV RX4 154 RX4 yX4_timesOf wsX4_timesOf) := goodIn_app (goodIn_of _ (by decide +kernel)) ggX4_best_X4_timesOf
theorem dX4_best_0 : decode cX4_best 0 = .ok (.iload_n 1, 1) := by decide +kernel
theorem dX4_best_1 : decode cX4_best 1 = .ok (.invokestatic 105, 3) := by decide +kernel
theorem dX4_best_4 : decode cX4_best 4 = .ok (.ifCond .eq 22, 3) := by decide +kernel
theorem dX4_best_7 : decode cX4_best 7 = .ok (.iload_n 3, 1) := by decide +kernel
theorem dX4_best_8 : decode cX4_best 8 = .ok (.iconst 0, 1) := by decide +kernel
theorem dX4_best_9 : decode cX4_best 9 = .ok (.iconst 1, 1) := by decide +kernel
theorem dX4_best_10 : decode cX4_best 10 = .ok (.invokestatic 40, 3) := by decide +kernel
theorem dX4_best_13 : decode cX4_best 13 = .ok (.ifCond .eq 13, 3) := by decide +kernel
theorem dX4_best_16 : decode cX4_best 16 = .ok (.iload_n 2, 1) := by decide +kernel
theorem dX4_best_17 : decode cX4_best 17 = .ok (.iconst 0, 1) := by decide +kernel
theorem dX4_best_18 : decode cX4_best 18 = .ok (.bipush 30, 2) := by decide +kernel
theorem dX4_best_20 : decode cX4_best 20 = .ok (.invokestatic 125, 3) := by decide +kernel
theorem dX4_best_23 : decode cX4_best 23 = .ok (.goto 5, 3) := by decide +kernel
theorem dX4_best_26 : decode cX4_best 26 = .ok (.bipush (-2), 2) := by decide +kernel
theorem dX4_best_28 : decode cX4_best 28 = .ok (.istore 4, 2) := by decide +kernel
theorem dX4_best_30 : decode cX4_best 30 = .ok (.iload 4, 2) := by decide +kernel
theorem dX4_best_32 : decode cX4_best 32 = .ok (.ifCond .eq 10, 3) := by decide +kernel
theorem dX4_best_35 : decode cX4_best 35 = .ok (.aload_n 0, 1) := by decide +kernel
theorem dX4_best_36 : decode cX4_best 36 = .ok (.iload 4, 2) := by decide +kernel
theorem dX4_best_38 : decode cX4_best 38 = .ok (.invokevirtual 36, 3) := by decide +kernel
theorem dX4_best_41 : decode cX4_best 41 = .ok (.ireturn, 1) := by decide +kernel
theorem dX4_best_42 : decode cX4_best 42 = .ok (.iconst 0, 1) := by decide +kernel
theorem dX4_best_43 : decode cX4_best 43 = .ok (.istore 5, 2) := by decide +kernel
theorem dX4_best_45 : decode cX4_best 45 = .ok (.iconst 0, 1) := by decide +kernel
theorem dX4_best_46 : decode cX4_best 46 = .ok (.istore 6, 2) := by decide +kernel
theorem dX4_best_48 : decode cX4_best 48 = .ok (.iload 6, 2) := by decide +kernel
theorem dX4_best_50 : decode cX4_best 50 = .ok (.bipush 10, 2) := by decide +kernel
theorem dX4_best_52 : decode cX4_best 52 = .ok (.if_icmp .ge 32, 3) := by decide +kernel
theorem dX4_best_55 : decode cX4_best 55 = .ok (.aload_n 0, 1) := by decide +kernel
theorem dX4_best_56 : decode cX4_best 56 = .ok (.iload 6, 2) := by decide +kernel
theorem dX4_best_58 : decode cX4_best 58 = .ok (.iload_n 1, 1) := by decide +kernel
theorem dX4_best_59 : decode cX4_best 59 = .ok (.iload_n 2, 1) := by decide +kernel
theorem dX4_best_60 : decode cX4_best 60 = .ok (.invokevirtual 154, 3) := by decide +kernel
theorem dX4_best_63 : decode cX4_best 63 = .ok (.aload_n 0, 1) := by decide +kernel
theorem dX4_best_64 : decode cX4_best 64 = .ok (.iload 5, 2) := by decide +kernel
theorem dX4_best_66 : decode cX4_best 66 = .ok (.iload_n 1, 1) := by decide +kernel
theorem dX4_best_67 : decode cX4_best 67 = .ok (.iload_n 2, 1) := by decide +kernel
theorem dX4_best_68 : decode cX4_best 68 = .ok (.invokevirtual 154, 3) := by decide +kernel
theorem dX4_best_71 : decode cX4_best 71 = .ok (.if_icmp .le 7, 3) := by decide +kernel
theorem dX4_best_74 : decode cX4_best 74 = .ok (.iload 6, 2) := by decide +kernel
theorem dX4_best_76 : decode cX4_best 76 = .ok (.istore 5, 2) := by decide +kernel
theorem dX4_best_78 : decode cX4_best 78 = .ok (.iinc 6 1, 3) := by decide +kernel
theorem dX4_best_81 : decode cX4_best 81 = .ok (.goto (-33), 3) := by decide +kernel
theorem dX4_best_84 : decode cX4_best 84 = .ok (.iload_n 3, 1) := by decide +kernel
theorem dX4_best_85 : decode cX4_best 85 = .ok (.ifCond .ne 8, 3) := by decide +kernel
theorem dX4_best_88 : decode cX4_best 88 = .ok (.iload 5, 2) := by decide +kernel
theorem dX4_best_90 : decode cX4_best 90 = .ok (.goto 11, 3) := by decide +kernel
theorem dX4_best_93 : decode cX4_best 93 = .ok (.aload_n 0, 1) := by decide +kernel
theorem dX4_best_94 : decode cX4_best 94 = .ok (.iload 5, 2) := by decide +kernel
theorem dX4_best_96 : decode cX4_best 96 = .ok (.iload_n 1, 1) := by decide +kernel
theorem dX4_best_97 : decode cX4_best 97 = .ok (.iload_n 2, 1) := by decide +kernel
theorem dX4_best_98 : decode cX4_best 98 = .ok (.invokevirtual 154, 3) := by decide +kernel
theorem dX4_best_101 : decode cX4_best 101 = .ok (.ireturn, 1) := by decide +kernel
set_option maxRecDepth 20000 in
theorem ggX4_drive_X4_isThing : GoodIn wsX4_drive wsX4_isThing := goodIn_r _ [7, 1, 8, 9, 6, 10, 52, 53, 54, 55, 56, 57, 58, 59, 60, 61, 62, 63, 64] (by decide +kernel) (by decide +kernel)
set_option maxRecDepth 20000 in
theorem gX4_drive_X4_isThing : GoodIn wsX4_drive (wsV RX4 108 RX4 yX4_isThing wsX4_isThing) := goodIn_app (goodIn_of _ (by decide +kernel)) ggX4_drive_X4_isThing
set_option maxRecDepth 20000 in
theorem ggX4_drive_X4_isVerdict : GoodIn wsX4_drive wsX4_isVerdict := goodIn_r _ [13, 8, 9, 6, 10] (by decide +kernel) (by decide +kernel)
set_option maxRecDepth 20000 in
theorem gX4_drive_X4_isVerdict : GoodIn wsX4_drive (va_wsS RX4 105 yX4_isVerdict wsX4_isVerdict) := goodIn_app (goodIn_of _ (by decide +kernel)) ggX4_drive_X4_isVerdict
set_option maxRecDepth 20000 in
theorem ggX4_drive_X4_no : GoodIn wsX4_drive wsX4_no := goodIn_r _ [17, 18, 52, 53, 54, 55, 56, 57, 58, 59, 60, 61, 62, 63, 64] (by decide +kernel) (by decide +kernel)
set_option maxRecDepth 20000 in
theorem gX4_drive_X4_no : GoodIn wsX4_drive (wsV RX4 36 RX4 yX4_no wsX4_no) := goodIn_app (goodIn_of _ (by decide +kernel)) ggX4_drive_X4_no
set_option maxRecDepth 20000 in
theorem ggX4_drive_X4_branchesIn : GoodIn wsX4_drive wsX4_branchesIn := goodIn_r _ [21, 22, 23, 6, 24, 25, 26, 27, 28, 29, 30, 31, 32, 33, 34, 35, 36, 37, 38, 39, 40, 41, 42, 43, 44, 45] (by decide +kernel) (by decide +kernel)
set_option maxRecDepth 20000 in
theorem gX4_drive_X4_branchesIn : GoodIn wsX4_drive (va_wsS RX4 144 yX4_branchesIn wsX4_branchesIn) := goodIn_app (goodIn_of _ (by decide +kernel)) ggX4_drive_X4_branchesIn
set_option maxRecDepth 20000 in
theorem ggX4_drive_X4_bits : GoodIn wsX4_drive wsX4_bits := goodIn_r _ [48] (by decide +kernel) (by decide +kernel)
set_option maxRecDepth 20000 in
theorem gX4_drive_X4_bits : GoodIn wsX4_drive (va_wsS RX4 147 yX4_bits wsX4_bits) := goodIn_app (goodIn_of _ (by decide +kernel)) ggX4_drive_X4_bits
set_option maxRecDepth 20000 in
theorem ggX4_drive_X4_copies : GoodIn wsX4_drive wsX4_copies := goodIn_r _ [51] (by decide +kernel) (by decide +kernel)
set_option maxRecDepth 20000 in
theorem gX4_drive_X4_copies : GoodIn wsX4_drive (va_wsS RX4 118 yX4_copies wsX4_copies) := goodIn_app (goodIn_of _ (by decide +kernel)) ggX4_drive_X4_copies
set_option maxRecDepth 20000 in
theorem ggX4_drive_X4_of : GoodIn wsX4_drive wsX4_of := goodIn_r _ [36] (by decide +kernel) (by decide +kernel)
set_option maxRecDepth 20000 in
theorem gX4_drive_X4_of : GoodIn wsX4_drive (va_wsS RX4 44 yX4_of wsX4_of) := goodIn_app (goodIn_of _ (by decide +kernel)) ggX4_drive_X4_of
theorem dX4_drive_0 : decode cX4_drive 0 = .ok (.aload_n 0, 1) := by decide +kernel
theorem dX4_drive_1 : decode cX4_drive 1 = .ok (.iload_n 1, 1) := by decide +kernel
theorem dX4_drive_2 : decode cX4_drive 2 = .ok (.invokevirtual 108, 3) := by decide +kernel
theorem dX4_drive_5 : decode cX4_drive 5 = .ok (.ifCond .ne 7, 3) := by decide +kernel
theorem dX4_drive_8 : decode cX4_drive 8 = .ok (.iconst (-1), 1) := by decide +kernel
theorem dX4_drive_9 : decode cX4_drive 9 = .ok (.goto 16, 3) := by decide +kernel
theorem dX4_drive_12 : decode cX4_drive 12 = .ok (.iload_n 2, 1) := by decide +kernel
theorem dX4_drive_13 : decode cX4_drive 13 = .ok (.invokestatic 105, 3) := by decide +kernel
theorem dX4_drive_16 : decode cX4_drive 16 = .ok (.ifCond .eq 7, 3) := by decide +kernel
theorem dX4_drive_19 : decode cX4_drive 19 = .ok (.iconst 0, 1) := by decide +kernel
theorem dX4_drive_20 : decode cX4_drive 20 = .ok (.goto 5, 3) := by decide +kernel
theorem dX4_drive_23 : decode cX4_drive 23 = .ok (.bipush (-2), 2) := by decide +kernel
theorem dX4_drive_25 : decode cX4_drive 25 = .ok (.istore_n 3, 1) := by decide +kernel
theorem dX4_drive_26 : decode cX4_drive 26 = .ok (.iload_n 3, 1) := by decide +kernel
theorem dX4_drive_27 : decode cX4_drive 27 = .ok (.ifCond .eq 9, 3) := by decide +kernel
theorem dX4_drive_30 : decode cX4_drive 30 = .ok (.aload_n 0, 1) := by decide +kernel
theorem dX4_drive_31 : decode cX4_drive 31 = .ok (.iload_n 3, 1) := by decide +kernel
theorem dX4_drive_32 : decode cX4_drive 32 = .ok (.invokevirtual 36, 3) := by decide +kernel
theorem dX4_drive_35 : decode cX4_drive 35 = .ok (.ireturn, 1) := by decide +kernel
theorem dX4_drive_36 : decode cX4_drive 36 = .ok (.aload_n 0, 1) := by decide +kernel
theorem dX4_drive_37 : decode cX4_drive 37 = .ok (.getfield 9, 3) := by decide +kernel
theorem dX4_drive_40 : decode cX4_drive 40 = .ok (.iload_n 2, 1) := by decide +kernel
theorem dX4_drive_41 : decode cX4_drive 41 = .ok (.invokestatic 144, 3) := by decide +kernel
theorem dX4_drive_44 : decode cX4_drive 44 = .ok (.invokestatic 147, 3) := by decide +kernel
theorem dX4_drive_47 : decode cX4_drive 47 = .ok (.istore 4, 2) := by decide +kernel
theorem dX4_drive_49 : decode cX4_drive 49 = .ok (.bipush (-9), 2) := by decide +kernel
theorem dX4_drive_51 : decode cX4_drive 51 = .ok (.istore 5, 2) := by decide +kernel
theorem dX4_drive_53 : decode cX4_drive 53 = .ok (.iconst 0, 1) := by decide +kernel
theorem dX4_drive_54 : decode cX4_drive 54 = .ok (.istore 6, 2) := by decide +kernel
theorem dX4_drive_56 : decode cX4_drive 56 = .ok (.iload 6, 2) := by decide +kernel
theorem dX4_drive_58 : decode cX4_drive 58 = .ok (.bipush 16, 2) := by decide +kernel
theorem dX4_drive_60 : decode cX4_drive 60 = .ok (.if_icmp .ge 63, 3) := by decide +kernel
theorem dX4_drive_63 : decode cX4_drive 63 = .ok (.aload_n 0, 1) := by decide +kernel
theorem dX4_drive_64 : decode cX4_drive 64 = .ok (.getfield 9, 3) := by decide +kernel
theorem dX4_drive_67 : decode cX4_drive 67 = .ok (.aload_n 0, 1) := by decide +kernel
theorem dX4_drive_68 : decode cX4_drive 68 = .ok (.getfield 13, 3) := by decide +kernel
theorem dX4_drive_71 : decode cX4_drive 71 = .ok (.invokestatic 118, 3) := by decide +kernel
theorem dX4_drive_74 : decode cX4_drive 74 = .ok (.aload_n 0, 1) := by decide +kernel
theorem dX4_drive_75 : decode cX4_drive 75 = .ok (.getfield 13, 3) := by decide +kernel
theorem dX4_drive_78 : decode cX4_drive 78 = .ok (.iload_n 1, 1) := by decide +kernel
theorem dX4_drive_79 : decode cX4_drive 79 = .ok (.iconst 2, 1) := by decide +kernel
theorem dX4_drive_80 : decode cX4_drive 80 = .ok (.invokestatic 44, 3) := by decide +kernel
theorem dX4_drive_83 : decode cX4_drive 83 = .ok (.iload 6, 2) := by decide +kernel
theorem dX4_drive_85 : decode cX4_drive 85 = .ok (.iastore, 1) := by decide +kernel
theorem dX4_drive_86 : decode cX4_drive 86 = .ok (.aload_n 0, 1) := by decide +kernel
theorem dX4_drive_87 : decode cX4_drive 87 = .ok (.getfield 13, 3) := by decide +kernel
theorem dX4_drive_90 : decode cX4_drive 90 = .ok (.iload_n 2, 1) := by decide +kernel
theorem dX4_drive_91 : decode cX4_drive 91 = .ok (.invokestatic 144, 3) := by decide +kernel
theorem dX4_drive_94 : decode cX4_drive 94 = .ok (.invokestatic 147, 3) := by decide +kernel
theorem dX4_drive_97 : decode cX4_drive 97 = .ok (.istore 7, 2) := by decide +kernel
theorem dX4_drive_99 : decode cX4_drive 99 = .ok (.iload 7, 2) := by decide +kernel
theorem dX4_drive_101 : decode cX4_drive 101 = .ok (.iload 4, 2) := by decide +kernel
theorem dX4_drive_103 : decode cX4_drive 103 = .ok (.if_icmp .gt 6, 3) := by decide +kernel
theorem dX4_drive_106 : decode cX4_drive 106 = .ok (.goto 11, 3) := by decide +kernel
theorem dX4_drive_109 : decode cX4_drive 109 = .ok (.iload 6, 2) := by decide +kernel
theorem dX4_drive_111 : decode cX4_drive 111 = .ok (.istore 5, 2) := by decide +kernel
theorem dX4_drive_113 : decode cX4_drive 113 = .ok (.iload 7, 2) := by decide +kernel
theorem dX4_drive_115 : decode cX4_drive 115 = .ok (.istore 4, 2) := by decide +kernel
theorem dX4_drive_117 : decode cX4_drive 117 = .ok (.iinc 6 1, 3) := by decide +kernel
theorem dX4_drive_120 : decode cX4_drive 120 = .ok (.goto (-64), 3) := by decide +kernel
theorem dX4_drive_123 : decode cX4_drive 123 = .ok (.iload 5, 2) := by decide +kernel
theorem dX4_drive_125 : decode cX4_drive 125 = .ok (.ireturn, 1) := by decide +kernel
set_option maxRecDepth 20000 in
theorem ggX4_hill_X4_isBranch : GoodIn wsX4_hill wsX4_isBranch := goodIn_r _ [6, 7, 8, 5, 9] (by decide +kernel) (by decide +kernel)
set_option maxRecDepth 20000 in
theorem gX4_hill_X4_isBranch : GoodIn wsX4_hill (va_wsS RX4 131 yX4_isBranch wsX4_isBranch) := goodIn_app (goodIn_of _ (by decide +kernel)) ggX4_hill_X4_isBranch
set_option maxRecDepth 20000 in
theorem ggX4_hill_X4_isIn : GoodIn wsX4_hill wsX4_isIn := goodIn_r _ [9] (by decide +kernel) (by decide +kernel)
set_option maxRecDepth 20000 in
theorem gX4_hill_X4_isIn : GoodIn wsX4_hill (va_wsS RX4 40 yX4_isIn wsX4_isIn) := goodIn_app (goodIn_of _ (by decide +kernel)) ggX4_hill_X4_isIn
set_option maxRecDepth 20000 in
theorem ggX4_hill_X4_no : GoodIn wsX4_hill wsX4_no := goodIn_r _ [13, 14, 39, 40, 41, 42, 43, 44, 45, 46, 47, 48, 49, 50, 51] (by decide +kernel) (by decide +kernel)
set_option maxRecDepth 20000 in
theorem gX4_hill_X4_no : GoodIn wsX4_hill (wsV RX4 36 RX4 yX4_no wsX4_no) := goodIn_app (goodIn_of _ (by decide +kernel)) ggX4_hill_X4_no
set_option maxRecDepth 20000 in
theorem ggX4_hill_X4_seenIn : GoodIn wsX4_hill wsX4_seenIn := goodIn_r _ [17, 18, 19, 5, 20, 21, 22, 23, 24, 25, 26, 27, 28, 29, 30, 31, 32] (by decide +kernel) (by decide +kernel)
set_option maxRecDepth 20000 in
theorem gX4_hill_X4_seenIn : GoodIn wsX4_hill (va_wsS RX4 64 yX4_seenIn wsX4_seenIn) := goodIn_app (goodIn_of _ (by decide +kernel)) ggX4_hill_X4_seenIn
set_option maxRecDepth 20000 in
theorem ggX4_hill_X4_bits : GoodIn wsX4_hill wsX4_bits := goodIn_r _ [35] (by decide +kernel) (by decide +kernel)
set_option maxRecDepth 20000 in
theorem gX4_hill_X4_bits : GoodIn wsX4_hill (va_wsS RX4 147 yX4_bits wsX4_bits) := goodIn_app (goodIn_of _ (by decide +kernel)) ggX4_hill_X4_bits
set_option maxRecDepth 20000 in
theorem ggX4_hill_X4_copies : GoodIn wsX4_hill wsX4_copies := goodIn_r _ [38] (by decide +kernel) (by decide +kernel)
set_option maxRecDepth 20000 in
theorem gX4_hill_X4_copies : GoodIn wsX4_hill (va_wsS RX4 118 yX4_copies wsX4_copies) := goodIn_app (goodIn_of _ (by decide +kernel)) ggX4_hill_X4_copies
theorem dX4_hill_0 : decode cX4_hill 0 = .ok (.iload_n 1, 1) := by decide +kernel
theorem dX4_hill_1 : decode cX4_hill 1 = .ok (.invokestatic 131, 3) := by decide +kernel
theorem dX4_hill_4 : decode cX4_hill 4 = .ok (.ifCond .ne 7, 3) := by decide +kernel
theorem dX4_hill_7 : decode cX4_hill 7 = .ok (.iconst (-1), 1) := by decide +kernel
theorem dX4_hill_8 : decode cX4_hill 8 = .ok (.goto 18, 3) := by decide +kernel
theorem dX4_hill_11 : decode cX4_hill 11 = .ok (.iload_n 2, 1) := by decide +kernel
theorem dX4_hill_12 : decode cX4_hill 12 = .ok (.iconst 0, 1) := by decide +kernel
theorem dX4_hill_13 : decode cX4_hill 13 = .ok (.iconst 1, 1) := by decide +kernel
theorem dX4_hill_14 : decode cX4_hill 14 = .ok (.invokestatic 40, 3) := by decide +kernel
theorem dX4_hill_17 : decode cX4_hill 17 = .ok (.ifCond .eq 7, 3) := by decide +kernel
theorem dX4_hill_20 : decode cX4_hill 20 = .ok (.iconst 0, 1) := by decide +kernel
theorem dX4_hill_21 : decode cX4_hill 21 = .ok (.goto 5, 3) := by decide +kernel
theorem dX4_hill_24 : decode cX4_hill 24 = .ok (.bipush (-2), 2) := by decide +kernel
theorem dX4_hill_26 : decode cX4_hill 26 = .ok (.istore_n 3, 1) := by decide +kernel
theorem dX4_hill_27 : decode cX4_hill 27 = .ok (.iload_n 3, 1) := by decide +kernel
theorem dX4_hill_28 : decode cX4_hill 28 = .ok (.ifCond .eq 9, 3) := by decide +kernel
theorem dX4_hill_31 : decode cX4_hill 31 = .ok (.aload_n 0, 1) := by decide +kernel
theorem dX4_hill_32 : decode cX4_hill 32 = .ok (.iload_n 3, 1) := by decide +kernel
theorem dX4_hill_33 : decode cX4_hill 33 = .ok (.invokevirtual 36, 3) := by decide +kernel
theorem dX4_hill_36 : decode cX4_hill 36 = .ok (.ireturn, 1) := by decide +kernel
theorem dX4_hill_37 : decode cX4_hill 37 = .ok (.aload_n 0, 1) := by decide +kernel
theorem dX4_hill_38 : decode cX4_hill 38 = .ok (.getfield 9, 3) := by decide +kernel
theorem dX4_hill_41 : decode cX4_hill 41 = .ok (.iload_n 1, 1) := by decide +kernel
theorem dX4_hill_42 : decode cX4_hill 42 = .ok (.invokestatic 64, 3) := by decide +kernel
theorem dX4_hill_45 : decode cX4_hill 45 = .ok (.invokestatic 147, 3) := by decide +kernel
theorem dX4_hill_48 : decode cX4_hill 48 = .ok (.istore 4, 2) := by decide +kernel
theorem dX4_hill_50 : decode cX4_hill 50 = .ok (.bipush (-9), 2) := by decide +kernel
theorem dX4_hill_52 : decode cX4_hill 52 = .ok (.istore 5, 2) := by decide +kernel
theorem dX4_hill_54 : decode cX4_hill 54 = .ok (.iconst 0, 1) := by decide +kernel
theorem dX4_hill_55 : decode cX4_hill 55 = .ok (.istore 6, 2) := by decide +kernel
theorem dX4_hill_57 : decode cX4_hill 57 = .ok (.iload 6, 2) := by decide +kernel
theorem dX4_hill_59 : decode cX4_hill 59 = .ok (.bipush 16, 2) := by decide +kernel
theorem dX4_hill_61 : decode cX4_hill 61 = .ok (.if_icmp .ge 84, 3) := by decide +kernel
theorem dX4_hill_64 : decode cX4_hill 64 = .ok (.aload_n 0, 1) := by decide +kernel
theorem dX4_hill_65 : decode cX4_hill 65 = .ok (.getfield 9, 3) := by decide +kernel
theorem dX4_hill_68 : decode cX4_hill 68 = .ok (.aload_n 0, 1) := by decide +kernel
theorem dX4_hill_69 : decode cX4_hill 69 = .ok (.getfield 13, 3) := by decide +kernel
theorem dX4_hill_72 : decode cX4_hill 72 = .ok (.invokestatic 118, 3) := by decide +kernel
theorem dX4_hill_75 : decode cX4_hill 75 = .ok (.aload_n 0, 1) := by decide +kernel
theorem dX4_hill_76 : decode cX4_hill 76 = .ok (.getfield 13, 3) := by decide +kernel
theorem dX4_hill_79 : decode cX4_hill 79 = .ok (.iconst 4, 1) := by decide +kernel
theorem dX4_hill_80 : decode cX4_hill 80 = .ok (.iload 6, 2) := by decide +kernel
theorem dX4_hill_82 : decode cX4_hill 82 = .ok (.iadd, 1) := by decide +kernel
theorem dX4_hill_83 : decode cX4_hill 83 = .ok (.iload_n 2, 1) := by decide +kernel
theorem dX4_hill_84 : decode cX4_hill 84 = .ok (.ifCond .ne 7, 3) := by decide +kernel
theorem dX4_hill_87 : decode cX4_hill 87 = .ok (.iconst 0, 1) := by decide +kernel
theorem dX4_hill_88 : decode cX4_hill 88 = .ok (.goto 5, 3) := by decide +kernel
theorem dX4_hill_91 : decode cX4_hill 91 = .ok (.bipush 9, 2) := by decide +kernel
theorem dX4_hill_93 : decode cX4_hill 93 = .ok (.iastore, 1) := by decide +kernel
