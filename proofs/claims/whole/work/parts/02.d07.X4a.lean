theorem dX4_init_0 : decode cX4_init 0 = .ok (.aload_n 0, 1) := by decide +kernel
theorem dX4_init_1 : decode cX4_init 1 = .ok (.invokespecial 1, 3) := by decide +kernel
theorem dX4_init_4 : decode cX4_init 4 = .ok (.aload_n 0, 1) := by decide +kernel
theorem dX4_init_5 : decode cX4_init 5 = .ok (.bipush 53, 2) := by decide +kernel
theorem dX4_init_7 : decode cX4_init 7 = .ok (.newarray .int, 2) := by decide +kernel
theorem dX4_init_9 : decode cX4_init 9 = .ok (.putfield 9, 3) := by decide +kernel
theorem dX4_init_12 : decode cX4_init 12 = .ok (.aload_n 0, 1) := by decide +kernel
theorem dX4_init_13 : decode cX4_init 13 = .ok (.bipush 53, 2) := by decide +kernel
theorem dX4_init_15 : decode cX4_init 15 = .ok (.newarray .int, 2) := by decide +kernel
theorem dX4_init_17 : decode cX4_init 17 = .ok (.putfield 13, 3) := by decide +kernel
theorem dX4_init_20 : decode cX4_init 20 = .ok (.aload_n 0, 1) := by decide +kernel
theorem dX4_init_21 : decode cX4_init 21 = .ok (.bipush 53, 2) := by decide +kernel
theorem dX4_init_23 : decode cX4_init 23 = .ok (.newarray .int, 2) := by decide +kernel
theorem dX4_init_25 : decode cX4_init 25 = .ok (.putfield 16, 3) := by decide +kernel
theorem dX4_init_28 : decode cX4_init 28 = .ok (.aload_n 0, 1) := by decide +kernel
theorem dX4_init_29 : decode cX4_init 29 = .ok (.bipush 53, 2) := by decide +kernel
theorem dX4_init_31 : decode cX4_init 31 = .ok (.newarray .int, 2) := by decide +kernel
theorem dX4_init_33 : decode cX4_init 33 = .ok (.putfield 19, 3) := by decide +kernel
theorem dX4_init_36 : decode cX4_init 36 = .ok (.aload_n 0, 1) := by decide +kernel
theorem dX4_init_37 : decode cX4_init 37 = .ok (.bipush 96, 2) := by decide +kernel
theorem dX4_init_39 : decode cX4_init 39 = .ok (.newarray .int, 2) := by decide +kernel
theorem dX4_init_41 : decode cX4_init 41 = .ok (.putfield 22, 3) := by decide +kernel
theorem dX4_init_44 : decode cX4_init 44 = .ok (.aload_n 0, 1) := by decide +kernel
theorem dX4_init_45 : decode cX4_init 45 = .ok (.bipush 16, 2) := by decide +kernel
theorem dX4_init_47 : decode cX4_init 47 = .ok (.newarray .int, 2) := by decide +kernel
theorem dX4_init_49 : decode cX4_init 49 = .ok (.putfield 25, 3) := by decide +kernel
theorem dX4_init_52 : decode cX4_init 52 = .ok (.aload_n 0, 1) := by decide +kernel
theorem dX4_init_53 : decode cX4_init 53 = .ok (.bipush 7, 2) := by decide +kernel
theorem dX4_init_55 : decode cX4_init 55 = .ok (.newarray .int, 2) := by decide +kernel
theorem dX4_init_57 : decode cX4_init 57 = .ok (.putfield 28, 3) := by decide +kernel
theorem dX4_init_60 : decode cX4_init 60 = .ok (.aload_n 0, 1) := by decide +kernel
theorem dX4_init_61 : decode cX4_init 61 = .ok (.iconst 3, 1) := by decide +kernel
theorem dX4_init_62 : decode cX4_init 62 = .ok (.newarray .int, 2) := by decide +kernel
theorem dX4_init_64 : decode cX4_init 64 = .ok (.putfield 31, 3) := by decide +kernel
theorem dX4_init_67 : decode cX4_init 67 = .ok (.aload_n 0, 1) := by decide +kernel
theorem dX4_init_68 : decode cX4_init 68 = .ok (.getfield 9, 3) := by decide +kernel
theorem dX4_init_71 : decode cX4_init 71 = .ok (.iconst 2, 1) := by decide +kernel
theorem dX4_init_72 : decode cX4_init 72 = .ok (.bipush 16, 2) := by decide +kernel
theorem dX4_init_74 : decode cX4_init 74 = .ok (.iastore, 1) := by decide +kernel
theorem dX4_init_75 : decode cX4_init 75 = .ok (.return_, 1) := by decide +kernel
theorem dX4_isIn_0 : decode cX4_isIn 0 = .ok (.iload_n 0, 1) := by decide +kernel
theorem dX4_isIn_1 : decode cX4_isIn 1 = .ok (.iload_n 1, 1) := by decide +kernel
theorem dX4_isIn_2 : decode cX4_isIn 2 = .ok (.if_icmp .lt 12, 3) := by decide +kernel
theorem dX4_isIn_5 : decode cX4_isIn 5 = .ok (.iload_n 0, 1) := by decide +kernel
theorem dX4_isIn_6 : decode cX4_isIn 6 = .ok (.iload_n 2, 1) := by decide +kernel
theorem dX4_isIn_7 : decode cX4_isIn 7 = .ok (.if_icmp .gt 7, 3) := by decide +kernel
theorem dX4_isIn_10 : decode cX4_isIn 10 = .ok (.iconst 1, 1) := by decide +kernel
theorem dX4_isIn_11 : decode cX4_isIn 11 = .ok (.goto 4, 3) := by decide +kernel
theorem dX4_isIn_14 : decode cX4_isIn 14 = .ok (.iconst 0, 1) := by decide +kernel
theorem dX4_isIn_15 : decode cX4_isIn 15 = .ok (.ireturn, 1) := by decide +kernel
theorem dX4_copies_0 : decode cX4_copies 0 = .ok (.iconst 0, 1) := by decide +kernel
theorem dX4_copies_1 : decode cX4_copies 1 = .ok (.istore_n 2, 1) := by decide +kernel
theorem dX4_copies_2 : decode cX4_copies 2 = .ok (.iload_n 2, 1) := by decide +kernel
theorem dX4_copies_3 : decode cX4_copies 3 = .ok (.bipush 53, 2) := by decide +kernel
theorem dX4_copies_5 : decode cX4_copies 5 = .ok (.if_icmp .ge 15, 3) := by decide +kernel
theorem dX4_copies_8 : decode cX4_copies 8 = .ok (.aload_n 1, 1) := by decide +kernel
theorem dX4_copies_9 : decode cX4_copies 9 = .ok (.iload_n 2, 1) := by decide +kernel
theorem dX4_copies_10 : decode cX4_copies 10 = .ok (.aload_n 0, 1) := by decide +kernel
theorem dX4_copies_11 : decode cX4_copies 11 = .ok (.iload_n 2, 1) := by decide +kernel
theorem dX4_copies_12 : decode cX4_copies 12 = .ok (.iaload, 1) := by decide +kernel
theorem dX4_copies_13 : decode cX4_copies 13 = .ok (.iastore, 1) := by decide +kernel
theorem dX4_copies_14 : decode cX4_copies 14 = .ok (.iinc 2 1, 3) := by decide +kernel
theorem dX4_copies_17 : decode cX4_copies 17 = .ok (.goto (-15), 3) := by decide +kernel
theorem dX4_copies_20 : decode cX4_copies 20 = .ok (.return_, 1) := by decide +kernel
theorem dX4_no_0 : decode cX4_no 0 = .ok (.aload_n 0, 1) := by decide +kernel
theorem dX4_no_1 : decode cX4_no 1 = .ok (.getfield 28, 3) := by decide +kernel
theorem dX4_no_4 : decode cX4_no 4 = .ok (.iload_n 1, 1) := by decide +kernel
theorem dX4_no_5 : decode cX4_no 5 = .ok (.ineg, 1) := by decide +kernel
theorem dX4_no_6 : decode cX4_no 6 = .ok (.dup2, 1) := by decide +kernel
theorem dX4_no_7 : decode cX4_no 7 = .ok (.iaload, 1) := by decide +kernel
theorem dX4_no_8 : decode cX4_no 8 = .ok (.iconst 1, 1) := by decide +kernel
theorem dX4_no_9 : decode cX4_no 9 = .ok (.iadd, 1) := by decide +kernel
theorem dX4_no_10 : decode cX4_no 10 = .ok (.iastore, 1) := by decide +kernel
theorem dX4_no_11 : decode cX4_no 11 = .ok (.iload_n 1, 1) := by decide +kernel
theorem dX4_no_12 : decode cX4_no 12 = .ok (.ireturn, 1) := by decide +kernel
set_option maxRecDepth 20000 in
theorem ggX4_noWide_X4_no : GoodIn wsX4_noWide wsX4_no := goodIn_r _ [6, 7, 8, 9, 10, 11, 12, 13, 14, 15, 16, 17, 18, 19, 20] (by decide +kernel) (by decide +kernel)
set_option maxRecDepth 20000 in
theorem gX4_noWide_X4_no : GoodIn wsX4_noWide (wsV RX4 36 RX4 yX4_no wsX4_no) := goodIn_app (goodIn_of _ (by decide +kernel)) ggX4_noWide_X4_no
theorem dX4_noWide_0 : decode cX4_noWide 0 = .ok (.ldc2_w 34, 3) := by decide +kernel
theorem dX4_noWide_3 : decode cX4_noWide 3 = .ok (.aload_n 0, 1) := by decide +kernel
theorem dX4_noWide_4 : decode cX4_noWide 4 = .ok (.iload_n 1, 1) := by decide +kernel
theorem dX4_noWide_5 : decode cX4_noWide 5 = .ok (.invokevirtual 36, 3) := by decide +kernel
theorem dX4_noWide_8 : decode cX4_noWide 8 = .ok (.i2l, 1) := by decide +kernel
theorem dX4_noWide_9 : decode cX4_noWide 9 = .ok (.lsub, 1) := by decide +kernel
theorem dX4_noWide_10 : decode cX4_noWide 10 = .ok (.lreturn, 1) := by decide +kernel
theorem dX4_of_0 : decode cX4_of 0 = .ok (.bipush 32, 2) := by decide +kernel
theorem dX4_of_2 : decode cX4_of 2 = .ok (.iconst 3, 1) := by decide +kernel
theorem dX4_of_3 : decode cX4_of 3 = .ok (.iload_n 0, 1) := by decide +kernel
theorem dX4_of_4 : decode cX4_of 4 = .ok (.imul, 1) := by decide +kernel
theorem dX4_of_5 : decode cX4_of 5 = .ok (.iadd, 1) := by decide +kernel
theorem dX4_of_6 : decode cX4_of 6 = .ok (.iload_n 1, 1) := by decide +kernel
theorem dX4_of_7 : decode cX4_of 7 = .ok (.iadd, 1) := by decide +kernel
theorem dX4_of_8 : decode cX4_of 8 = .ok (.ireturn, 1) := by decide +kernel
set_option maxRecDepth 20000 in
theorem ggX4_isThing_X4_isIn : GoodIn wsX4_isThing wsX4_isIn := goodIn_r _ [5] (by decide +kernel) (by decide +kernel)
set_option maxRecDepth 20000 in
theorem gX4_isThing_X4_isIn : GoodIn wsX4_isThing (va_wsS RX4 40 yX4_isIn wsX4_isIn) := goodIn_app (goodIn_of _ (by decide +kernel)) ggX4_isThing_X4_isIn
theorem dX4_isThing_0 : decode cX4_isThing 0 = .ok (.iload_n 1, 1) := by decide +kernel
theorem dX4_isThing_1 : decode cX4_isThing 1 = .ok (.iconst 0, 1) := by decide +kernel
theorem dX4_isThing_2 : decode cX4_isThing 2 = .ok (.aload_n 0, 1) := by decide +kernel
theorem dX4_isThing_3 : decode cX4_isThing 3 = .ok (.getfield 9, 3) := by decide +kernel
theorem dX4_isThing_6 : decode cX4_isThing 6 = .ok (.iconst 0, 1) := by decide +kernel
theorem dX4_isThing_7 : decode cX4_isThing 7 = .ok (.iaload, 1) := by decide +kernel
theorem dX4_isThing_8 : decode cX4_isThing 8 = .ok (.iconst 1, 1) := by decide +kernel
theorem dX4_isThing_9 : decode cX4_isThing 9 = .ok (.isub, 1) := by decide +kernel
theorem dX4_isThing_10 : decode cX4_isThing 10 = .ok (.invokestatic 40, 3) := by decide +kernel
theorem dX4_isThing_13 : decode cX4_isThing 13 = .ok (.ireturn, 1) := by decide +kernel
set_option maxRecDepth 20000 in
theorem ggX4_isCell_X4_isIn : GoodIn wsX4_isCell wsX4_isIn := goodIn_r _ [4] (by decide +kernel) (by decide +kernel)
set_option maxRecDepth 20000 in
theorem gX4_isCell_X4_isIn : GoodIn wsX4_isCell (va_wsS RX4 40 yX4_isIn wsX4_isIn) := goodIn_app (goodIn_of _ (by decide +kernel)) ggX4_isCell_X4_isIn
theorem dX4_isCell_0 : decode cX4_isCell 0 = .ok (.iload_n 0, 1) := by decide +kernel
theorem dX4_isCell_1 : decode cX4_isCell 1 = .ok (.iconst 0, 1) := by decide +kernel
theorem dX4_isCell_2 : decode cX4_isCell 2 = .ok (.bipush 15, 2) := by decide +kernel
theorem dX4_isCell_4 : decode cX4_isCell 4 = .ok (.invokestatic 40, 3) := by decide +kernel
theorem dX4_isCell_7 : decode cX4_isCell 7 = .ok (.ireturn, 1) := by decide +kernel
set_option maxRecDepth 20000 in
theorem ggX4_isBranch_X4_isIn : GoodIn wsX4_isBranch wsX4_isIn := goodIn_r _ [4] (by decide +kernel) (by decide +kernel)
set_option maxRecDepth 20000 in
theorem gX4_isBranch_X4_isIn : GoodIn wsX4_isBranch (va_wsS RX4 40 yX4_isIn wsX4_isIn) := goodIn_app (goodIn_of _ (by decide +kernel)) ggX4_isBranch_X4_isIn
theorem dX4_isBranch_0 : decode cX4_isBranch 0 = .ok (.iload_n 0, 1) := by decide +kernel
theorem dX4_isBranch_1 : decode cX4_isBranch 1 = .ok (.iconst 0, 1) := by decide +kernel
theorem dX4_isBranch_2 : decode cX4_isBranch 2 = .ok (.bipush 9, 2) := by decide +kernel
theorem dX4_isBranch_4 : decode cX4_isBranch 4 = .ok (.invokestatic 40, 3) := by decide +kernel
theorem dX4_isBranch_7 : decode cX4_isBranch 7 = .ok (.ireturn, 1) := by decide +kernel
set_option maxRecDepth 20000 in
theorem ggX4_isVerdict_X4_isIn : GoodIn wsX4_isVerdict wsX4_isIn := goodIn_r _ [4] (by decide +kernel) (by decide +kernel)
set_option maxRecDepth 20000 in
theorem gX4_isVerdict_X4_isIn : GoodIn wsX4_isVerdict (va_wsS RX4 40 yX4_isIn wsX4_isIn) := goodIn_app (goodIn_of _ (by decide +kernel)) ggX4_isVerdict_X4_isIn
theorem dX4_isVerdict_0 : decode cX4_isVerdict 0 = .ok (.iload_n 0, 1) := by decide +kernel
theorem dX4_isVerdict_1 : decode cX4_isVerdict 1 = .ok (.iconst 0, 1) := by decide +kernel
theorem dX4_isVerdict_2 : decode cX4_isVerdict 2 = .ok (.iconst 2, 1) := by decide +kernel
theorem dX4_isVerdict_3 : decode cX4_isVerdict 3 = .ok (.invokestatic 40, 3) := by decide +kernel
theorem dX4_isVerdict_6 : decode cX4_isVerdict 6 = .ok (.ireturn, 1) := by decide +kernel
theorem dX4_has_0 : decode cX4_has 0 = .ok (.iload_n 0, 1) := by decide +kernel
theorem dX4_has_1 : decode cX4_has 1 = .ok (.iload_n 1, 1) := by decide +kernel
theorem dX4_has_2 : decode cX4_has 2 = .ok (.ishr, 1) := by decide +kernel
theorem dX4_has_3 : decode cX4_has 3 = .ok (.iconst 1, 1) := by decide +kernel
theorem dX4_has_4 : decode cX4_has 4 = .ok (.iand, 1) := by decide +kernel
theorem dX4_has_5 : decode cX4_has 5 = .ok (.iconst 1, 1) := by decide +kernel
theorem dX4_has_6 : decode cX4_has 6 = .ok (.if_icmp .ne 7, 3) := by decide +kernel
theorem dX4_has_9 : decode cX4_has 9 = .ok (.iconst 1, 1) := by decide +kernel
theorem dX4_has_10 : decode cX4_has 10 = .ok (.goto 4, 3) := by decide +kernel
theorem dX4_has_13 : decode cX4_has 13 = .ok (.iconst 0, 1) := by decide +kernel
theorem dX4_has_14 : decode cX4_has 14 = .ok (.ireturn, 1) := by decide +kernel
theorem dX4_bits_0 : decode cX4_bits 0 = .ok (.iconst 0, 1) := by decide +kernel
theorem dX4_bits_1 : decode cX4_bits 1 = .ok (.istore_n 1, 1) := by decide +kernel
theorem dX4_bits_2 : decode cX4_bits 2 = .ok (.iconst 0, 1) := by decide +kernel
theorem dX4_bits_3 : decode cX4_bits 3 = .ok (.istore_n 2, 1) := by decide +kernel
theorem dX4_bits_4 : decode cX4_bits 4 = .ok (.iload_n 2, 1) := by decide +kernel
theorem dX4_bits_5 : decode cX4_bits 5 = .ok (.bipush 16, 2) := by decide +kernel
theorem dX4_bits_7 : decode cX4_bits 7 = .ok (.if_icmp .ge 17, 3) := by decide +kernel
theorem dX4_bits_10 : decode cX4_bits 10 = .ok (.iload_n 1, 1) := by decide +kernel
theorem dX4_bits_11 : decode cX4_bits 11 = .ok (.iload_n 0, 1) := by decide +kernel
theorem dX4_bits_12 : decode cX4_bits 12 = .ok (.iload_n 2, 1) := by decide +kernel
theorem dX4_bits_13 : decode cX4_bits 13 = .ok (.ishr, 1) := by decide +kernel
theorem dX4_bits_14 : decode cX4_bits 14 = .ok (.iconst 1, 1) := by decide +kernel
theorem dX4_bits_15 : decode cX4_bits 15 = .ok (.iand, 1) := by decide +kernel
theorem dX4_bits_16 : decode cX4_bits 16 = .ok (.iadd, 1) := by decide +kernel
theorem dX4_bits_17 : decode cX4_bits 17 = .ok (.istore_n 1, 1) := by decide +kernel
theorem dX4_bits_18 : decode cX4_bits 18 = .ok (.iinc 2 1, 3) := by decide +kernel
theorem dX4_bits_21 : decode cX4_bits 21 = .ok (.goto (-17), 3) := by decide +kernel
theorem dX4_bits_24 : decode cX4_bits 24 = .ok (.iload_n 1, 1) := by decide +kernel
theorem dX4_bits_25 : decode cX4_bits 25 = .ok (.ireturn, 1) := by decide +kernel
theorem dX4_goesBy_0 : decode cX4_goesBy 0 = .ok (.iload_n 0, 1) := by decide +kernel
theorem dX4_goesBy_1 : decode cX4_goesBy 1 = .ok (.tableswitch 45 2 4 #[27, 29, 43], 27) := by decide +kernel
theorem dX4_goesBy_28 : decode cX4_goesBy 28 = .ok (.iconst 1, 1) := by decide +kernel
theorem dX4_goesBy_29 : decode cX4_goesBy 29 = .ok (.ireturn, 1) := by decide +kernel
theorem dX4_goesBy_30 : decode cX4_goesBy 30 = .ok (.iload_n 2, 1) := by decide +kernel
theorem dX4_goesBy_31 : decode cX4_goesBy 31 = .ok (.iload_n 1, 1) := by decide +kernel
theorem dX4_goesBy_32 : decode cX4_goesBy 32 = .ok (.iconst 2, 1) := by decide +kernel
theorem dX4_goesBy_33 : decode cX4_goesBy 33 = .ok (.iadd, 1) := by decide +kernel
theorem dX4_goesBy_34 : decode cX4_goesBy 34 = .ok (.irem, 1) := by decide +kernel
theorem dX4_goesBy_35 : decode cX4_goesBy 35 = .ok (.ifCond .ne 7, 3) := by decide +kernel
theorem dX4_goesBy_38 : decode cX4_goesBy 38 = .ok (.iconst 1, 1) := by decide +kernel
theorem dX4_goesBy_39 : decode cX4_goesBy 39 = .ok (.goto 4, 3) := by decide +kernel
theorem dX4_goesBy_42 : decode cX4_goesBy 42 = .ok (.iconst 0, 1) := by decide +kernel
theorem dX4_goesBy_43 : decode cX4_goesBy 43 = .ok (.ireturn, 1) := by decide +kernel
theorem dX4_goesBy_44 : decode cX4_goesBy 44 = .ok (.iconst 2, 1) := by decide +kernel
theorem dX4_goesBy_45 : decode cX4_goesBy 45 = .ok (.ireturn, 1) := by decide +kernel
theorem dX4_goesBy_46 : decode cX4_goesBy 46 = .ok (.iconst 0, 1) := by decide +kernel
theorem dX4_goesBy_47 : decode cX4_goesBy 47 = .ok (.ireturn, 1) := by decide +kernel
theorem dX4_upBy_0 : decode cX4_upBy 0 = .ok (.iload_n 0, 1) := by decide +kernel
theorem dX4_upBy_1 : decode cX4_upBy 1 = .ok (.tableswitch 58 1 5 #[35, 41, 41, 43, 46], 35) := by decide +kernel
theorem dX4_upBy_36 : decode cX4_upBy 36 = .ok (.iload_n 1, 1) := by decide +kernel
theorem dX4_upBy_37 : decode cX4_upBy 37 = .ok (.iload_n 2, 1) := by decide +kernel
theorem dX4_upBy_38 : decode cX4_upBy 38 = .ok (.iconst 2, 1) := by decide +kernel
theorem dX4_upBy_39 : decode cX4_upBy 39 = .ok (.irem, 1) := by decide +kernel
theorem dX4_upBy_40 : decode cX4_upBy 40 = .ok (.iadd, 1) := by decide +kernel
theorem dX4_upBy_41 : decode cX4_upBy 41 = .ok (.ireturn, 1) := by decide +kernel
theorem dX4_upBy_42 : decode cX4_upBy 42 = .ok (.iconst 1, 1) := by decide +kernel
theorem dX4_upBy_43 : decode cX4_upBy 43 = .ok (.ireturn, 1) := by decide +kernel
theorem dX4_upBy_44 : decode cX4_upBy 44 = .ok (.bipush 6, 2) := by decide +kernel
theorem dX4_upBy_46 : decode cX4_upBy 46 = .ok (.ireturn, 1) := by decide +kernel
theorem dX4_upBy_47 : decode cX4_upBy 47 = .ok (.iload_n 2, 1) := by decide +kernel
theorem dX4_upBy_48 : decode cX4_upBy 48 = .ok (.iconst 2, 1) := by decide +kernel
theorem dX4_upBy_49 : decode cX4_upBy 49 = .ok (.irem, 1) := by decide +kernel
theorem dX4_upBy_50 : decode cX4_upBy 50 = .ok (.ifCond .ne 7, 3) := by decide +kernel
theorem dX4_upBy_53 : decode cX4_upBy 53 = .ok (.iconst 2, 1) := by decide +kernel
theorem dX4_upBy_54 : decode cX4_upBy 54 = .ok (.goto 4, 3) := by decide +kernel
theorem dX4_upBy_57 : decode cX4_upBy 57 = .ok (.iconst 0, 1) := by decide +kernel
theorem dX4_upBy_58 : decode cX4_upBy 58 = .ok (.ireturn, 1) := by decide +kernel
theorem dX4_upBy_59 : decode cX4_upBy 59 = .ok (.iload_n 1, 1) := by decide +kernel
theorem dX4_upBy_60 : decode cX4_upBy 60 = .ok (.ireturn, 1) := by decide +kernel
set_option maxRecDepth 20000 in
theorem ggX4_top_X4_of : GoodIn wsX4_top wsX4_of := goodIn_r _ [4] (by decide +kernel) (by decide +kernel)
set_option maxRecDepth 20000 in
theorem gX4_top_X4_of : GoodIn wsX4_top (va_wsS RX4 44 yX4_of wsX4_of) := goodIn_app (goodIn_of _ (by decide +kernel)) ggX4_top_X4_of
set_option maxRecDepth 20000 in
theorem ggX4_top_X4_upBy : GoodIn wsX4_top wsX4_upBy := goodIn_r _ [7] (by decide +kernel) (by decide +kernel)
set_option maxRecDepth 20000 in
theorem gX4_top_X4_upBy : GoodIn wsX4_top (va_wsS RX4 48 yX4_upBy wsX4_upBy) := goodIn_app (goodIn_of _ (by decide +kernel)) ggX4_top_X4_upBy
theorem dX4_top_0 : decode cX4_top 0 = .ok (.aload_n 0, 1) := by decide +kernel
theorem dX4_top_1 : decode cX4_top 1 = .ok (.iconst 4, 1) := by decide +kernel
theorem dX4_top_2 : decode cX4_top 2 = .ok (.aload_n 0, 1) := by decide +kernel
theorem dX4_top_3 : decode cX4_top 3 = .ok (.iload_n 1, 1) := by decide +kernel
theorem dX4_top_4 : decode cX4_top 4 = .ok (.iconst 2, 1) := by decide +kernel
theorem dX4_top_5 : decode cX4_top 5 = .ok (.invokestatic 44, 3) := by decide +kernel
theorem dX4_top_8 : decode cX4_top 8 = .ok (.iaload, 1) := by decide +kernel
theorem dX4_top_9 : decode cX4_top 9 = .ok (.iadd, 1) := by decide +kernel
theorem dX4_top_10 : decode cX4_top 10 = .ok (.iaload, 1) := by decide +kernel
theorem dX4_top_11 : decode cX4_top 11 = .ok (.aload_n 0, 1) := by decide +kernel
theorem dX4_top_12 : decode cX4_top 12 = .ok (.iload_n 1, 1) := by decide +kernel
theorem dX4_top_13 : decode cX4_top 13 = .ok (.iconst 0, 1) := by decide +kernel
theorem dX4_top_14 : decode cX4_top 14 = .ok (.invokestatic 44, 3) := by decide +kernel
theorem dX4_top_17 : decode cX4_top 17 = .ok (.iaload, 1) := by decide +kernel
theorem dX4_top_18 : decode cX4_top 18 = .ok (.aload_n 0, 1) := by decide +kernel
theorem dX4_top_19 : decode cX4_top 19 = .ok (.iload_n 1, 1) := by decide +kernel
theorem dX4_top_20 : decode cX4_top 20 = .ok (.iconst 1, 1) := by decide +kernel
theorem dX4_top_21 : decode cX4_top 21 = .ok (.invokestatic 44, 3) := by decide +kernel
theorem dX4_top_24 : decode cX4_top 24 = .ok (.iaload, 1) := by decide +kernel
theorem dX4_top_25 : decode cX4_top 25 = .ok (.aload_n 0, 1) := by decide +kernel
theorem dX4_top_26 : decode cX4_top 26 = .ok (.iconst 1, 1) := by decide +kernel
theorem dX4_top_27 : decode cX4_top 27 = .ok (.iaload, 1) := by decide +kernel
theorem dX4_top_28 : decode cX4_top 28 = .ok (.invokestatic 48, 3) := by decide +kernel
theorem dX4_top_31 : decode cX4_top 31 = .ok (.iadd, 1) := by decide +kernel
theorem dX4_top_32 : decode cX4_top 32 = .ok (.ireturn, 1) := by decide +kernel
theorem dX4_isClear_0 : decode cX4_isClear 0 = .ok (.iload_n 2, 1) := by decide +kernel
theorem dX4_isClear_1 : decode cX4_isClear 1 = .ok (.iconst 1, 1) := by decide +kernel
theorem dX4_isClear_2 : decode cX4_isClear 2 = .ok (.iadd, 1) := by decide +kernel
theorem dX4_isClear_3 : decode cX4_isClear 3 = .ok (.aload_n 0, 1) := by decide +kernel
theorem dX4_isClear_4 : decode cX4_isClear 4 = .ok (.iconst 2, 1) := by decide +kernel
theorem dX4_isClear_5 : decode cX4_isClear 5 = .ok (.iaload, 1) := by decide +kernel
theorem dX4_isClear_6 : decode cX4_isClear 6 = .ok (.if_icmp .gt 7, 3) := by decide +kernel
theorem dX4_isClear_9 : decode cX4_isClear 9 = .ok (.iload_n 3, 1) := by decide +kernel
theorem dX4_isClear_10 : decode cX4_isClear 10 = .ok (.ifCond .gt 5, 3) := by decide +kernel
theorem dX4_isClear_13 : decode cX4_isClear 13 = .ok (.iconst 0, 1) := by decide +kernel
theorem dX4_isClear_14 : decode cX4_isClear 14 = .ok (.ireturn, 1) := by decide +kernel
theorem dX4_isClear_15 : decode cX4_isClear 15 = .ok (.iconst 0, 1) := by decide +kernel
theorem dX4_isClear_16 : decode cX4_isClear 16 = .ok (.istore 4, 2) := by decide +kernel
theorem dX4_isClear_18 : decode cX4_isClear 18 = .ok (.iload 4, 2) := by decide +kernel
theorem dX4_isClear_20 : decode cX4_isClear 20 = .ok (.iload_n 2, 1) := by decide +kernel
theorem dX4_isClear_21 : decode cX4_isClear 21 = .ok (.if_icmp .ge 31, 3) := by decide +kernel
theorem dX4_isClear_24 : decode cX4_isClear 24 = .ok (.aload_n 0, 1) := by decide +kernel
theorem dX4_isClear_25 : decode cX4_isClear 25 = .ok (.iconst 4, 1) := by decide +kernel
theorem dX4_isClear_26 : decode cX4_isClear 26 = .ok (.iload 4, 2) := by decide +kernel
theorem dX4_isClear_28 : decode cX4_isClear 28 = .ok (.iadd, 1) := by decide +kernel
theorem dX4_isClear_29 : decode cX4_isClear 29 = .ok (.iaload, 1) := by decide +kernel
theorem dX4_isClear_30 : decode cX4_isClear 30 = .ok (.iload_n 1, 1) := by decide +kernel
theorem dX4_isClear_31 : decode cX4_isClear 31 = .ok (.if_icmp .lt 15, 3) := by decide +kernel
theorem dX4_isClear_34 : decode cX4_isClear 34 = .ok (.aload_n 0, 1) := by decide +kernel
theorem dX4_isClear_35 : decode cX4_isClear 35 = .ok (.iconst 4, 1) := by decide +kernel
theorem dX4_isClear_36 : decode cX4_isClear 36 = .ok (.iload 4, 2) := by decide +kernel
theorem dX4_isClear_38 : decode cX4_isClear 38 = .ok (.iadd, 1) := by decide +kernel
theorem dX4_isClear_39 : decode cX4_isClear 39 = .ok (.iaload, 1) := by decide +kernel
theorem dX4_isClear_40 : decode cX4_isClear 40 = .ok (.iload_n 3, 1) := by decide +kernel
theorem dX4_isClear_41 : decode cX4_isClear 41 = .ok (.if_icmp .lt 5, 3) := by decide +kernel
theorem dX4_isClear_44 : decode cX4_isClear 44 = .ok (.iconst 0, 1) := by decide +kernel
theorem dX4_isClear_45 : decode cX4_isClear 45 = .ok (.ireturn, 1) := by decide +kernel
theorem dX4_isClear_46 : decode cX4_isClear 46 = .ok (.iinc 4 1, 3) := by decide +kernel
theorem dX4_isClear_49 : decode cX4_isClear 49 = .ok (.goto (-31), 3) := by decide +kernel
theorem dX4_isClear_52 : decode cX4_isClear 52 = .ok (.iconst 1, 1) := by decide +kernel
theorem dX4_isClear_53 : decode cX4_isClear 53 = .ok (.ireturn, 1) := by decide +kernel
set_option maxRecDepth 20000 in
theorem ggX4_seenIn_X4_has : GoodIn wsX4_seenIn wsX4_has := goodIn_r _ [4] (by decide +kernel) (by decide +kernel)
set_option maxRecDepth 20000 in
theorem gX4_seenIn_X4_has : GoodIn wsX4_seenIn (va_wsS RX4 52 yX4_has wsX4_has) := goodIn_app (goodIn_of _ (by decide +kernel)) ggX4_seenIn_X4_has
set_option maxRecDepth 20000 in
theorem ggX4_seenIn_X4_of : GoodIn wsX4_seenIn wsX4_of := goodIn_r _ [7] (by decide +kernel) (by decide +kernel)
set_option maxRecDepth 20000 in
theorem gX4_seenIn_X4_of : GoodIn wsX4_seenIn (va_wsS RX4 44 yX4_of wsX4_of) := goodIn_app (goodIn_of _ (by decide +kernel)) ggX4_seenIn_X4_of
set_option maxRecDepth 20000 in
theorem ggX4_seenIn_X4_top : GoodIn wsX4_seenIn wsX4_top := goodIn_r _ [10, 5, 6, 3, 7, 11, 12, 13] (by decide +kernel) (by decide +kernel)
set_option maxRecDepth 20000 in
theorem gX4_seenIn_X4_top : GoodIn wsX4_seenIn (va_wsS RX4 56 yX4_top wsX4_top) := goodIn_app (goodIn_of _ (by decide +kernel)) ggX4_seenIn_X4_top
set_option maxRecDepth 20000 in
theorem ggX4_seenIn_X4_isClear : GoodIn wsX4_seenIn wsX4_isClear := goodIn_r _ [16] (by decide +kernel) (by decide +kernel)
set_option maxRecDepth 20000 in
theorem gX4_seenIn_X4_isClear : GoodIn wsX4_seenIn (va_wsS RX4 60 yX4_isClear wsX4_isClear) := goodIn_app (goodIn_of _ (by decide +kernel)) ggX4_seenIn_X4_isClear
theorem dX4_seenIn_0 : decode cX4_seenIn 0 = .ok (.iconst 0, 1) := by decide +kernel
theorem dX4_seenIn_1 : decode cX4_seenIn 1 = .ok (.istore_n 2, 1) := by decide +kernel
theorem dX4_seenIn_2 : decode cX4_seenIn 2 = .ok (.iconst 0, 1) := by decide +kernel
theorem dX4_seenIn_3 : decode cX4_seenIn 3 = .ok (.istore_n 3, 1) := by decide +kernel
theorem dX4_seenIn_4 : decode cX4_seenIn 4 = .ok (.iload_n 3, 1) := by decide +kernel
theorem dX4_seenIn_5 : decode cX4_seenIn 5 = .ok (.aload_n 0, 1) := by decide +kernel
theorem dX4_seenIn_6 : decode cX4_seenIn 6 = .ok (.iconst 0, 1) := by decide +kernel
theorem dX4_seenIn_7 : decode cX4_seenIn 7 = .ok (.iaload, 1) := by decide +kernel
theorem dX4_seenIn_8 : decode cX4_seenIn 8 = .ok (.if_icmp .ge 49, 3) := by decide +kernel
theorem dX4_seenIn_11 : decode cX4_seenIn 11 = .ok (.iload_n 2, 1) := by decide +kernel
theorem dX4_seenIn_12 : decode cX4_seenIn 12 = .ok (.aload_n 0, 1) := by decide +kernel
theorem dX4_seenIn_13 : decode cX4_seenIn 13 = .ok (.iconst 3, 1) := by decide +kernel
theorem dX4_seenIn_14 : decode cX4_seenIn 14 = .ok (.iaload, 1) := by decide +kernel
theorem dX4_seenIn_15 : decode cX4_seenIn 15 = .ok (.iload_n 3, 1) := by decide +kernel
theorem dX4_seenIn_16 : decode cX4_seenIn 16 = .ok (.invokestatic 52, 3) := by decide +kernel
theorem dX4_seenIn_19 : decode cX4_seenIn 19 = .ok (.ifCond .ne 29, 3) := by decide +kernel
theorem dX4_seenIn_22 : decode cX4_seenIn 22 = .ok (.aload_n 0, 1) := by decide +kernel
theorem dX4_seenIn_23 : decode cX4_seenIn 23 = .ok (.iload_n 1, 1) := by decide +kernel
theorem dX4_seenIn_24 : decode cX4_seenIn 24 = .ok (.aload_n 0, 1) := by decide +kernel
theorem dX4_seenIn_25 : decode cX4_seenIn 25 = .ok (.iload_n 3, 1) := by decide +kernel
theorem dX4_seenIn_26 : decode cX4_seenIn 26 = .ok (.iconst 2, 1) := by decide +kernel
theorem dX4_seenIn_27 : decode cX4_seenIn 27 = .ok (.invokestatic 44, 3) := by decide +kernel
theorem dX4_seenIn_30 : decode cX4_seenIn 30 = .ok (.iaload, 1) := by decide +kernel
theorem dX4_seenIn_31 : decode cX4_seenIn 31 = .ok (.aload_n 0, 1) := by decide +kernel
theorem dX4_seenIn_32 : decode cX4_seenIn 32 = .ok (.iload_n 3, 1) := by decide +kernel
theorem dX4_seenIn_33 : decode cX4_seenIn 33 = .ok (.invokestatic 56, 3) := by decide +kernel
theorem dX4_seenIn_36 : decode cX4_seenIn 36 = .ok (.invokestatic 60, 3) := by decide +kernel
theorem dX4_seenIn_39 : decode cX4_seenIn 39 = .ok (.ifCond .eq 9, 3) := by decide +kernel
theorem dX4_seenIn_42 : decode cX4_seenIn 42 = .ok (.iconst 1, 1) := by decide +kernel
theorem dX4_seenIn_43 : decode cX4_seenIn 43 = .ok (.iload_n 3, 1) := by decide +kernel
theorem dX4_seenIn_44 : decode cX4_seenIn 44 = .ok (.ishl, 1) := by decide +kernel
theorem dX4_seenIn_45 : decode cX4_seenIn 45 = .ok (.goto 4, 3) := by decide +kernel
theorem dX4_seenIn_48 : decode cX4_seenIn 48 = .ok (.iconst 0, 1) := by decide +kernel
theorem dX4_seenIn_49 : decode cX4_seenIn 49 = .ok (.ior, 1) := by decide +kernel
theorem dX4_seenIn_50 : decode cX4_seenIn 50 = .ok (.istore_n 2, 1) := by decide +kernel
theorem dX4_seenIn_51 : decode cX4_seenIn 51 = .ok (.iinc 3 1, 3) := by decide +kernel
theorem dX4_seenIn_54 : decode cX4_seenIn 54 = .ok (.goto (-50), 3) := by decide +kernel
theorem dX4_seenIn_57 : decode cX4_seenIn 57 = .ok (.iload_n 2, 1) := by decide +kernel
theorem dX4_seenIn_58 : decode cX4_seenIn 58 = .ok (.ireturn, 1) := by decide +kernel
set_option maxRecDepth 20000 in
theorem ggX4_decides_X4_seenIn : GoodIn wsX4_decides wsX4_seenIn := goodIn_r _ [4, 5, 6, 3, 7, 8, 9, 10, 11, 12, 13, 14, 15, 16, 17, 18, 19] (by decide +kernel) (by decide +kernel)
set_option maxRecDepth 20000 in
theorem gX4_decides_X4_seenIn : GoodIn wsX4_decides (va_wsS RX4 64 yX4_seenIn wsX4_seenIn) := goodIn_app (goodIn_of _ (by decide +kernel)) ggX4_decides_X4_seenIn
set_option maxRecDepth 20000 in
theorem ggX4_decides_X4_of : GoodIn wsX4_decides wsX4_of := goodIn_r _ [10] (by decide +kernel) (by decide +kernel)
set_option maxRecDepth 20000 in
theorem gX4_decides_X4_of : GoodIn wsX4_decides (va_wsS RX4 44 yX4_of wsX4_of) := goodIn_app (goodIn_of _ (by decide +kernel)) ggX4_decides_X4_of
set_option maxRecDepth 20000 in
theorem ggX4_decides_X4_has : GoodIn wsX4_decides wsX4_has := goodIn_r _ [7] (by decide +kernel) (by decide +kernel)
set_option maxRecDepth 20000 in
theorem gX4_decides_X4_has : GoodIn wsX4_decides (va_wsS RX4 52 yX4_has wsX4_has) := goodIn_app (goodIn_of _ (by decide +kernel)) ggX4_decides_X4_has
theorem dX4_decides_0 : decode cX4_decides 0 = .ok (.aload_n 0, 1) := by decide +kernel
theorem dX4_decides_1 : decode cX4_decides 1 = .ok (.iload_n 1, 1) := by decide +kernel
theorem dX4_decides_2 : decode cX4_decides 2 = .ok (.invokestatic 64, 3) := by decide +kernel
theorem dX4_decides_5 : decode cX4_decides 5 = .ok (.istore_n 2, 1) := by decide +kernel
theorem dX4_decides_6 : decode cX4_decides 6 = .ok (.bipush (-9), 2) := by decide +kernel
theorem dX4_decides_8 : decode cX4_decides 8 = .ok (.istore_n 3, 1) := by decide +kernel
theorem dX4_decides_9 : decode cX4_decides 9 = .ok (.iconst 0, 1) := by decide +kernel
theorem dX4_decides_10 : decode cX4_decides 10 = .ok (.istore 4, 2) := by decide +kernel
theorem dX4_decides_12 : decode cX4_decides 12 = .ok (.iload 4, 2) := by decide +kernel
theorem dX4_decides_14 : decode cX4_decides 14 = .ok (.aload_n 0, 1) := by decide +kernel
theorem dX4_decides_15 : decode cX4_decides 15 = .ok (.iconst 0, 1) := by decide +kernel
theorem dX4_decides_16 : decode cX4_decides 16 = .ok (.iaload, 1) := by decide +kernel
theorem dX4_decides_17 : decode cX4_decides 17 = .ok (.if_icmp .ge 70, 3) := by decide +kernel
theorem dX4_decides_20 : decode cX4_decides 20 = .ok (.aload_n 0, 1) := by decide +kernel
theorem dX4_decides_21 : decode cX4_decides 21 = .ok (.iload 4, 2) := by decide +kernel
theorem dX4_decides_23 : decode cX4_decides 23 = .ok (.iconst 0, 1) := by decide +kernel
theorem dX4_decides_24 : decode cX4_decides 24 = .ok (.invokestatic 44, 3) := by decide +kernel
theorem dX4_decides_27 : decode cX4_decides 27 = .ok (.iaload, 1) := by decide +kernel
theorem dX4_decides_28 : decode cX4_decides 28 = .ok (.istore 5, 2) := by decide +kernel
theorem dX4_decides_30 : decode cX4_decides 30 = .ok (.iload_n 2, 1) := by decide +kernel
theorem dX4_decides_31 : decode cX4_decides 31 = .ok (.iload 4, 2) := by decide +kernel
theorem dX4_decides_33 : decode cX4_decides 33 = .ok (.invokestatic 52, 3) := by decide +kernel
theorem dX4_decides_36 : decode cX4_decides 36 = .ok (.ifCond .eq 45, 3) := by decide +kernel
theorem dX4_decides_39 : decode cX4_decides 39 = .ok (.aload_n 0, 1) := by decide +kernel
theorem dX4_decides_40 : decode cX4_decides 40 = .ok (.bipush 20, 2) := by decide +kernel
theorem dX4_decides_42 : decode cX4_decides 42 = .ok (.iload 5, 2) := by decide +kernel
theorem dX4_decides_44 : decode cX4_decides 44 = .ok (.iadd, 1) := by decide +kernel
theorem dX4_decides_45 : decode cX4_decides 45 = .ok (.iaload, 1) := by decide +kernel
theorem dX4_decides_46 : decode cX4_decides 46 = .ok (.ifCond .ne 6, 3) := by decide +kernel
theorem dX4_decides_49 : decode cX4_decides 49 = .ok (.goto 32, 3) := by decide +kernel
theorem dX4_decides_52 : decode cX4_decides 52 = .ok (.iload_n 3, 1) := by decide +kernel
theorem dX4_decides_53 : decode cX4_decides 53 = .ok (.ifCond .lt 25, 3) := by decide +kernel
theorem dX4_decides_56 : decode cX4_decides 56 = .ok (.aload_n 0, 1) := by decide +kernel
theorem dX4_decides_57 : decode cX4_decides 57 = .ok (.bipush 26, 2) := by decide +kernel
theorem dX4_decides_59 : decode cX4_decides 59 = .ok (.iload 5, 2) := by decide +kernel
theorem dX4_decides_61 : decode cX4_decides 61 = .ok (.iadd, 1) := by decide +kernel
theorem dX4_decides_62 : decode cX4_decides 62 = .ok (.iaload, 1) := by decide +kernel
theorem dX4_decides_63 : decode cX4_decides 63 = .ok (.aload_n 0, 1) := by decide +kernel
theorem dX4_decides_64 : decode cX4_decides 64 = .ok (.bipush 26, 2) := by decide +kernel
theorem dX4_decides_66 : decode cX4_decides 66 = .ok (.aload_n 0, 1) := by decide +kernel
theorem dX4_decides_67 : decode cX4_decides 67 = .ok (.iload_n 3, 1) := by decide +kernel
theorem dX4_decides_68 : decode cX4_decides 68 = .ok (.iconst 0, 1) := by decide +kernel
theorem dX4_decides_69 : decode cX4_decides 69 = .ok (.invokestatic 44, 3) := by decide +kernel
theorem dX4_decides_72 : decode cX4_decides 72 = .ok (.iaload, 1) := by decide +kernel
theorem dX4_decides_73 : decode cX4_decides 73 = .ok (.iadd, 1) := by decide +kernel
theorem dX4_decides_74 : decode cX4_decides 74 = .ok (.iaload, 1) := by decide +kernel
theorem dX4_decides_75 : decode cX4_decides 75 = .ok (.if_icmp .le 6, 3) := by decide +kernel
theorem dX4_decides_78 : decode cX4_decides 78 = .ok (.iload 4, 2) := by decide +kernel
theorem dX4_decides_80 : decode cX4_decides 80 = .ok (.istore_n 3, 1) := by decide +kernel
theorem dX4_decides_81 : decode cX4_decides 81 = .ok (.iinc 4 1, 3) := by decide +kernel
theorem dX4_decides_84 : decode cX4_decides 84 = .ok (.goto (-72), 3) := by decide +kernel
theorem dX4_decides_87 : decode cX4_decides 87 = .ok (.iload_n 3, 1) := by decide +kernel
theorem dX4_decides_88 : decode cX4_decides 88 = .ok (.ireturn, 1) := by decide +kernel
set_option maxRecDepth 20000 in
theorem ggX4_verdictIn_X4_decides : GoodIn wsX4_verdictIn wsX4_decides := goodIn_r _ [4, 5, 6, 3, 7, 8, 9, 10, 11, 12, 13, 14, 15, 16, 17, 18, 19, 20, 21, 22] (by decide +kernel) (by decide +kernel)
set_option maxRecDepth 20000 in
theorem gX4_verdictIn_X4_decides : GoodIn wsX4_verdictIn (va_wsS RX4 67 yX4_decides wsX4_decides) := goodIn_app (goodIn_of _ (by decide +kernel)) ggX4_verdictIn_X4_decides
set_option maxRecDepth 20000 in
theorem ggX4_verdictIn_X4_of : GoodIn wsX4_verdictIn wsX4_of := goodIn_r _ [13] (by decide +kernel) (by decide +kernel)
set_option maxRecDepth 20000 in
theorem gX4_verdictIn_X4_of : GoodIn wsX4_verdictIn (va_wsS RX4 44 yX4_of wsX4_of) := goodIn_app (goodIn_of _ (by decide +kernel)) ggX4_verdictIn_X4_of
theorem dX4_verdictIn_0 : decode cX4_verdictIn 0 = .ok (.aload_n 0, 1) := by decide +kernel
theorem dX4_verdictIn_1 : decode cX4_verdictIn 1 = .ok (.iload_n 1, 1) := by decide +kernel
theorem dX4_verdictIn_2 : decode cX4_verdictIn 2 = .ok (.invokestatic 67, 3) := by decide +kernel
theorem dX4_verdictIn_5 : decode cX4_verdictIn 5 = .ok (.istore_n 2, 1) := by decide +kernel
theorem dX4_verdictIn_6 : decode cX4_verdictIn 6 = .ok (.iload_n 2, 1) := by decide +kernel
theorem dX4_verdictIn_7 : decode cX4_verdictIn 7 = .ok (.ifCond .ge 7, 3) := by decide +kernel
theorem dX4_verdictIn_10 : decode cX4_verdictIn 10 = .ok (.iconst 0, 1) := by decide +kernel
theorem dX4_verdictIn_11 : decode cX4_verdictIn 11 = .ok (.goto 15, 3) := by decide +kernel
theorem dX4_verdictIn_14 : decode cX4_verdictIn 14 = .ok (.aload_n 0, 1) := by decide +kernel
theorem dX4_verdictIn_15 : decode cX4_verdictIn 15 = .ok (.bipush 20, 2) := by decide +kernel
theorem dX4_verdictIn_17 : decode cX4_verdictIn 17 = .ok (.aload_n 0, 1) := by decide +kernel
theorem dX4_verdictIn_18 : decode cX4_verdictIn 18 = .ok (.iload_n 2, 1) := by decide +kernel
theorem dX4_verdictIn_19 : decode cX4_verdictIn 19 = .ok (.iconst 0, 1) := by decide +kernel
theorem dX4_verdictIn_20 : decode cX4_verdictIn 20 = .ok (.invokestatic 44, 3) := by decide +kernel
theorem dX4_verdictIn_23 : decode cX4_verdictIn 23 = .ok (.iaload, 1) := by decide +kernel
theorem dX4_verdictIn_24 : decode cX4_verdictIn 24 = .ok (.iadd, 1) := by decide +kernel
theorem dX4_verdictIn_25 : decode cX4_verdictIn 25 = .ok (.iaload, 1) := by decide +kernel
theorem dX4_verdictIn_26 : decode cX4_verdictIn 26 = .ok (.ireturn, 1) := by decide +kernel
set_option maxRecDepth 20000 in
theorem ggX4_branchesIn_X4_verdictIn : GoodIn wsX4_branchesIn wsX4_verdictIn := goodIn_r _ [4, 5, 6, 3, 7, 8, 9, 10, 11, 12, 13, 14, 15, 16, 17, 18, 19, 20, 21, 22, 23, 24, 25] (by decide +kernel) (by decide +kernel)
set_option maxRecDepth 20000 in
theorem gX4_branchesIn_X4_verdictIn : GoodIn wsX4_branchesIn (va_wsS RX4 70 yX4_verdictIn wsX4_verdictIn) := goodIn_app (goodIn_of _ (by decide +kernel)) ggX4_branchesIn_X4_verdictIn
theorem dX4_branchesIn_0 : decode cX4_branchesIn 0 = .ok (.iconst 0, 1) := by decide +kernel
theorem dX4_branchesIn_1 : decode cX4_branchesIn 1 = .ok (.istore_n 2, 1) := by decide +kernel
theorem dX4_branchesIn_2 : decode cX4_branchesIn 2 = .ok (.iconst 0, 1) := by decide +kernel
theorem dX4_branchesIn_3 : decode cX4_branchesIn 3 = .ok (.istore_n 3, 1) := by decide +kernel
theorem dX4_branchesIn_4 : decode cX4_branchesIn 4 = .ok (.iload_n 3, 1) := by decide +kernel
theorem dX4_branchesIn_5 : decode cX4_branchesIn 5 = .ok (.bipush 10, 2) := by decide +kernel
theorem dX4_branchesIn_7 : decode cX4_branchesIn 7 = .ok (.if_icmp .ge 28, 3) := by decide +kernel
theorem dX4_branchesIn_10 : decode cX4_branchesIn 10 = .ok (.iload_n 2, 1) := by decide +kernel
theorem dX4_branchesIn_11 : decode cX4_branchesIn 11 = .ok (.aload_n 0, 1) := by decide +kernel
theorem dX4_branchesIn_12 : decode cX4_branchesIn 12 = .ok (.iload_n 3, 1) := by decide +kernel
theorem dX4_branchesIn_13 : decode cX4_branchesIn 13 = .ok (.invokestatic 70, 3) := by decide +kernel
theorem dX4_branchesIn_16 : decode cX4_branchesIn 16 = .ok (.iload_n 1, 1) := by decide +kernel
theorem dX4_branchesIn_17 : decode cX4_branchesIn 17 = .ok (.if_icmp .ne 9, 3) := by decide +kernel
theorem dX4_branchesIn_20 : decode cX4_branchesIn 20 = .ok (.iconst 1, 1) := by decide +kernel
theorem dX4_branchesIn_21 : decode cX4_branchesIn 21 = .ok (.iload_n 3, 1) := by decide +kernel
theorem dX4_branchesIn_22 : decode cX4_branchesIn 22 = .ok (.ishl, 1) := by decide +kernel
theorem dX4_branchesIn_23 : decode cX4_branchesIn 23 = .ok (.goto 4, 3) := by decide +kernel
theorem dX4_branchesIn_26 : decode cX4_branchesIn 26 = .ok (.iconst 0, 1) := by decide +kernel
theorem dX4_branchesIn_27 : decode cX4_branchesIn 27 = .ok (.ior, 1) := by decide +kernel
theorem dX4_branchesIn_28 : decode cX4_branchesIn 28 = .ok (.istore_n 2, 1) := by decide +kernel
theorem dX4_branchesIn_29 : decode cX4_branchesIn 29 = .ok (.iinc 3 1, 3) := by decide +kernel
theorem dX4_branchesIn_32 : decode cX4_branchesIn 32 = .ok (.goto (-28), 3) := by decide +kernel
theorem dX4_branchesIn_35 : decode cX4_branchesIn 35 = .ok (.iload_n 2, 1) := by decide +kernel
theorem dX4_branchesIn_36 : decode cX4_branchesIn 36 = .ok (.ireturn, 1) := by decide +kernel
set_option maxRecDepth 20000 in
theorem ggX4_hour_X4_of : GoodIn wsX4_hour wsX4_of := goodIn_r _ [4] (by decide +kernel) (by decide +kernel)
set_option maxRecDepth 20000 in
theorem gX4_hour_X4_of : GoodIn wsX4_hour (va_wsS RX4 44 yX4_of wsX4_of) := goodIn_app (goodIn_of _ (by decide +kernel)) ggX4_hour_X4_of
set_option maxRecDepth 20000 in
theorem ggX4_hour_X4_goesBy : GoodIn wsX4_hour wsX4_goesBy := goodIn_r _ [7] (by decide +kernel) (by decide +kernel)
set_option maxRecDepth 20000 in
theorem gX4_hour_X4_goesBy : GoodIn wsX4_hour (va_wsS RX4 73 yX4_goesBy wsX4_goesBy) := goodIn_app (goodIn_of _ (by decide +kernel)) ggX4_hour_X4_goesBy
theorem dX4_hour_0 : decode cX4_hour 0 = .ok (.aload_n 0, 1) := by decide +kernel
theorem dX4_hour_1 : decode cX4_hour 1 = .ok (.iconst 1, 1) := by decide +kernel
theorem dX4_hour_2 : decode cX4_hour 2 = .ok (.dup2, 1) := by decide +kernel
theorem dX4_hour_3 : decode cX4_hour 3 = .ok (.iaload, 1) := by decide +kernel
theorem dX4_hour_4 : decode cX4_hour 4 = .ok (.iconst 1, 1) := by decide +kernel
theorem dX4_hour_5 : decode cX4_hour 5 = .ok (.iadd, 1) := by decide +kernel
theorem dX4_hour_6 : decode cX4_hour 6 = .ok (.iastore, 1) := by decide +kernel
theorem dX4_hour_7 : decode cX4_hour 7 = .ok (.iconst 0, 1) := by decide +kernel
theorem dX4_hour_8 : decode cX4_hour 8 = .ok (.istore_n 1, 1) := by decide +kernel
theorem dX4_hour_9 : decode cX4_hour 9 = .ok (.iload_n 1, 1) := by decide +kernel
theorem dX4_hour_10 : decode cX4_hour 10 = .ok (.aload_n 0, 1) := by decide +kernel
theorem dX4_hour_11 : decode cX4_hour 11 = .ok (.iconst 0, 1) := by decide +kernel
theorem dX4_hour_12 : decode cX4_hour 12 = .ok (.iaload, 1) := by decide +kernel
theorem dX4_hour_13 : decode cX4_hour 13 = .ok (.if_icmp .ge 47, 3) := by decide +kernel
theorem dX4_hour_16 : decode cX4_hour 16 = .ok (.aload_n 0, 1) := by decide +kernel
theorem dX4_hour_17 : decode cX4_hour 17 = .ok (.iload_n 1, 1) := by decide +kernel
theorem dX4_hour_18 : decode cX4_hour 18 = .ok (.iconst 2, 1) := by decide +kernel
theorem dX4_hour_19 : decode cX4_hour 19 = .ok (.invokestatic 44, 3) := by decide +kernel
theorem dX4_hour_22 : decode cX4_hour 22 = .ok (.aload_n 0, 1) := by decide +kernel
theorem dX4_hour_23 : decode cX4_hour 23 = .ok (.iload_n 1, 1) := by decide +kernel
theorem dX4_hour_24 : decode cX4_hour 24 = .ok (.iconst 2, 1) := by decide +kernel
theorem dX4_hour_25 : decode cX4_hour 25 = .ok (.invokestatic 44, 3) := by decide +kernel
theorem dX4_hour_28 : decode cX4_hour 28 = .ok (.iaload, 1) := by decide +kernel
theorem dX4_hour_29 : decode cX4_hour 29 = .ok (.aload_n 0, 1) := by decide +kernel
theorem dX4_hour_30 : decode cX4_hour 30 = .ok (.iload_n 1, 1) := by decide +kernel
theorem dX4_hour_31 : decode cX4_hour 31 = .ok (.iconst 0, 1) := by decide +kernel
theorem dX4_hour_32 : decode cX4_hour 32 = .ok (.invokestatic 44, 3) := by decide +kernel
theorem dX4_hour_35 : decode cX4_hour 35 = .ok (.iaload, 1) := by decide +kernel
theorem dX4_hour_36 : decode cX4_hour 36 = .ok (.aload_n 0, 1) := by decide +kernel
theorem dX4_hour_37 : decode cX4_hour 37 = .ok (.iload_n 1, 1) := by decide +kernel
theorem dX4_hour_38 : decode cX4_hour 38 = .ok (.iconst 1, 1) := by decide +kernel
theorem dX4_hour_39 : decode cX4_hour 39 = .ok (.invokestatic 44, 3) := by decide +kernel
theorem dX4_hour_42 : decode cX4_hour 42 = .ok (.iaload, 1) := by decide +kernel
theorem dX4_hour_43 : decode cX4_hour 43 = .ok (.aload_n 0, 1) := by decide +kernel
theorem dX4_hour_44 : decode cX4_hour 44 = .ok (.iconst 1, 1) := by decide +kernel
theorem dX4_hour_45 : decode cX4_hour 45 = .ok (.iaload, 1) := by decide +kernel
theorem dX4_hour_46 : decode cX4_hour 46 = .ok (.invokestatic 73, 3) := by decide +kernel
theorem dX4_hour_49 : decode cX4_hour 49 = .ok (.iadd, 1) := by decide +kernel
theorem dX4_hour_50 : decode cX4_hour 50 = .ok (.bipush 16, 2) := by decide +kernel
theorem dX4_hour_52 : decode cX4_hour 52 = .ok (.irem, 1) := by decide +kernel
theorem dX4_hour_53 : decode cX4_hour 53 = .ok (.iastore, 1) := by decide +kernel
theorem dX4_hour_54 : decode cX4_hour 54 = .ok (.iinc 1 1, 3) := by decide +kernel
theorem dX4_hour_57 : decode cX4_hour 57 = .ok (.goto (-48), 3) := by decide +kernel
theorem dX4_hour_60 : decode cX4_hour 60 = .ok (.return_, 1) := by decide +kernel
set_option maxRecDepth 20000 in
theorem ggX4_hoursOn_X4_hour : GoodIn wsX4_hoursOn wsX4_hour := goodIn_r _ [4, 5, 6, 3, 7, 8, 9, 10] (by decide +kernel) (by decide +kernel)
set_option maxRecDepth 20000 in
theorem gX4_hoursOn_X4_hour : GoodIn wsX4_hoursOn (va_wsS RX4 76 yX4_hour wsX4_hour) := goodIn_app (goodIn_of _ (by decide +kernel)) ggX4_hoursOn_X4_hour
theorem dX4_hoursOn_0 : decode cX4_hoursOn 0 = .ok (.iconst 0, 1) := by decide +kernel
theorem dX4_hoursOn_1 : decode cX4_hoursOn 1 = .ok (.istore_n 2, 1) := by decide +kernel
theorem dX4_hoursOn_2 : decode cX4_hoursOn 2 = .ok (.iload_n 2, 1) := by decide +kernel
theorem dX4_hoursOn_3 : decode cX4_hoursOn 3 = .ok (.iload_n 1, 1) := by decide +kernel
theorem dX4_hoursOn_4 : decode cX4_hoursOn 4 = .ok (.if_icmp .ge 13, 3) := by decide +kernel
theorem dX4_hoursOn_7 : decode cX4_hoursOn 7 = .ok (.aload_n 0, 1) := by decide +kernel
theorem dX4_hoursOn_8 : decode cX4_hoursOn 8 = .ok (.invokestatic 76, 3) := by decide +kernel
theorem dX4_hoursOn_11 : decode cX4_hoursOn 11 = .ok (.iinc 2 1, 3) := by decide +kernel
theorem dX4_hoursOn_14 : decode cX4_hoursOn 14 = .ok (.goto (-12), 3) := by decide +kernel
theorem dX4_hoursOn_17 : decode cX4_hoursOn 17 = .ok (.return_, 1) := by decide +kernel
set_option maxRecDepth 20000 in
theorem ggX4_letter_X4_no : GoodIn wsX4_letter wsX4_no := goodIn_r _ [7, 8, 9, 10, 11, 12, 13, 14, 15, 16, 17, 18, 19, 20, 21] (by decide +kernel) (by decide +kernel)
set_option maxRecDepth 20000 in
theorem gX4_letter_X4_no : GoodIn wsX4_letter (wsV RX4 36 RX4 yX4_no wsX4_no) := goodIn_app (goodIn_of _ (by decide +kernel)) ggX4_letter_X4_no
theorem dX4_letter_0 : decode cX4_letter 0 = .ok (.iload_n 1, 1) := by decide +kernel
theorem dX4_letter_1 : decode cX4_letter 1 = .ok (.ifCond .ge 10, 3) := by decide +kernel
theorem dX4_letter_4 : decode cX4_letter 4 = .ok (.aload_n 0, 1) := by decide +kernel
theorem dX4_letter_5 : decode cX4_letter 5 = .ok (.bipush (-4), 2) := by decide +kernel
theorem dX4_letter_7 : decode cX4_letter 7 = .ok (.invokevirtual 36, 3) := by decide +kernel
theorem dX4_letter_10 : decode cX4_letter 10 = .ok (.ireturn, 1) := by decide +kernel
theorem dX4_letter_11 : decode cX4_letter 11 = .ok (.iload_n 1, 1) := by decide +kernel
theorem dX4_letter_12 : decode cX4_letter 12 = .ok (.sipush 255, 3) := by decide +kernel
theorem dX4_letter_15 : decode cX4_letter 15 = .ok (.if_icmp .gt 12, 3) := by decide +kernel
theorem dX4_letter_18 : decode cX4_letter 18 = .ok (.aload_n 0, 1) := by decide +kernel
theorem dX4_letter_19 : decode cX4_letter 19 = .ok (.getfield 80, 3) := by decide +kernel
theorem dX4_letter_22 : decode cX4_letter 22 = .ok (.bipush 96, 2) := by decide +kernel
theorem dX4_letter_24 : decode cX4_letter 24 = .ok (.if_icmp .ne 10, 3) := by decide +kernel
theorem dX4_letter_27 : decode cX4_letter 27 = .ok (.aload_n 0, 1) := by decide +kernel
theorem dX4_letter_28 : decode cX4_letter 28 = .ok (.bipush (-6), 2) := by decide +kernel
theorem dX4_letter_30 : decode cX4_letter 30 = .ok (.invokevirtual 36, 3) := by decide +kernel
theorem dX4_letter_33 : decode cX4_letter 33 = .ok (.ireturn, 1) := by decide +kernel
theorem dX4_letter_34 : decode cX4_letter 34 = .ok (.aload_n 0, 1) := by decide +kernel
theorem dX4_letter_35 : decode cX4_letter 35 = .ok (.getfield 22, 3) := by decide +kernel
theorem dX4_letter_38 : decode cX4_letter 38 = .ok (.aload_n 0, 1) := by decide +kernel
theorem dX4_letter_39 : decode cX4_letter 39 = .ok (.getfield 80, 3) := by decide +kernel
theorem dX4_letter_42 : decode cX4_letter 42 = .ok (.iload_n 1, 1) := by decide +kernel
theorem dX4_letter_43 : decode cX4_letter 43 = .ok (.iastore, 1) := by decide +kernel
theorem dX4_letter_44 : decode cX4_letter 44 = .ok (.aload_n 0, 1) := by decide +kernel
theorem dX4_letter_45 : decode cX4_letter 45 = .ok (.dup, 1) := by decide +kernel
theorem dX4_letter_46 : decode cX4_letter 46 = .ok (.getfield 80, 3) := by decide +kernel
theorem dX4_letter_49 : decode cX4_letter 49 = .ok (.iconst 1, 1) := by decide +kernel
theorem dX4_letter_50 : decode cX4_letter 50 = .ok (.iadd, 1) := by decide +kernel
theorem dX4_letter_51 : decode cX4_letter 51 = .ok (.putfield 80, 3) := by decide +kernel
theorem dX4_letter_54 : decode cX4_letter 54 = .ok (.aload_n 0, 1) := by decide +kernel
theorem dX4_letter_55 : decode cX4_letter 55 = .ok (.getfield 80, 3) := by decide +kernel
theorem dX4_letter_58 : decode cX4_letter 58 = .ok (.ireturn, 1) := by decide +kernel
theorem dX4_here_0 : decode cX4_here 0 = .ok (.aload_n 0, 1) := by decide +kernel
theorem dX4_here_1 : decode cX4_here 1 = .ok (.getfield 84, 3) := by decide +kernel
theorem dX4_here_4 : decode cX4_here 4 = .ok (.aload_n 0, 1) := by decide +kernel
theorem dX4_here_5 : decode cX4_here 5 = .ok (.getfield 80, 3) := by decide +kernel
theorem dX4_here_8 : decode cX4_here 8 = .ok (.if_icmp .ge 15, 3) := by decide +kernel
theorem dX4_here_11 : decode cX4_here 11 = .ok (.aload_n 0, 1) := by decide +kernel
theorem dX4_here_12 : decode cX4_here 12 = .ok (.getfield 22, 3) := by decide +kernel
theorem dX4_here_15 : decode cX4_here 15 = .ok (.aload_n 0, 1) := by decide +kernel
theorem dX4_here_16 : decode cX4_here 16 = .ok (.getfield 84, 3) := by decide +kernel
theorem dX4_here_19 : decode cX4_here 19 = .ok (.iaload, 1) := by decide +kernel
theorem dX4_here_20 : decode cX4_here 20 = .ok (.goto 4, 3) := by decide +kernel
theorem dX4_here_23 : decode cX4_here 23 = .ok (.iconst (-1), 1) := by decide +kernel
theorem dX4_here_24 : decode cX4_here 24 = .ok (.ireturn, 1) := by decide +kernel
set_option maxRecDepth 20000 in
theorem ggX4_readsNumber_X4_here : GoodIn wsX4_readsNumber wsX4_here := goodIn_r _ [7, 2, 8, 9, 13, 14, 15, 16, 17, 18, 19, 20, 21, 22, 23, 24, 25] (by decide +kernel) (by decide +kernel)
set_option maxRecDepth 20000 in
theorem gX4_readsNumber_X4_here : GoodIn wsX4_readsNumber (wsV RX4 87 RX4 yX4_here wsX4_here) := goodIn_app (goodIn_of _ (by decide +kernel)) ggX4_readsNumber_X4_here
set_option maxRecDepth 20000 in
theorem ggX4_readsNumber_X4_isIn : GoodIn wsX4_readsNumber wsX4_isIn := goodIn_r _ [12] (by decide +kernel) (by decide +kernel)
set_option maxRecDepth 20000 in
theorem gX4_readsNumber_X4_isIn : GoodIn wsX4_readsNumber (va_wsS RX4 40 yX4_isIn wsX4_isIn) := goodIn_app (goodIn_of _ (by decide +kernel)) ggX4_readsNumber_X4_isIn
theorem dX4_readsNumber_0 : decode cX4_readsNumber 0 = .ok (.aload_n 0, 1) := by decide +kernel
theorem dX4_readsNumber_1 : decode cX4_readsNumber 1 = .ok (.getfield 31, 3) := by decide +kernel
theorem dX4_readsNumber_4 : decode cX4_readsNumber 4 = .ok (.iload_n 1, 1) := by decide +kernel
theorem dX4_readsNumber_5 : decode cX4_readsNumber 5 = .ok (.iconst 0, 1) := by decide +kernel
theorem dX4_readsNumber_6 : decode cX4_readsNumber 6 = .ok (.iastore, 1) := by decide +kernel
theorem dX4_readsNumber_7 : decode cX4_readsNumber 7 = .ok (.iconst 0, 1) := by decide +kernel
theorem dX4_readsNumber_8 : decode cX4_readsNumber 8 = .ok (.istore_n 3, 1) := by decide +kernel
theorem dX4_readsNumber_9 : decode cX4_readsNumber 9 = .ok (.iload_n 3, 1) := by decide +kernel
theorem dX4_readsNumber_10 : decode cX4_readsNumber 10 = .ok (.iload_n 2, 1) := by decide +kernel
theorem dX4_readsNumber_11 : decode cX4_readsNumber 11 = .ok (.if_icmp .ge 58, 3) := by decide +kernel
theorem dX4_readsNumber_14 : decode cX4_readsNumber 14 = .ok (.aload_n 0, 1) := by decide +kernel
theorem dX4_readsNumber_15 : decode cX4_readsNumber 15 = .ok (.invokevirtual 87, 3) := by decide +kernel
theorem dX4_readsNumber_18 : decode cX4_readsNumber 18 = .ok (.bipush 48, 2) := by decide +kernel
theorem dX4_readsNumber_20 : decode cX4_readsNumber 20 = .ok (.bipush 57, 2) := by decide +kernel
theorem dX4_readsNumber_22 : decode cX4_readsNumber 22 = .ok (.invokestatic 40, 3) := by decide +kernel
theorem dX4_readsNumber_25 : decode cX4_readsNumber 25 = .ok (.ifCond .ne 5, 3) := by decide +kernel
theorem dX4_readsNumber_28 : decode cX4_readsNumber 28 = .ok (.iconst 0, 1) := by decide +kernel
theorem dX4_readsNumber_29 : decode cX4_readsNumber 29 = .ok (.ireturn, 1) := by decide +kernel
theorem dX4_readsNumber_30 : decode cX4_readsNumber 30 = .ok (.aload_n 0, 1) := by decide +kernel
theorem dX4_readsNumber_31 : decode cX4_readsNumber 31 = .ok (.getfield 31, 3) := by decide +kernel
theorem dX4_readsNumber_34 : decode cX4_readsNumber 34 = .ok (.iload_n 1, 1) := by decide +kernel
theorem dX4_readsNumber_35 : decode cX4_readsNumber 35 = .ok (.bipush 10, 2) := by decide +kernel
theorem dX4_readsNumber_37 : decode cX4_readsNumber 37 = .ok (.aload_n 0, 1) := by decide +kernel
theorem dX4_readsNumber_38 : decode cX4_readsNumber 38 = .ok (.getfield 31, 3) := by decide +kernel
theorem dX4_readsNumber_41 : decode cX4_readsNumber 41 = .ok (.iload_n 1, 1) := by decide +kernel
theorem dX4_readsNumber_42 : decode cX4_readsNumber 42 = .ok (.iaload, 1) := by decide +kernel
theorem dX4_readsNumber_43 : decode cX4_readsNumber 43 = .ok (.imul, 1) := by decide +kernel
theorem dX4_readsNumber_44 : decode cX4_readsNumber 44 = .ok (.aload_n 0, 1) := by decide +kernel
theorem dX4_readsNumber_45 : decode cX4_readsNumber 45 = .ok (.invokevirtual 87, 3) := by decide +kernel
theorem dX4_readsNumber_48 : decode cX4_readsNumber 48 = .ok (.iadd, 1) := by decide +kernel
theorem dX4_readsNumber_49 : decode cX4_readsNumber 49 = .ok (.bipush 48, 2) := by decide +kernel
theorem dX4_readsNumber_51 : decode cX4_readsNumber 51 = .ok (.isub, 1) := by decide +kernel
theorem dX4_readsNumber_52 : decode cX4_readsNumber 52 = .ok (.iastore, 1) := by decide +kernel
theorem dX4_readsNumber_53 : decode cX4_readsNumber 53 = .ok (.aload_n 0, 1) := by decide +kernel
theorem dX4_readsNumber_54 : decode cX4_readsNumber 54 = .ok (.dup, 1) := by decide +kernel
theorem dX4_readsNumber_55 : decode cX4_readsNumber 55 = .ok (.getfield 84, 3) := by decide +kernel
theorem dX4_readsNumber_58 : decode cX4_readsNumber 58 = .ok (.iconst 1, 1) := by decide +kernel
theorem dX4_readsNumber_59 : decode cX4_readsNumber 59 = .ok (.iadd, 1) := by decide +kernel
theorem dX4_readsNumber_60 : decode cX4_readsNumber 60 = .ok (.putfield 84, 3) := by decide +kernel
theorem dX4_readsNumber_63 : decode cX4_readsNumber 63 = .ok (.iinc 3 1, 3) := by decide +kernel
theorem dX4_readsNumber_66 : decode cX4_readsNumber 66 = .ok (.goto (-57), 3) := by decide +kernel
theorem dX4_readsNumber_69 : decode cX4_readsNumber 69 = .ok (.iconst 1, 1) := by decide +kernel
theorem dX4_readsNumber_70 : decode cX4_readsNumber 70 = .ok (.ireturn, 1) := by decide +kernel
theorem dX4_kindBy_0 : decode cX4_kindBy 0 = .ok (.iload_n 0, 1) := by decide +kernel
theorem dX4_kindBy_1 : decode cX4_kindBy 1 = .ok (.lookupswitch 71 #[(98, 67), (99, 65), (104, 63), (115, 61), (116, 59), (119, 69)], 59) := by decide +kernel
theorem dX4_kindBy_60 : decode cX4_kindBy 60 = .ok (.iconst 0, 1) := by decide +kernel
theorem dX4_kindBy_61 : decode cX4_kindBy 61 = .ok (.ireturn, 1) := by decide +kernel
theorem dX4_kindBy_62 : decode cX4_kindBy 62 = .ok (.iconst 1, 1) := by decide +kernel
theorem dX4_kindBy_63 : decode cX4_kindBy 63 = .ok (.ireturn, 1) := by decide +kernel
theorem dX4_kindBy_64 : decode cX4_kindBy 64 = .ok (.iconst 2, 1) := by decide +kernel
theorem dX4_kindBy_65 : decode cX4_kindBy 65 = .ok (.ireturn, 1) := by decide +kernel
theorem dX4_kindBy_66 : decode cX4_kindBy 66 = .ok (.iconst 3, 1) := by decide +kernel
theorem dX4_kindBy_67 : decode cX4_kindBy 67 = .ok (.ireturn, 1) := by decide +kernel
theorem dX4_kindBy_68 : decode cX4_kindBy 68 = .ok (.iconst 4, 1) := by decide +kernel
theorem dX4_kindBy_69 : decode cX4_kindBy 69 = .ok (.ireturn, 1) := by decide +kernel
theorem dX4_kindBy_70 : decode cX4_kindBy 70 = .ok (.iconst 5, 1) := by decide +kernel
theorem dX4_kindBy_71 : decode cX4_kindBy 71 = .ok (.ireturn, 1) := by decide +kernel
theorem dX4_kindBy_72 : decode cX4_kindBy 72 = .ok (.bipush (-9), 2) := by decide +kernel
theorem dX4_kindBy_74 : decode cX4_kindBy 74 = .ok (.ireturn, 1) := by decide +kernel
set_option maxRecDepth 20000 in
theorem ggX4_readsKind_X4_here : GoodIn wsX4_readsKind wsX4_here := goodIn_r _ [7, 2, 8, 9, 13, 14, 15, 16, 17, 18, 19, 20, 21, 22, 23, 24, 25] (by decide +kernel) (by decide +kernel)
set_option maxRecDepth 20000 in
theorem gX4_readsKind_X4_here : GoodIn wsX4_readsKind (wsV RX4 87 RX4 yX4_here wsX4_here) := goodIn_app (goodIn_of _ (by decide +kernel)) ggX4_readsKind_X4_here
set_option maxRecDepth 20000 in
theorem ggX4_readsKind_X4_kindBy : GoodIn wsX4_readsKind wsX4_kindBy := goodIn_r _ [12] (by decide +kernel) (by decide +kernel)
set_option maxRecDepth 20000 in
theorem gX4_readsKind_X4_kindBy : GoodIn wsX4_readsKind (va_wsS RX4 91 yX4_kindBy wsX4_kindBy) := goodIn_app (goodIn_of _ (by decide +kernel)) ggX4_readsKind_X4_kindBy
theorem dX4_readsKind_0 : decode cX4_readsKind 0 = .ok (.aload_n 0, 1) := by decide +kernel
theorem dX4_readsKind_1 : decode cX4_readsKind 1 = .ok (.getfield 31, 3) := by decide +kernel
theorem dX4_readsKind_4 : decode cX4_readsKind 4 = .ok (.iconst 0, 1) := by decide +kernel
theorem dX4_readsKind_5 : decode cX4_readsKind 5 = .ok (.aload_n 0, 1) := by decide +kernel
theorem dX4_readsKind_6 : decode cX4_readsKind 6 = .ok (.invokevirtual 87, 3) := by decide +kernel
theorem dX4_readsKind_9 : decode cX4_readsKind 9 = .ok (.invokestatic 91, 3) := by decide +kernel
theorem dX4_readsKind_12 : decode cX4_readsKind 12 = .ok (.iastore, 1) := by decide +kernel
theorem dX4_readsKind_13 : decode cX4_readsKind 13 = .ok (.aload_n 0, 1) := by decide +kernel
theorem dX4_readsKind_14 : decode cX4_readsKind 14 = .ok (.dup, 1) := by decide +kernel
theorem dX4_readsKind_15 : decode cX4_readsKind 15 = .ok (.getfield 84, 3) := by decide +kernel
theorem dX4_readsKind_18 : decode cX4_readsKind 18 = .ok (.aload_n 0, 1) := by decide +kernel
theorem dX4_readsKind_19 : decode cX4_readsKind 19 = .ok (.getfield 31, 3) := by decide +kernel
theorem dX4_readsKind_22 : decode cX4_readsKind 22 = .ok (.iconst 0, 1) := by decide +kernel
theorem dX4_readsKind_23 : decode cX4_readsKind 23 = .ok (.iaload, 1) := by decide +kernel
theorem dX4_readsKind_24 : decode cX4_readsKind 24 = .ok (.ifCond .ge 7, 3) := by decide +kernel
theorem dX4_readsKind_27 : decode cX4_readsKind 27 = .ok (.iconst 0, 1) := by decide +kernel
theorem dX4_readsKind_28 : decode cX4_readsKind 28 = .ok (.goto 4, 3) := by decide +kernel
theorem dX4_readsKind_31 : decode cX4_readsKind 31 = .ok (.iconst 1, 1) := by decide +kernel
theorem dX4_readsKind_32 : decode cX4_readsKind 32 = .ok (.iadd, 1) := by decide +kernel
theorem dX4_readsKind_33 : decode cX4_readsKind 33 = .ok (.putfield 84, 3) := by decide +kernel
theorem dX4_readsKind_36 : decode cX4_readsKind 36 = .ok (.aload_n 0, 1) := by decide +kernel
theorem dX4_readsKind_37 : decode cX4_readsKind 37 = .ok (.getfield 31, 3) := by decide +kernel
theorem dX4_readsKind_40 : decode cX4_readsKind 40 = .ok (.iconst 0, 1) := by decide +kernel
theorem dX4_readsKind_41 : decode cX4_readsKind 41 = .ok (.iaload, 1) := by decide +kernel
theorem dX4_readsKind_42 : decode cX4_readsKind 42 = .ok (.ifCond .lt 7, 3) := by decide +kernel
theorem dX4_readsKind_45 : decode cX4_readsKind 45 = .ok (.iconst 1, 1) := by decide +kernel
theorem dX4_readsKind_46 : decode cX4_readsKind 46 = .ok (.goto 4, 3) := by decide +kernel
theorem dX4_readsKind_49 : decode cX4_readsKind 49 = .ok (.iconst 0, 1) := by decide +kernel
theorem dX4_readsKind_50 : decode cX4_readsKind 50 = .ok (.ireturn, 1) := by decide +kernel
set_option maxRecDepth 20000 in
theorem ggX4_readsStatement_X4_here : GoodIn wsX4_readsStatement wsX4_here := goodIn_r _ [6, 1, 7, 8, 24, 25, 26, 27, 28, 29, 30, 31, 32, 33, 34, 35, 36] (by decide +kernel) (by decide +kernel)
set_option maxRecDepth 20000 in
theorem gX4_readsStatement_X4_here : GoodIn wsX4_readsStatement (wsV RX4 87 RX4 yX4_here wsX4_here) := goodIn_app (goodIn_of _ (by decide +kernel)) ggX4_readsStatement_X4_here
set_option maxRecDepth 20000 in
theorem ggX4_readsStatement_X4_readsNumber : GoodIn wsX4_readsStatement wsX4_readsNumber := goodIn_r _ [12, 13, 1, 2, 3, 4, 5, 6, 7, 8, 14, 15, 16, 24, 25, 26, 27, 28, 29, 30, 31, 32, 33, 34, 35, 36] (by decide +kernel) (by decide +kernel)
set_option maxRecDepth 20000 in
theorem gX4_readsStatement_X4_readsNumber : GoodIn wsX4_readsStatement (wsV RX4 94 RX4 yX4_readsNumber wsX4_readsNumber) := goodIn_app (goodIn_of _ (by decide +kernel)) ggX4_readsStatement_X4_readsNumber
set_option maxRecDepth 20000 in
theorem ggX4_readsStatement_X4_readsKind : GoodIn wsX4_readsStatement wsX4_readsKind := goodIn_r _ [20, 13, 1, 2, 3, 4, 5, 6, 7, 8, 21, 22, 23, 24, 25, 26, 27, 28, 29, 30, 31, 32, 33, 34, 35, 36] (by decide +kernel) (by decide +kernel)
set_option maxRecDepth 20000 in
theorem gX4_readsStatement_X4_readsKind : GoodIn wsX4_readsStatement (wsV RX4 97 RX4 yX4_readsKind wsX4_readsKind) := goodIn_app (goodIn_of _ (by decide +kernel)) ggX4_readsStatement_X4_readsKind
theorem dX4_readsStatement_0 : decode cX4_readsStatement 0 = .ok (.aload_n 0, 1) := by decide +kernel
theorem dX4_readsStatement_1 : decode cX4_readsStatement 1 = .ok (.invokevirtual 87, 3) := by decide +kernel
theorem dX4_readsStatement_4 : decode cX4_readsStatement 4 = .ok (.istore_n 1, 1) := by decide +kernel
theorem dX4_readsStatement_5 : decode cX4_readsStatement 5 = .ok (.aload_n 0, 1) := by decide +kernel
theorem dX4_readsStatement_6 : decode cX4_readsStatement 6 = .ok (.dup, 1) := by decide +kernel
theorem dX4_readsStatement_7 : decode cX4_readsStatement 7 = .ok (.getfield 84, 3) := by decide +kernel
theorem dX4_readsStatement_10 : decode cX4_readsStatement 10 = .ok (.iconst 1, 1) := by decide +kernel
theorem dX4_readsStatement_11 : decode cX4_readsStatement 11 = .ok (.iadd, 1) := by decide +kernel
theorem dX4_readsStatement_12 : decode cX4_readsStatement 12 = .ok (.putfield 84, 3) := by decide +kernel
theorem dX4_readsStatement_15 : decode cX4_readsStatement 15 = .ok (.iload_n 1, 1) := by decide +kernel
theorem dX4_readsStatement_16 : decode cX4_readsStatement 16 = .ok (.tableswitch 246 99 120 #[104, 219, 199, 246, 246, 199, 246, 246, 246, 246, 246, 246, 246, 246, 246, 246, 246, 131, 246, 165, 246, 209], 104) := by decide +kernel
theorem dX4_readsStatement_120 : decode cX4_readsStatement 120 = .ok (.aload_n 0, 1) := by decide +kernel
theorem dX4_readsStatement_121 : decode cX4_readsStatement 121 = .ok (.iconst 0, 1) := by decide +kernel
theorem dX4_readsStatement_122 : decode cX4_readsStatement 122 = .ok (.iconst 2, 1) := by decide +kernel
theorem dX4_readsStatement_123 : decode cX4_readsStatement 123 = .ok (.invokevirtual 94, 3) := by decide +kernel
theorem dX4_readsStatement_126 : decode cX4_readsStatement 126 = .ok (.ifCond .eq 16, 3) := by decide +kernel
theorem dX4_readsStatement_129 : decode cX4_readsStatement 129 = .ok (.aload_n 0, 1) := by decide +kernel
theorem dX4_readsStatement_130 : decode cX4_readsStatement 130 = .ok (.iconst 1, 1) := by decide +kernel
theorem dX4_readsStatement_131 : decode cX4_readsStatement 131 = .ok (.iconst 1, 1) := by decide +kernel
theorem dX4_readsStatement_132 : decode cX4_readsStatement 132 = .ok (.invokevirtual 94, 3) := by decide +kernel
theorem dX4_readsStatement_135 : decode cX4_readsStatement 135 = .ok (.ifCond .eq 7, 3) := by decide +kernel
theorem dX4_readsStatement_138 : decode cX4_readsStatement 138 = .ok (.iconst 1, 1) := by decide +kernel
theorem dX4_readsStatement_139 : decode cX4_readsStatement 139 = .ok (.goto 4, 3) := by decide +kernel
theorem dX4_readsStatement_142 : decode cX4_readsStatement 142 = .ok (.iconst 0, 1) := by decide +kernel
theorem dX4_readsStatement_143 : decode cX4_readsStatement 143 = .ok (.istore_n 2, 1) := by decide +kernel
theorem dX4_readsStatement_144 : decode cX4_readsStatement 144 = .ok (.goto 130, 3) := by decide +kernel
theorem dX4_readsStatement_147 : decode cX4_readsStatement 147 = .ok (.aload_n 0, 1) := by decide +kernel
theorem dX4_readsStatement_148 : decode cX4_readsStatement 148 = .ok (.invokevirtual 97, 3) := by decide +kernel
theorem dX4_readsStatement_151 : decode cX4_readsStatement 151 = .ok (.ifCond .eq 25, 3) := by decide +kernel
theorem dX4_readsStatement_154 : decode cX4_readsStatement 154 = .ok (.aload_n 0, 1) := by decide +kernel
theorem dX4_readsStatement_155 : decode cX4_readsStatement 155 = .ok (.iconst 1, 1) := by decide +kernel
theorem dX4_readsStatement_156 : decode cX4_readsStatement 156 = .ok (.iconst 1, 1) := by decide +kernel
theorem dX4_readsStatement_157 : decode cX4_readsStatement 157 = .ok (.invokevirtual 94, 3) := by decide +kernel
theorem dX4_readsStatement_160 : decode cX4_readsStatement 160 = .ok (.ifCond .eq 16, 3) := by decide +kernel
theorem dX4_readsStatement_163 : decode cX4_readsStatement 163 = .ok (.aload_n 0, 1) := by decide +kernel
theorem dX4_readsStatement_164 : decode cX4_readsStatement 164 = .ok (.iconst 2, 1) := by decide +kernel
theorem dX4_readsStatement_165 : decode cX4_readsStatement 165 = .ok (.iconst 2, 1) := by decide +kernel
theorem dX4_readsStatement_166 : decode cX4_readsStatement 166 = .ok (.invokevirtual 94, 3) := by decide +kernel
theorem dX4_readsStatement_169 : decode cX4_readsStatement 169 = .ok (.ifCond .eq 7, 3) := by decide +kernel
theorem dX4_readsStatement_172 : decode cX4_readsStatement 172 = .ok (.iconst 1, 1) := by decide +kernel
theorem dX4_readsStatement_173 : decode cX4_readsStatement 173 = .ok (.goto 4, 3) := by decide +kernel
theorem dX4_readsStatement_176 : decode cX4_readsStatement 176 = .ok (.iconst 0, 1) := by decide +kernel
theorem dX4_readsStatement_177 : decode cX4_readsStatement 177 = .ok (.istore_n 2, 1) := by decide +kernel
theorem dX4_readsStatement_178 : decode cX4_readsStatement 178 = .ok (.goto 96, 3) := by decide +kernel
theorem dX4_readsStatement_181 : decode cX4_readsStatement 181 = .ok (.aload_n 0, 1) := by decide +kernel
theorem dX4_readsStatement_182 : decode cX4_readsStatement 182 = .ok (.invokevirtual 97, 3) := by decide +kernel
theorem dX4_readsStatement_185 : decode cX4_readsStatement 185 = .ok (.ifCond .eq 25, 3) := by decide +kernel
theorem dX4_readsStatement_188 : decode cX4_readsStatement 188 = .ok (.aload_n 0, 1) := by decide +kernel
theorem dX4_readsStatement_189 : decode cX4_readsStatement 189 = .ok (.iconst 1, 1) := by decide +kernel
theorem dX4_readsStatement_190 : decode cX4_readsStatement 190 = .ok (.iconst 1, 1) := by decide +kernel
theorem dX4_readsStatement_191 : decode cX4_readsStatement 191 = .ok (.invokevirtual 94, 3) := by decide +kernel
theorem dX4_readsStatement_194 : decode cX4_readsStatement 194 = .ok (.ifCond .eq 16, 3) := by decide +kernel
theorem dX4_readsStatement_197 : decode cX4_readsStatement 197 = .ok (.aload_n 0, 1) := by decide +kernel
theorem dX4_readsStatement_198 : decode cX4_readsStatement 198 = .ok (.iconst 2, 1) := by decide +kernel
theorem dX4_readsStatement_199 : decode cX4_readsStatement 199 = .ok (.iconst 1, 1) := by decide +kernel
theorem dX4_readsStatement_200 : decode cX4_readsStatement 200 = .ok (.invokevirtual 94, 3) := by decide +kernel
theorem dX4_readsStatement_203 : decode cX4_readsStatement 203 = .ok (.ifCond .eq 7, 3) := by decide +kernel
theorem dX4_readsStatement_206 : decode cX4_readsStatement 206 = .ok (.iconst 1, 1) := by decide +kernel
theorem dX4_readsStatement_207 : decode cX4_readsStatement 207 = .ok (.goto 4, 3) := by decide +kernel
theorem dX4_readsStatement_210 : decode cX4_readsStatement 210 = .ok (.iconst 0, 1) := by decide +kernel
theorem dX4_readsStatement_211 : decode cX4_readsStatement 211 = .ok (.istore_n 2, 1) := by decide +kernel
theorem dX4_readsStatement_212 : decode cX4_readsStatement 212 = .ok (.goto 62, 3) := by decide +kernel
theorem dX4_readsStatement_215 : decode cX4_readsStatement 215 = .ok (.aload_n 0, 1) := by decide +kernel
theorem dX4_readsStatement_216 : decode cX4_readsStatement 216 = .ok (.iconst 0, 1) := by decide +kernel
theorem dX4_readsStatement_217 : decode cX4_readsStatement 217 = .ok (.iconst 2, 1) := by decide +kernel
theorem dX4_readsStatement_218 : decode cX4_readsStatement 218 = .ok (.invokevirtual 94, 3) := by decide +kernel
theorem dX4_readsStatement_221 : decode cX4_readsStatement 221 = .ok (.istore_n 2, 1) := by decide +kernel
theorem dX4_readsStatement_222 : decode cX4_readsStatement 222 = .ok (.goto 52, 3) := by decide +kernel
theorem dX4_readsStatement_225 : decode cX4_readsStatement 225 = .ok (.aload_n 0, 1) := by decide +kernel
theorem dX4_readsStatement_226 : decode cX4_readsStatement 226 = .ok (.iconst 0, 1) := by decide +kernel
theorem dX4_readsStatement_227 : decode cX4_readsStatement 227 = .ok (.iconst 1, 1) := by decide +kernel
theorem dX4_readsStatement_228 : decode cX4_readsStatement 228 = .ok (.invokevirtual 94, 3) := by decide +kernel
theorem dX4_readsStatement_231 : decode cX4_readsStatement 231 = .ok (.istore_n 2, 1) := by decide +kernel
theorem dX4_readsStatement_232 : decode cX4_readsStatement 232 = .ok (.goto 42, 3) := by decide +kernel
theorem dX4_readsStatement_235 : decode cX4_readsStatement 235 = .ok (.aload_n 0, 1) := by decide +kernel
theorem dX4_readsStatement_236 : decode cX4_readsStatement 236 = .ok (.iconst 0, 1) := by decide +kernel
theorem dX4_readsStatement_237 : decode cX4_readsStatement 237 = .ok (.iconst 1, 1) := by decide +kernel
theorem dX4_readsStatement_238 : decode cX4_readsStatement 238 = .ok (.invokevirtual 94, 3) := by decide +kernel
theorem dX4_readsStatement_241 : decode cX4_readsStatement 241 = .ok (.ifCond .eq 16, 3) := by decide +kernel
theorem dX4_readsStatement_244 : decode cX4_readsStatement 244 = .ok (.aload_n 0, 1) := by decide +kernel
theorem dX4_readsStatement_245 : decode cX4_readsStatement 245 = .ok (.iconst 1, 1) := by decide +kernel
theorem dX4_readsStatement_246 : decode cX4_readsStatement 246 = .ok (.iconst 2, 1) := by decide +kernel
theorem dX4_readsStatement_247 : decode cX4_readsStatement 247 = .ok (.invokevirtual 94, 3) := by decide +kernel
theorem dX4_readsStatement_250 : decode cX4_readsStatement 250 = .ok (.ifCond .eq 7, 3) := by decide +kernel
theorem dX4_readsStatement_253 : decode cX4_readsStatement 253 = .ok (.iconst 1, 1) := by decide +kernel
theorem dX4_readsStatement_254 : decode cX4_readsStatement 254 = .ok (.goto 4, 3) := by decide +kernel
theorem dX4_readsStatement_257 : decode cX4_readsStatement 257 = .ok (.iconst 0, 1) := by decide +kernel
theorem dX4_readsStatement_258 : decode cX4_readsStatement 258 = .ok (.istore_n 2, 1) := by decide +kernel
theorem dX4_readsStatement_259 : decode cX4_readsStatement 259 = .ok (.goto 15, 3) := by decide +kernel
theorem dX4_readsStatement_262 : decode cX4_readsStatement 262 = .ok (.aload_n 0, 1) := by decide +kernel
theorem dX4_readsStatement_263 : decode cX4_readsStatement 263 = .ok (.dup, 1) := by decide +kernel
theorem dX4_readsStatement_264 : decode cX4_readsStatement 264 = .ok (.getfield 84, 3) := by decide +kernel
theorem dX4_readsStatement_267 : decode cX4_readsStatement 267 = .ok (.iconst 1, 1) := by decide +kernel
theorem dX4_readsStatement_268 : decode cX4_readsStatement 268 = .ok (.isub, 1) := by decide +kernel
theorem dX4_readsStatement_269 : decode cX4_readsStatement 269 = .ok (.putfield 84, 3) := by decide +kernel
theorem dX4_readsStatement_272 : decode cX4_readsStatement 272 = .ok (.iconst 0, 1) := by decide +kernel
theorem dX4_readsStatement_273 : decode cX4_readsStatement 273 = .ok (.ireturn, 1) := by decide +kernel
theorem dX4_readsStatement_274 : decode cX4_readsStatement 274 = .ok (.iload_n 2, 1) := by decide +kernel
theorem dX4_readsStatement_275 : decode cX4_readsStatement 275 = .ok (.ifCond .eq 12, 3) := by decide +kernel
theorem dX4_readsStatement_278 : decode cX4_readsStatement 278 = .ok (.aload_n 0, 1) := by decide +kernel
theorem dX4_readsStatement_279 : decode cX4_readsStatement 279 = .ok (.invokevirtual 87, 3) := by decide +kernel
theorem dX4_readsStatement_282 : decode cX4_readsStatement 282 = .ok (.bipush 59, 2) := by decide +kernel
theorem dX4_readsStatement_284 : decode cX4_readsStatement 284 = .ok (.if_icmp .eq 5, 3) := by decide +kernel
theorem dX4_readsStatement_287 : decode cX4_readsStatement 287 = .ok (.iconst 0, 1) := by decide +kernel
theorem dX4_readsStatement_288 : decode cX4_readsStatement 288 = .ok (.ireturn, 1) := by decide +kernel
theorem dX4_readsStatement_289 : decode cX4_readsStatement 289 = .ok (.aload_n 0, 1) := by decide +kernel
theorem dX4_readsStatement_290 : decode cX4_readsStatement 290 = .ok (.dup, 1) := by decide +kernel
theorem dX4_readsStatement_291 : decode cX4_readsStatement 291 = .ok (.getfield 84, 3) := by decide +kernel
theorem dX4_readsStatement_294 : decode cX4_readsStatement 294 = .ok (.iconst 1, 1) := by decide +kernel
theorem dX4_readsStatement_295 : decode cX4_readsStatement 295 = .ok (.iadd, 1) := by decide +kernel
theorem dX4_readsStatement_296 : decode cX4_readsStatement 296 = .ok (.putfield 84, 3) := by decide +kernel
theorem dX4_readsStatement_299 : decode cX4_readsStatement 299 = .ok (.iconst 1, 1) := by decide +kernel
theorem dX4_readsStatement_300 : decode cX4_readsStatement 300 = .ok (.ireturn, 1) := by decide +kernel
set_option maxRecDepth 20000 in
theorem ggX4_isDone_X4_isCell : GoodIn wsX4_isDone wsX4_isCell := goodIn_r _ [6, 7, 8, 5, 9] (by decide +kernel) (by decide +kernel)
set_option maxRecDepth 20000 in
theorem gX4_isDone_X4_isCell : GoodIn wsX4_isDone (va_wsS RX4 101 yX4_isCell wsX4_isCell) := goodIn_app (goodIn_of _ (by decide +kernel)) ggX4_isDone_X4_isCell
set_option maxRecDepth 20000 in
theorem ggX4_isDone_X4_of : GoodIn wsX4_isDone wsX4_of := goodIn_r _ [12] (by decide +kernel) (by decide +kernel)
set_option maxRecDepth 20000 in
theorem gX4_isDone_X4_of : GoodIn wsX4_isDone (va_wsS RX4 44 yX4_of wsX4_of) := goodIn_app (goodIn_of _ (by decide +kernel)) ggX4_isDone_X4_of
set_option maxRecDepth 20000 in
theorem ggX4_isDone_X4_isVerdict : GoodIn wsX4_isDone wsX4_isVerdict := goodIn_r _ [15, 7, 8, 5, 9] (by decide +kernel) (by decide +kernel)
set_option maxRecDepth 20000 in
theorem gX4_isDone_X4_isVerdict : GoodIn wsX4_isDone (va_wsS RX4 105 yX4_isVerdict wsX4_isVerdict) := goodIn_app (goodIn_of _ (by decide +kernel)) ggX4_isDone_X4_isVerdict
set_option maxRecDepth 20000 in
theorem ggX4_isDone_X4_isThing : GoodIn wsX4_isDone wsX4_isThing := goodIn_r _ [19, 2, 7, 8, 5, 9, 29, 30, 31, 32, 33, 34, 35, 36, 37, 38, 39, 40, 41] (by decide +kernel) (by decide +kernel)
set_option maxRecDepth 20000 in
theorem gX4_isDone_X4_isThing : GoodIn wsX4_isDone (wsV RX4 108 RX4 yX4_isThing wsX4_isThing) := goodIn_app (goodIn_of _ (by decide +kernel)) ggX4_isDone_X4_isThing
set_option maxRecDepth 20000 in
theorem ggX4_isDone_X4_isIn : GoodIn wsX4_isDone wsX4_isIn := goodIn_r _ [9] (by decide +kernel) (by decide +kernel)
set_option maxRecDepth 20000 in
theorem gX4_isDone_X4_isIn : GoodIn wsX4_isDone (va_wsS RX4 40 yX4_isIn wsX4_isIn) := goodIn_app (goodIn_of _ (by decide +kernel)) ggX4_isDone_X4_isIn
set_option maxRecDepth 20000 in
theorem ggX4_isDone_X4_hoursOn : GoodIn wsX4_isDone wsX4_hoursOn := goodIn_r _ [22, 23, 24, 5, 25, 10, 11, 12, 26, 27, 28] (by decide +kernel) (by decide +kernel)
set_option maxRecDepth 20000 in
theorem gX4_isDone_X4_hoursOn : GoodIn wsX4_isDone (va_wsS RX4 111 yX4_hoursOn wsX4_hoursOn) := goodIn_app (goodIn_of _ (by decide +kernel)) ggX4_isDone_X4_hoursOn
theorem dX4_isDone_0 : decode cX4_isDone 0 = .ok (.aload_n 0, 1) := by decide +kernel
theorem dX4_isDone_1 : decode cX4_isDone 1 = .ok (.getfield 31, 3) := by decide +kernel
theorem dX4_isDone_4 : decode cX4_isDone 4 = .ok (.iconst 0, 1) := by decide +kernel
theorem dX4_isDone_5 : decode cX4_isDone 5 = .ok (.iaload, 1) := by decide +kernel
theorem dX4_isDone_6 : decode cX4_isDone 6 = .ok (.istore_n 2, 1) := by decide +kernel
theorem dX4_isDone_7 : decode cX4_isDone 7 = .ok (.aload_n 0, 1) := by decide +kernel
theorem dX4_isDone_8 : decode cX4_isDone 8 = .ok (.getfield 31, 3) := by decide +kernel
theorem dX4_isDone_11 : decode cX4_isDone 11 = .ok (.iconst 1, 1) := by decide +kernel
theorem dX4_isDone_12 : decode cX4_isDone 12 = .ok (.iaload, 1) := by decide +kernel
theorem dX4_isDone_13 : decode cX4_isDone 13 = .ok (.istore_n 3, 1) := by decide +kernel
theorem dX4_isDone_14 : decode cX4_isDone 14 = .ok (.iload_n 1, 1) := by decide +kernel
theorem dX4_isDone_15 : decode cX4_isDone 15 = .ok (.lookupswitch 261 #[(99, 57), (100, 231), (101, 188), (116, 77), (118, 152), (120, 207)], 57) := by decide +kernel
theorem dX4_isDone_72 : decode cX4_isDone 72 = .ok (.iload_n 2, 1) := by decide +kernel
theorem dX4_isDone_73 : decode cX4_isDone 73 = .ok (.invokestatic 101, 3) := by decide +kernel
theorem dX4_isDone_76 : decode cX4_isDone 76 = .ok (.ifCond .ne 5, 3) := by decide +kernel
theorem dX4_isDone_79 : decode cX4_isDone 79 = .ok (.iconst 0, 1) := by decide +kernel
theorem dX4_isDone_80 : decode cX4_isDone 80 = .ok (.ireturn, 1) := by decide +kernel
theorem dX4_isDone_81 : decode cX4_isDone 81 = .ok (.aload_n 0, 1) := by decide +kernel
theorem dX4_isDone_82 : decode cX4_isDone 82 = .ok (.getfield 9, 3) := by decide +kernel
theorem dX4_isDone_85 : decode cX4_isDone 85 = .ok (.iconst 4, 1) := by decide +kernel
theorem dX4_isDone_86 : decode cX4_isDone 86 = .ok (.iload_n 2, 1) := by decide +kernel
theorem dX4_isDone_87 : decode cX4_isDone 87 = .ok (.iadd, 1) := by decide +kernel
theorem dX4_isDone_88 : decode cX4_isDone 88 = .ok (.iload_n 3, 1) := by decide +kernel
theorem dX4_isDone_89 : decode cX4_isDone 89 = .ok (.iastore, 1) := by decide +kernel
theorem dX4_isDone_90 : decode cX4_isDone 90 = .ok (.iconst 1, 1) := by decide +kernel
theorem dX4_isDone_91 : decode cX4_isDone 91 = .ok (.ireturn, 1) := by decide +kernel
theorem dX4_isDone_92 : decode cX4_isDone 92 = .ok (.aload_n 0, 1) := by decide +kernel
theorem dX4_isDone_93 : decode cX4_isDone 93 = .ok (.getfield 31, 3) := by decide +kernel
theorem dX4_isDone_96 : decode cX4_isDone 96 = .ok (.iconst 2, 1) := by decide +kernel
theorem dX4_isDone_97 : decode cX4_isDone 97 = .ok (.iaload, 1) := by decide +kernel
theorem dX4_isDone_98 : decode cX4_isDone 98 = .ok (.invokestatic 101, 3) := by decide +kernel
theorem dX4_isDone_101 : decode cX4_isDone 101 = .ok (.ifCond .eq 14, 3) := by decide +kernel
theorem dX4_isDone_104 : decode cX4_isDone 104 = .ok (.aload_n 0, 1) := by decide +kernel
theorem dX4_isDone_105 : decode cX4_isDone 105 = .ok (.getfield 9, 3) := by decide +kernel
theorem dX4_isDone_108 : decode cX4_isDone 108 = .ok (.iconst 0, 1) := by decide +kernel
theorem dX4_isDone_109 : decode cX4_isDone 109 = .ok (.iaload, 1) := by decide +kernel
theorem dX4_isDone_110 : decode cX4_isDone 110 = .ok (.bipush 7, 2) := by decide +kernel
theorem dX4_isDone_112 : decode cX4_isDone 112 = .ok (.if_icmp .ne 5, 3) := by decide +kernel
theorem dX4_isDone_115 : decode cX4_isDone 115 = .ok (.iconst 0, 1) := by decide +kernel
theorem dX4_isDone_116 : decode cX4_isDone 116 = .ok (.ireturn, 1) := by decide +kernel
theorem dX4_isDone_117 : decode cX4_isDone 117 = .ok (.iconst 0, 1) := by decide +kernel
theorem dX4_isDone_118 : decode cX4_isDone 118 = .ok (.istore 4, 2) := by decide +kernel
theorem dX4_isDone_120 : decode cX4_isDone 120 = .ok (.iload 4, 2) := by decide +kernel
theorem dX4_isDone_122 : decode cX4_isDone 122 = .ok (.iconst 3, 1) := by decide +kernel
theorem dX4_isDone_123 : decode cX4_isDone 123 = .ok (.if_icmp .ge 32, 3) := by decide +kernel
theorem dX4_isDone_126 : decode cX4_isDone 126 = .ok (.aload_n 0, 1) := by decide +kernel
theorem dX4_isDone_127 : decode cX4_isDone 127 = .ok (.getfield 9, 3) := by decide +kernel
theorem dX4_isDone_130 : decode cX4_isDone 130 = .ok (.aload_n 0, 1) := by decide +kernel
theorem dX4_isDone_131 : decode cX4_isDone 131 = .ok (.getfield 9, 3) := by decide +kernel
theorem dX4_isDone_134 : decode cX4_isDone 134 = .ok (.iconst 0, 1) := by decide +kernel
theorem dX4_isDone_135 : decode cX4_isDone 135 = .ok (.iaload, 1) := by decide +kernel
theorem dX4_isDone_136 : decode cX4_isDone 136 = .ok (.iload 4, 2) := by decide +kernel
theorem dX4_isDone_138 : decode cX4_isDone 138 = .ok (.invokestatic 44, 3) := by decide +kernel
theorem dX4_isDone_141 : decode cX4_isDone 141 = .ok (.aload_n 0, 1) := by decide +kernel
theorem dX4_isDone_142 : decode cX4_isDone 142 = .ok (.getfield 31, 3) := by decide +kernel
theorem dX4_isDone_145 : decode cX4_isDone 145 = .ok (.iload 4, 2) := by decide +kernel
theorem dX4_isDone_147 : decode cX4_isDone 147 = .ok (.iaload, 1) := by decide +kernel
theorem dX4_isDone_148 : decode cX4_isDone 148 = .ok (.iastore, 1) := by decide +kernel
theorem dX4_isDone_149 : decode cX4_isDone 149 = .ok (.iinc 4 1, 3) := by decide +kernel
theorem dX4_isDone_152 : decode cX4_isDone 152 = .ok (.goto (-32), 3) := by decide +kernel
theorem dX4_isDone_155 : decode cX4_isDone 155 = .ok (.aload_n 0, 1) := by decide +kernel
theorem dX4_isDone_156 : decode cX4_isDone 156 = .ok (.getfield 9, 3) := by decide +kernel
theorem dX4_isDone_159 : decode cX4_isDone 159 = .ok (.iconst 0, 1) := by decide +kernel
theorem dX4_isDone_160 : decode cX4_isDone 160 = .ok (.dup2, 1) := by decide +kernel
theorem dX4_isDone_161 : decode cX4_isDone 161 = .ok (.iaload, 1) := by decide +kernel
theorem dX4_isDone_162 : decode cX4_isDone 162 = .ok (.iconst 1, 1) := by decide +kernel
theorem dX4_isDone_163 : decode cX4_isDone 163 = .ok (.iadd, 1) := by decide +kernel
theorem dX4_isDone_164 : decode cX4_isDone 164 = .ok (.iastore, 1) := by decide +kernel
theorem dX4_isDone_165 : decode cX4_isDone 165 = .ok (.iconst 1, 1) := by decide +kernel
theorem dX4_isDone_166 : decode cX4_isDone 166 = .ok (.ireturn, 1) := by decide +kernel
theorem dX4_isDone_167 : decode cX4_isDone 167 = .ok (.iload_n 3, 1) := by decide +kernel
theorem dX4_isDone_168 : decode cX4_isDone 168 = .ok (.invokestatic 105, 3) := by decide +kernel
theorem dX4_isDone_171 : decode cX4_isDone 171 = .ok (.ifCond .ne 5, 3) := by decide +kernel
theorem dX4_isDone_174 : decode cX4_isDone 174 = .ok (.iconst 0, 1) := by decide +kernel
theorem dX4_isDone_175 : decode cX4_isDone 175 = .ok (.ireturn, 1) := by decide +kernel
theorem dX4_isDone_176 : decode cX4_isDone 176 = .ok (.aload_n 0, 1) := by decide +kernel
theorem dX4_isDone_177 : decode cX4_isDone 177 = .ok (.getfield 9, 3) := by decide +kernel
theorem dX4_isDone_180 : decode cX4_isDone 180 = .ok (.bipush 20, 2) := by decide +kernel
theorem dX4_isDone_182 : decode cX4_isDone 182 = .ok (.iload_n 2, 1) := by decide +kernel
theorem dX4_isDone_183 : decode cX4_isDone 183 = .ok (.iadd, 1) := by decide +kernel
theorem dX4_isDone_184 : decode cX4_isDone 184 = .ok (.iload_n 3, 1) := by decide +kernel
theorem dX4_isDone_185 : decode cX4_isDone 185 = .ok (.iastore, 1) := by decide +kernel
theorem dX4_isDone_186 : decode cX4_isDone 186 = .ok (.aload_n 0, 1) := by decide +kernel
theorem dX4_isDone_187 : decode cX4_isDone 187 = .ok (.getfield 9, 3) := by decide +kernel
theorem dX4_isDone_190 : decode cX4_isDone 190 = .ok (.bipush 26, 2) := by decide +kernel
theorem dX4_isDone_192 : decode cX4_isDone 192 = .ok (.iload_n 2, 1) := by decide +kernel
theorem dX4_isDone_193 : decode cX4_isDone 193 = .ok (.iadd, 1) := by decide +kernel
theorem dX4_isDone_194 : decode cX4_isDone 194 = .ok (.aload_n 0, 1) := by decide +kernel
theorem dX4_isDone_195 : decode cX4_isDone 195 = .ok (.getfield 31, 3) := by decide +kernel
theorem dX4_isDone_198 : decode cX4_isDone 198 = .ok (.iconst 2, 1) := by decide +kernel
theorem dX4_isDone_199 : decode cX4_isDone 199 = .ok (.iaload, 1) := by decide +kernel
theorem dX4_isDone_200 : decode cX4_isDone 200 = .ok (.iastore, 1) := by decide +kernel
theorem dX4_isDone_201 : decode cX4_isDone 201 = .ok (.iconst 1, 1) := by decide +kernel
theorem dX4_isDone_202 : decode cX4_isDone 202 = .ok (.ireturn, 1) := by decide +kernel
theorem dX4_isDone_203 : decode cX4_isDone 203 = .ok (.aload_n 0, 1) := by decide +kernel
theorem dX4_isDone_204 : decode cX4_isDone 204 = .ok (.getfield 9, 3) := by decide +kernel
theorem dX4_isDone_207 : decode cX4_isDone 207 = .ok (.iconst 2, 1) := by decide +kernel
theorem dX4_isDone_208 : decode cX4_isDone 208 = .ok (.iload_n 2, 1) := by decide +kernel
theorem dX4_isDone_209 : decode cX4_isDone 209 = .ok (.iastore, 1) := by decide +kernel
theorem dX4_isDone_210 : decode cX4_isDone 210 = .ok (.iload_n 2, 1) := by decide +kernel
theorem dX4_isDone_211 : decode cX4_isDone 211 = .ok (.bipush 16, 2) := by decide +kernel
theorem dX4_isDone_213 : decode cX4_isDone 213 = .ok (.if_icmp .gt 7, 3) := by decide +kernel
theorem dX4_isDone_216 : decode cX4_isDone 216 = .ok (.iconst 1, 1) := by decide +kernel
theorem dX4_isDone_217 : decode cX4_isDone 217 = .ok (.goto 4, 3) := by decide +kernel
theorem dX4_isDone_220 : decode cX4_isDone 220 = .ok (.iconst 0, 1) := by decide +kernel
theorem dX4_isDone_221 : decode cX4_isDone 221 = .ok (.ireturn, 1) := by decide +kernel
theorem dX4_isDone_222 : decode cX4_isDone 222 = .ok (.aload_n 0, 1) := by decide +kernel
theorem dX4_isDone_223 : decode cX4_isDone 223 = .ok (.iload_n 2, 1) := by decide +kernel
theorem dX4_isDone_224 : decode cX4_isDone 224 = .ok (.invokevirtual 108, 3) := by decide +kernel
theorem dX4_isDone_227 : decode cX4_isDone 227 = .ok (.ifCond .ne 5, 3) := by decide +kernel
theorem dX4_isDone_230 : decode cX4_isDone 230 = .ok (.iconst 0, 1) := by decide +kernel
theorem dX4_isDone_231 : decode cX4_isDone 231 = .ok (.ireturn, 1) := by decide +kernel
theorem dX4_isDone_232 : decode cX4_isDone 232 = .ok (.aload_n 0, 1) := by decide +kernel
theorem dX4_isDone_233 : decode cX4_isDone 233 = .ok (.getfield 9, 3) := by decide +kernel
theorem dX4_isDone_236 : decode cX4_isDone 236 = .ok (.iconst 3, 1) := by decide +kernel
theorem dX4_isDone_237 : decode cX4_isDone 237 = .ok (.dup2, 1) := by decide +kernel
theorem dX4_isDone_238 : decode cX4_isDone 238 = .ok (.iaload, 1) := by decide +kernel
theorem dX4_isDone_239 : decode cX4_isDone 239 = .ok (.iconst 1, 1) := by decide +kernel
theorem dX4_isDone_240 : decode cX4_isDone 240 = .ok (.iload_n 2, 1) := by decide +kernel
theorem dX4_isDone_241 : decode cX4_isDone 241 = .ok (.ishl, 1) := by decide +kernel
theorem dX4_isDone_242 : decode cX4_isDone 242 = .ok (.ixor, 1) := by decide +kernel
theorem dX4_isDone_243 : decode cX4_isDone 243 = .ok (.iastore, 1) := by decide +kernel
theorem dX4_isDone_244 : decode cX4_isDone 244 = .ok (.iconst 1, 1) := by decide +kernel
theorem dX4_isDone_245 : decode cX4_isDone 245 = .ok (.ireturn, 1) := by decide +kernel
theorem dX4_isDone_246 : decode cX4_isDone 246 = .ok (.aload_n 0, 1) := by decide +kernel
theorem dX4_isDone_247 : decode cX4_isDone 247 = .ok (.iload_n 2, 1) := by decide +kernel
theorem dX4_isDone_248 : decode cX4_isDone 248 = .ok (.invokevirtual 108, 3) := by decide +kernel
theorem dX4_isDone_251 : decode cX4_isDone 251 = .ok (.ifCond .eq 10, 3) := by decide +kernel
theorem dX4_isDone_254 : decode cX4_isDone 254 = .ok (.iload_n 3, 1) := by decide +kernel
theorem dX4_isDone_255 : decode cX4_isDone 255 = .ok (.invokestatic 101, 3) := by decide +kernel
theorem dX4_isDone_258 : decode cX4_isDone 258 = .ok (.ifCond .ne 5, 3) := by decide +kernel
theorem dX4_isDone_261 : decode cX4_isDone 261 = .ok (.iconst 0, 1) := by decide +kernel
theorem dX4_isDone_262 : decode cX4_isDone 262 = .ok (.ireturn, 1) := by decide +kernel
theorem dX4_isDone_263 : decode cX4_isDone 263 = .ok (.aload_n 0, 1) := by decide +kernel
theorem dX4_isDone_264 : decode cX4_isDone 264 = .ok (.getfield 9, 3) := by decide +kernel
theorem dX4_isDone_267 : decode cX4_isDone 267 = .ok (.iload_n 2, 1) := by decide +kernel
theorem dX4_isDone_268 : decode cX4_isDone 268 = .ok (.iconst 2, 1) := by decide +kernel
theorem dX4_isDone_269 : decode cX4_isDone 269 = .ok (.invokestatic 44, 3) := by decide +kernel
theorem dX4_isDone_272 : decode cX4_isDone 272 = .ok (.iload_n 3, 1) := by decide +kernel
theorem dX4_isDone_273 : decode cX4_isDone 273 = .ok (.iastore, 1) := by decide +kernel
theorem dX4_isDone_274 : decode cX4_isDone 274 = .ok (.iconst 1, 1) := by decide +kernel
theorem dX4_isDone_275 : decode cX4_isDone 275 = .ok (.ireturn, 1) := by decide +kernel
theorem dX4_isDone_276 : decode cX4_isDone 276 = .ok (.iload_n 2, 1) := by decide +kernel
theorem dX4_isDone_277 : decode cX4_isDone 277 = .ok (.iconst 1, 1) := by decide +kernel
theorem dX4_isDone_278 : decode cX4_isDone 278 = .ok (.bipush 60, 2) := by decide +kernel
theorem dX4_isDone_280 : decode cX4_isDone 280 = .ok (.invokestatic 40, 3) := by decide +kernel
theorem dX4_isDone_283 : decode cX4_isDone 283 = .ok (.ifCond .eq 17, 3) := by decide +kernel
theorem dX4_isDone_286 : decode cX4_isDone 286 = .ok (.aload_n 0, 1) := by decide +kernel
theorem dX4_isDone_287 : decode cX4_isDone 287 = .ok (.getfield 9, 3) := by decide +kernel
theorem dX4_isDone_290 : decode cX4_isDone 290 = .ok (.iconst 1, 1) := by decide +kernel
theorem dX4_isDone_291 : decode cX4_isDone 291 = .ok (.iaload, 1) := by decide +kernel
theorem dX4_isDone_292 : decode cX4_isDone 292 = .ok (.iload_n 2, 1) := by decide +kernel
theorem dX4_isDone_293 : decode cX4_isDone 293 = .ok (.iadd, 1) := by decide +kernel
theorem dX4_isDone_294 : decode cX4_isDone 294 = .ok (.sipush 999, 3) := by decide +kernel
theorem dX4_isDone_297 : decode cX4_isDone 297 = .ok (.if_icmp .le 5, 3) := by decide +kernel
theorem dX4_isDone_300 : decode cX4_isDone 300 = .ok (.iconst 0, 1) := by decide +kernel
theorem dX4_isDone_301 : decode cX4_isDone 301 = .ok (.ireturn, 1) := by decide +kernel
theorem dX4_isDone_302 : decode cX4_isDone 302 = .ok (.aload_n 0, 1) := by decide +kernel
theorem dX4_isDone_303 : decode cX4_isDone 303 = .ok (.getfield 9, 3) := by decide +kernel
theorem dX4_isDone_306 : decode cX4_isDone 306 = .ok (.iload_n 2, 1) := by decide +kernel
theorem dX4_isDone_307 : decode cX4_isDone 307 = .ok (.invokestatic 111, 3) := by decide +kernel
theorem dX4_isDone_310 : decode cX4_isDone 310 = .ok (.iconst 1, 1) := by decide +kernel
theorem dX4_isDone_311 : decode cX4_isDone 311 = .ok (.ireturn, 1) := by decide +kernel
set_option maxRecDepth 20000 in
theorem ggX4_land_X4_readsStatement : GoodIn wsX4_land wsX4_readsStatement := goodIn_r _ [9, 1, 10, 11, 12, 8, 13, 2, 14, 15, 16, 17, 18, 19, 20, 21, 22, 23, 24, 25, 26, 27, 28, 29, 59, 60, 61, 62, 63, 64, 65, 66, 67, 68, 69, 70, 71] (by decide +kernel) (by decide +kernel)
set_option maxRecDepth 20000 in
theorem gX4_land_X4_readsStatement : GoodIn wsX4_land (wsV RX4 115 RX4 yX4_readsStatement wsX4_readsStatement) := goodIn_app (goodIn_of _ (by decide +kernel)) ggX4_land_X4_readsStatement
set_option maxRecDepth 20000 in
theorem ggX4_land_X4_copies : GoodIn wsX4_land wsX4_copies := goodIn_r _ [32] (by decide +kernel) (by decide +kernel)
set_option maxRecDepth 20000 in
theorem gX4_land_X4_copies : GoodIn wsX4_land (va_wsS RX4 118 yX4_copies wsX4_copies) := goodIn_app (goodIn_of _ (by decide +kernel)) ggX4_land_X4_copies
set_option maxRecDepth 20000 in
theorem ggX4_land_X4_here : GoodIn wsX4_land wsX4_here := goodIn_r _ [13, 1, 2, 14, 59, 60, 61, 62, 63, 64, 65, 66, 67, 68, 69, 70, 71] (by decide +kernel) (by decide +kernel)
set_option maxRecDepth 20000 in
theorem gX4_land_X4_here : GoodIn wsX4_land (wsV RX4 87 RX4 yX4_here wsX4_here) := goodIn_app (goodIn_of _ (by decide +kernel)) ggX4_land_X4_here
set_option maxRecDepth 20000 in
theorem ggX4_land_X4_isDone : GoodIn wsX4_land wsX4_isDone := goodIn_r _ [36, 19, 3, 37, 38, 8, 39, 20, 21, 22, 40, 41, 42, 43, 44, 45, 46, 47, 48, 49, 50, 51, 52, 53, 54, 55, 56, 57, 58, 59, 60, 61, 62, 63, 64, 65, 66, 67, 68, 69, 70, 71] (by decide +kernel) (by decide +kernel)
set_option maxRecDepth 20000 in
theorem gX4_land_X4_isDone : GoodIn wsX4_land (wsV RX4 122 RX4 yX4_isDone wsX4_isDone) := goodIn_app (goodIn_of _ (by decide +kernel)) ggX4_land_X4_isDone
theorem dX4_land_0 : decode cX4_land 0 = .ok (.aload_n 0, 1) := by decide +kernel
theorem dX4_land_1 : decode cX4_land 1 = .ok (.iconst 0, 1) := by decide +kernel
theorem dX4_land_2 : decode cX4_land 2 = .ok (.putfield 84, 3) := by decide +kernel
theorem dX4_land_5 : decode cX4_land 5 = .ok (.iconst 0, 1) := by decide +kernel
theorem dX4_land_6 : decode cX4_land 6 = .ok (.istore_n 1, 1) := by decide +kernel
theorem dX4_land_7 : decode cX4_land 7 = .ok (.bipush (-9), 2) := by decide +kernel
theorem dX4_land_9 : decode cX4_land 9 = .ok (.istore_n 2, 1) := by decide +kernel
theorem dX4_land_10 : decode cX4_land 10 = .ok (.aload_n 0, 1) := by decide +kernel
theorem dX4_land_11 : decode cX4_land 11 = .ok (.invokevirtual 115, 3) := by decide +kernel
theorem dX4_land_14 : decode cX4_land 14 = .ok (.ifCond .ne 12, 3) := by decide +kernel
theorem dX4_land_17 : decode cX4_land 17 = .ok (.sipush (-1000), 3) := by decide +kernel
theorem dX4_land_20 : decode cX4_land 20 = .ok (.aload_n 0, 1) := by decide +kernel
theorem dX4_land_21 : decode cX4_land 21 = .ok (.getfield 84, 3) := by decide +kernel
theorem dX4_land_24 : decode cX4_land 24 = .ok (.isub, 1) := by decide +kernel
theorem dX4_land_25 : decode cX4_land 25 = .ok (.istore_n 2, 1) := by decide +kernel
theorem dX4_land_26 : decode cX4_land 26 = .ok (.iinc 1 1, 3) := by decide +kernel
theorem dX4_land_29 : decode cX4_land 29 = .ok (.iload_n 2, 1) := by decide +kernel
theorem dX4_land_30 : decode cX4_land 30 = .ok (.bipush (-9), 2) := by decide +kernel
theorem dX4_land_32 : decode cX4_land 32 = .ok (.if_icmp .ne 14, 3) := by decide +kernel
theorem dX4_land_35 : decode cX4_land 35 = .ok (.aload_n 0, 1) := by decide +kernel
theorem dX4_land_36 : decode cX4_land 36 = .ok (.getfield 84, 3) := by decide +kernel
theorem dX4_land_39 : decode cX4_land 39 = .ok (.aload_n 0, 1) := by decide +kernel
theorem dX4_land_40 : decode cX4_land 40 = .ok (.getfield 80, 3) := by decide +kernel
theorem dX4_land_43 : decode cX4_land 43 = .ok (.if_icmp .lt (-33), 3) := by decide +kernel
theorem dX4_land_46 : decode cX4_land 46 = .ok (.aload_n 0, 1) := by decide +kernel
theorem dX4_land_47 : decode cX4_land 47 = .ok (.getfield 9, 3) := by decide +kernel
theorem dX4_land_50 : decode cX4_land 50 = .ok (.aload_n 0, 1) := by decide +kernel
theorem dX4_land_51 : decode cX4_land 51 = .ok (.getfield 19, 3) := by decide +kernel
theorem dX4_land_54 : decode cX4_land 54 = .ok (.invokestatic 118, 3) := by decide +kernel
theorem dX4_land_57 : decode cX4_land 57 = .ok (.aload_n 0, 1) := by decide +kernel
theorem dX4_land_58 : decode cX4_land 58 = .ok (.iconst 0, 1) := by decide +kernel
theorem dX4_land_59 : decode cX4_land 59 = .ok (.putfield 84, 3) := by decide +kernel
theorem dX4_land_62 : decode cX4_land 62 = .ok (.iload_n 2, 1) := by decide +kernel
theorem dX4_land_63 : decode cX4_land 63 = .ok (.bipush (-9), 2) := by decide +kernel
theorem dX4_land_65 : decode cX4_land 65 = .ok (.if_icmp .ne 63, 3) := by decide +kernel
theorem dX4_land_68 : decode cX4_land 68 = .ok (.aload_n 0, 1) := by decide +kernel
theorem dX4_land_69 : decode cX4_land 69 = .ok (.getfield 84, 3) := by decide +kernel
theorem dX4_land_72 : decode cX4_land 72 = .ok (.aload_n 0, 1) := by decide +kernel
theorem dX4_land_73 : decode cX4_land 73 = .ok (.getfield 80, 3) := by decide +kernel
theorem dX4_land_76 : decode cX4_land 76 = .ok (.if_icmp .ge 52, 3) := by decide +kernel
theorem dX4_land_79 : decode cX4_land 79 = .ok (.aload_n 0, 1) := by decide +kernel
theorem dX4_land_80 : decode cX4_land 80 = .ok (.getfield 84, 3) := by decide +kernel
theorem dX4_land_83 : decode cX4_land 83 = .ok (.istore_n 3, 1) := by decide +kernel
theorem dX4_land_84 : decode cX4_land 84 = .ok (.aload_n 0, 1) := by decide +kernel
theorem dX4_land_85 : decode cX4_land 85 = .ok (.invokevirtual 87, 3) := by decide +kernel
theorem dX4_land_88 : decode cX4_land 88 = .ok (.istore 4, 2) := by decide +kernel
theorem dX4_land_90 : decode cX4_land 90 = .ok (.aload_n 0, 1) := by decide +kernel
theorem dX4_land_91 : decode cX4_land 91 = .ok (.invokevirtual 115, 3) := by decide +kernel
theorem dX4_land_94 : decode cX4_land 94 = .ok (.istore 5, 2) := by decide +kernel
theorem dX4_land_96 : decode cX4_land 96 = .ok (.aload_n 0, 1) := by decide +kernel
theorem dX4_land_97 : decode cX4_land 97 = .ok (.iload 4, 2) := by decide +kernel
theorem dX4_land_99 : decode cX4_land 99 = .ok (.invokevirtual 122, 3) := by decide +kernel
theorem dX4_land_102 : decode cX4_land 102 = .ok (.ifCond .eq 6, 3) := by decide +kernel
theorem dX4_land_105 : decode cX4_land 105 = .ok (.goto (-43), 3) := by decide +kernel
theorem dX4_land_108 : decode cX4_land 108 = .ok (.sipush (-2000), 3) := by decide +kernel
theorem dX4_land_111 : decode cX4_land 111 = .ok (.iload_n 3, 1) := by decide +kernel
theorem dX4_land_112 : decode cX4_land 112 = .ok (.isub, 1) := by decide +kernel
theorem dX4_land_113 : decode cX4_land 113 = .ok (.istore_n 2, 1) := by decide +kernel
theorem dX4_land_114 : decode cX4_land 114 = .ok (.aload_n 0, 1) := by decide +kernel
theorem dX4_land_115 : decode cX4_land 115 = .ok (.getfield 19, 3) := by decide +kernel
theorem dX4_land_118 : decode cX4_land 118 = .ok (.aload_n 0, 1) := by decide +kernel
theorem dX4_land_119 : decode cX4_land 119 = .ok (.getfield 9, 3) := by decide +kernel
theorem dX4_land_122 : decode cX4_land 122 = .ok (.invokestatic 118, 3) := by decide +kernel
theorem dX4_land_125 : decode cX4_land 125 = .ok (.goto (-63), 3) := by decide +kernel
theorem dX4_land_128 : decode cX4_land 128 = .ok (.aload_n 0, 1) := by decide +kernel
theorem dX4_land_129 : decode cX4_land 129 = .ok (.iconst 0, 1) := by decide +kernel
theorem dX4_land_130 : decode cX4_land 130 = .ok (.putfield 80, 3) := by decide +kernel
theorem dX4_land_133 : decode cX4_land 133 = .ok (.iload_n 2, 1) := by decide +kernel
theorem dX4_land_134 : decode cX4_land 134 = .ok (.bipush (-9), 2) := by decide +kernel
theorem dX4_land_136 : decode cX4_land 136 = .ok (.if_icmp .ne 7, 3) := by decide +kernel
theorem dX4_land_139 : decode cX4_land 139 = .ok (.iload_n 1, 1) := by decide +kernel
theorem dX4_land_140 : decode cX4_land 140 = .ok (.goto 4, 3) := by decide +kernel
theorem dX4_land_143 : decode cX4_land 143 = .ok (.iload_n 2, 1) := by decide +kernel
theorem dX4_land_144 : decode cX4_land 144 = .ok (.ireturn, 1) := by decide +kernel
set_option maxRecDepth 20000 in
theorem ggX4_thing_X4_isThing : GoodIn wsX4_thing wsX4_isThing := goodIn_r _ [6, 1, 7, 8, 5, 9, 27, 28, 29, 30, 31, 32, 33, 34, 35, 36, 37, 38, 39] (by decide +kernel) (by decide +kernel)
set_option maxRecDepth 20000 in
theorem gX4_thing_X4_isThing : GoodIn wsX4_thing (wsV RX4 108 RX4 yX4_isThing wsX4_isThing) := goodIn_app (goodIn_of _ (by decide +kernel)) ggX4_thing_X4_isThing
set_option maxRecDepth 20000 in
theorem ggX4_thing_X4_no : GoodIn wsX4_thing wsX4_no := goodIn_r _ [13, 14, 27, 28, 29, 30, 31, 32, 33, 34, 35, 36, 37, 38, 39] (by decide +kernel) (by decide +kernel)
set_option maxRecDepth 20000 in
theorem gX4_thing_X4_no : GoodIn wsX4_thing (wsV RX4 36 RX4 yX4_no wsX4_no) := goodIn_app (goodIn_of _ (by decide +kernel)) ggX4_thing_X4_no
set_option maxRecDepth 20000 in
theorem ggX4_thing_X4_of : GoodIn wsX4_thing wsX4_of := goodIn_r _ [17] (by decide +kernel) (by decide +kernel)
set_option maxRecDepth 20000 in
theorem gX4_thing_X4_of : GoodIn wsX4_thing (va_wsS RX4 44 yX4_of wsX4_of) := goodIn_app (goodIn_of _ (by decide +kernel)) ggX4_thing_X4_of
set_option maxRecDepth 20000 in
theorem ggX4_thing_X4_top : GoodIn wsX4_thing wsX4_top := goodIn_r _ [20, 15, 16, 5, 17, 21, 22, 23] (by decide +kernel) (by decide +kernel)
set_option maxRecDepth 20000 in
theorem gX4_thing_X4_top : GoodIn wsX4_thing (va_wsS RX4 56 yX4_top wsX4_top) := goodIn_app (goodIn_of _ (by decide +kernel)) ggX4_thing_X4_top
set_option maxRecDepth 20000 in
theorem ggX4_thing_X4_goesBy : GoodIn wsX4_thing wsX4_goesBy := goodIn_r _ [26] (by decide +kernel) (by decide +kernel)
set_option maxRecDepth 20000 in
theorem gX4_thing_X4_goesBy : GoodIn wsX4_thing (va_wsS RX4 73 yX4_goesBy wsX4_goesBy) := goodIn_app (goodIn_of _ (by decide +kernel)) ggX4_thing_X4_goesBy
theorem dX4_thing_0 : decode cX4_thing 0 = .ok (.aload_n 0, 1) := by decide +kernel
theorem dX4_thing_1 : decode cX4_thing 1 = .ok (.iload_n 1, 1) := by decide +kernel
theorem dX4_thing_2 : decode cX4_thing 2 = .ok (.invokevirtual 108, 3) := by decide +kernel
theorem dX4_thing_5 : decode cX4_thing 5 = .ok (.ifCond .ne 9, 3) := by decide +kernel
theorem dX4_thing_8 : decode cX4_thing 8 = .ok (.aload_n 0, 1) := by decide +kernel
theorem dX4_thing_9 : decode cX4_thing 9 = .ok (.iconst (-1), 1) := by decide +kernel
theorem dX4_thing_10 : decode cX4_thing 10 = .ok (.invokevirtual 36, 3) := by decide +kernel
theorem dX4_thing_13 : decode cX4_thing 13 = .ok (.ireturn, 1) := by decide +kernel
theorem dX4_thing_14 : decode cX4_thing 14 = .ok (.iload_n 2, 1) := by decide +kernel
theorem dX4_thing_15 : decode cX4_thing 15 = .ok (.tableswitch 100 0 5 #[37, 37, 37, 48, 59, 68], 37) := by decide +kernel
theorem dX4_thing_52 : decode cX4_thing 52 = .ok (.aload_n 0, 1) := by decide +kernel
theorem dX4_thing_53 : decode cX4_thing 53 = .ok (.getfield 9, 3) := by decide +kernel
theorem dX4_thing_56 : decode cX4_thing 56 = .ok (.iload_n 1, 1) := by decide +kernel
theorem dX4_thing_57 : decode cX4_thing 57 = .ok (.iload_n 2, 1) := by decide +kernel
theorem dX4_thing_58 : decode cX4_thing 58 = .ok (.invokestatic 44, 3) := by decide +kernel
theorem dX4_thing_61 : decode cX4_thing 61 = .ok (.iaload, 1) := by decide +kernel
theorem dX4_thing_62 : decode cX4_thing 62 = .ok (.ireturn, 1) := by decide +kernel
theorem dX4_thing_63 : decode cX4_thing 63 = .ok (.aload_n 0, 1) := by decide +kernel
theorem dX4_thing_64 : decode cX4_thing 64 = .ok (.getfield 9, 3) := by decide +kernel
theorem dX4_thing_67 : decode cX4_thing 67 = .ok (.iconst 3, 1) := by decide +kernel
theorem dX4_thing_68 : decode cX4_thing 68 = .ok (.iaload, 1) := by decide +kernel
theorem dX4_thing_69 : decode cX4_thing 69 = .ok (.iload_n 1, 1) := by decide +kernel
theorem dX4_thing_70 : decode cX4_thing 70 = .ok (.ishr, 1) := by decide +kernel
theorem dX4_thing_71 : decode cX4_thing 71 = .ok (.iconst 1, 1) := by decide +kernel
theorem dX4_thing_72 : decode cX4_thing 72 = .ok (.iand, 1) := by decide +kernel
theorem dX4_thing_73 : decode cX4_thing 73 = .ok (.ireturn, 1) := by decide +kernel
theorem dX4_thing_74 : decode cX4_thing 74 = .ok (.aload_n 0, 1) := by decide +kernel
theorem dX4_thing_75 : decode cX4_thing 75 = .ok (.getfield 9, 3) := by decide +kernel
theorem dX4_thing_78 : decode cX4_thing 78 = .ok (.iload_n 1, 1) := by decide +kernel
theorem dX4_thing_79 : decode cX4_thing 79 = .ok (.invokestatic 56, 3) := by decide +kernel
theorem dX4_thing_82 : decode cX4_thing 82 = .ok (.ireturn, 1) := by decide +kernel
theorem dX4_thing_83 : decode cX4_thing 83 = .ok (.aload_n 0, 1) := by decide +kernel
theorem dX4_thing_84 : decode cX4_thing 84 = .ok (.getfield 9, 3) := by decide +kernel
theorem dX4_thing_87 : decode cX4_thing 87 = .ok (.iload_n 1, 1) := by decide +kernel
theorem dX4_thing_88 : decode cX4_thing 88 = .ok (.iconst 0, 1) := by decide +kernel
theorem dX4_thing_89 : decode cX4_thing 89 = .ok (.invokestatic 44, 3) := by decide +kernel
theorem dX4_thing_92 : decode cX4_thing 92 = .ok (.iaload, 1) := by decide +kernel
theorem dX4_thing_93 : decode cX4_thing 93 = .ok (.aload_n 0, 1) := by decide +kernel
theorem dX4_thing_94 : decode cX4_thing 94 = .ok (.getfield 9, 3) := by decide +kernel
theorem dX4_thing_97 : decode cX4_thing 97 = .ok (.iload_n 1, 1) := by decide +kernel
theorem dX4_thing_98 : decode cX4_thing 98 = .ok (.iconst 1, 1) := by decide +kernel
theorem dX4_thing_99 : decode cX4_thing 99 = .ok (.invokestatic 44, 3) := by decide +kernel
theorem dX4_thing_102 : decode cX4_thing 102 = .ok (.iaload, 1) := by decide +kernel
theorem dX4_thing_103 : decode cX4_thing 103 = .ok (.aload_n 0, 1) := by decide +kernel
theorem dX4_thing_104 : decode cX4_thing 104 = .ok (.getfield 9, 3) := by decide +kernel
theorem dX4_thing_107 : decode cX4_thing 107 = .ok (.iconst 1, 1) := by decide +kernel
theorem dX4_thing_108 : decode cX4_thing 108 = .ok (.iaload, 1) := by decide +kernel
theorem dX4_thing_109 : decode cX4_thing 109 = .ok (.iconst 1, 1) := by decide +kernel
theorem dX4_thing_110 : decode cX4_thing 110 = .ok (.iadd, 1) := by decide +kernel
theorem dX4_thing_111 : decode cX4_thing 111 = .ok (.invokestatic 73, 3) := by decide +kernel
theorem dX4_thing_114 : decode cX4_thing 114 = .ok (.ireturn, 1) := by decide +kernel
theorem dX4_thing_115 : decode cX4_thing 115 = .ok (.aload_n 0, 1) := by decide +kernel
theorem dX4_thing_116 : decode cX4_thing 116 = .ok (.bipush (-2), 2) := by decide +kernel
theorem dX4_thing_118 : decode cX4_thing 118 = .ok (.invokevirtual 36, 3) := by decide +kernel
theorem dX4_thing_121 : decode cX4_thing 121 = .ok (.ireturn, 1) := by decide +kernel
set_option maxRecDepth 20000 in
theorem ggX4_height_X4_isCell : GoodIn wsX4_height wsX4_isCell := goodIn_r _ [5, 6, 7, 4, 8] (by decide +kernel) (by decide +kernel)
set_option maxRecDepth 20000 in
theorem gX4_height_X4_isCell : GoodIn wsX4_height (va_wsS RX4 101 yX4_isCell wsX4_isCell) := goodIn_app (goodIn_of _ (by decide +kernel)) ggX4_height_X4_isCell
set_option maxRecDepth 20000 in
theorem ggX4_height_X4_no : GoodIn wsX4_height wsX4_no := goodIn_r _ [12, 13, 14, 15, 16, 17, 18, 19, 20, 21, 22, 23, 24, 25, 26] (by decide +kernel) (by decide +kernel)
set_option maxRecDepth 20000 in
theorem gX4_height_X4_no : GoodIn wsX4_height (wsV RX4 36 RX4 yX4_no wsX4_no) := goodIn_app (goodIn_of _ (by decide +kernel)) ggX4_height_X4_no
theorem dX4_height_0 : decode cX4_height 0 = .ok (.iload_n 1, 1) := by decide +kernel
theorem dX4_height_1 : decode cX4_height 1 = .ok (.invokestatic 101, 3) := by decide +kernel
theorem dX4_height_4 : decode cX4_height 4 = .ok (.ifCond .eq 14, 3) := by decide +kernel
theorem dX4_height_7 : decode cX4_height 7 = .ok (.aload_n 0, 1) := by decide +kernel
theorem dX4_height_8 : decode cX4_height 8 = .ok (.getfield 9, 3) := by decide +kernel
theorem dX4_height_11 : decode cX4_height 11 = .ok (.iconst 4, 1) := by decide +kernel
theorem dX4_height_12 : decode cX4_height 12 = .ok (.iload_n 1, 1) := by decide +kernel
theorem dX4_height_13 : decode cX4_height 13 = .ok (.iadd, 1) := by decide +kernel
theorem dX4_height_14 : decode cX4_height 14 = .ok (.iaload, 1) := by decide +kernel
theorem dX4_height_15 : decode cX4_height 15 = .ok (.goto 8, 3) := by decide +kernel
theorem dX4_height_18 : decode cX4_height 18 = .ok (.aload_n 0, 1) := by decide +kernel
theorem dX4_height_19 : decode cX4_height 19 = .ok (.iconst (-1), 1) := by decide +kernel
theorem dX4_height_20 : decode cX4_height 20 = .ok (.invokevirtual 36, 3) := by decide +kernel
theorem dX4_height_23 : decode cX4_height 23 = .ok (.ireturn, 1) := by decide +kernel
set_option maxRecDepth 20000 in
theorem ggX4_code_X4_isIn : GoodIn wsX4_code wsX4_isIn := goodIn_r _ [5] (by decide +kernel) (by decide +kernel)
set_option maxRecDepth 20000 in
theorem gX4_code_X4_isIn : GoodIn wsX4_code (va_wsS RX4 40 yX4_isIn wsX4_isIn) := goodIn_app (goodIn_of _ (by decide +kernel)) ggX4_code_X4_isIn
set_option maxRecDepth 20000 in
theorem ggX4_code_X4_no : GoodIn wsX4_code wsX4_no := goodIn_r _ [9, 10, 11, 12, 13, 14, 15, 16, 17, 18, 19, 20, 21, 22, 23] (by decide +kernel) (by decide +kernel)
set_option maxRecDepth 20000 in
theorem gX4_code_X4_no : GoodIn wsX4_code (wsV RX4 36 RX4 yX4_no wsX4_no) := goodIn_app (goodIn_of _ (by decide +kernel)) ggX4_code_X4_no
theorem dX4_code_0 : decode cX4_code 0 = .ok (.iload_n 1, 1) := by decide +kernel
theorem dX4_code_1 : decode cX4_code 1 = .ok (.iconst 0, 1) := by decide +kernel
theorem dX4_code_2 : decode cX4_code 2 = .ok (.iconst 5, 1) := by decide +kernel
theorem dX4_code_3 : decode cX4_code 3 = .ok (.invokestatic 40, 3) := by decide +kernel
theorem dX4_code_6 : decode cX4_code 6 = .ok (.ifCond .eq 12, 3) := by decide +kernel
theorem dX4_code_9 : decode cX4_code 9 = .ok (.iload_n 2, 1) := by decide +kernel
theorem dX4_code_10 : decode cX4_code 10 = .ok (.iconst 0, 1) := by decide +kernel
theorem dX4_code_11 : decode cX4_code 11 = .ok (.iconst 1, 1) := by decide +kernel
theorem dX4_code_12 : decode cX4_code 12 = .ok (.invokestatic 40, 3) := by decide +kernel
theorem dX4_code_15 : decode cX4_code 15 = .ok (.ifCond .ne 10, 3) := by decide +kernel
theorem dX4_code_18 : decode cX4_code 18 = .ok (.aload_n 0, 1) := by decide +kernel
theorem dX4_code_19 : decode cX4_code 19 = .ok (.bipush (-2), 2) := by decide +kernel
theorem dX4_code_21 : decode cX4_code 21 = .ok (.invokevirtual 36, 3) := by decide +kernel
theorem dX4_code_24 : decode cX4_code 24 = .ok (.ireturn, 1) := by decide +kernel
theorem dX4_code_25 : decode cX4_code 25 = .ok (.aload_n 0, 1) := by decide +kernel
theorem dX4_code_26 : decode cX4_code 26 = .ok (.getfield 9, 3) := by decide +kernel
theorem dX4_code_29 : decode cX4_code 29 = .ok (.iload_n 2, 1) := by decide +kernel
theorem dX4_code_30 : decode cX4_code 30 = .ok (.ifCond .ne 8, 3) := by decide +kernel
theorem dX4_code_33 : decode cX4_code 33 = .ok (.bipush 20, 2) := by decide +kernel
theorem dX4_code_35 : decode cX4_code 35 = .ok (.goto 5, 3) := by decide +kernel
theorem dX4_code_38 : decode cX4_code 38 = .ok (.bipush 26, 2) := by decide +kernel
theorem dX4_code_40 : decode cX4_code 40 = .ok (.iload_n 1, 1) := by decide +kernel
theorem dX4_code_41 : decode cX4_code 41 = .ok (.iadd, 1) := by decide +kernel
theorem dX4_code_42 : decode cX4_code 42 = .ok (.iaload, 1) := by decide +kernel
theorem dX4_code_43 : decode cX4_code 43 = .ok (.ireturn, 1) := by decide +kernel
theorem dX4_wrongBy_0 : decode cX4_wrongBy 0 = .ok (.iload_n 0, 1) := by decide +kernel
